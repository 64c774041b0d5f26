theorem dL_0 : decode code 0 = .ok (.new 7, 3) := by decide +kernel
theorem dL_3 : decode code 3 = .ok (.dup, 1) := by decide +kernel
theorem dL_4 : decode code 4 = .ok (.invokespecial 9, 3) := by decide +kernel
theorem dL_7 : decode code 7 = .ok (.astore_n 1, 1) := by decide +kernel
theorem dL_8 : decode code 8 = .ok (.new 10, 3) := by decide +kernel
theorem dL_11 : decode code 11 = .ok (.dup, 1) := by decide +kernel
theorem dL_12 : decode code 12 = .ok (.invokespecial 12, 3) := by decide +kernel
theorem dL_15 : decode code 15 = .ok (.astore_n 2, 1) := by decide +kernel
theorem dL_16 : decode code 16 = .ok (.iconst 0, 1) := by decide +kernel
theorem dL_17 : decode code 17 = .ok (.istore_n 3, 1) := by decide +kernel
theorem dL_18 : decode code 18 = .ok (.iload_n 3, 1) := by decide +kernel
theorem dL_19 : decode code 19 = .ok (.aload_n 0, 1) := by decide +kernel
theorem dL_20 : decode code 20 = .ok (.arraylength, 1) := by decide +kernel
theorem dL_21 : decode code 21 = .ok (.iconst 4, 1) := by decide +kernel
theorem dL_22 : decode code 22 = .ok (.isub, 1) := by decide +kernel
theorem dL_23 : decode code 23 = .ok (.if_icmp .gt 509, 3) := by decide +kernel
theorem dL_26 : decode code 26 = .ok (.aload_n 0, 1) := by decide +kernel
theorem dL_27 : decode code 27 = .ok (.iload_n 3, 1) := by decide +kernel
theorem dL_28 : decode code 28 = .ok (.iaload, 1) := by decide +kernel
theorem dL_29 : decode code 29 = .ok (.bipush 15, 2) := by decide +kernel
theorem dL_31 : decode code 31 = .ok (.iand, 1) := by decide +kernel
theorem dL_32 : decode code 32 = .ok (.tableswitch 494 0 13 #[72, 95, 128, 139, 162, 205, 254, 303, 316, 329, 362, 395, 428, 461], 72) := by decide +kernel
theorem dL_104 : decode code 104 = .ok (.aload_n 1, 1) := by decide +kernel
theorem dL_105 : decode code 105 = .ok (.aload_n 0, 1) := by decide +kernel
theorem dL_106 : decode code 106 = .ok (.iload_n 3, 1) := by decide +kernel
theorem dL_107 : decode code 107 = .ok (.iconst 1, 1) := by decide +kernel
theorem dL_108 : decode code 108 = .ok (.iadd, 1) := by decide +kernel
theorem dL_109 : decode code 109 = .ok (.iaload, 1) := by decide +kernel
theorem dL_110 : decode code 110 = .ok (.invokevirtual 13, 3) := by decide +kernel
theorem dL_113 : decode code 113 = .ok (.aload_n 2, 1) := by decide +kernel
theorem dL_114 : decode code 114 = .ok (.aload_n 0, 1) := by decide +kernel
theorem dL_115 : decode code 115 = .ok (.iload_n 3, 1) := by decide +kernel
theorem dL_116 : decode code 116 = .ok (.iconst 1, 1) := by decide +kernel
theorem dL_117 : decode code 117 = .ok (.iadd, 1) := by decide +kernel
theorem dL_118 : decode code 118 = .ok (.iaload, 1) := by decide +kernel
theorem dL_119 : decode code 119 = .ok (.invokevirtual 17, 3) := by decide +kernel
theorem dL_122 : decode code 122 = .ok (.if_icmp .eq 404, 3) := by decide +kernel
theorem dL_125 : decode code 125 = .ok (.iconst 0, 1) := by decide +kernel
theorem dL_126 : decode code 126 = .ok (.ireturn, 1) := by decide +kernel
theorem dL_127 : decode code 127 = .ok (.aload_n 1, 1) := by decide +kernel
theorem dL_128 : decode code 128 = .ok (.aload_n 0, 1) := by decide +kernel
theorem dL_129 : decode code 129 = .ok (.iload_n 3, 1) := by decide +kernel
theorem dL_130 : decode code 130 = .ok (.iconst 1, 1) := by decide +kernel
theorem dL_131 : decode code 131 = .ok (.iadd, 1) := by decide +kernel
theorem dL_132 : decode code 132 = .ok (.iaload, 1) := by decide +kernel
theorem dL_133 : decode code 133 = .ok (.aload_n 0, 1) := by decide +kernel
theorem dL_134 : decode code 134 = .ok (.iload_n 3, 1) := by decide +kernel
theorem dL_135 : decode code 135 = .ok (.iconst 2, 1) := by decide +kernel
theorem dL_136 : decode code 136 = .ok (.iadd, 1) := by decide +kernel
theorem dL_137 : decode code 137 = .ok (.iaload, 1) := by decide +kernel
theorem dL_138 : decode code 138 = .ok (.invokevirtual 18, 3) := by decide +kernel
theorem dL_141 : decode code 141 = .ok (.aload_n 2, 1) := by decide +kernel
theorem dL_142 : decode code 142 = .ok (.aload_n 0, 1) := by decide +kernel
theorem dL_143 : decode code 143 = .ok (.iload_n 3, 1) := by decide +kernel
theorem dL_144 : decode code 144 = .ok (.iconst 1, 1) := by decide +kernel
theorem dL_145 : decode code 145 = .ok (.iadd, 1) := by decide +kernel
theorem dL_146 : decode code 146 = .ok (.iaload, 1) := by decide +kernel
theorem dL_147 : decode code 147 = .ok (.aload_n 0, 1) := by decide +kernel
theorem dL_148 : decode code 148 = .ok (.iload_n 3, 1) := by decide +kernel
theorem dL_149 : decode code 149 = .ok (.iconst 2, 1) := by decide +kernel
theorem dL_150 : decode code 150 = .ok (.iadd, 1) := by decide +kernel
theorem dL_151 : decode code 151 = .ok (.iaload, 1) := by decide +kernel
theorem dL_152 : decode code 152 = .ok (.invokevirtual 22, 3) := by decide +kernel
theorem dL_155 : decode code 155 = .ok (.if_icmp .eq 371, 3) := by decide +kernel
theorem dL_158 : decode code 158 = .ok (.iconst 0, 1) := by decide +kernel
theorem dL_159 : decode code 159 = .ok (.ireturn, 1) := by decide +kernel
theorem dL_160 : decode code 160 = .ok (.aload_n 1, 1) := by decide +kernel
theorem dL_161 : decode code 161 = .ok (.invokevirtual 23, 3) := by decide +kernel
theorem dL_164 : decode code 164 = .ok (.aload_n 2, 1) := by decide +kernel
theorem dL_165 : decode code 165 = .ok (.invokevirtual 26, 3) := by decide +kernel
theorem dL_168 : decode code 168 = .ok (.goto 358, 3) := by decide +kernel
theorem dL_171 : decode code 171 = .ok (.aload_n 1, 1) := by decide +kernel
theorem dL_172 : decode code 172 = .ok (.aload_n 0, 1) := by decide +kernel
theorem dL_173 : decode code 173 = .ok (.iload_n 3, 1) := by decide +kernel
theorem dL_174 : decode code 174 = .ok (.iconst 1, 1) := by decide +kernel
theorem dL_175 : decode code 175 = .ok (.iadd, 1) := by decide +kernel
theorem dL_176 : decode code 176 = .ok (.iaload, 1) := by decide +kernel
theorem dL_177 : decode code 177 = .ok (.invokevirtual 27, 3) := by decide +kernel
theorem dL_180 : decode code 180 = .ok (.aload_n 2, 1) := by decide +kernel
theorem dL_181 : decode code 181 = .ok (.aload_n 0, 1) := by decide +kernel
theorem dL_182 : decode code 182 = .ok (.iload_n 3, 1) := by decide +kernel
theorem dL_183 : decode code 183 = .ok (.iconst 1, 1) := by decide +kernel
theorem dL_184 : decode code 184 = .ok (.iadd, 1) := by decide +kernel
theorem dL_185 : decode code 185 = .ok (.iaload, 1) := by decide +kernel
theorem dL_186 : decode code 186 = .ok (.invokevirtual 31, 3) := by decide +kernel
theorem dL_189 : decode code 189 = .ok (.if_icmp .eq 337, 3) := by decide +kernel
theorem dL_192 : decode code 192 = .ok (.iconst 0, 1) := by decide +kernel
theorem dL_193 : decode code 193 = .ok (.ireturn, 1) := by decide +kernel
theorem dL_194 : decode code 194 = .ok (.aload_n 1, 1) := by decide +kernel
theorem dL_195 : decode code 195 = .ok (.aload_n 0, 1) := by decide +kernel
theorem dL_196 : decode code 196 = .ok (.iload_n 3, 1) := by decide +kernel
theorem dL_197 : decode code 197 = .ok (.iconst 1, 1) := by decide +kernel
theorem dL_198 : decode code 198 = .ok (.iadd, 1) := by decide +kernel
theorem dL_199 : decode code 199 = .ok (.iaload, 1) := by decide +kernel
theorem dL_200 : decode code 200 = .ok (.aload_n 0, 1) := by decide +kernel
theorem dL_201 : decode code 201 = .ok (.iload_n 3, 1) := by decide +kernel
theorem dL_202 : decode code 202 = .ok (.iconst 2, 1) := by decide +kernel
theorem dL_203 : decode code 203 = .ok (.iadd, 1) := by decide +kernel
theorem dL_204 : decode code 204 = .ok (.iaload, 1) := by decide +kernel
theorem dL_205 : decode code 205 = .ok (.aload_n 0, 1) := by decide +kernel
theorem dL_206 : decode code 206 = .ok (.iload_n 3, 1) := by decide +kernel
theorem dL_207 : decode code 207 = .ok (.iconst 3, 1) := by decide +kernel
theorem dL_208 : decode code 208 = .ok (.iadd, 1) := by decide +kernel
theorem dL_209 : decode code 209 = .ok (.iaload, 1) := by decide +kernel
theorem dL_210 : decode code 210 = .ok (.invokevirtual 32, 3) := by decide +kernel
theorem dL_213 : decode code 213 = .ok (.aload_n 2, 1) := by decide +kernel
theorem dL_214 : decode code 214 = .ok (.aload_n 0, 1) := by decide +kernel
theorem dL_215 : decode code 215 = .ok (.iload_n 3, 1) := by decide +kernel
theorem dL_216 : decode code 216 = .ok (.iconst 1, 1) := by decide +kernel
theorem dL_217 : decode code 217 = .ok (.iadd, 1) := by decide +kernel
theorem dL_218 : decode code 218 = .ok (.iaload, 1) := by decide +kernel
theorem dL_219 : decode code 219 = .ok (.aload_n 0, 1) := by decide +kernel
theorem dL_220 : decode code 220 = .ok (.iload_n 3, 1) := by decide +kernel
theorem dL_221 : decode code 221 = .ok (.iconst 2, 1) := by decide +kernel
theorem dL_222 : decode code 222 = .ok (.iadd, 1) := by decide +kernel
theorem dL_223 : decode code 223 = .ok (.iaload, 1) := by decide +kernel
theorem dL_224 : decode code 224 = .ok (.aload_n 0, 1) := by decide +kernel
theorem dL_225 : decode code 225 = .ok (.iload_n 3, 1) := by decide +kernel
theorem dL_226 : decode code 226 = .ok (.iconst 3, 1) := by decide +kernel
theorem dL_227 : decode code 227 = .ok (.iadd, 1) := by decide +kernel
theorem dL_228 : decode code 228 = .ok (.iaload, 1) := by decide +kernel
theorem dL_229 : decode code 229 = .ok (.invokevirtual 36, 3) := by decide +kernel
theorem dL_232 : decode code 232 = .ok (.if_icmp .eq 294, 3) := by decide +kernel
theorem dL_235 : decode code 235 = .ok (.iconst 0, 1) := by decide +kernel
theorem dL_236 : decode code 236 = .ok (.ireturn, 1) := by decide +kernel
theorem dL_237 : decode code 237 = .ok (.aload_n 1, 1) := by decide +kernel
theorem dL_238 : decode code 238 = .ok (.aload_n 0, 1) := by decide +kernel
theorem dL_239 : decode code 239 = .ok (.iload_n 3, 1) := by decide +kernel
theorem dL_240 : decode code 240 = .ok (.iconst 1, 1) := by decide +kernel
theorem dL_241 : decode code 241 = .ok (.iadd, 1) := by decide +kernel
theorem dL_242 : decode code 242 = .ok (.iaload, 1) := by decide +kernel
theorem dL_243 : decode code 243 = .ok (.aload_n 0, 1) := by decide +kernel
theorem dL_244 : decode code 244 = .ok (.iload_n 3, 1) := by decide +kernel
theorem dL_245 : decode code 245 = .ok (.iconst 2, 1) := by decide +kernel
theorem dL_246 : decode code 246 = .ok (.iadd, 1) := by decide +kernel
theorem dL_247 : decode code 247 = .ok (.iaload, 1) := by decide +kernel
theorem dL_248 : decode code 248 = .ok (.ifCond .eq 7, 3) := by decide +kernel
theorem dL_251 : decode code 251 = .ok (.iconst 1, 1) := by decide +kernel
theorem dL_252 : decode code 252 = .ok (.goto 4, 3) := by decide +kernel
theorem dL_255 : decode code 255 = .ok (.iconst 0, 1) := by decide +kernel
theorem dL_256 : decode code 256 = .ok (.invokevirtual 37, 3) := by decide +kernel
theorem dL_259 : decode code 259 = .ok (.aload_n 2, 1) := by decide +kernel
theorem dL_260 : decode code 260 = .ok (.aload_n 0, 1) := by decide +kernel
theorem dL_261 : decode code 261 = .ok (.iload_n 3, 1) := by decide +kernel
theorem dL_262 : decode code 262 = .ok (.iconst 1, 1) := by decide +kernel
theorem dL_263 : decode code 263 = .ok (.iadd, 1) := by decide +kernel
theorem dL_264 : decode code 264 = .ok (.iaload, 1) := by decide +kernel
theorem dL_265 : decode code 265 = .ok (.aload_n 0, 1) := by decide +kernel
theorem dL_266 : decode code 266 = .ok (.iload_n 3, 1) := by decide +kernel
theorem dL_267 : decode code 267 = .ok (.iconst 2, 1) := by decide +kernel
theorem dL_268 : decode code 268 = .ok (.iadd, 1) := by decide +kernel
theorem dL_269 : decode code 269 = .ok (.iaload, 1) := by decide +kernel
theorem dL_270 : decode code 270 = .ok (.ifCond .eq 7, 3) := by decide +kernel
theorem dL_273 : decode code 273 = .ok (.iconst 1, 1) := by decide +kernel
theorem dL_274 : decode code 274 = .ok (.goto 4, 3) := by decide +kernel
theorem dL_277 : decode code 277 = .ok (.iconst 0, 1) := by decide +kernel
theorem dL_278 : decode code 278 = .ok (.invokevirtual 41, 3) := by decide +kernel
theorem dL_281 : decode code 281 = .ok (.if_icmp .eq 245, 3) := by decide +kernel
theorem dL_284 : decode code 284 = .ok (.iconst 0, 1) := by decide +kernel
theorem dL_285 : decode code 285 = .ok (.ireturn, 1) := by decide +kernel
theorem dL_286 : decode code 286 = .ok (.aload_n 1, 1) := by decide +kernel
theorem dL_287 : decode code 287 = .ok (.aload_n 0, 1) := by decide +kernel
theorem dL_288 : decode code 288 = .ok (.iload_n 3, 1) := by decide +kernel
theorem dL_289 : decode code 289 = .ok (.iconst 1, 1) := by decide +kernel
theorem dL_290 : decode code 290 = .ok (.iadd, 1) := by decide +kernel
theorem dL_291 : decode code 291 = .ok (.iaload, 1) := by decide +kernel
theorem dL_292 : decode code 292 = .ok (.aload_n 0, 1) := by decide +kernel
theorem dL_293 : decode code 293 = .ok (.iload_n 3, 1) := by decide +kernel
theorem dL_294 : decode code 294 = .ok (.iconst 2, 1) := by decide +kernel
theorem dL_295 : decode code 295 = .ok (.iadd, 1) := by decide +kernel
theorem dL_296 : decode code 296 = .ok (.iaload, 1) := by decide +kernel
theorem dL_297 : decode code 297 = .ok (.ifCond .eq 7, 3) := by decide +kernel
theorem dL_300 : decode code 300 = .ok (.iconst 1, 1) := by decide +kernel
theorem dL_301 : decode code 301 = .ok (.goto 4, 3) := by decide +kernel
theorem dL_304 : decode code 304 = .ok (.iconst 0, 1) := by decide +kernel
theorem dL_305 : decode code 305 = .ok (.invokevirtual 42, 3) := by decide +kernel
theorem dL_308 : decode code 308 = .ok (.aload_n 2, 1) := by decide +kernel
theorem dL_309 : decode code 309 = .ok (.aload_n 0, 1) := by decide +kernel
theorem dL_310 : decode code 310 = .ok (.iload_n 3, 1) := by decide +kernel
theorem dL_311 : decode code 311 = .ok (.iconst 1, 1) := by decide +kernel
theorem dL_312 : decode code 312 = .ok (.iadd, 1) := by decide +kernel
theorem dL_313 : decode code 313 = .ok (.iaload, 1) := by decide +kernel
theorem dL_314 : decode code 314 = .ok (.aload_n 0, 1) := by decide +kernel
theorem dL_315 : decode code 315 = .ok (.iload_n 3, 1) := by decide +kernel
theorem dL_316 : decode code 316 = .ok (.iconst 2, 1) := by decide +kernel
theorem dL_317 : decode code 317 = .ok (.iadd, 1) := by decide +kernel
theorem dL_318 : decode code 318 = .ok (.iaload, 1) := by decide +kernel
theorem dL_319 : decode code 319 = .ok (.ifCond .eq 7, 3) := by decide +kernel
theorem dL_322 : decode code 322 = .ok (.iconst 1, 1) := by decide +kernel
theorem dL_323 : decode code 323 = .ok (.goto 4, 3) := by decide +kernel
theorem dL_326 : decode code 326 = .ok (.iconst 0, 1) := by decide +kernel
theorem dL_327 : decode code 327 = .ok (.invokevirtual 45, 3) := by decide +kernel
theorem dL_330 : decode code 330 = .ok (.if_icmp .eq 196, 3) := by decide +kernel
theorem dL_333 : decode code 333 = .ok (.iconst 0, 1) := by decide +kernel
theorem dL_334 : decode code 334 = .ok (.ireturn, 1) := by decide +kernel
theorem dL_335 : decode code 335 = .ok (.aload_n 1, 1) := by decide +kernel
theorem dL_336 : decode code 336 = .ok (.invokevirtual 46, 3) := by decide +kernel
theorem dL_339 : decode code 339 = .ok (.aload_n 2, 1) := by decide +kernel
theorem dL_340 : decode code 340 = .ok (.invokevirtual 50, 3) := by decide +kernel
theorem dL_343 : decode code 343 = .ok (.if_icmp .eq 183, 3) := by decide +kernel
theorem dL_346 : decode code 346 = .ok (.iconst 0, 1) := by decide +kernel
theorem dL_347 : decode code 347 = .ok (.ireturn, 1) := by decide +kernel
theorem dL_348 : decode code 348 = .ok (.aload_n 1, 1) := by decide +kernel
theorem dL_349 : decode code 349 = .ok (.invokevirtual 51, 3) := by decide +kernel
theorem dL_352 : decode code 352 = .ok (.aload_n 2, 1) := by decide +kernel
theorem dL_353 : decode code 353 = .ok (.invokevirtual 54, 3) := by decide +kernel
theorem dL_356 : decode code 356 = .ok (.if_icmp .eq 170, 3) := by decide +kernel
theorem dL_359 : decode code 359 = .ok (.iconst 0, 1) := by decide +kernel
theorem dL_360 : decode code 360 = .ok (.ireturn, 1) := by decide +kernel
theorem dL_361 : decode code 361 = .ok (.aload_n 1, 1) := by decide +kernel
theorem dL_362 : decode code 362 = .ok (.aload_n 0, 1) := by decide +kernel
theorem dL_363 : decode code 363 = .ok (.iload_n 3, 1) := by decide +kernel
theorem dL_364 : decode code 364 = .ok (.iconst 1, 1) := by decide +kernel
theorem dL_365 : decode code 365 = .ok (.iadd, 1) := by decide +kernel
theorem dL_366 : decode code 366 = .ok (.iaload, 1) := by decide +kernel
theorem dL_367 : decode code 367 = .ok (.aload_n 0, 1) := by decide +kernel
theorem dL_368 : decode code 368 = .ok (.iload_n 3, 1) := by decide +kernel
theorem dL_369 : decode code 369 = .ok (.iconst 2, 1) := by decide +kernel
theorem dL_370 : decode code 370 = .ok (.iadd, 1) := by decide +kernel
theorem dL_371 : decode code 371 = .ok (.iaload, 1) := by decide +kernel
theorem dL_372 : decode code 372 = .ok (.invokevirtual 55, 3) := by decide +kernel
theorem dL_375 : decode code 375 = .ok (.aload_n 2, 1) := by decide +kernel
theorem dL_376 : decode code 376 = .ok (.aload_n 0, 1) := by decide +kernel
theorem dL_377 : decode code 377 = .ok (.iload_n 3, 1) := by decide +kernel
theorem dL_378 : decode code 378 = .ok (.iconst 1, 1) := by decide +kernel
theorem dL_379 : decode code 379 = .ok (.iadd, 1) := by decide +kernel
theorem dL_380 : decode code 380 = .ok (.iaload, 1) := by decide +kernel
theorem dL_381 : decode code 381 = .ok (.aload_n 0, 1) := by decide +kernel
theorem dL_382 : decode code 382 = .ok (.iload_n 3, 1) := by decide +kernel
theorem dL_383 : decode code 383 = .ok (.iconst 2, 1) := by decide +kernel
theorem dL_384 : decode code 384 = .ok (.iadd, 1) := by decide +kernel
theorem dL_385 : decode code 385 = .ok (.iaload, 1) := by decide +kernel
theorem dL_386 : decode code 386 = .ok (.invokevirtual 58, 3) := by decide +kernel
theorem dL_389 : decode code 389 = .ok (.if_icmp .eq 137, 3) := by decide +kernel
theorem dL_392 : decode code 392 = .ok (.iconst 0, 1) := by decide +kernel
theorem dL_393 : decode code 393 = .ok (.ireturn, 1) := by decide +kernel
theorem dL_394 : decode code 394 = .ok (.aload_n 1, 1) := by decide +kernel
theorem dL_395 : decode code 395 = .ok (.aload_n 0, 1) := by decide +kernel
theorem dL_396 : decode code 396 = .ok (.iload_n 3, 1) := by decide +kernel
theorem dL_397 : decode code 397 = .ok (.iconst 1, 1) := by decide +kernel
theorem dL_398 : decode code 398 = .ok (.iadd, 1) := by decide +kernel
theorem dL_399 : decode code 399 = .ok (.iaload, 1) := by decide +kernel
theorem dL_400 : decode code 400 = .ok (.aload_n 0, 1) := by decide +kernel
theorem dL_401 : decode code 401 = .ok (.iload_n 3, 1) := by decide +kernel
theorem dL_402 : decode code 402 = .ok (.iconst 2, 1) := by decide +kernel
theorem dL_403 : decode code 403 = .ok (.iadd, 1) := by decide +kernel
theorem dL_404 : decode code 404 = .ok (.iaload, 1) := by decide +kernel
theorem dL_405 : decode code 405 = .ok (.invokevirtual 59, 3) := by decide +kernel
theorem dL_408 : decode code 408 = .ok (.aload_n 2, 1) := by decide +kernel
theorem dL_409 : decode code 409 = .ok (.aload_n 0, 1) := by decide +kernel
theorem dL_410 : decode code 410 = .ok (.iload_n 3, 1) := by decide +kernel
theorem dL_411 : decode code 411 = .ok (.iconst 1, 1) := by decide +kernel
theorem dL_412 : decode code 412 = .ok (.iadd, 1) := by decide +kernel
theorem dL_413 : decode code 413 = .ok (.iaload, 1) := by decide +kernel
theorem dL_414 : decode code 414 = .ok (.aload_n 0, 1) := by decide +kernel
theorem dL_415 : decode code 415 = .ok (.iload_n 3, 1) := by decide +kernel
theorem dL_416 : decode code 416 = .ok (.iconst 2, 1) := by decide +kernel
theorem dL_417 : decode code 417 = .ok (.iadd, 1) := by decide +kernel
theorem dL_418 : decode code 418 = .ok (.iaload, 1) := by decide +kernel
theorem dL_419 : decode code 419 = .ok (.invokevirtual 62, 3) := by decide +kernel
theorem dL_422 : decode code 422 = .ok (.if_icmp .eq 104, 3) := by decide +kernel
theorem dL_425 : decode code 425 = .ok (.iconst 0, 1) := by decide +kernel
theorem dL_426 : decode code 426 = .ok (.ireturn, 1) := by decide +kernel
theorem dL_427 : decode code 427 = .ok (.aload_n 1, 1) := by decide +kernel
theorem dL_428 : decode code 428 = .ok (.aload_n 0, 1) := by decide +kernel
theorem dL_429 : decode code 429 = .ok (.iload_n 3, 1) := by decide +kernel
theorem dL_430 : decode code 430 = .ok (.iconst 1, 1) := by decide +kernel
theorem dL_431 : decode code 431 = .ok (.iadd, 1) := by decide +kernel
theorem dL_432 : decode code 432 = .ok (.iaload, 1) := by decide +kernel
theorem dL_433 : decode code 433 = .ok (.aload_n 0, 1) := by decide +kernel
theorem dL_434 : decode code 434 = .ok (.iload_n 3, 1) := by decide +kernel
theorem dL_435 : decode code 435 = .ok (.iconst 2, 1) := by decide +kernel
theorem dL_436 : decode code 436 = .ok (.iadd, 1) := by decide +kernel
theorem dL_437 : decode code 437 = .ok (.iaload, 1) := by decide +kernel
theorem dL_438 : decode code 438 = .ok (.invokevirtual 63, 3) := by decide +kernel
theorem dL_441 : decode code 441 = .ok (.aload_n 2, 1) := by decide +kernel
theorem dL_442 : decode code 442 = .ok (.aload_n 0, 1) := by decide +kernel
theorem dL_443 : decode code 443 = .ok (.iload_n 3, 1) := by decide +kernel
theorem dL_444 : decode code 444 = .ok (.iconst 1, 1) := by decide +kernel
theorem dL_445 : decode code 445 = .ok (.iadd, 1) := by decide +kernel
theorem dL_446 : decode code 446 = .ok (.iaload, 1) := by decide +kernel
theorem dL_447 : decode code 447 = .ok (.aload_n 0, 1) := by decide +kernel
theorem dL_448 : decode code 448 = .ok (.iload_n 3, 1) := by decide +kernel
theorem dL_449 : decode code 449 = .ok (.iconst 2, 1) := by decide +kernel
theorem dL_450 : decode code 450 = .ok (.iadd, 1) := by decide +kernel
theorem dL_451 : decode code 451 = .ok (.iaload, 1) := by decide +kernel
theorem dL_452 : decode code 452 = .ok (.invokevirtual 67, 3) := by decide +kernel
theorem dL_455 : decode code 455 = .ok (.if_icmp .eq 71, 3) := by decide +kernel
theorem dL_458 : decode code 458 = .ok (.iconst 0, 1) := by decide +kernel
theorem dL_459 : decode code 459 = .ok (.ireturn, 1) := by decide +kernel
theorem dL_460 : decode code 460 = .ok (.aload_n 1, 1) := by decide +kernel
theorem dL_461 : decode code 461 = .ok (.aload_n 0, 1) := by decide +kernel
theorem dL_462 : decode code 462 = .ok (.iload_n 3, 1) := by decide +kernel
theorem dL_463 : decode code 463 = .ok (.iconst 1, 1) := by decide +kernel
theorem dL_464 : decode code 464 = .ok (.iadd, 1) := by decide +kernel
theorem dL_465 : decode code 465 = .ok (.iaload, 1) := by decide +kernel
theorem dL_466 : decode code 466 = .ok (.aload_n 0, 1) := by decide +kernel
theorem dL_467 : decode code 467 = .ok (.iload_n 3, 1) := by decide +kernel
theorem dL_468 : decode code 468 = .ok (.iconst 2, 1) := by decide +kernel
theorem dL_469 : decode code 469 = .ok (.iadd, 1) := by decide +kernel
theorem dL_470 : decode code 470 = .ok (.iaload, 1) := by decide +kernel
theorem dL_471 : decode code 471 = .ok (.invokevirtual 68, 3) := by decide +kernel
theorem dL_474 : decode code 474 = .ok (.aload_n 2, 1) := by decide +kernel
theorem dL_475 : decode code 475 = .ok (.aload_n 0, 1) := by decide +kernel
theorem dL_476 : decode code 476 = .ok (.iload_n 3, 1) := by decide +kernel
theorem dL_477 : decode code 477 = .ok (.iconst 1, 1) := by decide +kernel
theorem dL_478 : decode code 478 = .ok (.iadd, 1) := by decide +kernel
theorem dL_479 : decode code 479 = .ok (.iaload, 1) := by decide +kernel
theorem dL_480 : decode code 480 = .ok (.aload_n 0, 1) := by decide +kernel
theorem dL_481 : decode code 481 = .ok (.iload_n 3, 1) := by decide +kernel
theorem dL_482 : decode code 482 = .ok (.iconst 2, 1) := by decide +kernel
theorem dL_483 : decode code 483 = .ok (.iadd, 1) := by decide +kernel
theorem dL_484 : decode code 484 = .ok (.iaload, 1) := by decide +kernel
theorem dL_485 : decode code 485 = .ok (.invokevirtual 71, 3) := by decide +kernel
theorem dL_488 : decode code 488 = .ok (.if_icmp .eq 38, 3) := by decide +kernel
theorem dL_491 : decode code 491 = .ok (.iconst 0, 1) := by decide +kernel
theorem dL_492 : decode code 492 = .ok (.ireturn, 1) := by decide +kernel
theorem dL_493 : decode code 493 = .ok (.aload_n 1, 1) := by decide +kernel
theorem dL_494 : decode code 494 = .ok (.aload_n 0, 1) := by decide +kernel
theorem dL_495 : decode code 495 = .ok (.iload_n 3, 1) := by decide +kernel
theorem dL_496 : decode code 496 = .ok (.iconst 1, 1) := by decide +kernel
theorem dL_497 : decode code 497 = .ok (.iadd, 1) := by decide +kernel
theorem dL_498 : decode code 498 = .ok (.iaload, 1) := by decide +kernel
theorem dL_499 : decode code 499 = .ok (.aload_n 0, 1) := by decide +kernel
theorem dL_500 : decode code 500 = .ok (.iload_n 3, 1) := by decide +kernel
theorem dL_501 : decode code 501 = .ok (.iconst 2, 1) := by decide +kernel
theorem dL_502 : decode code 502 = .ok (.iadd, 1) := by decide +kernel
theorem dL_503 : decode code 503 = .ok (.iaload, 1) := by decide +kernel
theorem dL_504 : decode code 504 = .ok (.invokevirtual 72, 3) := by decide +kernel
theorem dL_507 : decode code 507 = .ok (.aload_n 2, 1) := by decide +kernel
theorem dL_508 : decode code 508 = .ok (.aload_n 0, 1) := by decide +kernel
theorem dL_509 : decode code 509 = .ok (.iload_n 3, 1) := by decide +kernel
theorem dL_510 : decode code 510 = .ok (.iconst 1, 1) := by decide +kernel
theorem dL_511 : decode code 511 = .ok (.iadd, 1) := by decide +kernel
theorem dL_512 : decode code 512 = .ok (.iaload, 1) := by decide +kernel
theorem dL_513 : decode code 513 = .ok (.aload_n 0, 1) := by decide +kernel
theorem dL_514 : decode code 514 = .ok (.iload_n 3, 1) := by decide +kernel
theorem dL_515 : decode code 515 = .ok (.iconst 2, 1) := by decide +kernel
theorem dL_516 : decode code 516 = .ok (.iadd, 1) := by decide +kernel
theorem dL_517 : decode code 517 = .ok (.iaload, 1) := by decide +kernel
theorem dL_518 : decode code 518 = .ok (.invokevirtual 75, 3) := by decide +kernel
theorem dL_521 : decode code 521 = .ok (.if_icmp .eq 5, 3) := by decide +kernel
theorem dL_524 : decode code 524 = .ok (.iconst 0, 1) := by decide +kernel
theorem dL_525 : decode code 525 = .ok (.ireturn, 1) := by decide +kernel
theorem dL_526 : decode code 526 = .ok (.iinc 3 4, 3) := by decide +kernel
theorem dL_529 : decode code 529 = .ok (.goto (-511), 3) := by decide +kernel
theorem dL_532 : decode code 532 = .ok (.iconst 1, 1) := by decide +kernel
theorem dL_533 : decode code 533 = .ok (.ireturn, 1) := by decide +kernel
theorem kL_9 : Cond.methodLink "GoalOrderLaw" 9 mG_init.1 ∈ jm_tb := jm_in1 (List.mem_of_getElem? (i := 9) rfl) rfl
theorem kL_12 : Cond.methodLink "GoalOrderLaw" 12 mM_init.1 ∈ jm_tb := jm_in2 (List.mem_of_getElem? (i := 208) rfl) rfl
theorem kL_13 : Cond.methodLink "GoalOrderLaw" 13 mG_predicate.1 ∈ jm_tb := jm_in1 (List.mem_of_getElem? (i := 203) rfl) rfl
theorem kL_17 : Cond.methodLink "GoalOrderLaw" 17 mM_predicate.1 ∈ jm_tb := jm_in3 (List.mem_of_getElem? (i := 113) rfl) rfl
theorem kL_18 : Cond.methodLink "GoalOrderLaw" 18 mG_mode.1 ∈ jm_tb := jm_in1 (List.mem_of_getElem? (i := 211) rfl) rfl
theorem kL_22 : Cond.methodLink "GoalOrderLaw" 22 mM_mode.1 ∈ jm_tb := jm_in3 (List.mem_of_getElem? (i := 117) rfl) rfl
theorem kL_23 : Cond.methodLink "GoalOrderLaw" 23 mG_clear.1 ∈ jm_tb := jm_in1 (List.mem_of_getElem? (i := 227) rfl) rfl
theorem kL_26 : Cond.methodLink "GoalOrderLaw" 26 mM_clear.1 ∈ jm_tb := jm_in3 (List.mem_of_getElem? (i := 121) rfl) rfl
theorem kL_27 : Cond.methodLink "GoalOrderLaw" 27 mG_put.1 ∈ jm_tb := jm_in1 (List.mem_of_getElem? (i := 232) rfl) rfl
theorem kL_31 : Cond.methodLink "GoalOrderLaw" 31 mM_put.1 ∈ jm_tb := jm_in3 (List.mem_of_getElem? (i := 125) rfl) rfl
theorem kL_32 : Cond.methodLink "GoalOrderLaw" 32 mG_add.1 ∈ jm_tb := jm_in1 (List.mem_of_getElem? (i := 239) rfl) rfl
theorem kL_36 : Cond.methodLink "GoalOrderLaw" 36 mM_add.1 ∈ jm_tb := jm_in3 (List.mem_of_getElem? (i := 132) rfl) rfl
theorem kL_37 : Cond.methodLink "GoalOrderLaw" 37 mG_given.1 ∈ jm_tb := jm_in2 (List.mem_of_getElem? (i := 49) rfl) rfl
theorem kL_41 : Cond.methodLink "GoalOrderLaw" 41 mM_given.1 ∈ jm_tb := jm_in3 (List.mem_of_getElem? (i := 148) rfl) rfl
theorem kL_42 : Cond.methodLink "GoalOrderLaw" 42 mG_wanted.1 ∈ jm_tb := jm_in2 (List.mem_of_getElem? (i := 56) rfl) rfl
theorem kL_45 : Cond.methodLink "GoalOrderLaw" 45 mM_wanted.1 ∈ jm_tb := jm_in3 (List.mem_of_getElem? (i := 152) rfl) rfl
theorem kL_46 : Cond.methodLink "GoalOrderLaw" 46 mG_order.1 ∈ jm_tb := jm_in2 (List.mem_of_getElem? (i := 60) rfl) rfl
theorem kL_50 : Cond.methodLink "GoalOrderLaw" 50 mM_order.1 ∈ jm_tb := jm_in3 (List.mem_of_getElem? (i := 156) rfl) rfl
theorem kL_51 : Cond.methodLink "GoalOrderLaw" 51 mG_stuck.1 ∈ jm_tb := jm_in2 (List.mem_of_getElem? (i := 165) rfl) rfl
theorem kL_54 : Cond.methodLink "GoalOrderLaw" 54 mM_stuck.1 ∈ jm_tb := jm_in3 (List.mem_of_getElem? (i := 229) rfl) rfl
theorem kL_55 : Cond.methodLink "GoalOrderLaw" 55 mG_part.1 ∈ jm_tb := jm_in2 (List.mem_of_getElem? (i := 169) rfl) rfl
theorem kL_58 : Cond.methodLink "GoalOrderLaw" 58 mM_part.1 ∈ jm_tb := jm_in3 (List.mem_of_getElem? (i := 233) rfl) rfl
theorem kL_59 : Cond.methodLink "GoalOrderLaw" 59 mG_node.1 ∈ jm_tb := jm_in2 (List.mem_of_getElem? (i := 178) rfl) rfl
theorem kL_62 : Cond.methodLink "GoalOrderLaw" 62 mM_node.1 ∈ jm_tb := jm_in3 (List.mem_of_getElem? (i := 237) rfl) rfl
theorem kL_63 : Cond.methodLink "GoalOrderLaw" 63 mG_compared.1 ∈ jm_tb := jm_in2 (List.mem_of_getElem? (i := 183) rfl) rfl
theorem kL_67 : Cond.methodLink "GoalOrderLaw" 67 mM_compared.1 ∈ jm_tb := jm_in4 (List.mem_of_getElem? (i := 1) rfl) rfl
theorem kL_68 : Cond.methodLink "GoalOrderLaw" 68 mG_ground.1 ∈ jm_tb := jm_in2 (List.mem_of_getElem? (i := 198) rfl) rfl
theorem kL_71 : Cond.methodLink "GoalOrderLaw" 71 mM_ground.1 ∈ jm_tb := jm_in4 (List.mem_of_getElem? (i := 5) rfl) rfl
theorem kL_72 : Cond.methodLink "GoalOrderLaw" 72 mG_outer.1 ∈ jm_tb := jm_in2 (List.mem_of_getElem? (i := 202) rfl) rfl
theorem kL_75 : Cond.methodLink "GoalOrderLaw" 75 mM_outer.1 ∈ jm_tb := jm_in4 (List.mem_of_getElem? (i := 9) rfl) rfl
