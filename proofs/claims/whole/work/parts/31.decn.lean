theorem d_Modl_does_0 : decode b_Modl_does 0 = .ok (.bipush 18, 2) := by decide +kernel
theorem d_Modl_does_2 : decode b_Modl_does 2 = .ok (.iload_n 1, 1) := by decide +kernel
theorem d_Modl_does_3 : decode b_Modl_does 3 = .ok (.imul, 1) := by decide +kernel
theorem d_Modl_does_4 : decode b_Modl_does 4 = .ok (.istore 4, 2) := by decide +kernel
theorem d_Modl_does_6 : decode b_Modl_does 6 = .ok (.aload_n 0, 1) := by decide +kernel
theorem d_Modl_does_7 : decode b_Modl_does 7 = .ok (.getfield 26, 3) := by decide +kernel
theorem d_Modl_does_10 : decode b_Modl_does 10 = .ok (.iload 4, 2) := by decide +kernel
theorem d_Modl_does_12 : decode b_Modl_does 12 = .ok (.bipush 16, 2) := by decide +kernel
theorem d_Modl_does_14 : decode b_Modl_does 14 = .ok (.iadd, 1) := by decide +kernel
theorem d_Modl_does_15 : decode b_Modl_does 15 = .ok (.laload, 1) := by decide +kernel
theorem d_Modl_does_16 : decode b_Modl_does 16 = .ok (.lstore 5, 2) := by decide +kernel
theorem d_Modl_does_18 : decode b_Modl_does 18 = .ok (.aload_n 0, 1) := by decide +kernel
theorem d_Modl_does_19 : decode b_Modl_does 19 = .ok (.getfield 26, 3) := by decide +kernel
theorem d_Modl_does_22 : decode b_Modl_does 22 = .ok (.iload 4, 2) := by decide +kernel
theorem d_Modl_does_24 : decode b_Modl_does 24 = .ok (.bipush 17, 2) := by decide +kernel
theorem d_Modl_does_26 : decode b_Modl_does 26 = .ok (.iadd, 1) := by decide +kernel
theorem d_Modl_does_27 : decode b_Modl_does 27 = .ok (.laload, 1) := by decide +kernel
theorem d_Modl_does_28 : decode b_Modl_does 28 = .ok (.lstore 7, 2) := by decide +kernel
theorem d_Modl_does_30 : decode b_Modl_does 30 = .ok (.lload 5, 2) := by decide +kernel
theorem d_Modl_does_32 : decode b_Modl_does 32 = .ok (.lstore 9, 2) := by decide +kernel
theorem d_Modl_does_34 : decode b_Modl_does 34 = .ok (.iload_n 2, 1) := by decide +kernel
theorem d_Modl_does_35 : decode b_Modl_does 35 = .ok (.tableswitch 345 0 14 #[73, 86, 100, 114, 129, 139, 149, 222, 244, 266, 274, 282, 304, 322, 337], 73) := by decide +kernel
theorem d_Modl_does_108 : decode b_Modl_does 108 = .ok (.iload_n 3, 1) := by decide +kernel
theorem d_Modl_does_109 : decode b_Modl_does 109 = .ok (.i2l, 1) := by decide +kernel
theorem d_Modl_does_110 : decode b_Modl_does 110 = .ok (.aload_n 0, 1) := by decide +kernel
theorem d_Modl_does_111 : decode b_Modl_does 111 = .ok (.iload_n 1, 1) := by decide +kernel
theorem d_Modl_does_112 : decode b_Modl_does 112 = .ok (.invokevirtual 75, 3) := by decide +kernel
theorem d_Modl_does_115 : decode b_Modl_does 115 = .ok (.lmul, 1) := by decide +kernel
theorem d_Modl_does_116 : decode b_Modl_does 116 = .ok (.lstore 9, 2) := by decide +kernel
theorem d_Modl_does_118 : decode b_Modl_does 118 = .ok (.goto 316, 3) := by decide +kernel
theorem d_Modl_does_121 : decode b_Modl_does 121 = .ok (.aload_n 0, 1) := by decide +kernel
theorem d_Modl_does_122 : decode b_Modl_does 122 = .ok (.getfield 26, 3) := by decide +kernel
theorem d_Modl_does_125 : decode b_Modl_does 125 = .ok (.iload 4, 2) := by decide +kernel
theorem d_Modl_does_127 : decode b_Modl_does 127 = .ok (.iload_n 3, 1) := by decide +kernel
theorem d_Modl_does_128 : decode b_Modl_does 128 = .ok (.iadd, 1) := by decide +kernel
theorem d_Modl_does_129 : decode b_Modl_does 129 = .ok (.laload, 1) := by decide +kernel
theorem d_Modl_does_130 : decode b_Modl_does 130 = .ok (.lstore 9, 2) := by decide +kernel
theorem d_Modl_does_132 : decode b_Modl_does 132 = .ok (.goto 302, 3) := by decide +kernel
theorem d_Modl_does_135 : decode b_Modl_does 135 = .ok (.aload_n 0, 1) := by decide +kernel
theorem d_Modl_does_136 : decode b_Modl_does 136 = .ok (.getfield 26, 3) := by decide +kernel
theorem d_Modl_does_139 : decode b_Modl_does 139 = .ok (.iload 4, 2) := by decide +kernel
theorem d_Modl_does_141 : decode b_Modl_does 141 = .ok (.iload_n 3, 1) := by decide +kernel
theorem d_Modl_does_142 : decode b_Modl_does 142 = .ok (.iadd, 1) := by decide +kernel
theorem d_Modl_does_143 : decode b_Modl_does 143 = .ok (.lload 5, 2) := by decide +kernel
theorem d_Modl_does_145 : decode b_Modl_does 145 = .ok (.lastore, 1) := by decide +kernel
theorem d_Modl_does_146 : decode b_Modl_does 146 = .ok (.goto 288, 3) := by decide +kernel
theorem d_Modl_does_149 : decode b_Modl_does 149 = .ok (.aload_n 0, 1) := by decide +kernel
theorem d_Modl_does_150 : decode b_Modl_does 150 = .ok (.getfield 26, 3) := by decide +kernel
theorem d_Modl_does_153 : decode b_Modl_does 153 = .ok (.iload 4, 2) := by decide +kernel
theorem d_Modl_does_155 : decode b_Modl_does 155 = .ok (.bipush 17, 2) := by decide +kernel
theorem d_Modl_does_157 : decode b_Modl_does 157 = .ok (.iadd, 1) := by decide +kernel
theorem d_Modl_does_158 : decode b_Modl_does 158 = .ok (.lload 5, 2) := by decide +kernel
theorem d_Modl_does_160 : decode b_Modl_does 160 = .ok (.lastore, 1) := by decide +kernel
theorem d_Modl_does_161 : decode b_Modl_does 161 = .ok (.goto 273, 3) := by decide +kernel
theorem d_Modl_does_164 : decode b_Modl_does 164 = .ok (.lload 5, 2) := by decide +kernel
theorem d_Modl_does_166 : decode b_Modl_does 166 = .ok (.lload 7, 2) := by decide +kernel
theorem d_Modl_does_168 : decode b_Modl_does 168 = .ok (.ladd, 1) := by decide +kernel
theorem d_Modl_does_169 : decode b_Modl_does 169 = .ok (.lstore 9, 2) := by decide +kernel
theorem d_Modl_does_171 : decode b_Modl_does 171 = .ok (.goto 263, 3) := by decide +kernel
theorem d_Modl_does_174 : decode b_Modl_does 174 = .ok (.lload 5, 2) := by decide +kernel
theorem d_Modl_does_176 : decode b_Modl_does 176 = .ok (.lload 7, 2) := by decide +kernel
theorem d_Modl_does_178 : decode b_Modl_does 178 = .ok (.lsub, 1) := by decide +kernel
theorem d_Modl_does_179 : decode b_Modl_does 179 = .ok (.lstore 9, 2) := by decide +kernel
theorem d_Modl_does_181 : decode b_Modl_does 181 = .ok (.goto 253, 3) := by decide +kernel
theorem d_Modl_does_184 : decode b_Modl_does 184 = .ok (.lload 5, 2) := by decide +kernel
theorem d_Modl_does_186 : decode b_Modl_does 186 = .ok (.lload 7, 2) := by decide +kernel
theorem d_Modl_does_188 : decode b_Modl_does 188 = .ok (.lmul, 1) := by decide +kernel
theorem d_Modl_does_189 : decode b_Modl_does 189 = .ok (.lstore 9, 2) := by decide +kernel
theorem d_Modl_does_191 : decode b_Modl_does 191 = .ok (.lload 5, 2) := by decide +kernel
theorem d_Modl_does_193 : decode b_Modl_does 193 = .ok (.lconst 0, 1) := by decide +kernel
theorem d_Modl_does_194 : decode b_Modl_does 194 = .ok (.lcmp, 1) := by decide +kernel
theorem d_Modl_does_195 : decode b_Modl_does 195 = .ok (.ifCond .eq 34, 3) := by decide +kernel
theorem d_Modl_does_198 : decode b_Modl_does 198 = .ok (.lload 9, 2) := by decide +kernel
theorem d_Modl_does_200 : decode b_Modl_does 200 = .ok (.lload 5, 2) := by decide +kernel
theorem d_Modl_does_202 : decode b_Modl_does 202 = .ok (.ldiv, 1) := by decide +kernel
theorem d_Modl_does_203 : decode b_Modl_does 203 = .ok (.lload 7, 2) := by decide +kernel
theorem d_Modl_does_205 : decode b_Modl_does 205 = .ok (.lcmp, 1) := by decide +kernel
theorem d_Modl_does_206 : decode b_Modl_does 206 = .ok (.ifCond .ne 21, 3) := by decide +kernel
theorem d_Modl_does_209 : decode b_Modl_does 209 = .ok (.lload 5, 2) := by decide +kernel
theorem d_Modl_does_211 : decode b_Modl_does 211 = .ok (.ldc2_w 79, 3) := by decide +kernel
theorem d_Modl_does_214 : decode b_Modl_does 214 = .ok (.lcmp, 1) := by decide +kernel
theorem d_Modl_does_215 : decode b_Modl_does 215 = .ok (.ifCond .ne 14, 3) := by decide +kernel
theorem d_Modl_does_218 : decode b_Modl_does 218 = .ok (.lload 7, 2) := by decide +kernel
theorem d_Modl_does_220 : decode b_Modl_does 220 = .ok (.ldc2_w 81, 3) := by decide +kernel
theorem d_Modl_does_223 : decode b_Modl_does 223 = .ok (.lcmp, 1) := by decide +kernel
theorem d_Modl_does_224 : decode b_Modl_does 224 = .ok (.ifCond .ne 5, 3) := by decide +kernel
theorem d_Modl_does_227 : decode b_Modl_does 227 = .ok (.iconst 0, 1) := by decide +kernel
theorem d_Modl_does_228 : decode b_Modl_does 228 = .ok (.ireturn, 1) := by decide +kernel
theorem d_Modl_does_229 : decode b_Modl_does 229 = .ok (.lload 9, 2) := by decide +kernel
theorem d_Modl_does_231 : decode b_Modl_does 231 = .ok (.aload_n 0, 1) := by decide +kernel
theorem d_Modl_does_232 : decode b_Modl_does 232 = .ok (.iload_n 1, 1) := by decide +kernel
theorem d_Modl_does_233 : decode b_Modl_does 233 = .ok (.invokevirtual 75, 3) := by decide +kernel
theorem d_Modl_does_236 : decode b_Modl_does 236 = .ok (.lrem, 1) := by decide +kernel
theorem d_Modl_does_237 : decode b_Modl_does 237 = .ok (.lconst 0, 1) := by decide +kernel
theorem d_Modl_does_238 : decode b_Modl_does 238 = .ok (.lcmp, 1) := by decide +kernel
theorem d_Modl_does_239 : decode b_Modl_does 239 = .ok (.ifCond .eq 5, 3) := by decide +kernel
theorem d_Modl_does_242 : decode b_Modl_does 242 = .ok (.iconst 0, 1) := by decide +kernel
theorem d_Modl_does_243 : decode b_Modl_does 243 = .ok (.ireturn, 1) := by decide +kernel
theorem d_Modl_does_244 : decode b_Modl_does 244 = .ok (.lload 9, 2) := by decide +kernel
theorem d_Modl_does_246 : decode b_Modl_does 246 = .ok (.aload_n 0, 1) := by decide +kernel
theorem d_Modl_does_247 : decode b_Modl_does 247 = .ok (.iload_n 1, 1) := by decide +kernel
theorem d_Modl_does_248 : decode b_Modl_does 248 = .ok (.invokevirtual 75, 3) := by decide +kernel
theorem d_Modl_does_251 : decode b_Modl_does 251 = .ok (.ldiv, 1) := by decide +kernel
theorem d_Modl_does_252 : decode b_Modl_does 252 = .ok (.lstore 9, 2) := by decide +kernel
theorem d_Modl_does_254 : decode b_Modl_does 254 = .ok (.goto 180, 3) := by decide +kernel
theorem d_Modl_does_257 : decode b_Modl_does 257 = .ok (.lload 5, 2) := by decide +kernel
theorem d_Modl_does_259 : decode b_Modl_does 259 = .ok (.lload 7, 2) := by decide +kernel
theorem d_Modl_does_261 : decode b_Modl_does 261 = .ok (.lcmp, 1) := by decide +kernel
theorem d_Modl_does_262 : decode b_Modl_does 262 = .ok (.ifCond .ge 11, 3) := by decide +kernel
theorem d_Modl_does_265 : decode b_Modl_does 265 = .ok (.aload_n 0, 1) := by decide +kernel
theorem d_Modl_does_266 : decode b_Modl_does 266 = .ok (.iload_n 1, 1) := by decide +kernel
theorem d_Modl_does_267 : decode b_Modl_does 267 = .ok (.invokevirtual 75, 3) := by decide +kernel
theorem d_Modl_does_270 : decode b_Modl_does 270 = .ok (.goto 4, 3) := by decide +kernel
theorem d_Modl_does_273 : decode b_Modl_does 273 = .ok (.lconst 0, 1) := by decide +kernel
theorem d_Modl_does_274 : decode b_Modl_does 274 = .ok (.lstore 9, 2) := by decide +kernel
theorem d_Modl_does_276 : decode b_Modl_does 276 = .ok (.goto 158, 3) := by decide +kernel
theorem d_Modl_does_279 : decode b_Modl_does 279 = .ok (.lload 5, 2) := by decide +kernel
theorem d_Modl_does_281 : decode b_Modl_does 281 = .ok (.lload 7, 2) := by decide +kernel
theorem d_Modl_does_283 : decode b_Modl_does 283 = .ok (.lcmp, 1) := by decide +kernel
theorem d_Modl_does_284 : decode b_Modl_does 284 = .ok (.ifCond .ne 11, 3) := by decide +kernel
theorem d_Modl_does_287 : decode b_Modl_does 287 = .ok (.aload_n 0, 1) := by decide +kernel
theorem d_Modl_does_288 : decode b_Modl_does 288 = .ok (.iload_n 1, 1) := by decide +kernel
theorem d_Modl_does_289 : decode b_Modl_does 289 = .ok (.invokevirtual 75, 3) := by decide +kernel
theorem d_Modl_does_292 : decode b_Modl_does 292 = .ok (.goto 4, 3) := by decide +kernel
theorem d_Modl_does_295 : decode b_Modl_does 295 = .ok (.lconst 0, 1) := by decide +kernel
theorem d_Modl_does_296 : decode b_Modl_does 296 = .ok (.lstore 9, 2) := by decide +kernel
theorem d_Modl_does_298 : decode b_Modl_does 298 = .ok (.goto 136, 3) := by decide +kernel
theorem d_Modl_does_301 : decode b_Modl_does 301 = .ok (.lload 5, 2) := by decide +kernel
theorem d_Modl_does_303 : decode b_Modl_does 303 = .ok (.lneg, 1) := by decide +kernel
theorem d_Modl_does_304 : decode b_Modl_does 304 = .ok (.lstore 9, 2) := by decide +kernel
theorem d_Modl_does_306 : decode b_Modl_does 306 = .ok (.goto 128, 3) := by decide +kernel
theorem d_Modl_does_309 : decode b_Modl_does 309 = .ok (.aload_n 0, 1) := by decide +kernel
theorem d_Modl_does_310 : decode b_Modl_does 310 = .ok (.iload_n 3, 1) := by decide +kernel
theorem d_Modl_does_311 : decode b_Modl_does 311 = .ok (.putfield 83, 3) := by decide +kernel
theorem d_Modl_does_314 : decode b_Modl_does 314 = .ok (.goto 120, 3) := by decide +kernel
theorem d_Modl_does_317 : decode b_Modl_does 317 = .ok (.aload_n 0, 1) := by decide +kernel
theorem d_Modl_does_318 : decode b_Modl_does 318 = .ok (.lload 5, 2) := by decide +kernel
theorem d_Modl_does_320 : decode b_Modl_does 320 = .ok (.lconst 0, 1) := by decide +kernel
theorem d_Modl_does_321 : decode b_Modl_does 321 = .ok (.lcmp, 1) := by decide +kernel
theorem d_Modl_does_322 : decode b_Modl_does 322 = .ok (.ifCond .ne 7, 3) := by decide +kernel
theorem d_Modl_does_325 : decode b_Modl_does 325 = .ok (.iload_n 3, 1) := by decide +kernel
theorem d_Modl_does_326 : decode b_Modl_does 326 = .ok (.goto 7, 3) := by decide +kernel
theorem d_Modl_does_329 : decode b_Modl_does 329 = .ok (.aload_n 0, 1) := by decide +kernel
theorem d_Modl_does_330 : decode b_Modl_does 330 = .ok (.getfield 83, 3) := by decide +kernel
theorem d_Modl_does_333 : decode b_Modl_does 333 = .ok (.putfield 83, 3) := by decide +kernel
theorem d_Modl_does_336 : decode b_Modl_does 336 = .ok (.goto 98, 3) := by decide +kernel
theorem d_Modl_does_339 : decode b_Modl_does 339 = .ok (.aload_n 0, 1) := by decide +kernel
theorem d_Modl_does_340 : decode b_Modl_does 340 = .ok (.getfield 20, 3) := by decide +kernel
theorem d_Modl_does_343 : decode b_Modl_does 343 = .ok (.iload_n 3, 1) := by decide +kernel
theorem d_Modl_does_344 : decode b_Modl_does 344 = .ok (.iaload, 1) := by decide +kernel
theorem d_Modl_does_345 : decode b_Modl_does 345 = .ok (.i2l, 1) := by decide +kernel
theorem d_Modl_does_346 : decode b_Modl_does 346 = .ok (.aload_n 0, 1) := by decide +kernel
theorem d_Modl_does_347 : decode b_Modl_does 347 = .ok (.iload_n 1, 1) := by decide +kernel
theorem d_Modl_does_348 : decode b_Modl_does 348 = .ok (.invokevirtual 75, 3) := by decide +kernel
theorem d_Modl_does_351 : decode b_Modl_does 351 = .ok (.lmul, 1) := by decide +kernel
theorem d_Modl_does_352 : decode b_Modl_does 352 = .ok (.lstore 9, 2) := by decide +kernel
theorem d_Modl_does_354 : decode b_Modl_does 354 = .ok (.goto 80, 3) := by decide +kernel
theorem d_Modl_does_357 : decode b_Modl_does 357 = .ok (.aload_n 0, 1) := by decide +kernel
theorem d_Modl_does_358 : decode b_Modl_does 358 = .ok (.getfield 30, 3) := by decide +kernel
theorem d_Modl_does_361 : decode b_Modl_does 361 = .ok (.iconst 4, 1) := by decide +kernel
theorem d_Modl_does_362 : decode b_Modl_does 362 = .ok (.iload_n 1, 1) := by decide +kernel
theorem d_Modl_does_363 : decode b_Modl_does 363 = .ok (.imul, 1) := by decide +kernel
theorem d_Modl_does_364 : decode b_Modl_does 364 = .ok (.iload_n 3, 1) := by decide +kernel
theorem d_Modl_does_365 : decode b_Modl_does 365 = .ok (.iadd, 1) := by decide +kernel
theorem d_Modl_does_366 : decode b_Modl_does 366 = .ok (.lload 5, 2) := by decide +kernel
theorem d_Modl_does_368 : decode b_Modl_does 368 = .ok (.lastore, 1) := by decide +kernel
theorem d_Modl_does_369 : decode b_Modl_does 369 = .ok (.goto 65, 3) := by decide +kernel
theorem d_Modl_does_372 : decode b_Modl_does 372 = .ok (.aload_n 0, 1) := by decide +kernel
theorem d_Modl_does_373 : decode b_Modl_does 373 = .ok (.iconst 1, 1) := by decide +kernel
theorem d_Modl_does_374 : decode b_Modl_does 374 = .ok (.putfield 86, 3) := by decide +kernel
theorem d_Modl_does_377 : decode b_Modl_does 377 = .ok (.goto 57, 3) := by decide +kernel
theorem d_Modl_does_380 : decode b_Modl_does 380 = .ok (.lload 5, 2) := by decide +kernel
theorem d_Modl_does_382 : decode b_Modl_does 382 = .ok (.aload_n 0, 1) := by decide +kernel
theorem d_Modl_does_383 : decode b_Modl_does 383 = .ok (.iload_n 1, 1) := by decide +kernel
theorem d_Modl_does_384 : decode b_Modl_does 384 = .ok (.invokevirtual 75, 3) := by decide +kernel
theorem d_Modl_does_387 : decode b_Modl_does 387 = .ok (.ldiv, 1) := by decide +kernel
theorem d_Modl_does_388 : decode b_Modl_does 388 = .ok (.lstore 11, 2) := by decide +kernel
theorem d_Modl_does_390 : decode b_Modl_does 390 = .ok (.lload 5, 2) := by decide +kernel
theorem d_Modl_does_392 : decode b_Modl_does 392 = .ok (.aload_n 0, 1) := by decide +kernel
theorem d_Modl_does_393 : decode b_Modl_does 393 = .ok (.iload_n 1, 1) := by decide +kernel
theorem d_Modl_does_394 : decode b_Modl_does 394 = .ok (.invokevirtual 75, 3) := by decide +kernel
theorem d_Modl_does_397 : decode b_Modl_does 397 = .ok (.lrem, 1) := by decide +kernel
theorem d_Modl_does_398 : decode b_Modl_does 398 = .ok (.lconst 0, 1) := by decide +kernel
theorem d_Modl_does_399 : decode b_Modl_does 399 = .ok (.lcmp, 1) := by decide +kernel
theorem d_Modl_does_400 : decode b_Modl_does 400 = .ok (.ifCond .ne 19, 3) := by decide +kernel
theorem d_Modl_does_403 : decode b_Modl_does 403 = .ok (.lload 11, 2) := by decide +kernel
theorem d_Modl_does_405 : decode b_Modl_does 405 = .ok (.lconst 0, 1) := by decide +kernel
theorem d_Modl_does_406 : decode b_Modl_does 406 = .ok (.lcmp, 1) := by decide +kernel
theorem d_Modl_does_407 : decode b_Modl_does 407 = .ok (.ifCond .lt 12, 3) := by decide +kernel
theorem d_Modl_does_410 : decode b_Modl_does 410 = .ok (.lload 11, 2) := by decide +kernel
theorem d_Modl_does_412 : decode b_Modl_does 412 = .ok (.ldc2_w 89, 3) := by decide +kernel
theorem d_Modl_does_415 : decode b_Modl_does 415 = .ok (.lcmp, 1) := by decide +kernel
theorem d_Modl_does_416 : decode b_Modl_does 416 = .ok (.ifCond .lt 5, 3) := by decide +kernel
theorem d_Modl_does_419 : decode b_Modl_does 419 = .ok (.iconst 0, 1) := by decide +kernel
theorem d_Modl_does_420 : decode b_Modl_does 420 = .ok (.ireturn, 1) := by decide +kernel
theorem d_Modl_does_421 : decode b_Modl_does 421 = .ok (.aload_n 0, 1) := by decide +kernel
theorem d_Modl_does_422 : decode b_Modl_does 422 = .ok (.getfield 26, 3) := by decide +kernel
theorem d_Modl_does_425 : decode b_Modl_does 425 = .ok (.iload 4, 2) := by decide +kernel
theorem d_Modl_does_427 : decode b_Modl_does 427 = .ok (.lload 11, 2) := by decide +kernel
theorem d_Modl_does_429 : decode b_Modl_does 429 = .ok (.l2i, 1) := by decide +kernel
theorem d_Modl_does_430 : decode b_Modl_does 430 = .ok (.iadd, 1) := by decide +kernel
theorem d_Modl_does_431 : decode b_Modl_does 431 = .ok (.laload, 1) := by decide +kernel
theorem d_Modl_does_432 : decode b_Modl_does 432 = .ok (.lstore 9, 2) := by decide +kernel
theorem d_Modl_does_434 : decode b_Modl_does 434 = .ok (.aload_n 0, 1) := by decide +kernel
theorem d_Modl_does_435 : decode b_Modl_does 435 = .ok (.getfield 26, 3) := by decide +kernel
theorem d_Modl_does_438 : decode b_Modl_does 438 = .ok (.iload 4, 2) := by decide +kernel
theorem d_Modl_does_440 : decode b_Modl_does 440 = .ok (.bipush 16, 2) := by decide +kernel
theorem d_Modl_does_442 : decode b_Modl_does 442 = .ok (.iadd, 1) := by decide +kernel
theorem d_Modl_does_443 : decode b_Modl_does 443 = .ok (.lload 9, 2) := by decide +kernel
theorem d_Modl_does_445 : decode b_Modl_does 445 = .ok (.lastore, 1) := by decide +kernel
theorem d_Modl_does_446 : decode b_Modl_does 446 = .ok (.iload_n 2, 1) := by decide +kernel
theorem d_Modl_does_447 : decode b_Modl_does 447 = .ok (.iconst 3, 1) := by decide +kernel
theorem d_Modl_does_448 : decode b_Modl_does 448 = .ok (.if_icmp .le 9, 3) := by decide +kernel
theorem d_Modl_does_451 : decode b_Modl_does 451 = .ok (.iload_n 2, 1) := by decide +kernel
theorem d_Modl_does_452 : decode b_Modl_does 452 = .ok (.bipush 7, 2) := by decide +kernel
theorem d_Modl_does_454 : decode b_Modl_does 454 = .ok (.if_icmp .lt 15, 3) := by decide +kernel
theorem d_Modl_does_457 : decode b_Modl_does 457 = .ok (.iload_n 2, 1) := by decide +kernel
theorem d_Modl_does_458 : decode b_Modl_does 458 = .ok (.bipush 9, 2) := by decide +kernel
theorem d_Modl_does_460 : decode b_Modl_does 460 = .ok (.if_icmp .eq 9, 3) := by decide +kernel
theorem d_Modl_does_463 : decode b_Modl_does 463 = .ok (.iload_n 2, 1) := by decide +kernel
theorem d_Modl_does_464 : decode b_Modl_does 464 = .ok (.bipush 12, 2) := by decide +kernel
theorem d_Modl_does_466 : decode b_Modl_does 466 = .ok (.if_icmp .ne 7, 3) := by decide +kernel
theorem d_Modl_does_469 : decode b_Modl_does 469 = .ok (.iconst 1, 1) := by decide +kernel
theorem d_Modl_does_470 : decode b_Modl_does 470 = .ok (.goto 4, 3) := by decide +kernel
theorem d_Modl_does_473 : decode b_Modl_does 473 = .ok (.iconst 0, 1) := by decide +kernel
theorem d_Modl_does_474 : decode b_Modl_does 474 = .ok (.istore 11, 2) := by decide +kernel
theorem d_Modl_does_476 : decode b_Modl_does 476 = .ok (.iload 11, 2) := by decide +kernel
theorem d_Modl_does_478 : decode b_Modl_does 478 = .ok (.ifCond .eq 13, 3) := by decide +kernel
theorem d_Modl_does_481 : decode b_Modl_does 481 = .ok (.aload_n 0, 1) := by decide +kernel
theorem d_Modl_does_482 : decode b_Modl_does 482 = .ok (.iload_n 1, 1) := by decide +kernel
theorem d_Modl_does_483 : decode b_Modl_does 483 = .ok (.lload 9, 2) := by decide +kernel
theorem d_Modl_does_485 : decode b_Modl_does 485 = .ok (.invokevirtual 91, 3) := by decide +kernel
theorem d_Modl_does_488 : decode b_Modl_does 488 = .ok (.ifCond .eq 7, 3) := by decide +kernel
theorem d_Modl_does_491 : decode b_Modl_does 491 = .ok (.iconst 1, 1) := by decide +kernel
theorem d_Modl_does_492 : decode b_Modl_does 492 = .ok (.goto 4, 3) := by decide +kernel
theorem d_Modl_does_495 : decode b_Modl_does 495 = .ok (.iconst 0, 1) := by decide +kernel
theorem d_Modl_does_496 : decode b_Modl_does 496 = .ok (.ireturn, 1) := by decide +kernel
