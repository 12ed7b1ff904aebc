theorem d_Law_law_275 : decode code 275 = .ok (.iconst 1, 1) := by decide +kernel
theorem d_Law_law_276 : decode code 276 = .ok (.iadd, 1) := by decide +kernel
theorem d_Law_law_277 : decode code 277 = .ok (.iaload, 1) := by decide +kernel
theorem d_Law_law_278 : decode code 278 = .ok (.invokevirtual 56, 3) := by decide +kernel
theorem d_Law_law_281 : decode code 281 = .ok (.aload_n 2, 1) := by decide +kernel
theorem d_Law_law_282 : decode code 282 = .ok (.aload_n 0, 1) := by decide +kernel
theorem d_Law_law_283 : decode code 283 = .ok (.iload 4, 2) := by decide +kernel
theorem d_Law_law_285 : decode code 285 = .ok (.iconst 1, 1) := by decide +kernel
theorem d_Law_law_286 : decode code 286 = .ok (.iadd, 1) := by decide +kernel
theorem d_Law_law_287 : decode code 287 = .ok (.iaload, 1) := by decide +kernel
theorem d_Law_law_288 : decode code 288 = .ok (.invokevirtual 60, 3) := by decide +kernel
theorem d_Law_law_291 : decode code 291 = .ok (.if_icmp .eq 97, 3) := by decide +kernel
theorem d_Law_law_294 : decode code 294 = .ok (.iconst 0, 1) := by decide +kernel
theorem d_Law_law_295 : decode code 295 = .ok (.ireturn, 1) := by decide +kernel
theorem d_Law_law_296 : decode code 296 = .ok (.aload_n 1, 1) := by decide +kernel
theorem d_Law_law_297 : decode code 297 = .ok (.aload_n 0, 1) := by decide +kernel
theorem d_Law_law_298 : decode code 298 = .ok (.iload 4, 2) := by decide +kernel
theorem d_Law_law_300 : decode code 300 = .ok (.iconst 1, 1) := by decide +kernel
theorem d_Law_law_301 : decode code 301 = .ok (.iadd, 1) := by decide +kernel
theorem d_Law_law_302 : decode code 302 = .ok (.iaload, 1) := by decide +kernel
theorem d_Law_law_303 : decode code 303 = .ok (.aload_n 0, 1) := by decide +kernel
theorem d_Law_law_304 : decode code 304 = .ok (.iload 4, 2) := by decide +kernel
theorem d_Law_law_306 : decode code 306 = .ok (.iconst 2, 1) := by decide +kernel
theorem d_Law_law_307 : decode code 307 = .ok (.iadd, 1) := by decide +kernel
theorem d_Law_law_308 : decode code 308 = .ok (.iaload, 1) := by decide +kernel
theorem d_Law_law_309 : decode code 309 = .ok (.aload_n 3, 1) := by decide +kernel
theorem d_Law_law_310 : decode code 310 = .ok (.invokestatic 61, 3) := by decide +kernel
theorem d_Law_law_313 : decode code 313 = .ok (.istore 5, 2) := by decide +kernel
theorem d_Law_law_315 : decode code 315 = .ok (.aload_n 2, 1) := by decide +kernel
theorem d_Law_law_316 : decode code 316 = .ok (.aload_n 0, 1) := by decide +kernel
theorem d_Law_law_317 : decode code 317 = .ok (.iload 4, 2) := by decide +kernel
theorem d_Law_law_319 : decode code 319 = .ok (.iconst 1, 1) := by decide +kernel
theorem d_Law_law_320 : decode code 320 = .ok (.iadd, 1) := by decide +kernel
theorem d_Law_law_321 : decode code 321 = .ok (.iaload, 1) := by decide +kernel
theorem d_Law_law_322 : decode code 322 = .ok (.aload_n 0, 1) := by decide +kernel
theorem d_Law_law_323 : decode code 323 = .ok (.iload 4, 2) := by decide +kernel
theorem d_Law_law_325 : decode code 325 = .ok (.iconst 2, 1) := by decide +kernel
theorem d_Law_law_326 : decode code 326 = .ok (.iadd, 1) := by decide +kernel
theorem d_Law_law_327 : decode code 327 = .ok (.iaload, 1) := by decide +kernel
theorem d_Law_law_328 : decode code 328 = .ok (.invokevirtual 63, 3) := by decide +kernel
theorem d_Law_law_331 : decode code 331 = .ok (.lstore 6, 2) := by decide +kernel
theorem d_Law_law_333 : decode code 333 = .ok (.aload_n 2, 1) := by decide +kernel
theorem d_Law_law_334 : decode code 334 = .ok (.invokevirtual 38, 3) := by decide +kernel
theorem d_Law_law_337 : decode code 337 = .ok (.iload 5, 2) := by decide +kernel
theorem d_Law_law_339 : decode code 339 = .ok (.if_icmp .eq 5, 3) := by decide +kernel
theorem d_Law_law_342 : decode code 342 = .ok (.iconst 0, 1) := by decide +kernel
theorem d_Law_law_343 : decode code 343 = .ok (.ireturn, 1) := by decide +kernel
theorem d_Law_law_344 : decode code 344 = .ok (.iload 5, 2) := by decide +kernel
theorem d_Law_law_346 : decode code 346 = .ok (.ifCond .ne 14, 3) := by decide +kernel
theorem d_Law_law_349 : decode code 349 = .ok (.aload_n 3, 1) := by decide +kernel
theorem d_Law_law_350 : decode code 350 = .ok (.iconst 0, 1) := by decide +kernel
theorem d_Law_law_351 : decode code 351 = .ok (.laload, 1) := by decide +kernel
theorem d_Law_law_352 : decode code 352 = .ok (.lload 6, 2) := by decide +kernel
theorem d_Law_law_354 : decode code 354 = .ok (.lcmp, 1) := by decide +kernel
theorem d_Law_law_355 : decode code 355 = .ok (.ifCond .eq 5, 3) := by decide +kernel
theorem d_Law_law_358 : decode code 358 = .ok (.iconst 0, 1) := by decide +kernel
theorem d_Law_law_359 : decode code 359 = .ok (.ireturn, 1) := by decide +kernel
theorem d_Law_law_360 : decode code 360 = .ok (.goto 28, 3) := by decide +kernel
theorem d_Law_law_363 : decode code 363 = .ok (.aload_n 1, 1) := by decide +kernel
theorem d_Law_law_364 : decode code 364 = .ok (.aload_n 0, 1) := by decide +kernel
theorem d_Law_law_365 : decode code 365 = .ok (.iload 4, 2) := by decide +kernel
theorem d_Law_law_367 : decode code 367 = .ok (.iconst 1, 1) := by decide +kernel
theorem d_Law_law_368 : decode code 368 = .ok (.iadd, 1) := by decide +kernel
theorem d_Law_law_369 : decode code 369 = .ok (.iaload, 1) := by decide +kernel
theorem d_Law_law_370 : decode code 370 = .ok (.invokevirtual 64, 3) := by decide +kernel
theorem d_Law_law_373 : decode code 373 = .ok (.aload_n 2, 1) := by decide +kernel
theorem d_Law_law_374 : decode code 374 = .ok (.aload_n 0, 1) := by decide +kernel
theorem d_Law_law_375 : decode code 375 = .ok (.iload 4, 2) := by decide +kernel
theorem d_Law_law_377 : decode code 377 = .ok (.iconst 1, 1) := by decide +kernel
theorem d_Law_law_378 : decode code 378 = .ok (.iadd, 1) := by decide +kernel
theorem d_Law_law_379 : decode code 379 = .ok (.iaload, 1) := by decide +kernel
theorem d_Law_law_380 : decode code 380 = .ok (.invokevirtual 67, 3) := by decide +kernel
theorem d_Law_law_383 : decode code 383 = .ok (.if_icmp .eq 5, 3) := by decide +kernel
theorem d_Law_law_386 : decode code 386 = .ok (.iconst 0, 1) := by decide +kernel
theorem d_Law_law_387 : decode code 387 = .ok (.ireturn, 1) := by decide +kernel
theorem d_Law_law_388 : decode code 388 = .ok (.iinc 4 5, 3) := by decide +kernel
theorem d_Law_law_391 : decode code 391 = .ok (.goto (-358), 3) := by decide +kernel
theorem d_Law_law_394 : decode code 394 = .ok (.iconst 1, 1) := by decide +kernel
theorem d_Law_law_395 : decode code 395 = .ok (.ireturn, 1) := by decide +kernel
