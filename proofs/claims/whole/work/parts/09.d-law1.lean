theorem d_L_law_242 : decode c_L_law 242 = .ok (.iload 4, 2) := by decide +kernel
theorem d_L_law_244 : decode c_L_law 244 = .ok (.iconst 1, 1) := by decide +kernel
theorem d_L_law_245 : decode c_L_law 245 = .ok (.iadd, 1) := by decide +kernel
theorem d_L_law_246 : decode c_L_law 246 = .ok (.iaload, 1) := by decide +kernel
theorem d_L_law_247 : decode c_L_law 247 = .ok (.aload_n 3, 1) := by decide +kernel
theorem d_L_law_248 : decode c_L_law 248 = .ok (.invokestatic 88, 3) := by decide +kernel
theorem d_L_law_251 : decode c_L_law 251 = .ok (.istore 5, 2) := by decide +kernel
theorem d_L_law_253 : decode c_L_law 253 = .ok (.aload_n 2, 1) := by decide +kernel
theorem d_L_law_254 : decode c_L_law 254 = .ok (.aload_n 0, 1) := by decide +kernel
theorem d_L_law_255 : decode c_L_law 255 = .ok (.iload 4, 2) := by decide +kernel
theorem d_L_law_257 : decode c_L_law 257 = .ok (.iconst 1, 1) := by decide +kernel
theorem d_L_law_258 : decode c_L_law 258 = .ok (.iadd, 1) := by decide +kernel
theorem d_L_law_259 : decode c_L_law 259 = .ok (.iaload, 1) := by decide +kernel
theorem d_L_law_260 : decode c_L_law 260 = .ok (.invokevirtual 91, 3) := by decide +kernel
theorem d_L_law_263 : decode c_L_law 263 = .ok (.lstore 6, 2) := by decide +kernel
theorem d_L_law_265 : decode c_L_law 265 = .ok (.aload_n 2, 1) := by decide +kernel
theorem d_L_law_266 : decode c_L_law 266 = .ok (.invokevirtual 80, 3) := by decide +kernel
theorem d_L_law_269 : decode c_L_law 269 = .ok (.iload 5, 2) := by decide +kernel
theorem d_L_law_271 : decode c_L_law 271 = .ok (.if_icmp .eq 5, 3) := by decide +kernel
theorem d_L_law_274 : decode c_L_law 274 = .ok (.iconst 0, 1) := by decide +kernel
theorem d_L_law_275 : decode c_L_law 275 = .ok (.ireturn, 1) := by decide +kernel
theorem d_L_law_276 : decode c_L_law 276 = .ok (.iload 5, 2) := by decide +kernel
theorem d_L_law_278 : decode c_L_law 278 = .ok (.ifCond .ne 14, 3) := by decide +kernel
theorem d_L_law_281 : decode c_L_law 281 = .ok (.aload_n 3, 1) := by decide +kernel
theorem d_L_law_282 : decode c_L_law 282 = .ok (.iconst 0, 1) := by decide +kernel
theorem d_L_law_283 : decode c_L_law 283 = .ok (.laload, 1) := by decide +kernel
theorem d_L_law_284 : decode c_L_law 284 = .ok (.lload 6, 2) := by decide +kernel
theorem d_L_law_286 : decode c_L_law 286 = .ok (.lcmp, 1) := by decide +kernel
theorem d_L_law_287 : decode c_L_law 287 = .ok (.ifCond .eq 5, 3) := by decide +kernel
theorem d_L_law_290 : decode c_L_law 290 = .ok (.iconst 0, 1) := by decide +kernel
theorem d_L_law_291 : decode c_L_law 291 = .ok (.ireturn, 1) := by decide +kernel
theorem d_L_law_292 : decode c_L_law 292 = .ok (.goto 757, 3) := by decide +kernel
theorem d_L_law_295 : decode c_L_law 295 = .ok (.aload_n 1, 1) := by decide +kernel
theorem d_L_law_296 : decode c_L_law 296 = .ok (.aload_n 0, 1) := by decide +kernel
theorem d_L_law_297 : decode c_L_law 297 = .ok (.iload 4, 2) := by decide +kernel
theorem d_L_law_299 : decode c_L_law 299 = .ok (.iconst 1, 1) := by decide +kernel
theorem d_L_law_300 : decode c_L_law 300 = .ok (.iadd, 1) := by decide +kernel
theorem d_L_law_301 : decode c_L_law 301 = .ok (.iaload, 1) := by decide +kernel
theorem d_L_law_302 : decode c_L_law 302 = .ok (.aload_n 3, 1) := by decide +kernel
theorem d_L_law_303 : decode c_L_law 303 = .ok (.invokestatic 92, 3) := by decide +kernel
theorem d_L_law_306 : decode c_L_law 306 = .ok (.istore 5, 2) := by decide +kernel
theorem d_L_law_308 : decode c_L_law 308 = .ok (.aload_n 2, 1) := by decide +kernel
theorem d_L_law_309 : decode c_L_law 309 = .ok (.aload_n 0, 1) := by decide +kernel
theorem d_L_law_310 : decode c_L_law 310 = .ok (.iload 4, 2) := by decide +kernel
theorem d_L_law_312 : decode c_L_law 312 = .ok (.iconst 1, 1) := by decide +kernel
theorem d_L_law_313 : decode c_L_law 313 = .ok (.iadd, 1) := by decide +kernel
theorem d_L_law_314 : decode c_L_law 314 = .ok (.iaload, 1) := by decide +kernel
theorem d_L_law_315 : decode c_L_law 315 = .ok (.invokevirtual 94, 3) := by decide +kernel
theorem d_L_law_318 : decode c_L_law 318 = .ok (.lstore 6, 2) := by decide +kernel
theorem d_L_law_320 : decode c_L_law 320 = .ok (.aload_n 2, 1) := by decide +kernel
theorem d_L_law_321 : decode c_L_law 321 = .ok (.invokevirtual 80, 3) := by decide +kernel
theorem d_L_law_324 : decode c_L_law 324 = .ok (.iload 5, 2) := by decide +kernel
theorem d_L_law_326 : decode c_L_law 326 = .ok (.if_icmp .eq 5, 3) := by decide +kernel
theorem d_L_law_329 : decode c_L_law 329 = .ok (.iconst 0, 1) := by decide +kernel
theorem d_L_law_330 : decode c_L_law 330 = .ok (.ireturn, 1) := by decide +kernel
theorem d_L_law_331 : decode c_L_law 331 = .ok (.iload 5, 2) := by decide +kernel
theorem d_L_law_333 : decode c_L_law 333 = .ok (.ifCond .ne 14, 3) := by decide +kernel
theorem d_L_law_336 : decode c_L_law 336 = .ok (.aload_n 3, 1) := by decide +kernel
theorem d_L_law_337 : decode c_L_law 337 = .ok (.iconst 0, 1) := by decide +kernel
theorem d_L_law_338 : decode c_L_law 338 = .ok (.laload, 1) := by decide +kernel
theorem d_L_law_339 : decode c_L_law 339 = .ok (.lload 6, 2) := by decide +kernel
theorem d_L_law_341 : decode c_L_law 341 = .ok (.lcmp, 1) := by decide +kernel
theorem d_L_law_342 : decode c_L_law 342 = .ok (.ifCond .eq 5, 3) := by decide +kernel
theorem d_L_law_345 : decode c_L_law 345 = .ok (.iconst 0, 1) := by decide +kernel
theorem d_L_law_346 : decode c_L_law 346 = .ok (.ireturn, 1) := by decide +kernel
theorem d_L_law_347 : decode c_L_law 347 = .ok (.goto 702, 3) := by decide +kernel
theorem d_L_law_350 : decode c_L_law 350 = .ok (.aload_n 1, 1) := by decide +kernel
theorem d_L_law_351 : decode c_L_law 351 = .ok (.aload_n 0, 1) := by decide +kernel
theorem d_L_law_352 : decode c_L_law 352 = .ok (.iload 4, 2) := by decide +kernel
theorem d_L_law_354 : decode c_L_law 354 = .ok (.iconst 1, 1) := by decide +kernel
theorem d_L_law_355 : decode c_L_law 355 = .ok (.iadd, 1) := by decide +kernel
theorem d_L_law_356 : decode c_L_law 356 = .ok (.iaload, 1) := by decide +kernel
theorem d_L_law_357 : decode c_L_law 357 = .ok (.aload_n 0, 1) := by decide +kernel
theorem d_L_law_358 : decode c_L_law 358 = .ok (.iload 4, 2) := by decide +kernel
theorem d_L_law_360 : decode c_L_law 360 = .ok (.iconst 2, 1) := by decide +kernel
theorem d_L_law_361 : decode c_L_law 361 = .ok (.iadd, 1) := by decide +kernel
theorem d_L_law_362 : decode c_L_law 362 = .ok (.iaload, 1) := by decide +kernel
theorem d_L_law_363 : decode c_L_law 363 = .ok (.aload_n 3, 1) := by decide +kernel
theorem d_L_law_364 : decode c_L_law 364 = .ok (.invokestatic 95, 3) := by decide +kernel
theorem d_L_law_367 : decode c_L_law 367 = .ok (.istore 5, 2) := by decide +kernel
theorem d_L_law_369 : decode c_L_law 369 = .ok (.aload_n 2, 1) := by decide +kernel
theorem d_L_law_370 : decode c_L_law 370 = .ok (.aload_n 0, 1) := by decide +kernel
theorem d_L_law_371 : decode c_L_law 371 = .ok (.iload 4, 2) := by decide +kernel
theorem d_L_law_373 : decode c_L_law 373 = .ok (.iconst 1, 1) := by decide +kernel
theorem d_L_law_374 : decode c_L_law 374 = .ok (.iadd, 1) := by decide +kernel
theorem d_L_law_375 : decode c_L_law 375 = .ok (.iaload, 1) := by decide +kernel
theorem d_L_law_376 : decode c_L_law 376 = .ok (.aload_n 0, 1) := by decide +kernel
theorem d_L_law_377 : decode c_L_law 377 = .ok (.iload 4, 2) := by decide +kernel
theorem d_L_law_379 : decode c_L_law 379 = .ok (.iconst 2, 1) := by decide +kernel
theorem d_L_law_380 : decode c_L_law 380 = .ok (.iadd, 1) := by decide +kernel
theorem d_L_law_381 : decode c_L_law 381 = .ok (.iaload, 1) := by decide +kernel
theorem d_L_law_382 : decode c_L_law 382 = .ok (.invokevirtual 97, 3) := by decide +kernel
theorem d_L_law_385 : decode c_L_law 385 = .ok (.istore 6, 2) := by decide +kernel
theorem d_L_law_387 : decode c_L_law 387 = .ok (.aload_n 2, 1) := by decide +kernel
theorem d_L_law_388 : decode c_L_law 388 = .ok (.invokevirtual 80, 3) := by decide +kernel
theorem d_L_law_391 : decode c_L_law 391 = .ok (.iload 5, 2) := by decide +kernel
theorem d_L_law_393 : decode c_L_law 393 = .ok (.if_icmp .eq 5, 3) := by decide +kernel
theorem d_L_law_396 : decode c_L_law 396 = .ok (.iconst 0, 1) := by decide +kernel
theorem d_L_law_397 : decode c_L_law 397 = .ok (.ireturn, 1) := by decide +kernel
theorem d_L_law_398 : decode c_L_law 398 = .ok (.iload 5, 2) := by decide +kernel
theorem d_L_law_400 : decode c_L_law 400 = .ok (.ifCond .ne 15, 3) := by decide +kernel
theorem d_L_law_403 : decode c_L_law 403 = .ok (.aload_n 3, 1) := by decide +kernel
theorem d_L_law_404 : decode c_L_law 404 = .ok (.iconst 0, 1) := by decide +kernel
theorem d_L_law_405 : decode c_L_law 405 = .ok (.laload, 1) := by decide +kernel
theorem d_L_law_406 : decode c_L_law 406 = .ok (.iload 6, 2) := by decide +kernel
theorem d_L_law_408 : decode c_L_law 408 = .ok (.i2l, 1) := by decide +kernel
theorem d_L_law_409 : decode c_L_law 409 = .ok (.lcmp, 1) := by decide +kernel
theorem d_L_law_410 : decode c_L_law 410 = .ok (.ifCond .eq 5, 3) := by decide +kernel
theorem d_L_law_413 : decode c_L_law 413 = .ok (.iconst 0, 1) := by decide +kernel
theorem d_L_law_414 : decode c_L_law 414 = .ok (.ireturn, 1) := by decide +kernel
