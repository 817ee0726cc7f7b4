theorem lw_d_278 : decode code 278 = .ok (.iaload, 1) := by decide +kernel
theorem lw_d_279 : decode code 279 = .ok (.invokevirtual 43, 3) := by decide +kernel
theorem lw_d_282 : decode code 282 = .ok (.if_icmp .eq 110, 3) := by decide +kernel
theorem lw_d_285 : decode code 285 = .ok (.iconst 0, 1) := by decide +kernel
theorem lw_d_286 : decode code 286 = .ok (.ireturn, 1) := by decide +kernel
theorem lw_d_287 : decode code 287 = .ok (.aload_n 1, 1) := by decide +kernel
theorem lw_d_288 : decode code 288 = .ok (.aload_n 0, 1) := by decide +kernel
theorem lw_d_289 : decode code 289 = .ok (.iload_n 3, 1) := by decide +kernel
theorem lw_d_290 : decode code 290 = .ok (.iconst 1, 1) := by decide +kernel
theorem lw_d_291 : decode code 291 = .ok (.iadd, 1) := by decide +kernel
theorem lw_d_292 : decode code 292 = .ok (.iaload, 1) := by decide +kernel
theorem lw_d_293 : decode code 293 = .ok (.invokevirtual 44, 3) := by decide +kernel
theorem lw_d_296 : decode code 296 = .ok (.aload_n 2, 1) := by decide +kernel
theorem lw_d_297 : decode code 297 = .ok (.aload_n 0, 1) := by decide +kernel
theorem lw_d_298 : decode code 298 = .ok (.iload_n 3, 1) := by decide +kernel
theorem lw_d_299 : decode code 299 = .ok (.iconst 1, 1) := by decide +kernel
theorem lw_d_300 : decode code 300 = .ok (.iadd, 1) := by decide +kernel
theorem lw_d_301 : decode code 301 = .ok (.iaload, 1) := by decide +kernel
theorem lw_d_302 : decode code 302 = .ok (.invokevirtual 47, 3) := by decide +kernel
theorem lw_d_305 : decode code 305 = .ok (.if_icmp .eq 87, 3) := by decide +kernel
theorem lw_d_308 : decode code 308 = .ok (.iconst 0, 1) := by decide +kernel
theorem lw_d_309 : decode code 309 = .ok (.ireturn, 1) := by decide +kernel
theorem lw_d_310 : decode code 310 = .ok (.aload_n 1, 1) := by decide +kernel
theorem lw_d_311 : decode code 311 = .ok (.invokevirtual 48, 3) := by decide +kernel
theorem lw_d_314 : decode code 314 = .ok (.aload_n 2, 1) := by decide +kernel
theorem lw_d_315 : decode code 315 = .ok (.invokevirtual 52, 3) := by decide +kernel
theorem lw_d_318 : decode code 318 = .ok (.if_icmp .eq 74, 3) := by decide +kernel
theorem lw_d_321 : decode code 321 = .ok (.iconst 0, 1) := by decide +kernel
theorem lw_d_322 : decode code 322 = .ok (.ireturn, 1) := by decide +kernel
theorem lw_d_323 : decode code 323 = .ok (.aload_n 1, 1) := by decide +kernel
theorem lw_d_324 : decode code 324 = .ok (.aload_n 0, 1) := by decide +kernel
theorem lw_d_325 : decode code 325 = .ok (.iload_n 3, 1) := by decide +kernel
theorem lw_d_326 : decode code 326 = .ok (.iconst 1, 1) := by decide +kernel
theorem lw_d_327 : decode code 327 = .ok (.iadd, 1) := by decide +kernel
theorem lw_d_328 : decode code 328 = .ok (.iaload, 1) := by decide +kernel
theorem lw_d_329 : decode code 329 = .ok (.invokevirtual 53, 3) := by decide +kernel
theorem lw_d_332 : decode code 332 = .ok (.aload_n 2, 1) := by decide +kernel
theorem lw_d_333 : decode code 333 = .ok (.aload_n 0, 1) := by decide +kernel
theorem lw_d_334 : decode code 334 = .ok (.iload_n 3, 1) := by decide +kernel
theorem lw_d_335 : decode code 335 = .ok (.iconst 1, 1) := by decide +kernel
theorem lw_d_336 : decode code 336 = .ok (.iadd, 1) := by decide +kernel
theorem lw_d_337 : decode code 337 = .ok (.iaload, 1) := by decide +kernel
theorem lw_d_338 : decode code 338 = .ok (.invokevirtual 56, 3) := by decide +kernel
theorem lw_d_341 : decode code 341 = .ok (.if_icmp .eq 51, 3) := by decide +kernel
theorem lw_d_344 : decode code 344 = .ok (.iconst 0, 1) := by decide +kernel
theorem lw_d_345 : decode code 345 = .ok (.ireturn, 1) := by decide +kernel
theorem lw_d_346 : decode code 346 = .ok (.aload_n 1, 1) := by decide +kernel
theorem lw_d_347 : decode code 347 = .ok (.aload_n 0, 1) := by decide +kernel
theorem lw_d_348 : decode code 348 = .ok (.iload_n 3, 1) := by decide +kernel
theorem lw_d_349 : decode code 349 = .ok (.iconst 1, 1) := by decide +kernel
theorem lw_d_350 : decode code 350 = .ok (.iadd, 1) := by decide +kernel
theorem lw_d_351 : decode code 351 = .ok (.iaload, 1) := by decide +kernel
theorem lw_d_352 : decode code 352 = .ok (.invokevirtual 57, 3) := by decide +kernel
theorem lw_d_355 : decode code 355 = .ok (.aload_n 2, 1) := by decide +kernel
theorem lw_d_356 : decode code 356 = .ok (.aload_n 0, 1) := by decide +kernel
theorem lw_d_357 : decode code 357 = .ok (.iload_n 3, 1) := by decide +kernel
theorem lw_d_358 : decode code 358 = .ok (.iconst 1, 1) := by decide +kernel
theorem lw_d_359 : decode code 359 = .ok (.iadd, 1) := by decide +kernel
theorem lw_d_360 : decode code 360 = .ok (.iaload, 1) := by decide +kernel
theorem lw_d_361 : decode code 361 = .ok (.invokevirtual 60, 3) := by decide +kernel
theorem lw_d_364 : decode code 364 = .ok (.if_icmp .eq 28, 3) := by decide +kernel
theorem lw_d_367 : decode code 367 = .ok (.iconst 0, 1) := by decide +kernel
theorem lw_d_368 : decode code 368 = .ok (.ireturn, 1) := by decide +kernel
theorem lw_d_369 : decode code 369 = .ok (.aload_n 1, 1) := by decide +kernel
theorem lw_d_370 : decode code 370 = .ok (.aload_n 0, 1) := by decide +kernel
theorem lw_d_371 : decode code 371 = .ok (.iload_n 3, 1) := by decide +kernel
theorem lw_d_372 : decode code 372 = .ok (.iconst 1, 1) := by decide +kernel
theorem lw_d_373 : decode code 373 = .ok (.iadd, 1) := by decide +kernel
theorem lw_d_374 : decode code 374 = .ok (.iaload, 1) := by decide +kernel
theorem lw_d_375 : decode code 375 = .ok (.invokevirtual 61, 3) := by decide +kernel
theorem lw_d_378 : decode code 378 = .ok (.aload_n 2, 1) := by decide +kernel
theorem lw_d_379 : decode code 379 = .ok (.aload_n 0, 1) := by decide +kernel
theorem lw_d_380 : decode code 380 = .ok (.iload_n 3, 1) := by decide +kernel
theorem lw_d_381 : decode code 381 = .ok (.iconst 1, 1) := by decide +kernel
theorem lw_d_382 : decode code 382 = .ok (.iadd, 1) := by decide +kernel
theorem lw_d_383 : decode code 383 = .ok (.iaload, 1) := by decide +kernel
theorem lw_d_384 : decode code 384 = .ok (.invokevirtual 64, 3) := by decide +kernel
theorem lw_d_387 : decode code 387 = .ok (.if_icmp .eq 5, 3) := by decide +kernel
theorem lw_d_390 : decode code 390 = .ok (.iconst 0, 1) := by decide +kernel
theorem lw_d_391 : decode code 391 = .ok (.ireturn, 1) := by decide +kernel
theorem lw_d_392 : decode code 392 = .ok (.iinc 3 3, 3) := by decide +kernel
theorem lw_d_395 : decode code 395 = .ok (.goto (-377), 3) := by decide +kernel
theorem lw_d_398 : decode code 398 = .ok (.iconst 1, 1) := by decide +kernel
theorem lw_d_399 : decode code 399 = .ok (.ireturn, 1) := by decide +kernel
