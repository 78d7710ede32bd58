theorem d_LAW_law_304 : decode mi_LAW_law.2.1 304 = .ok (.iload_n 3, 1) := by decide +kernel
theorem d_LAW_law_305 : decode mi_LAW_law.2.1 305 = .ok (.iconst 2, 1) := by decide +kernel
theorem d_LAW_law_306 : decode mi_LAW_law.2.1 306 = .ok (.iadd, 1) := by decide +kernel
theorem d_LAW_law_307 : decode mi_LAW_law.2.1 307 = .ok (.iaload, 1) := by decide +kernel
theorem d_LAW_law_308 : decode mi_LAW_law.2.1 308 = .ok (.invokevirtual 44, 3) := by decide +kernel
theorem d_LAW_law_311 : decode mi_LAW_law.2.1 311 = .ok (.aload_n 2, 1) := by decide +kernel
theorem d_LAW_law_312 : decode mi_LAW_law.2.1 312 = .ok (.aload_n 0, 1) := by decide +kernel
theorem d_LAW_law_313 : decode mi_LAW_law.2.1 313 = .ok (.iload_n 3, 1) := by decide +kernel
theorem d_LAW_law_314 : decode mi_LAW_law.2.1 314 = .ok (.iconst 1, 1) := by decide +kernel
theorem d_LAW_law_315 : decode mi_LAW_law.2.1 315 = .ok (.iadd, 1) := by decide +kernel
theorem d_LAW_law_316 : decode mi_LAW_law.2.1 316 = .ok (.iaload, 1) := by decide +kernel
theorem d_LAW_law_317 : decode mi_LAW_law.2.1 317 = .ok (.aload_n 0, 1) := by decide +kernel
theorem d_LAW_law_318 : decode mi_LAW_law.2.1 318 = .ok (.iload_n 3, 1) := by decide +kernel
theorem d_LAW_law_319 : decode mi_LAW_law.2.1 319 = .ok (.iconst 2, 1) := by decide +kernel
theorem d_LAW_law_320 : decode mi_LAW_law.2.1 320 = .ok (.iadd, 1) := by decide +kernel
theorem d_LAW_law_321 : decode mi_LAW_law.2.1 321 = .ok (.iaload, 1) := by decide +kernel
theorem d_LAW_law_322 : decode mi_LAW_law.2.1 322 = .ok (.invokevirtual 47, 3) := by decide +kernel
theorem d_LAW_law_325 : decode mi_LAW_law.2.1 325 = .ok (.if_icmp .eq (450), 3) := by decide +kernel
theorem d_LAW_law_328 : decode mi_LAW_law.2.1 328 = .ok (.iconst 0, 1) := by decide +kernel
theorem d_LAW_law_329 : decode mi_LAW_law.2.1 329 = .ok (.ireturn, 1) := by decide +kernel
theorem d_LAW_law_330 : decode mi_LAW_law.2.1 330 = .ok (.aload_n 1, 1) := by decide +kernel
theorem d_LAW_law_331 : decode mi_LAW_law.2.1 331 = .ok (.aload_n 0, 1) := by decide +kernel
theorem d_LAW_law_332 : decode mi_LAW_law.2.1 332 = .ok (.iload_n 3, 1) := by decide +kernel
theorem d_LAW_law_333 : decode mi_LAW_law.2.1 333 = .ok (.iconst 1, 1) := by decide +kernel
theorem d_LAW_law_334 : decode mi_LAW_law.2.1 334 = .ok (.iadd, 1) := by decide +kernel
theorem d_LAW_law_335 : decode mi_LAW_law.2.1 335 = .ok (.iaload, 1) := by decide +kernel
theorem d_LAW_law_336 : decode mi_LAW_law.2.1 336 = .ok (.aload_n 0, 1) := by decide +kernel
theorem d_LAW_law_337 : decode mi_LAW_law.2.1 337 = .ok (.iload_n 3, 1) := by decide +kernel
theorem d_LAW_law_338 : decode mi_LAW_law.2.1 338 = .ok (.iconst 2, 1) := by decide +kernel
theorem d_LAW_law_339 : decode mi_LAW_law.2.1 339 = .ok (.iadd, 1) := by decide +kernel
theorem d_LAW_law_340 : decode mi_LAW_law.2.1 340 = .ok (.iaload, 1) := by decide +kernel
theorem d_LAW_law_341 : decode mi_LAW_law.2.1 341 = .ok (.aload_n 0, 1) := by decide +kernel
theorem d_LAW_law_342 : decode mi_LAW_law.2.1 342 = .ok (.iload_n 3, 1) := by decide +kernel
theorem d_LAW_law_343 : decode mi_LAW_law.2.1 343 = .ok (.iconst 3, 1) := by decide +kernel
theorem d_LAW_law_344 : decode mi_LAW_law.2.1 344 = .ok (.iadd, 1) := by decide +kernel
theorem d_LAW_law_345 : decode mi_LAW_law.2.1 345 = .ok (.iaload, 1) := by decide +kernel
theorem d_LAW_law_346 : decode mi_LAW_law.2.1 346 = .ok (.invokevirtual 48, 3) := by decide +kernel
theorem d_LAW_law_349 : decode mi_LAW_law.2.1 349 = .ok (.aload_n 2, 1) := by decide +kernel
theorem d_LAW_law_350 : decode mi_LAW_law.2.1 350 = .ok (.aload_n 0, 1) := by decide +kernel
theorem d_LAW_law_351 : decode mi_LAW_law.2.1 351 = .ok (.iload_n 3, 1) := by decide +kernel
theorem d_LAW_law_352 : decode mi_LAW_law.2.1 352 = .ok (.iconst 1, 1) := by decide +kernel
theorem d_LAW_law_353 : decode mi_LAW_law.2.1 353 = .ok (.iadd, 1) := by decide +kernel
theorem d_LAW_law_354 : decode mi_LAW_law.2.1 354 = .ok (.iaload, 1) := by decide +kernel
theorem d_LAW_law_355 : decode mi_LAW_law.2.1 355 = .ok (.aload_n 0, 1) := by decide +kernel
theorem d_LAW_law_356 : decode mi_LAW_law.2.1 356 = .ok (.iload_n 3, 1) := by decide +kernel
theorem d_LAW_law_357 : decode mi_LAW_law.2.1 357 = .ok (.iconst 2, 1) := by decide +kernel
theorem d_LAW_law_358 : decode mi_LAW_law.2.1 358 = .ok (.iadd, 1) := by decide +kernel
theorem d_LAW_law_359 : decode mi_LAW_law.2.1 359 = .ok (.iaload, 1) := by decide +kernel
theorem d_LAW_law_360 : decode mi_LAW_law.2.1 360 = .ok (.aload_n 0, 1) := by decide +kernel
theorem d_LAW_law_361 : decode mi_LAW_law.2.1 361 = .ok (.iload_n 3, 1) := by decide +kernel
theorem d_LAW_law_362 : decode mi_LAW_law.2.1 362 = .ok (.iconst 3, 1) := by decide +kernel
theorem d_LAW_law_363 : decode mi_LAW_law.2.1 363 = .ok (.iadd, 1) := by decide +kernel
theorem d_LAW_law_364 : decode mi_LAW_law.2.1 364 = .ok (.iaload, 1) := by decide +kernel
theorem d_LAW_law_365 : decode mi_LAW_law.2.1 365 = .ok (.invokevirtual 51, 3) := by decide +kernel
theorem d_LAW_law_368 : decode mi_LAW_law.2.1 368 = .ok (.if_icmp .eq (407), 3) := by decide +kernel
theorem d_LAW_law_371 : decode mi_LAW_law.2.1 371 = .ok (.iconst 0, 1) := by decide +kernel
theorem d_LAW_law_372 : decode mi_LAW_law.2.1 372 = .ok (.ireturn, 1) := by decide +kernel
theorem d_LAW_law_373 : decode mi_LAW_law.2.1 373 = .ok (.aload_n 1, 1) := by decide +kernel
theorem d_LAW_law_374 : decode mi_LAW_law.2.1 374 = .ok (.aload_n 0, 1) := by decide +kernel
theorem d_LAW_law_375 : decode mi_LAW_law.2.1 375 = .ok (.iload_n 3, 1) := by decide +kernel
