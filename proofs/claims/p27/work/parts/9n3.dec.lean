section DecB3
theorem dL_begins_325 : decode cL_begins 325 = .ok (.iload 4, 2) := by decide +kernel
theorem dL_begins_327 : decode cL_begins 327 = .ok (.if_icmp .ge 97, 3) := by decide +kernel
theorem dL_begins_330 : decode cL_begins 330 = .ok (.iconst 5, 1) := by decide +kernel
theorem dL_begins_331 : decode cL_begins 331 = .ok (.newarray .int, 2) := by decide +kernel
theorem dL_begins_333 : decode cL_begins 333 = .ok (.astore 6, 2) := by decide +kernel
theorem dL_begins_335 : decode cL_begins 335 = .ok (.iconst 0, 1) := by decide +kernel
theorem dL_begins_336 : decode cL_begins 336 = .ok (.istore 7, 2) := by decide +kernel
theorem dL_begins_338 : decode cL_begins 338 = .ok (.iload 7, 2) := by decide +kernel
theorem dL_begins_340 : decode cL_begins 340 = .ok (.bipush 20, 2) := by decide +kernel
theorem dL_begins_342 : decode cL_begins 342 = .ok (.if_icmp .ge 51, 3) := by decide +kernel
theorem dL_begins_345 : decode cL_begins 345 = .ok (.aload 6, 2) := by decide +kernel
theorem dL_begins_347 : decode cL_begins 347 = .ok (.iload 7, 2) := by decide +kernel
theorem dL_begins_349 : decode cL_begins 349 = .ok (.iconst 4, 1) := by decide +kernel
theorem dL_begins_350 : decode cL_begins 350 = .ok (.idiv, 1) := by decide +kernel
theorem dL_begins_351 : decode cL_begins 351 = .ok (.aload 6, 2) := by decide +kernel
theorem dL_begins_353 : decode cL_begins 353 = .ok (.iload 7, 2) := by decide +kernel
theorem dL_begins_355 : decode cL_begins 355 = .ok (.iconst 4, 1) := by decide +kernel
theorem dL_begins_356 : decode cL_begins 356 = .ok (.idiv, 1) := by decide +kernel
theorem dL_begins_357 : decode cL_begins 357 = .ok (.iaload, 1) := by decide +kernel
theorem dL_begins_358 : decode cL_begins 358 = .ok (.bipush 8, 2) := by decide +kernel
theorem dL_begins_360 : decode cL_begins 360 = .ok (.ishl, 1) := by decide +kernel
theorem dL_begins_361 : decode cL_begins 361 = .ok (.iload 5, 2) := by decide +kernel
theorem dL_begins_363 : decode cL_begins 363 = .ok (.iload 7, 2) := by decide +kernel
theorem dL_begins_365 : decode cL_begins 365 = .ok (.iadd, 1) := by decide +kernel
theorem dL_begins_366 : decode cL_begins 366 = .ok (.iload 4, 2) := by decide +kernel
theorem dL_begins_368 : decode cL_begins 368 = .ok (.if_icmp .ge 15, 3) := by decide +kernel
theorem dL_begins_371 : decode cL_begins 371 = .ok (.aload_n 2, 1) := by decide +kernel
theorem dL_begins_372 : decode cL_begins 372 = .ok (.iload 5, 2) := by decide +kernel
theorem dL_begins_374 : decode cL_begins 374 = .ok (.iload 7, 2) := by decide +kernel
theorem dL_begins_376 : decode cL_begins 376 = .ok (.iadd, 1) := by decide +kernel
theorem dL_begins_377 : decode cL_begins 377 = .ok (.invokevirtual 47, 3) := by decide +kernel
theorem dL_begins_380 : decode cL_begins 380 = .ok (.goto 5, 3) := by decide +kernel
theorem dL_begins_383 : decode cL_begins 383 = .ok (.bipush 32, 2) := by decide +kernel
theorem dL_begins_385 : decode cL_begins 385 = .ok (.ior, 1) := by decide +kernel
theorem dL_begins_386 : decode cL_begins 386 = .ok (.iastore, 1) := by decide +kernel
theorem dL_begins_387 : decode cL_begins 387 = .ok (.iinc 7 1, 3) := by decide +kernel
theorem dL_begins_390 : decode cL_begins 390 = .ok (.goto (-52), 3) := by decide +kernel
theorem dL_begins_393 : decode cL_begins 393 = .ok (.aload_n 0, 1) := by decide +kernel
theorem dL_begins_394 : decode cL_begins 394 = .ok (.aload 6, 2) := by decide +kernel
theorem dL_begins_396 : decode cL_begins 396 = .ok (.iconst 0, 1) := by decide +kernel
theorem dL_begins_397 : decode cL_begins 397 = .ok (.iaload, 1) := by decide +kernel
theorem dL_begins_398 : decode cL_begins 398 = .ok (.aload 6, 2) := by decide +kernel
theorem dL_begins_400 : decode cL_begins 400 = .ok (.iconst 1, 1) := by decide +kernel
theorem dL_begins_401 : decode cL_begins 401 = .ok (.iaload, 1) := by decide +kernel
theorem dL_begins_402 : decode cL_begins 402 = .ok (.aload 6, 2) := by decide +kernel
theorem dL_begins_404 : decode cL_begins 404 = .ok (.iconst 2, 1) := by decide +kernel
theorem dL_begins_405 : decode cL_begins 405 = .ok (.iaload, 1) := by decide +kernel
theorem dL_begins_406 : decode cL_begins 406 = .ok (.aload 6, 2) := by decide +kernel
theorem dL_begins_408 : decode cL_begins 408 = .ok (.iconst 3, 1) := by decide +kernel
theorem dL_begins_409 : decode cL_begins 409 = .ok (.iaload, 1) := by decide +kernel
theorem dL_begins_410 : decode cL_begins 410 = .ok (.aload 6, 2) := by decide +kernel
theorem dL_begins_412 : decode cL_begins 412 = .ok (.iconst 4, 1) := by decide +kernel
theorem dL_begins_413 : decode cL_begins 413 = .ok (.iaload, 1) := by decide +kernel
theorem dL_begins_414 : decode cL_begins 414 = .ok (.invokevirtual 51, 3) := by decide +kernel
theorem dL_begins_417 : decode cL_begins 417 = .ok (.pop, 1) := by decide +kernel
theorem dL_begins_418 : decode cL_begins 418 = .ok (.iinc 5 20, 3) := by decide +kernel
theorem dL_begins_421 : decode cL_begins 421 = .ok (.goto (-98), 3) := by decide +kernel
theorem dL_begins_424 : decode cL_begins 424 = .ok (.aload_n 0, 1) := by decide +kernel
theorem dL_begins_425 : decode cL_begins 425 = .ok (.iload 4, 2) := by decide +kernel
theorem dL_begins_427 : decode cL_begins 427 = .ok (.invokevirtual 56, 3) := by decide +kernel
end DecB3
