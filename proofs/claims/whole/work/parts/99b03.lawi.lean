/-! ===== the law's instructions 3 ===== -/
def jl_i3 : List (Option (Instr × Nat)) := [some (.iload_n 3, 1), some (.iconst 1, 1), some (.iadd, 1), some (.iaload, 1), some (.invokevirtual 36, 3), none, none, some (.aload_n 2, 1), some (.aload_n 0, 1), some (.iload_n 3, 1), some (.iconst 1, 1), some (.iadd, 1), some (.iaload, 1), some (.invokevirtual 39, 3), none, none, some (.if_icmp .eq 1001, 3), none, none, some (.iconst 0, 1), some (.ireturn, 1), some (.aload_n 1, 1), some (.aload_n 0, 1), some (.iload_n 3, 1), some (.iconst 1, 1), some (.iadd, 1), some (.iaload, 1), some (.invokevirtual 40, 3), none, none, some (.aload_n 2, 1), some (.aload_n 0, 1), some (.iload_n 3, 1), some (.iconst 1, 1), some (.iadd, 1), some (.iaload, 1), some (.invokevirtual 43, 3), none, none, some (.if_icmp .eq 978, 3), none, none, some (.iconst 0, 1), some (.ireturn, 1), some (.aload_n 1, 1), some (.aload_n 0, 1), some (.iload_n 3, 1), some (.iconst 1, 1), some (.iadd, 1), some (.iaload, 1), some (.invokevirtual 44, 3), none, none, some (.aload_n 2, 1), some (.aload_n 0, 1), some (.iload_n 3, 1), some (.iconst 1, 1), some (.iadd, 1), some (.iaload, 1), some (.invokevirtual 48, 3), none, none, some (.lcmp, 1), some (.ifCond .eq 954, 3), none, none, some (.iconst 0, 1), some (.ireturn, 1)]
theorem jl_iok3 : ji_dchk code jl_i3 342 = true := by decide +kernel
theorem jl_d_342 : decode code 342 = .ok (.iload_n 3, 1) := ji_dchk_at jl_i3 342 0 jl_iok3 rfl
theorem jl_d_343 : decode code 343 = .ok (.iconst 1, 1) := ji_dchk_at jl_i3 342 1 jl_iok3 rfl
theorem jl_d_344 : decode code 344 = .ok (.iadd, 1) := ji_dchk_at jl_i3 342 2 jl_iok3 rfl
theorem jl_d_345 : decode code 345 = .ok (.iaload, 1) := ji_dchk_at jl_i3 342 3 jl_iok3 rfl
theorem jl_d_346 : decode code 346 = .ok (.invokevirtual 36, 3) := ji_dchk_at jl_i3 342 4 jl_iok3 rfl
theorem jl_d_349 : decode code 349 = .ok (.aload_n 2, 1) := ji_dchk_at jl_i3 342 7 jl_iok3 rfl
theorem jl_d_350 : decode code 350 = .ok (.aload_n 0, 1) := ji_dchk_at jl_i3 342 8 jl_iok3 rfl
theorem jl_d_351 : decode code 351 = .ok (.iload_n 3, 1) := ji_dchk_at jl_i3 342 9 jl_iok3 rfl
theorem jl_d_352 : decode code 352 = .ok (.iconst 1, 1) := ji_dchk_at jl_i3 342 10 jl_iok3 rfl
theorem jl_d_353 : decode code 353 = .ok (.iadd, 1) := ji_dchk_at jl_i3 342 11 jl_iok3 rfl
theorem jl_d_354 : decode code 354 = .ok (.iaload, 1) := ji_dchk_at jl_i3 342 12 jl_iok3 rfl
theorem jl_d_355 : decode code 355 = .ok (.invokevirtual 39, 3) := ji_dchk_at jl_i3 342 13 jl_iok3 rfl
theorem jl_d_358 : decode code 358 = .ok (.if_icmp .eq 1001, 3) := ji_dchk_at jl_i3 342 16 jl_iok3 rfl
theorem jl_d_361 : decode code 361 = .ok (.iconst 0, 1) := ji_dchk_at jl_i3 342 19 jl_iok3 rfl
theorem jl_d_362 : decode code 362 = .ok (.ireturn, 1) := ji_dchk_at jl_i3 342 20 jl_iok3 rfl
theorem jl_d_363 : decode code 363 = .ok (.aload_n 1, 1) := ji_dchk_at jl_i3 342 21 jl_iok3 rfl
theorem jl_d_364 : decode code 364 = .ok (.aload_n 0, 1) := ji_dchk_at jl_i3 342 22 jl_iok3 rfl
theorem jl_d_365 : decode code 365 = .ok (.iload_n 3, 1) := ji_dchk_at jl_i3 342 23 jl_iok3 rfl
theorem jl_d_366 : decode code 366 = .ok (.iconst 1, 1) := ji_dchk_at jl_i3 342 24 jl_iok3 rfl
theorem jl_d_367 : decode code 367 = .ok (.iadd, 1) := ji_dchk_at jl_i3 342 25 jl_iok3 rfl
theorem jl_d_368 : decode code 368 = .ok (.iaload, 1) := ji_dchk_at jl_i3 342 26 jl_iok3 rfl
theorem jl_d_369 : decode code 369 = .ok (.invokevirtual 40, 3) := ji_dchk_at jl_i3 342 27 jl_iok3 rfl
theorem jl_d_372 : decode code 372 = .ok (.aload_n 2, 1) := ji_dchk_at jl_i3 342 30 jl_iok3 rfl
theorem jl_d_373 : decode code 373 = .ok (.aload_n 0, 1) := ji_dchk_at jl_i3 342 31 jl_iok3 rfl
theorem jl_d_374 : decode code 374 = .ok (.iload_n 3, 1) := ji_dchk_at jl_i3 342 32 jl_iok3 rfl
theorem jl_d_375 : decode code 375 = .ok (.iconst 1, 1) := ji_dchk_at jl_i3 342 33 jl_iok3 rfl
theorem jl_d_376 : decode code 376 = .ok (.iadd, 1) := ji_dchk_at jl_i3 342 34 jl_iok3 rfl
theorem jl_d_377 : decode code 377 = .ok (.iaload, 1) := ji_dchk_at jl_i3 342 35 jl_iok3 rfl
theorem jl_d_378 : decode code 378 = .ok (.invokevirtual 43, 3) := ji_dchk_at jl_i3 342 36 jl_iok3 rfl
theorem jl_d_381 : decode code 381 = .ok (.if_icmp .eq 978, 3) := ji_dchk_at jl_i3 342 39 jl_iok3 rfl
theorem jl_d_384 : decode code 384 = .ok (.iconst 0, 1) := ji_dchk_at jl_i3 342 42 jl_iok3 rfl
theorem jl_d_385 : decode code 385 = .ok (.ireturn, 1) := ji_dchk_at jl_i3 342 43 jl_iok3 rfl
theorem jl_d_386 : decode code 386 = .ok (.aload_n 1, 1) := ji_dchk_at jl_i3 342 44 jl_iok3 rfl
theorem jl_d_387 : decode code 387 = .ok (.aload_n 0, 1) := ji_dchk_at jl_i3 342 45 jl_iok3 rfl
theorem jl_d_388 : decode code 388 = .ok (.iload_n 3, 1) := ji_dchk_at jl_i3 342 46 jl_iok3 rfl
theorem jl_d_389 : decode code 389 = .ok (.iconst 1, 1) := ji_dchk_at jl_i3 342 47 jl_iok3 rfl
theorem jl_d_390 : decode code 390 = .ok (.iadd, 1) := ji_dchk_at jl_i3 342 48 jl_iok3 rfl
theorem jl_d_391 : decode code 391 = .ok (.iaload, 1) := ji_dchk_at jl_i3 342 49 jl_iok3 rfl
theorem jl_d_392 : decode code 392 = .ok (.invokevirtual 44, 3) := ji_dchk_at jl_i3 342 50 jl_iok3 rfl
theorem jl_d_395 : decode code 395 = .ok (.aload_n 2, 1) := ji_dchk_at jl_i3 342 53 jl_iok3 rfl
theorem jl_d_396 : decode code 396 = .ok (.aload_n 0, 1) := ji_dchk_at jl_i3 342 54 jl_iok3 rfl
theorem jl_d_397 : decode code 397 = .ok (.iload_n 3, 1) := ji_dchk_at jl_i3 342 55 jl_iok3 rfl
theorem jl_d_398 : decode code 398 = .ok (.iconst 1, 1) := ji_dchk_at jl_i3 342 56 jl_iok3 rfl
theorem jl_d_399 : decode code 399 = .ok (.iadd, 1) := ji_dchk_at jl_i3 342 57 jl_iok3 rfl
theorem jl_d_400 : decode code 400 = .ok (.iaload, 1) := ji_dchk_at jl_i3 342 58 jl_iok3 rfl
theorem jl_d_401 : decode code 401 = .ok (.invokevirtual 48, 3) := ji_dchk_at jl_i3 342 59 jl_iok3 rfl
theorem jl_d_404 : decode code 404 = .ok (.lcmp, 1) := ji_dchk_at jl_i3 342 62 jl_iok3 rfl
theorem jl_d_405 : decode code 405 = .ok (.ifCond .eq 954, 3) := ji_dchk_at jl_i3 342 63 jl_iok3 rfl
theorem jl_d_408 : decode code 408 = .ok (.iconst 0, 1) := ji_dchk_at jl_i3 342 66 jl_iok3 rfl
theorem jl_d_409 : decode code 409 = .ok (.ireturn, 1) := ji_dchk_at jl_i3 342 67 jl_iok3 rfl
