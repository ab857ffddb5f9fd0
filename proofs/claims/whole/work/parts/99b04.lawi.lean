/-! ===== the law's instructions 4 ===== -/
def jl_i4 : List (Option (Instr × Nat)) := [some (.aload_n 1, 1), some (.aload_n 0, 1), some (.iload_n 3, 1), some (.iconst 1, 1), some (.iadd, 1), some (.iaload, 1), some (.aload_n 0, 1), some (.iload_n 3, 1), some (.iconst 2, 1), some (.iadd, 1), some (.iaload, 1), some (.i2l, 1), some (.bipush 32, 2), none, some (.lshl, 1), some (.aload_n 0, 1), some (.iload_n 3, 1), some (.iconst 3, 1), some (.iadd, 1), some (.iaload, 1), some (.i2l, 1), some (.ldc2_w 49, 3), none, none, some (.land, 1), some (.lor, 1), some (.invokevirtual 51, 3), none, none, some (.aload_n 2, 1), some (.aload_n 0, 1), some (.iload_n 3, 1), some (.iconst 1, 1), some (.iadd, 1), some (.iaload, 1), some (.aload_n 0, 1), some (.iload_n 3, 1), some (.iconst 2, 1), some (.iadd, 1), some (.iaload, 1), some (.i2l, 1), some (.bipush 32, 2), none, some (.lshl, 1), some (.aload_n 0, 1), some (.iload_n 3, 1), some (.iconst 3, 1), some (.iadd, 1), some (.iaload, 1), some (.i2l, 1), some (.ldc2_w 49, 3), none, none, some (.land, 1), some (.lor, 1), some (.invokevirtual 55, 3), none, none, some (.if_icmp .eq 891, 3), none, none, some (.iconst 0, 1)]
theorem jl_iok4 : ji_dchk code jl_i4 410 = true := by decide +kernel
theorem jl_d_410 : decode code 410 = .ok (.aload_n 1, 1) := ji_dchk_at jl_i4 410 0 jl_iok4 rfl
theorem jl_d_411 : decode code 411 = .ok (.aload_n 0, 1) := ji_dchk_at jl_i4 410 1 jl_iok4 rfl
theorem jl_d_412 : decode code 412 = .ok (.iload_n 3, 1) := ji_dchk_at jl_i4 410 2 jl_iok4 rfl
theorem jl_d_413 : decode code 413 = .ok (.iconst 1, 1) := ji_dchk_at jl_i4 410 3 jl_iok4 rfl
theorem jl_d_414 : decode code 414 = .ok (.iadd, 1) := ji_dchk_at jl_i4 410 4 jl_iok4 rfl
theorem jl_d_415 : decode code 415 = .ok (.iaload, 1) := ji_dchk_at jl_i4 410 5 jl_iok4 rfl
theorem jl_d_416 : decode code 416 = .ok (.aload_n 0, 1) := ji_dchk_at jl_i4 410 6 jl_iok4 rfl
theorem jl_d_417 : decode code 417 = .ok (.iload_n 3, 1) := ji_dchk_at jl_i4 410 7 jl_iok4 rfl
theorem jl_d_418 : decode code 418 = .ok (.iconst 2, 1) := ji_dchk_at jl_i4 410 8 jl_iok4 rfl
theorem jl_d_419 : decode code 419 = .ok (.iadd, 1) := ji_dchk_at jl_i4 410 9 jl_iok4 rfl
theorem jl_d_420 : decode code 420 = .ok (.iaload, 1) := ji_dchk_at jl_i4 410 10 jl_iok4 rfl
theorem jl_d_421 : decode code 421 = .ok (.i2l, 1) := ji_dchk_at jl_i4 410 11 jl_iok4 rfl
theorem jl_d_422 : decode code 422 = .ok (.bipush 32, 2) := ji_dchk_at jl_i4 410 12 jl_iok4 rfl
theorem jl_d_424 : decode code 424 = .ok (.lshl, 1) := ji_dchk_at jl_i4 410 14 jl_iok4 rfl
theorem jl_d_425 : decode code 425 = .ok (.aload_n 0, 1) := ji_dchk_at jl_i4 410 15 jl_iok4 rfl
theorem jl_d_426 : decode code 426 = .ok (.iload_n 3, 1) := ji_dchk_at jl_i4 410 16 jl_iok4 rfl
theorem jl_d_427 : decode code 427 = .ok (.iconst 3, 1) := ji_dchk_at jl_i4 410 17 jl_iok4 rfl
theorem jl_d_428 : decode code 428 = .ok (.iadd, 1) := ji_dchk_at jl_i4 410 18 jl_iok4 rfl
theorem jl_d_429 : decode code 429 = .ok (.iaload, 1) := ji_dchk_at jl_i4 410 19 jl_iok4 rfl
theorem jl_d_430 : decode code 430 = .ok (.i2l, 1) := ji_dchk_at jl_i4 410 20 jl_iok4 rfl
theorem jl_d_431 : decode code 431 = .ok (.ldc2_w 49, 3) := ji_dchk_at jl_i4 410 21 jl_iok4 rfl
theorem jl_d_434 : decode code 434 = .ok (.land, 1) := ji_dchk_at jl_i4 410 24 jl_iok4 rfl
theorem jl_d_435 : decode code 435 = .ok (.lor, 1) := ji_dchk_at jl_i4 410 25 jl_iok4 rfl
theorem jl_d_436 : decode code 436 = .ok (.invokevirtual 51, 3) := ji_dchk_at jl_i4 410 26 jl_iok4 rfl
theorem jl_d_439 : decode code 439 = .ok (.aload_n 2, 1) := ji_dchk_at jl_i4 410 29 jl_iok4 rfl
theorem jl_d_440 : decode code 440 = .ok (.aload_n 0, 1) := ji_dchk_at jl_i4 410 30 jl_iok4 rfl
theorem jl_d_441 : decode code 441 = .ok (.iload_n 3, 1) := ji_dchk_at jl_i4 410 31 jl_iok4 rfl
theorem jl_d_442 : decode code 442 = .ok (.iconst 1, 1) := ji_dchk_at jl_i4 410 32 jl_iok4 rfl
theorem jl_d_443 : decode code 443 = .ok (.iadd, 1) := ji_dchk_at jl_i4 410 33 jl_iok4 rfl
theorem jl_d_444 : decode code 444 = .ok (.iaload, 1) := ji_dchk_at jl_i4 410 34 jl_iok4 rfl
theorem jl_d_445 : decode code 445 = .ok (.aload_n 0, 1) := ji_dchk_at jl_i4 410 35 jl_iok4 rfl
theorem jl_d_446 : decode code 446 = .ok (.iload_n 3, 1) := ji_dchk_at jl_i4 410 36 jl_iok4 rfl
theorem jl_d_447 : decode code 447 = .ok (.iconst 2, 1) := ji_dchk_at jl_i4 410 37 jl_iok4 rfl
theorem jl_d_448 : decode code 448 = .ok (.iadd, 1) := ji_dchk_at jl_i4 410 38 jl_iok4 rfl
theorem jl_d_449 : decode code 449 = .ok (.iaload, 1) := ji_dchk_at jl_i4 410 39 jl_iok4 rfl
theorem jl_d_450 : decode code 450 = .ok (.i2l, 1) := ji_dchk_at jl_i4 410 40 jl_iok4 rfl
theorem jl_d_451 : decode code 451 = .ok (.bipush 32, 2) := ji_dchk_at jl_i4 410 41 jl_iok4 rfl
theorem jl_d_453 : decode code 453 = .ok (.lshl, 1) := ji_dchk_at jl_i4 410 43 jl_iok4 rfl
theorem jl_d_454 : decode code 454 = .ok (.aload_n 0, 1) := ji_dchk_at jl_i4 410 44 jl_iok4 rfl
theorem jl_d_455 : decode code 455 = .ok (.iload_n 3, 1) := ji_dchk_at jl_i4 410 45 jl_iok4 rfl
theorem jl_d_456 : decode code 456 = .ok (.iconst 3, 1) := ji_dchk_at jl_i4 410 46 jl_iok4 rfl
theorem jl_d_457 : decode code 457 = .ok (.iadd, 1) := ji_dchk_at jl_i4 410 47 jl_iok4 rfl
theorem jl_d_458 : decode code 458 = .ok (.iaload, 1) := ji_dchk_at jl_i4 410 48 jl_iok4 rfl
theorem jl_d_459 : decode code 459 = .ok (.i2l, 1) := ji_dchk_at jl_i4 410 49 jl_iok4 rfl
theorem jl_d_460 : decode code 460 = .ok (.ldc2_w 49, 3) := ji_dchk_at jl_i4 410 50 jl_iok4 rfl
theorem jl_d_463 : decode code 463 = .ok (.land, 1) := ji_dchk_at jl_i4 410 53 jl_iok4 rfl
theorem jl_d_464 : decode code 464 = .ok (.lor, 1) := ji_dchk_at jl_i4 410 54 jl_iok4 rfl
theorem jl_d_465 : decode code 465 = .ok (.invokevirtual 55, 3) := ji_dchk_at jl_i4 410 55 jl_iok4 rfl
theorem jl_d_468 : decode code 468 = .ok (.if_icmp .eq 891, 3) := ji_dchk_at jl_i4 410 58 jl_iok4 rfl
theorem jl_d_471 : decode code 471 = .ok (.iconst 0, 1) := ji_dchk_at jl_i4 410 61 jl_iok4 rfl
