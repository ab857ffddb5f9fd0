/-! ===== the law's instructions 5 ===== -/
def jl_i5 : List (Option (Instr × Nat)) := [some (.ireturn, 1), some (.aload_n 1, 1), some (.invokevirtual 56, 3), none, none, some (.aload_n 2, 1), some (.invokevirtual 60, 3), none, none, some (.if_icmp .eq 878, 3), none, none, some (.iconst 0, 1), some (.ireturn, 1), some (.aload_n 1, 1), some (.aload_n 0, 1), some (.iload_n 3, 1), some (.iconst 1, 1), some (.iadd, 1), some (.iaload, 1), some (.invokevirtual 61, 3), none, none, some (.aload_n 2, 1), some (.aload_n 0, 1), some (.iload_n 3, 1), some (.iconst 1, 1), some (.iadd, 1), some (.iaload, 1), some (.invokevirtual 64, 3), none, none, some (.if_icmp .eq 855, 3), none, none, some (.iconst 0, 1), some (.ireturn, 1), some (.aload_n 1, 1), some (.aload_n 0, 1), some (.iload_n 3, 1), some (.iconst 1, 1), some (.iadd, 1), some (.iaload, 1), some (.aload_n 0, 1), some (.iload_n 3, 1), some (.iconst 2, 1), some (.iadd, 1), some (.iaload, 1), some (.invokevirtual 65, 3), none, none, some (.aload_n 2, 1), some (.aload_n 0, 1), some (.iload_n 3, 1), some (.iconst 1, 1), some (.iadd, 1), some (.iaload, 1), some (.aload_n 0, 1), some (.iload_n 3, 1), some (.iconst 2, 1), some (.iadd, 1), some (.iaload, 1), some (.invokevirtual 68, 3), none, none, some (.lcmp, 1)]
theorem jl_iok5 : ji_dchk code jl_i5 472 = true := by decide +kernel
theorem jl_d_472 : decode code 472 = .ok (.ireturn, 1) := ji_dchk_at jl_i5 472 0 jl_iok5 rfl
theorem jl_d_473 : decode code 473 = .ok (.aload_n 1, 1) := ji_dchk_at jl_i5 472 1 jl_iok5 rfl
theorem jl_d_474 : decode code 474 = .ok (.invokevirtual 56, 3) := ji_dchk_at jl_i5 472 2 jl_iok5 rfl
theorem jl_d_477 : decode code 477 = .ok (.aload_n 2, 1) := ji_dchk_at jl_i5 472 5 jl_iok5 rfl
theorem jl_d_478 : decode code 478 = .ok (.invokevirtual 60, 3) := ji_dchk_at jl_i5 472 6 jl_iok5 rfl
theorem jl_d_481 : decode code 481 = .ok (.if_icmp .eq 878, 3) := ji_dchk_at jl_i5 472 9 jl_iok5 rfl
theorem jl_d_484 : decode code 484 = .ok (.iconst 0, 1) := ji_dchk_at jl_i5 472 12 jl_iok5 rfl
theorem jl_d_485 : decode code 485 = .ok (.ireturn, 1) := ji_dchk_at jl_i5 472 13 jl_iok5 rfl
theorem jl_d_486 : decode code 486 = .ok (.aload_n 1, 1) := ji_dchk_at jl_i5 472 14 jl_iok5 rfl
theorem jl_d_487 : decode code 487 = .ok (.aload_n 0, 1) := ji_dchk_at jl_i5 472 15 jl_iok5 rfl
theorem jl_d_488 : decode code 488 = .ok (.iload_n 3, 1) := ji_dchk_at jl_i5 472 16 jl_iok5 rfl
theorem jl_d_489 : decode code 489 = .ok (.iconst 1, 1) := ji_dchk_at jl_i5 472 17 jl_iok5 rfl
theorem jl_d_490 : decode code 490 = .ok (.iadd, 1) := ji_dchk_at jl_i5 472 18 jl_iok5 rfl
theorem jl_d_491 : decode code 491 = .ok (.iaload, 1) := ji_dchk_at jl_i5 472 19 jl_iok5 rfl
theorem jl_d_492 : decode code 492 = .ok (.invokevirtual 61, 3) := ji_dchk_at jl_i5 472 20 jl_iok5 rfl
theorem jl_d_495 : decode code 495 = .ok (.aload_n 2, 1) := ji_dchk_at jl_i5 472 23 jl_iok5 rfl
theorem jl_d_496 : decode code 496 = .ok (.aload_n 0, 1) := ji_dchk_at jl_i5 472 24 jl_iok5 rfl
theorem jl_d_497 : decode code 497 = .ok (.iload_n 3, 1) := ji_dchk_at jl_i5 472 25 jl_iok5 rfl
theorem jl_d_498 : decode code 498 = .ok (.iconst 1, 1) := ji_dchk_at jl_i5 472 26 jl_iok5 rfl
theorem jl_d_499 : decode code 499 = .ok (.iadd, 1) := ji_dchk_at jl_i5 472 27 jl_iok5 rfl
theorem jl_d_500 : decode code 500 = .ok (.iaload, 1) := ji_dchk_at jl_i5 472 28 jl_iok5 rfl
theorem jl_d_501 : decode code 501 = .ok (.invokevirtual 64, 3) := ji_dchk_at jl_i5 472 29 jl_iok5 rfl
theorem jl_d_504 : decode code 504 = .ok (.if_icmp .eq 855, 3) := ji_dchk_at jl_i5 472 32 jl_iok5 rfl
theorem jl_d_507 : decode code 507 = .ok (.iconst 0, 1) := ji_dchk_at jl_i5 472 35 jl_iok5 rfl
theorem jl_d_508 : decode code 508 = .ok (.ireturn, 1) := ji_dchk_at jl_i5 472 36 jl_iok5 rfl
theorem jl_d_509 : decode code 509 = .ok (.aload_n 1, 1) := ji_dchk_at jl_i5 472 37 jl_iok5 rfl
theorem jl_d_510 : decode code 510 = .ok (.aload_n 0, 1) := ji_dchk_at jl_i5 472 38 jl_iok5 rfl
theorem jl_d_511 : decode code 511 = .ok (.iload_n 3, 1) := ji_dchk_at jl_i5 472 39 jl_iok5 rfl
theorem jl_d_512 : decode code 512 = .ok (.iconst 1, 1) := ji_dchk_at jl_i5 472 40 jl_iok5 rfl
theorem jl_d_513 : decode code 513 = .ok (.iadd, 1) := ji_dchk_at jl_i5 472 41 jl_iok5 rfl
theorem jl_d_514 : decode code 514 = .ok (.iaload, 1) := ji_dchk_at jl_i5 472 42 jl_iok5 rfl
theorem jl_d_515 : decode code 515 = .ok (.aload_n 0, 1) := ji_dchk_at jl_i5 472 43 jl_iok5 rfl
theorem jl_d_516 : decode code 516 = .ok (.iload_n 3, 1) := ji_dchk_at jl_i5 472 44 jl_iok5 rfl
theorem jl_d_517 : decode code 517 = .ok (.iconst 2, 1) := ji_dchk_at jl_i5 472 45 jl_iok5 rfl
theorem jl_d_518 : decode code 518 = .ok (.iadd, 1) := ji_dchk_at jl_i5 472 46 jl_iok5 rfl
theorem jl_d_519 : decode code 519 = .ok (.iaload, 1) := ji_dchk_at jl_i5 472 47 jl_iok5 rfl
theorem jl_d_520 : decode code 520 = .ok (.invokevirtual 65, 3) := ji_dchk_at jl_i5 472 48 jl_iok5 rfl
theorem jl_d_523 : decode code 523 = .ok (.aload_n 2, 1) := ji_dchk_at jl_i5 472 51 jl_iok5 rfl
theorem jl_d_524 : decode code 524 = .ok (.aload_n 0, 1) := ji_dchk_at jl_i5 472 52 jl_iok5 rfl
theorem jl_d_525 : decode code 525 = .ok (.iload_n 3, 1) := ji_dchk_at jl_i5 472 53 jl_iok5 rfl
theorem jl_d_526 : decode code 526 = .ok (.iconst 1, 1) := ji_dchk_at jl_i5 472 54 jl_iok5 rfl
theorem jl_d_527 : decode code 527 = .ok (.iadd, 1) := ji_dchk_at jl_i5 472 55 jl_iok5 rfl
theorem jl_d_528 : decode code 528 = .ok (.iaload, 1) := ji_dchk_at jl_i5 472 56 jl_iok5 rfl
theorem jl_d_529 : decode code 529 = .ok (.aload_n 0, 1) := ji_dchk_at jl_i5 472 57 jl_iok5 rfl
theorem jl_d_530 : decode code 530 = .ok (.iload_n 3, 1) := ji_dchk_at jl_i5 472 58 jl_iok5 rfl
theorem jl_d_531 : decode code 531 = .ok (.iconst 2, 1) := ji_dchk_at jl_i5 472 59 jl_iok5 rfl
theorem jl_d_532 : decode code 532 = .ok (.iadd, 1) := ji_dchk_at jl_i5 472 60 jl_iok5 rfl
theorem jl_d_533 : decode code 533 = .ok (.iaload, 1) := ji_dchk_at jl_i5 472 61 jl_iok5 rfl
theorem jl_d_534 : decode code 534 = .ok (.invokevirtual 68, 3) := ji_dchk_at jl_i5 472 62 jl_iok5 rfl
theorem jl_d_537 : decode code 537 = .ok (.lcmp, 1) := ji_dchk_at jl_i5 472 65 jl_iok5 rfl
