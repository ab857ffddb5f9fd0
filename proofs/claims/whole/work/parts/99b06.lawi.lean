/-! ===== the law's instructions 6 ===== -/
def jl_i6 : List (Option (Instr × Nat)) := [some (.ifCond .eq 821, 3), none, none, some (.iconst 0, 1), some (.ireturn, 1), some (.aload_n 1, 1), some (.aload_n 0, 1), some (.iload_n 3, 1), some (.iconst 1, 1), some (.iadd, 1), some (.iaload, 1), some (.aload_n 0, 1), some (.iload_n 3, 1), some (.iconst 2, 1), some (.iadd, 1), some (.iaload, 1), some (.aload_n 0, 1), some (.iload_n 3, 1), some (.iconst 3, 1), some (.iadd, 1), some (.iaload, 1), some (.invokevirtual 69, 3), none, none, some (.aload_n 2, 1), some (.aload_n 0, 1), some (.iload_n 3, 1), some (.iconst 1, 1), some (.iadd, 1), some (.iaload, 1), some (.aload_n 0, 1), some (.iload_n 3, 1), some (.iconst 2, 1), some (.iadd, 1), some (.iaload, 1), some (.aload_n 0, 1), some (.iload_n 3, 1), some (.iconst 3, 1), some (.iadd, 1), some (.iaload, 1), some (.invokevirtual 73, 3), none, none, some (.if_icmp .eq 778, 3), none, none, some (.iconst 0, 1), some (.ireturn, 1), some (.aload_n 1, 1), some (.aload_n 0, 1), some (.iload_n 3, 1), some (.iconst 1, 1), some (.iadd, 1), some (.iaload, 1), some (.aload_n 0, 1), some (.iload_n 3, 1), some (.iconst 2, 1), some (.iadd, 1)]
theorem jl_iok6 : ji_dchk code jl_i6 538 = true := by decide +kernel
theorem jl_d_538 : decode code 538 = .ok (.ifCond .eq 821, 3) := ji_dchk_at jl_i6 538 0 jl_iok6 rfl
theorem jl_d_541 : decode code 541 = .ok (.iconst 0, 1) := ji_dchk_at jl_i6 538 3 jl_iok6 rfl
theorem jl_d_542 : decode code 542 = .ok (.ireturn, 1) := ji_dchk_at jl_i6 538 4 jl_iok6 rfl
theorem jl_d_543 : decode code 543 = .ok (.aload_n 1, 1) := ji_dchk_at jl_i6 538 5 jl_iok6 rfl
theorem jl_d_544 : decode code 544 = .ok (.aload_n 0, 1) := ji_dchk_at jl_i6 538 6 jl_iok6 rfl
theorem jl_d_545 : decode code 545 = .ok (.iload_n 3, 1) := ji_dchk_at jl_i6 538 7 jl_iok6 rfl
theorem jl_d_546 : decode code 546 = .ok (.iconst 1, 1) := ji_dchk_at jl_i6 538 8 jl_iok6 rfl
theorem jl_d_547 : decode code 547 = .ok (.iadd, 1) := ji_dchk_at jl_i6 538 9 jl_iok6 rfl
theorem jl_d_548 : decode code 548 = .ok (.iaload, 1) := ji_dchk_at jl_i6 538 10 jl_iok6 rfl
theorem jl_d_549 : decode code 549 = .ok (.aload_n 0, 1) := ji_dchk_at jl_i6 538 11 jl_iok6 rfl
theorem jl_d_550 : decode code 550 = .ok (.iload_n 3, 1) := ji_dchk_at jl_i6 538 12 jl_iok6 rfl
theorem jl_d_551 : decode code 551 = .ok (.iconst 2, 1) := ji_dchk_at jl_i6 538 13 jl_iok6 rfl
theorem jl_d_552 : decode code 552 = .ok (.iadd, 1) := ji_dchk_at jl_i6 538 14 jl_iok6 rfl
theorem jl_d_553 : decode code 553 = .ok (.iaload, 1) := ji_dchk_at jl_i6 538 15 jl_iok6 rfl
theorem jl_d_554 : decode code 554 = .ok (.aload_n 0, 1) := ji_dchk_at jl_i6 538 16 jl_iok6 rfl
theorem jl_d_555 : decode code 555 = .ok (.iload_n 3, 1) := ji_dchk_at jl_i6 538 17 jl_iok6 rfl
theorem jl_d_556 : decode code 556 = .ok (.iconst 3, 1) := ji_dchk_at jl_i6 538 18 jl_iok6 rfl
theorem jl_d_557 : decode code 557 = .ok (.iadd, 1) := ji_dchk_at jl_i6 538 19 jl_iok6 rfl
theorem jl_d_558 : decode code 558 = .ok (.iaload, 1) := ji_dchk_at jl_i6 538 20 jl_iok6 rfl
theorem jl_d_559 : decode code 559 = .ok (.invokevirtual 69, 3) := ji_dchk_at jl_i6 538 21 jl_iok6 rfl
theorem jl_d_562 : decode code 562 = .ok (.aload_n 2, 1) := ji_dchk_at jl_i6 538 24 jl_iok6 rfl
theorem jl_d_563 : decode code 563 = .ok (.aload_n 0, 1) := ji_dchk_at jl_i6 538 25 jl_iok6 rfl
theorem jl_d_564 : decode code 564 = .ok (.iload_n 3, 1) := ji_dchk_at jl_i6 538 26 jl_iok6 rfl
theorem jl_d_565 : decode code 565 = .ok (.iconst 1, 1) := ji_dchk_at jl_i6 538 27 jl_iok6 rfl
theorem jl_d_566 : decode code 566 = .ok (.iadd, 1) := ji_dchk_at jl_i6 538 28 jl_iok6 rfl
theorem jl_d_567 : decode code 567 = .ok (.iaload, 1) := ji_dchk_at jl_i6 538 29 jl_iok6 rfl
theorem jl_d_568 : decode code 568 = .ok (.aload_n 0, 1) := ji_dchk_at jl_i6 538 30 jl_iok6 rfl
theorem jl_d_569 : decode code 569 = .ok (.iload_n 3, 1) := ji_dchk_at jl_i6 538 31 jl_iok6 rfl
theorem jl_d_570 : decode code 570 = .ok (.iconst 2, 1) := ji_dchk_at jl_i6 538 32 jl_iok6 rfl
theorem jl_d_571 : decode code 571 = .ok (.iadd, 1) := ji_dchk_at jl_i6 538 33 jl_iok6 rfl
theorem jl_d_572 : decode code 572 = .ok (.iaload, 1) := ji_dchk_at jl_i6 538 34 jl_iok6 rfl
theorem jl_d_573 : decode code 573 = .ok (.aload_n 0, 1) := ji_dchk_at jl_i6 538 35 jl_iok6 rfl
theorem jl_d_574 : decode code 574 = .ok (.iload_n 3, 1) := ji_dchk_at jl_i6 538 36 jl_iok6 rfl
theorem jl_d_575 : decode code 575 = .ok (.iconst 3, 1) := ji_dchk_at jl_i6 538 37 jl_iok6 rfl
theorem jl_d_576 : decode code 576 = .ok (.iadd, 1) := ji_dchk_at jl_i6 538 38 jl_iok6 rfl
theorem jl_d_577 : decode code 577 = .ok (.iaload, 1) := ji_dchk_at jl_i6 538 39 jl_iok6 rfl
theorem jl_d_578 : decode code 578 = .ok (.invokevirtual 73, 3) := ji_dchk_at jl_i6 538 40 jl_iok6 rfl
theorem jl_d_581 : decode code 581 = .ok (.if_icmp .eq 778, 3) := ji_dchk_at jl_i6 538 43 jl_iok6 rfl
theorem jl_d_584 : decode code 584 = .ok (.iconst 0, 1) := ji_dchk_at jl_i6 538 46 jl_iok6 rfl
theorem jl_d_585 : decode code 585 = .ok (.ireturn, 1) := ji_dchk_at jl_i6 538 47 jl_iok6 rfl
theorem jl_d_586 : decode code 586 = .ok (.aload_n 1, 1) := ji_dchk_at jl_i6 538 48 jl_iok6 rfl
theorem jl_d_587 : decode code 587 = .ok (.aload_n 0, 1) := ji_dchk_at jl_i6 538 49 jl_iok6 rfl
theorem jl_d_588 : decode code 588 = .ok (.iload_n 3, 1) := ji_dchk_at jl_i6 538 50 jl_iok6 rfl
theorem jl_d_589 : decode code 589 = .ok (.iconst 1, 1) := ji_dchk_at jl_i6 538 51 jl_iok6 rfl
theorem jl_d_590 : decode code 590 = .ok (.iadd, 1) := ji_dchk_at jl_i6 538 52 jl_iok6 rfl
theorem jl_d_591 : decode code 591 = .ok (.iaload, 1) := ji_dchk_at jl_i6 538 53 jl_iok6 rfl
theorem jl_d_592 : decode code 592 = .ok (.aload_n 0, 1) := ji_dchk_at jl_i6 538 54 jl_iok6 rfl
theorem jl_d_593 : decode code 593 = .ok (.iload_n 3, 1) := ji_dchk_at jl_i6 538 55 jl_iok6 rfl
theorem jl_d_594 : decode code 594 = .ok (.iconst 2, 1) := ji_dchk_at jl_i6 538 56 jl_iok6 rfl
theorem jl_d_595 : decode code 595 = .ok (.iadd, 1) := ji_dchk_at jl_i6 538 57 jl_iok6 rfl
