/-! ===== the law's instructions 7 ===== -/
def jl_i7 : List (Option (Instr × Nat)) := [some (.iaload, 1), some (.aload_n 0, 1), some (.iload_n 3, 1), some (.iconst 3, 1), some (.iadd, 1), some (.iaload, 1), some (.invokevirtual 74, 3), none, none, some (.aload_n 2, 1), some (.aload_n 0, 1), some (.iload_n 3, 1), some (.iconst 1, 1), some (.iadd, 1), some (.iaload, 1), some (.aload_n 0, 1), some (.iload_n 3, 1), some (.iconst 2, 1), some (.iadd, 1), some (.iaload, 1), some (.aload_n 0, 1), some (.iload_n 3, 1), some (.iconst 3, 1), some (.iadd, 1), some (.iaload, 1), some (.invokevirtual 77, 3), none, none, some (.if_icmp .eq 735, 3), none, none, some (.iconst 0, 1), some (.ireturn, 1), some (.aload_n 1, 1), some (.aload_n 0, 1), some (.iload_n 3, 1), some (.iconst 1, 1), some (.iadd, 1), some (.iaload, 1), some (.aload_n 0, 1), some (.iload_n 3, 1), some (.iconst 2, 1), some (.iadd, 1), some (.iaload, 1), some (.aload_n 0, 1), some (.iload_n 3, 1), some (.iconst 3, 1), some (.iadd, 1), some (.iaload, 1), some (.invokevirtual 78, 3), none, none, some (.aload_n 2, 1), some (.aload_n 0, 1), some (.iload_n 3, 1), some (.iconst 1, 1), some (.iadd, 1), some (.iaload, 1)]
theorem jl_iok7 : ji_dchk code jl_i7 596 = true := by decide +kernel
theorem jl_d_596 : decode code 596 = .ok (.iaload, 1) := ji_dchk_at jl_i7 596 0 jl_iok7 rfl
theorem jl_d_597 : decode code 597 = .ok (.aload_n 0, 1) := ji_dchk_at jl_i7 596 1 jl_iok7 rfl
theorem jl_d_598 : decode code 598 = .ok (.iload_n 3, 1) := ji_dchk_at jl_i7 596 2 jl_iok7 rfl
theorem jl_d_599 : decode code 599 = .ok (.iconst 3, 1) := ji_dchk_at jl_i7 596 3 jl_iok7 rfl
theorem jl_d_600 : decode code 600 = .ok (.iadd, 1) := ji_dchk_at jl_i7 596 4 jl_iok7 rfl
theorem jl_d_601 : decode code 601 = .ok (.iaload, 1) := ji_dchk_at jl_i7 596 5 jl_iok7 rfl
theorem jl_d_602 : decode code 602 = .ok (.invokevirtual 74, 3) := ji_dchk_at jl_i7 596 6 jl_iok7 rfl
theorem jl_d_605 : decode code 605 = .ok (.aload_n 2, 1) := ji_dchk_at jl_i7 596 9 jl_iok7 rfl
theorem jl_d_606 : decode code 606 = .ok (.aload_n 0, 1) := ji_dchk_at jl_i7 596 10 jl_iok7 rfl
theorem jl_d_607 : decode code 607 = .ok (.iload_n 3, 1) := ji_dchk_at jl_i7 596 11 jl_iok7 rfl
theorem jl_d_608 : decode code 608 = .ok (.iconst 1, 1) := ji_dchk_at jl_i7 596 12 jl_iok7 rfl
theorem jl_d_609 : decode code 609 = .ok (.iadd, 1) := ji_dchk_at jl_i7 596 13 jl_iok7 rfl
theorem jl_d_610 : decode code 610 = .ok (.iaload, 1) := ji_dchk_at jl_i7 596 14 jl_iok7 rfl
theorem jl_d_611 : decode code 611 = .ok (.aload_n 0, 1) := ji_dchk_at jl_i7 596 15 jl_iok7 rfl
theorem jl_d_612 : decode code 612 = .ok (.iload_n 3, 1) := ji_dchk_at jl_i7 596 16 jl_iok7 rfl
theorem jl_d_613 : decode code 613 = .ok (.iconst 2, 1) := ji_dchk_at jl_i7 596 17 jl_iok7 rfl
theorem jl_d_614 : decode code 614 = .ok (.iadd, 1) := ji_dchk_at jl_i7 596 18 jl_iok7 rfl
theorem jl_d_615 : decode code 615 = .ok (.iaload, 1) := ji_dchk_at jl_i7 596 19 jl_iok7 rfl
theorem jl_d_616 : decode code 616 = .ok (.aload_n 0, 1) := ji_dchk_at jl_i7 596 20 jl_iok7 rfl
theorem jl_d_617 : decode code 617 = .ok (.iload_n 3, 1) := ji_dchk_at jl_i7 596 21 jl_iok7 rfl
theorem jl_d_618 : decode code 618 = .ok (.iconst 3, 1) := ji_dchk_at jl_i7 596 22 jl_iok7 rfl
theorem jl_d_619 : decode code 619 = .ok (.iadd, 1) := ji_dchk_at jl_i7 596 23 jl_iok7 rfl
theorem jl_d_620 : decode code 620 = .ok (.iaload, 1) := ji_dchk_at jl_i7 596 24 jl_iok7 rfl
theorem jl_d_621 : decode code 621 = .ok (.invokevirtual 77, 3) := ji_dchk_at jl_i7 596 25 jl_iok7 rfl
theorem jl_d_624 : decode code 624 = .ok (.if_icmp .eq 735, 3) := ji_dchk_at jl_i7 596 28 jl_iok7 rfl
theorem jl_d_627 : decode code 627 = .ok (.iconst 0, 1) := ji_dchk_at jl_i7 596 31 jl_iok7 rfl
theorem jl_d_628 : decode code 628 = .ok (.ireturn, 1) := ji_dchk_at jl_i7 596 32 jl_iok7 rfl
theorem jl_d_629 : decode code 629 = .ok (.aload_n 1, 1) := ji_dchk_at jl_i7 596 33 jl_iok7 rfl
theorem jl_d_630 : decode code 630 = .ok (.aload_n 0, 1) := ji_dchk_at jl_i7 596 34 jl_iok7 rfl
theorem jl_d_631 : decode code 631 = .ok (.iload_n 3, 1) := ji_dchk_at jl_i7 596 35 jl_iok7 rfl
theorem jl_d_632 : decode code 632 = .ok (.iconst 1, 1) := ji_dchk_at jl_i7 596 36 jl_iok7 rfl
theorem jl_d_633 : decode code 633 = .ok (.iadd, 1) := ji_dchk_at jl_i7 596 37 jl_iok7 rfl
theorem jl_d_634 : decode code 634 = .ok (.iaload, 1) := ji_dchk_at jl_i7 596 38 jl_iok7 rfl
theorem jl_d_635 : decode code 635 = .ok (.aload_n 0, 1) := ji_dchk_at jl_i7 596 39 jl_iok7 rfl
theorem jl_d_636 : decode code 636 = .ok (.iload_n 3, 1) := ji_dchk_at jl_i7 596 40 jl_iok7 rfl
theorem jl_d_637 : decode code 637 = .ok (.iconst 2, 1) := ji_dchk_at jl_i7 596 41 jl_iok7 rfl
theorem jl_d_638 : decode code 638 = .ok (.iadd, 1) := ji_dchk_at jl_i7 596 42 jl_iok7 rfl
theorem jl_d_639 : decode code 639 = .ok (.iaload, 1) := ji_dchk_at jl_i7 596 43 jl_iok7 rfl
theorem jl_d_640 : decode code 640 = .ok (.aload_n 0, 1) := ji_dchk_at jl_i7 596 44 jl_iok7 rfl
theorem jl_d_641 : decode code 641 = .ok (.iload_n 3, 1) := ji_dchk_at jl_i7 596 45 jl_iok7 rfl
theorem jl_d_642 : decode code 642 = .ok (.iconst 3, 1) := ji_dchk_at jl_i7 596 46 jl_iok7 rfl
theorem jl_d_643 : decode code 643 = .ok (.iadd, 1) := ji_dchk_at jl_i7 596 47 jl_iok7 rfl
theorem jl_d_644 : decode code 644 = .ok (.iaload, 1) := ji_dchk_at jl_i7 596 48 jl_iok7 rfl
theorem jl_d_645 : decode code 645 = .ok (.invokevirtual 78, 3) := ji_dchk_at jl_i7 596 49 jl_iok7 rfl
theorem jl_d_648 : decode code 648 = .ok (.aload_n 2, 1) := ji_dchk_at jl_i7 596 52 jl_iok7 rfl
theorem jl_d_649 : decode code 649 = .ok (.aload_n 0, 1) := ji_dchk_at jl_i7 596 53 jl_iok7 rfl
theorem jl_d_650 : decode code 650 = .ok (.iload_n 3, 1) := ji_dchk_at jl_i7 596 54 jl_iok7 rfl
theorem jl_d_651 : decode code 651 = .ok (.iconst 1, 1) := ji_dchk_at jl_i7 596 55 jl_iok7 rfl
theorem jl_d_652 : decode code 652 = .ok (.iadd, 1) := ji_dchk_at jl_i7 596 56 jl_iok7 rfl
theorem jl_d_653 : decode code 653 = .ok (.iaload, 1) := ji_dchk_at jl_i7 596 57 jl_iok7 rfl
