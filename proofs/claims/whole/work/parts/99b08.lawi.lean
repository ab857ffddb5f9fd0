/-! ===== the law's instructions 8 ===== -/
def jl_i8 : List (Option (Instr × Nat)) := [some (.aload_n 0, 1), some (.iload_n 3, 1), some (.iconst 2, 1), some (.iadd, 1), some (.iaload, 1), some (.aload_n 0, 1), some (.iload_n 3, 1), some (.iconst 3, 1), some (.iadd, 1), some (.iaload, 1), some (.invokevirtual 81, 3), none, none, some (.if_icmp .eq 692, 3), none, none, some (.iconst 0, 1), some (.ireturn, 1), some (.aload_n 1, 1), some (.aload_n 0, 1), some (.iload_n 3, 1), some (.iconst 1, 1), some (.iadd, 1), some (.iaload, 1), some (.aload_n 0, 1), some (.iload_n 3, 1), some (.iconst 2, 1), some (.iadd, 1), some (.iaload, 1), some (.invokevirtual 82, 3), none, none, some (.aload_n 2, 1), some (.aload_n 0, 1), some (.iload_n 3, 1), some (.iconst 1, 1), some (.iadd, 1), some (.iaload, 1), some (.aload_n 0, 1), some (.iload_n 3, 1), some (.iconst 2, 1), some (.iadd, 1), some (.iaload, 1), some (.invokevirtual 85, 3), none, none, some (.if_icmp .eq 659, 3), none, none, some (.iconst 0, 1), some (.ireturn, 1), some (.aload_n 1, 1), some (.aload_n 0, 1), some (.iload_n 3, 1), some (.iconst 1, 1), some (.iadd, 1), some (.iaload, 1), some (.invokevirtual 86, 3), none, none, some (.aload_n 2, 1), some (.aload_n 0, 1)]
theorem jl_iok8 : ji_dchk code jl_i8 654 = true := by decide +kernel
theorem jl_d_654 : decode code 654 = .ok (.aload_n 0, 1) := ji_dchk_at jl_i8 654 0 jl_iok8 rfl
theorem jl_d_655 : decode code 655 = .ok (.iload_n 3, 1) := ji_dchk_at jl_i8 654 1 jl_iok8 rfl
theorem jl_d_656 : decode code 656 = .ok (.iconst 2, 1) := ji_dchk_at jl_i8 654 2 jl_iok8 rfl
theorem jl_d_657 : decode code 657 = .ok (.iadd, 1) := ji_dchk_at jl_i8 654 3 jl_iok8 rfl
theorem jl_d_658 : decode code 658 = .ok (.iaload, 1) := ji_dchk_at jl_i8 654 4 jl_iok8 rfl
theorem jl_d_659 : decode code 659 = .ok (.aload_n 0, 1) := ji_dchk_at jl_i8 654 5 jl_iok8 rfl
theorem jl_d_660 : decode code 660 = .ok (.iload_n 3, 1) := ji_dchk_at jl_i8 654 6 jl_iok8 rfl
theorem jl_d_661 : decode code 661 = .ok (.iconst 3, 1) := ji_dchk_at jl_i8 654 7 jl_iok8 rfl
theorem jl_d_662 : decode code 662 = .ok (.iadd, 1) := ji_dchk_at jl_i8 654 8 jl_iok8 rfl
theorem jl_d_663 : decode code 663 = .ok (.iaload, 1) := ji_dchk_at jl_i8 654 9 jl_iok8 rfl
theorem jl_d_664 : decode code 664 = .ok (.invokevirtual 81, 3) := ji_dchk_at jl_i8 654 10 jl_iok8 rfl
theorem jl_d_667 : decode code 667 = .ok (.if_icmp .eq 692, 3) := ji_dchk_at jl_i8 654 13 jl_iok8 rfl
theorem jl_d_670 : decode code 670 = .ok (.iconst 0, 1) := ji_dchk_at jl_i8 654 16 jl_iok8 rfl
theorem jl_d_671 : decode code 671 = .ok (.ireturn, 1) := ji_dchk_at jl_i8 654 17 jl_iok8 rfl
theorem jl_d_672 : decode code 672 = .ok (.aload_n 1, 1) := ji_dchk_at jl_i8 654 18 jl_iok8 rfl
theorem jl_d_673 : decode code 673 = .ok (.aload_n 0, 1) := ji_dchk_at jl_i8 654 19 jl_iok8 rfl
theorem jl_d_674 : decode code 674 = .ok (.iload_n 3, 1) := ji_dchk_at jl_i8 654 20 jl_iok8 rfl
theorem jl_d_675 : decode code 675 = .ok (.iconst 1, 1) := ji_dchk_at jl_i8 654 21 jl_iok8 rfl
theorem jl_d_676 : decode code 676 = .ok (.iadd, 1) := ji_dchk_at jl_i8 654 22 jl_iok8 rfl
theorem jl_d_677 : decode code 677 = .ok (.iaload, 1) := ji_dchk_at jl_i8 654 23 jl_iok8 rfl
theorem jl_d_678 : decode code 678 = .ok (.aload_n 0, 1) := ji_dchk_at jl_i8 654 24 jl_iok8 rfl
theorem jl_d_679 : decode code 679 = .ok (.iload_n 3, 1) := ji_dchk_at jl_i8 654 25 jl_iok8 rfl
theorem jl_d_680 : decode code 680 = .ok (.iconst 2, 1) := ji_dchk_at jl_i8 654 26 jl_iok8 rfl
theorem jl_d_681 : decode code 681 = .ok (.iadd, 1) := ji_dchk_at jl_i8 654 27 jl_iok8 rfl
theorem jl_d_682 : decode code 682 = .ok (.iaload, 1) := ji_dchk_at jl_i8 654 28 jl_iok8 rfl
theorem jl_d_683 : decode code 683 = .ok (.invokevirtual 82, 3) := ji_dchk_at jl_i8 654 29 jl_iok8 rfl
theorem jl_d_686 : decode code 686 = .ok (.aload_n 2, 1) := ji_dchk_at jl_i8 654 32 jl_iok8 rfl
theorem jl_d_687 : decode code 687 = .ok (.aload_n 0, 1) := ji_dchk_at jl_i8 654 33 jl_iok8 rfl
theorem jl_d_688 : decode code 688 = .ok (.iload_n 3, 1) := ji_dchk_at jl_i8 654 34 jl_iok8 rfl
theorem jl_d_689 : decode code 689 = .ok (.iconst 1, 1) := ji_dchk_at jl_i8 654 35 jl_iok8 rfl
theorem jl_d_690 : decode code 690 = .ok (.iadd, 1) := ji_dchk_at jl_i8 654 36 jl_iok8 rfl
theorem jl_d_691 : decode code 691 = .ok (.iaload, 1) := ji_dchk_at jl_i8 654 37 jl_iok8 rfl
theorem jl_d_692 : decode code 692 = .ok (.aload_n 0, 1) := ji_dchk_at jl_i8 654 38 jl_iok8 rfl
theorem jl_d_693 : decode code 693 = .ok (.iload_n 3, 1) := ji_dchk_at jl_i8 654 39 jl_iok8 rfl
theorem jl_d_694 : decode code 694 = .ok (.iconst 2, 1) := ji_dchk_at jl_i8 654 40 jl_iok8 rfl
theorem jl_d_695 : decode code 695 = .ok (.iadd, 1) := ji_dchk_at jl_i8 654 41 jl_iok8 rfl
theorem jl_d_696 : decode code 696 = .ok (.iaload, 1) := ji_dchk_at jl_i8 654 42 jl_iok8 rfl
theorem jl_d_697 : decode code 697 = .ok (.invokevirtual 85, 3) := ji_dchk_at jl_i8 654 43 jl_iok8 rfl
theorem jl_d_700 : decode code 700 = .ok (.if_icmp .eq 659, 3) := ji_dchk_at jl_i8 654 46 jl_iok8 rfl
theorem jl_d_703 : decode code 703 = .ok (.iconst 0, 1) := ji_dchk_at jl_i8 654 49 jl_iok8 rfl
theorem jl_d_704 : decode code 704 = .ok (.ireturn, 1) := ji_dchk_at jl_i8 654 50 jl_iok8 rfl
theorem jl_d_705 : decode code 705 = .ok (.aload_n 1, 1) := ji_dchk_at jl_i8 654 51 jl_iok8 rfl
theorem jl_d_706 : decode code 706 = .ok (.aload_n 0, 1) := ji_dchk_at jl_i8 654 52 jl_iok8 rfl
theorem jl_d_707 : decode code 707 = .ok (.iload_n 3, 1) := ji_dchk_at jl_i8 654 53 jl_iok8 rfl
theorem jl_d_708 : decode code 708 = .ok (.iconst 1, 1) := ji_dchk_at jl_i8 654 54 jl_iok8 rfl
theorem jl_d_709 : decode code 709 = .ok (.iadd, 1) := ji_dchk_at jl_i8 654 55 jl_iok8 rfl
theorem jl_d_710 : decode code 710 = .ok (.iaload, 1) := ji_dchk_at jl_i8 654 56 jl_iok8 rfl
theorem jl_d_711 : decode code 711 = .ok (.invokevirtual 86, 3) := ji_dchk_at jl_i8 654 57 jl_iok8 rfl
theorem jl_d_714 : decode code 714 = .ok (.aload_n 2, 1) := ji_dchk_at jl_i8 654 60 jl_iok8 rfl
theorem jl_d_715 : decode code 715 = .ok (.aload_n 0, 1) := ji_dchk_at jl_i8 654 61 jl_iok8 rfl
