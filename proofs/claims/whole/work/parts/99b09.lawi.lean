/-! ===== the law's instructions 9 ===== -/
def jl_i9 : List (Option (Instr × Nat)) := [some (.iload_n 3, 1), some (.iconst 1, 1), some (.iadd, 1), some (.iaload, 1), some (.invokevirtual 89, 3), none, none, some (.if_icmp .eq 636, 3), none, none, some (.iconst 0, 1), some (.ireturn, 1), some (.aload_n 1, 1), some (.aload_n 0, 1), some (.iload_n 3, 1), some (.iconst 1, 1), some (.iadd, 1), some (.iaload, 1), some (.invokevirtual 90, 3), none, none, some (.aload_n 2, 1), some (.aload_n 0, 1), some (.iload_n 3, 1), some (.iconst 1, 1), some (.iadd, 1), some (.iaload, 1), some (.invokevirtual 93, 3), none, none, some (.if_icmp .eq 613, 3), none, none, some (.iconst 0, 1), some (.ireturn, 1), some (.aload_n 1, 1), some (.aload_n 0, 1), some (.iload_n 3, 1), some (.iconst 1, 1), some (.iadd, 1), some (.iaload, 1), some (.aload_n 0, 1), some (.iload_n 3, 1), some (.iconst 2, 1), some (.iadd, 1), some (.iaload, 1), some (.invokevirtual 94, 3), none, none, some (.aload_n 2, 1), some (.aload_n 0, 1), some (.iload_n 3, 1), some (.iconst 1, 1), some (.iadd, 1), some (.iaload, 1), some (.aload_n 0, 1), some (.iload_n 3, 1), some (.iconst 2, 1), some (.iadd, 1), some (.iaload, 1), some (.invokevirtual 97, 3), none, none, some (.if_icmp .eq 580, 3)]
theorem jl_iok9 : ji_dchk code jl_i9 716 = true := by decide +kernel
theorem jl_d_716 : decode code 716 = .ok (.iload_n 3, 1) := ji_dchk_at jl_i9 716 0 jl_iok9 rfl
theorem jl_d_717 : decode code 717 = .ok (.iconst 1, 1) := ji_dchk_at jl_i9 716 1 jl_iok9 rfl
theorem jl_d_718 : decode code 718 = .ok (.iadd, 1) := ji_dchk_at jl_i9 716 2 jl_iok9 rfl
theorem jl_d_719 : decode code 719 = .ok (.iaload, 1) := ji_dchk_at jl_i9 716 3 jl_iok9 rfl
theorem jl_d_720 : decode code 720 = .ok (.invokevirtual 89, 3) := ji_dchk_at jl_i9 716 4 jl_iok9 rfl
theorem jl_d_723 : decode code 723 = .ok (.if_icmp .eq 636, 3) := ji_dchk_at jl_i9 716 7 jl_iok9 rfl
theorem jl_d_726 : decode code 726 = .ok (.iconst 0, 1) := ji_dchk_at jl_i9 716 10 jl_iok9 rfl
theorem jl_d_727 : decode code 727 = .ok (.ireturn, 1) := ji_dchk_at jl_i9 716 11 jl_iok9 rfl
theorem jl_d_728 : decode code 728 = .ok (.aload_n 1, 1) := ji_dchk_at jl_i9 716 12 jl_iok9 rfl
theorem jl_d_729 : decode code 729 = .ok (.aload_n 0, 1) := ji_dchk_at jl_i9 716 13 jl_iok9 rfl
theorem jl_d_730 : decode code 730 = .ok (.iload_n 3, 1) := ji_dchk_at jl_i9 716 14 jl_iok9 rfl
theorem jl_d_731 : decode code 731 = .ok (.iconst 1, 1) := ji_dchk_at jl_i9 716 15 jl_iok9 rfl
theorem jl_d_732 : decode code 732 = .ok (.iadd, 1) := ji_dchk_at jl_i9 716 16 jl_iok9 rfl
theorem jl_d_733 : decode code 733 = .ok (.iaload, 1) := ji_dchk_at jl_i9 716 17 jl_iok9 rfl
theorem jl_d_734 : decode code 734 = .ok (.invokevirtual 90, 3) := ji_dchk_at jl_i9 716 18 jl_iok9 rfl
theorem jl_d_737 : decode code 737 = .ok (.aload_n 2, 1) := ji_dchk_at jl_i9 716 21 jl_iok9 rfl
theorem jl_d_738 : decode code 738 = .ok (.aload_n 0, 1) := ji_dchk_at jl_i9 716 22 jl_iok9 rfl
theorem jl_d_739 : decode code 739 = .ok (.iload_n 3, 1) := ji_dchk_at jl_i9 716 23 jl_iok9 rfl
theorem jl_d_740 : decode code 740 = .ok (.iconst 1, 1) := ji_dchk_at jl_i9 716 24 jl_iok9 rfl
theorem jl_d_741 : decode code 741 = .ok (.iadd, 1) := ji_dchk_at jl_i9 716 25 jl_iok9 rfl
theorem jl_d_742 : decode code 742 = .ok (.iaload, 1) := ji_dchk_at jl_i9 716 26 jl_iok9 rfl
theorem jl_d_743 : decode code 743 = .ok (.invokevirtual 93, 3) := ji_dchk_at jl_i9 716 27 jl_iok9 rfl
theorem jl_d_746 : decode code 746 = .ok (.if_icmp .eq 613, 3) := ji_dchk_at jl_i9 716 30 jl_iok9 rfl
theorem jl_d_749 : decode code 749 = .ok (.iconst 0, 1) := ji_dchk_at jl_i9 716 33 jl_iok9 rfl
theorem jl_d_750 : decode code 750 = .ok (.ireturn, 1) := ji_dchk_at jl_i9 716 34 jl_iok9 rfl
theorem jl_d_751 : decode code 751 = .ok (.aload_n 1, 1) := ji_dchk_at jl_i9 716 35 jl_iok9 rfl
theorem jl_d_752 : decode code 752 = .ok (.aload_n 0, 1) := ji_dchk_at jl_i9 716 36 jl_iok9 rfl
theorem jl_d_753 : decode code 753 = .ok (.iload_n 3, 1) := ji_dchk_at jl_i9 716 37 jl_iok9 rfl
theorem jl_d_754 : decode code 754 = .ok (.iconst 1, 1) := ji_dchk_at jl_i9 716 38 jl_iok9 rfl
theorem jl_d_755 : decode code 755 = .ok (.iadd, 1) := ji_dchk_at jl_i9 716 39 jl_iok9 rfl
theorem jl_d_756 : decode code 756 = .ok (.iaload, 1) := ji_dchk_at jl_i9 716 40 jl_iok9 rfl
theorem jl_d_757 : decode code 757 = .ok (.aload_n 0, 1) := ji_dchk_at jl_i9 716 41 jl_iok9 rfl
theorem jl_d_758 : decode code 758 = .ok (.iload_n 3, 1) := ji_dchk_at jl_i9 716 42 jl_iok9 rfl
theorem jl_d_759 : decode code 759 = .ok (.iconst 2, 1) := ji_dchk_at jl_i9 716 43 jl_iok9 rfl
theorem jl_d_760 : decode code 760 = .ok (.iadd, 1) := ji_dchk_at jl_i9 716 44 jl_iok9 rfl
theorem jl_d_761 : decode code 761 = .ok (.iaload, 1) := ji_dchk_at jl_i9 716 45 jl_iok9 rfl
theorem jl_d_762 : decode code 762 = .ok (.invokevirtual 94, 3) := ji_dchk_at jl_i9 716 46 jl_iok9 rfl
theorem jl_d_765 : decode code 765 = .ok (.aload_n 2, 1) := ji_dchk_at jl_i9 716 49 jl_iok9 rfl
theorem jl_d_766 : decode code 766 = .ok (.aload_n 0, 1) := ji_dchk_at jl_i9 716 50 jl_iok9 rfl
theorem jl_d_767 : decode code 767 = .ok (.iload_n 3, 1) := ji_dchk_at jl_i9 716 51 jl_iok9 rfl
theorem jl_d_768 : decode code 768 = .ok (.iconst 1, 1) := ji_dchk_at jl_i9 716 52 jl_iok9 rfl
theorem jl_d_769 : decode code 769 = .ok (.iadd, 1) := ji_dchk_at jl_i9 716 53 jl_iok9 rfl
theorem jl_d_770 : decode code 770 = .ok (.iaload, 1) := ji_dchk_at jl_i9 716 54 jl_iok9 rfl
theorem jl_d_771 : decode code 771 = .ok (.aload_n 0, 1) := ji_dchk_at jl_i9 716 55 jl_iok9 rfl
theorem jl_d_772 : decode code 772 = .ok (.iload_n 3, 1) := ji_dchk_at jl_i9 716 56 jl_iok9 rfl
theorem jl_d_773 : decode code 773 = .ok (.iconst 2, 1) := ji_dchk_at jl_i9 716 57 jl_iok9 rfl
theorem jl_d_774 : decode code 774 = .ok (.iadd, 1) := ji_dchk_at jl_i9 716 58 jl_iok9 rfl
theorem jl_d_775 : decode code 775 = .ok (.iaload, 1) := ji_dchk_at jl_i9 716 59 jl_iok9 rfl
theorem jl_d_776 : decode code 776 = .ok (.invokevirtual 97, 3) := ji_dchk_at jl_i9 716 60 jl_iok9 rfl
theorem jl_d_779 : decode code 779 = .ok (.if_icmp .eq 580, 3) := ji_dchk_at jl_i9 716 63 jl_iok9 rfl
