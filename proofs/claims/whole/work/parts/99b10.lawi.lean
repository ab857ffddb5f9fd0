/-! ===== the law's instructions 10 ===== -/
def jl_i10 : List (Option (Instr × Nat)) := [some (.iconst 0, 1), some (.ireturn, 1), some (.aload_n 1, 1), some (.aload_n 0, 1), some (.iload_n 3, 1), some (.iconst 1, 1), some (.iadd, 1), some (.iaload, 1), some (.aload_n 0, 1), some (.iload_n 3, 1), some (.iconst 2, 1), some (.iadd, 1), some (.iaload, 1), some (.invokevirtual 98, 3), none, none, some (.aload_n 2, 1), some (.aload_n 0, 1), some (.iload_n 3, 1), some (.iconst 1, 1), some (.iadd, 1), some (.iaload, 1), some (.aload_n 0, 1), some (.iload_n 3, 1), some (.iconst 2, 1), some (.iadd, 1), some (.iaload, 1), some (.invokevirtual 101, 3), none, none, some (.if_icmp .eq 547, 3), none, none, some (.iconst 0, 1), some (.ireturn, 1), some (.aload_n 1, 1), some (.aload_n 0, 1), some (.iload_n 3, 1), some (.iconst 1, 1), some (.iadd, 1), some (.iaload, 1), some (.invokevirtual 102, 3), none, none, some (.aload_n 2, 1), some (.aload_n 0, 1), some (.iload_n 3, 1), some (.iconst 1, 1), some (.iadd, 1), some (.iaload, 1), some (.invokevirtual 105, 3), none, none, some (.if_icmp .eq 524, 3), none, none, some (.iconst 0, 1), some (.ireturn, 1), some (.aload_n 1, 1), some (.aload_n 0, 1), some (.iload_n 3, 1), some (.iconst 1, 1)]
theorem jl_iok10 : ji_dchk code jl_i10 782 = true := by decide +kernel
theorem jl_d_782 : decode code 782 = .ok (.iconst 0, 1) := ji_dchk_at jl_i10 782 0 jl_iok10 rfl
theorem jl_d_783 : decode code 783 = .ok (.ireturn, 1) := ji_dchk_at jl_i10 782 1 jl_iok10 rfl
theorem jl_d_784 : decode code 784 = .ok (.aload_n 1, 1) := ji_dchk_at jl_i10 782 2 jl_iok10 rfl
theorem jl_d_785 : decode code 785 = .ok (.aload_n 0, 1) := ji_dchk_at jl_i10 782 3 jl_iok10 rfl
theorem jl_d_786 : decode code 786 = .ok (.iload_n 3, 1) := ji_dchk_at jl_i10 782 4 jl_iok10 rfl
theorem jl_d_787 : decode code 787 = .ok (.iconst 1, 1) := ji_dchk_at jl_i10 782 5 jl_iok10 rfl
theorem jl_d_788 : decode code 788 = .ok (.iadd, 1) := ji_dchk_at jl_i10 782 6 jl_iok10 rfl
theorem jl_d_789 : decode code 789 = .ok (.iaload, 1) := ji_dchk_at jl_i10 782 7 jl_iok10 rfl
theorem jl_d_790 : decode code 790 = .ok (.aload_n 0, 1) := ji_dchk_at jl_i10 782 8 jl_iok10 rfl
theorem jl_d_791 : decode code 791 = .ok (.iload_n 3, 1) := ji_dchk_at jl_i10 782 9 jl_iok10 rfl
theorem jl_d_792 : decode code 792 = .ok (.iconst 2, 1) := ji_dchk_at jl_i10 782 10 jl_iok10 rfl
theorem jl_d_793 : decode code 793 = .ok (.iadd, 1) := ji_dchk_at jl_i10 782 11 jl_iok10 rfl
theorem jl_d_794 : decode code 794 = .ok (.iaload, 1) := ji_dchk_at jl_i10 782 12 jl_iok10 rfl
theorem jl_d_795 : decode code 795 = .ok (.invokevirtual 98, 3) := ji_dchk_at jl_i10 782 13 jl_iok10 rfl
theorem jl_d_798 : decode code 798 = .ok (.aload_n 2, 1) := ji_dchk_at jl_i10 782 16 jl_iok10 rfl
theorem jl_d_799 : decode code 799 = .ok (.aload_n 0, 1) := ji_dchk_at jl_i10 782 17 jl_iok10 rfl
theorem jl_d_800 : decode code 800 = .ok (.iload_n 3, 1) := ji_dchk_at jl_i10 782 18 jl_iok10 rfl
theorem jl_d_801 : decode code 801 = .ok (.iconst 1, 1) := ji_dchk_at jl_i10 782 19 jl_iok10 rfl
theorem jl_d_802 : decode code 802 = .ok (.iadd, 1) := ji_dchk_at jl_i10 782 20 jl_iok10 rfl
theorem jl_d_803 : decode code 803 = .ok (.iaload, 1) := ji_dchk_at jl_i10 782 21 jl_iok10 rfl
theorem jl_d_804 : decode code 804 = .ok (.aload_n 0, 1) := ji_dchk_at jl_i10 782 22 jl_iok10 rfl
theorem jl_d_805 : decode code 805 = .ok (.iload_n 3, 1) := ji_dchk_at jl_i10 782 23 jl_iok10 rfl
theorem jl_d_806 : decode code 806 = .ok (.iconst 2, 1) := ji_dchk_at jl_i10 782 24 jl_iok10 rfl
theorem jl_d_807 : decode code 807 = .ok (.iadd, 1) := ji_dchk_at jl_i10 782 25 jl_iok10 rfl
theorem jl_d_808 : decode code 808 = .ok (.iaload, 1) := ji_dchk_at jl_i10 782 26 jl_iok10 rfl
theorem jl_d_809 : decode code 809 = .ok (.invokevirtual 101, 3) := ji_dchk_at jl_i10 782 27 jl_iok10 rfl
theorem jl_d_812 : decode code 812 = .ok (.if_icmp .eq 547, 3) := ji_dchk_at jl_i10 782 30 jl_iok10 rfl
theorem jl_d_815 : decode code 815 = .ok (.iconst 0, 1) := ji_dchk_at jl_i10 782 33 jl_iok10 rfl
theorem jl_d_816 : decode code 816 = .ok (.ireturn, 1) := ji_dchk_at jl_i10 782 34 jl_iok10 rfl
theorem jl_d_817 : decode code 817 = .ok (.aload_n 1, 1) := ji_dchk_at jl_i10 782 35 jl_iok10 rfl
theorem jl_d_818 : decode code 818 = .ok (.aload_n 0, 1) := ji_dchk_at jl_i10 782 36 jl_iok10 rfl
theorem jl_d_819 : decode code 819 = .ok (.iload_n 3, 1) := ji_dchk_at jl_i10 782 37 jl_iok10 rfl
theorem jl_d_820 : decode code 820 = .ok (.iconst 1, 1) := ji_dchk_at jl_i10 782 38 jl_iok10 rfl
theorem jl_d_821 : decode code 821 = .ok (.iadd, 1) := ji_dchk_at jl_i10 782 39 jl_iok10 rfl
theorem jl_d_822 : decode code 822 = .ok (.iaload, 1) := ji_dchk_at jl_i10 782 40 jl_iok10 rfl
theorem jl_d_823 : decode code 823 = .ok (.invokevirtual 102, 3) := ji_dchk_at jl_i10 782 41 jl_iok10 rfl
theorem jl_d_826 : decode code 826 = .ok (.aload_n 2, 1) := ji_dchk_at jl_i10 782 44 jl_iok10 rfl
theorem jl_d_827 : decode code 827 = .ok (.aload_n 0, 1) := ji_dchk_at jl_i10 782 45 jl_iok10 rfl
theorem jl_d_828 : decode code 828 = .ok (.iload_n 3, 1) := ji_dchk_at jl_i10 782 46 jl_iok10 rfl
theorem jl_d_829 : decode code 829 = .ok (.iconst 1, 1) := ji_dchk_at jl_i10 782 47 jl_iok10 rfl
theorem jl_d_830 : decode code 830 = .ok (.iadd, 1) := ji_dchk_at jl_i10 782 48 jl_iok10 rfl
theorem jl_d_831 : decode code 831 = .ok (.iaload, 1) := ji_dchk_at jl_i10 782 49 jl_iok10 rfl
theorem jl_d_832 : decode code 832 = .ok (.invokevirtual 105, 3) := ji_dchk_at jl_i10 782 50 jl_iok10 rfl
theorem jl_d_835 : decode code 835 = .ok (.if_icmp .eq 524, 3) := ji_dchk_at jl_i10 782 53 jl_iok10 rfl
theorem jl_d_838 : decode code 838 = .ok (.iconst 0, 1) := ji_dchk_at jl_i10 782 56 jl_iok10 rfl
theorem jl_d_839 : decode code 839 = .ok (.ireturn, 1) := ji_dchk_at jl_i10 782 57 jl_iok10 rfl
theorem jl_d_840 : decode code 840 = .ok (.aload_n 1, 1) := ji_dchk_at jl_i10 782 58 jl_iok10 rfl
theorem jl_d_841 : decode code 841 = .ok (.aload_n 0, 1) := ji_dchk_at jl_i10 782 59 jl_iok10 rfl
theorem jl_d_842 : decode code 842 = .ok (.iload_n 3, 1) := ji_dchk_at jl_i10 782 60 jl_iok10 rfl
theorem jl_d_843 : decode code 843 = .ok (.iconst 1, 1) := ji_dchk_at jl_i10 782 61 jl_iok10 rfl
