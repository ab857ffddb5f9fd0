/-! ===== the law's instructions 11 ===== -/
def jl_i11 : List (Option (Instr × Nat)) := [some (.iadd, 1), some (.iaload, 1), some (.aload_n 0, 1), some (.iload_n 3, 1), some (.iconst 2, 1), some (.iadd, 1), some (.iaload, 1), some (.aload_n 0, 1), some (.iload_n 3, 1), some (.iconst 3, 1), some (.iadd, 1), some (.iaload, 1), some (.invokevirtual 106, 3), none, none, some (.aload_n 2, 1), some (.aload_n 0, 1), some (.iload_n 3, 1), some (.iconst 1, 1), some (.iadd, 1), some (.iaload, 1), some (.aload_n 0, 1), some (.iload_n 3, 1), some (.iconst 2, 1), some (.iadd, 1), some (.iaload, 1), some (.aload_n 0, 1), some (.iload_n 3, 1), some (.iconst 3, 1), some (.iadd, 1), some (.iaload, 1), some (.invokevirtual 109, 3), none, none, some (.if_icmp .eq 481, 3), none, none, some (.iconst 0, 1), some (.ireturn, 1), some (.aload_n 1, 1), some (.aload_n 0, 1), some (.iload_n 3, 1), some (.iconst 1, 1), some (.iadd, 1), some (.iaload, 1), some (.aload_n 0, 1), some (.iload_n 3, 1), some (.iconst 2, 1), some (.iadd, 1), some (.iaload, 1), some (.aload_n 0, 1), some (.iload_n 3, 1), some (.iconst 3, 1), some (.iadd, 1), some (.iaload, 1), some (.invokevirtual 110, 3)]
theorem jl_iok11 : ji_dchk code jl_i11 844 = true := by decide +kernel
theorem jl_d_844 : decode code 844 = .ok (.iadd, 1) := ji_dchk_at jl_i11 844 0 jl_iok11 rfl
theorem jl_d_845 : decode code 845 = .ok (.iaload, 1) := ji_dchk_at jl_i11 844 1 jl_iok11 rfl
theorem jl_d_846 : decode code 846 = .ok (.aload_n 0, 1) := ji_dchk_at jl_i11 844 2 jl_iok11 rfl
theorem jl_d_847 : decode code 847 = .ok (.iload_n 3, 1) := ji_dchk_at jl_i11 844 3 jl_iok11 rfl
theorem jl_d_848 : decode code 848 = .ok (.iconst 2, 1) := ji_dchk_at jl_i11 844 4 jl_iok11 rfl
theorem jl_d_849 : decode code 849 = .ok (.iadd, 1) := ji_dchk_at jl_i11 844 5 jl_iok11 rfl
theorem jl_d_850 : decode code 850 = .ok (.iaload, 1) := ji_dchk_at jl_i11 844 6 jl_iok11 rfl
theorem jl_d_851 : decode code 851 = .ok (.aload_n 0, 1) := ji_dchk_at jl_i11 844 7 jl_iok11 rfl
theorem jl_d_852 : decode code 852 = .ok (.iload_n 3, 1) := ji_dchk_at jl_i11 844 8 jl_iok11 rfl
theorem jl_d_853 : decode code 853 = .ok (.iconst 3, 1) := ji_dchk_at jl_i11 844 9 jl_iok11 rfl
theorem jl_d_854 : decode code 854 = .ok (.iadd, 1) := ji_dchk_at jl_i11 844 10 jl_iok11 rfl
theorem jl_d_855 : decode code 855 = .ok (.iaload, 1) := ji_dchk_at jl_i11 844 11 jl_iok11 rfl
theorem jl_d_856 : decode code 856 = .ok (.invokevirtual 106, 3) := ji_dchk_at jl_i11 844 12 jl_iok11 rfl
theorem jl_d_859 : decode code 859 = .ok (.aload_n 2, 1) := ji_dchk_at jl_i11 844 15 jl_iok11 rfl
theorem jl_d_860 : decode code 860 = .ok (.aload_n 0, 1) := ji_dchk_at jl_i11 844 16 jl_iok11 rfl
theorem jl_d_861 : decode code 861 = .ok (.iload_n 3, 1) := ji_dchk_at jl_i11 844 17 jl_iok11 rfl
theorem jl_d_862 : decode code 862 = .ok (.iconst 1, 1) := ji_dchk_at jl_i11 844 18 jl_iok11 rfl
theorem jl_d_863 : decode code 863 = .ok (.iadd, 1) := ji_dchk_at jl_i11 844 19 jl_iok11 rfl
theorem jl_d_864 : decode code 864 = .ok (.iaload, 1) := ji_dchk_at jl_i11 844 20 jl_iok11 rfl
theorem jl_d_865 : decode code 865 = .ok (.aload_n 0, 1) := ji_dchk_at jl_i11 844 21 jl_iok11 rfl
theorem jl_d_866 : decode code 866 = .ok (.iload_n 3, 1) := ji_dchk_at jl_i11 844 22 jl_iok11 rfl
theorem jl_d_867 : decode code 867 = .ok (.iconst 2, 1) := ji_dchk_at jl_i11 844 23 jl_iok11 rfl
theorem jl_d_868 : decode code 868 = .ok (.iadd, 1) := ji_dchk_at jl_i11 844 24 jl_iok11 rfl
theorem jl_d_869 : decode code 869 = .ok (.iaload, 1) := ji_dchk_at jl_i11 844 25 jl_iok11 rfl
theorem jl_d_870 : decode code 870 = .ok (.aload_n 0, 1) := ji_dchk_at jl_i11 844 26 jl_iok11 rfl
theorem jl_d_871 : decode code 871 = .ok (.iload_n 3, 1) := ji_dchk_at jl_i11 844 27 jl_iok11 rfl
theorem jl_d_872 : decode code 872 = .ok (.iconst 3, 1) := ji_dchk_at jl_i11 844 28 jl_iok11 rfl
theorem jl_d_873 : decode code 873 = .ok (.iadd, 1) := ji_dchk_at jl_i11 844 29 jl_iok11 rfl
theorem jl_d_874 : decode code 874 = .ok (.iaload, 1) := ji_dchk_at jl_i11 844 30 jl_iok11 rfl
theorem jl_d_875 : decode code 875 = .ok (.invokevirtual 109, 3) := ji_dchk_at jl_i11 844 31 jl_iok11 rfl
theorem jl_d_878 : decode code 878 = .ok (.if_icmp .eq 481, 3) := ji_dchk_at jl_i11 844 34 jl_iok11 rfl
theorem jl_d_881 : decode code 881 = .ok (.iconst 0, 1) := ji_dchk_at jl_i11 844 37 jl_iok11 rfl
theorem jl_d_882 : decode code 882 = .ok (.ireturn, 1) := ji_dchk_at jl_i11 844 38 jl_iok11 rfl
theorem jl_d_883 : decode code 883 = .ok (.aload_n 1, 1) := ji_dchk_at jl_i11 844 39 jl_iok11 rfl
theorem jl_d_884 : decode code 884 = .ok (.aload_n 0, 1) := ji_dchk_at jl_i11 844 40 jl_iok11 rfl
theorem jl_d_885 : decode code 885 = .ok (.iload_n 3, 1) := ji_dchk_at jl_i11 844 41 jl_iok11 rfl
theorem jl_d_886 : decode code 886 = .ok (.iconst 1, 1) := ji_dchk_at jl_i11 844 42 jl_iok11 rfl
theorem jl_d_887 : decode code 887 = .ok (.iadd, 1) := ji_dchk_at jl_i11 844 43 jl_iok11 rfl
theorem jl_d_888 : decode code 888 = .ok (.iaload, 1) := ji_dchk_at jl_i11 844 44 jl_iok11 rfl
theorem jl_d_889 : decode code 889 = .ok (.aload_n 0, 1) := ji_dchk_at jl_i11 844 45 jl_iok11 rfl
theorem jl_d_890 : decode code 890 = .ok (.iload_n 3, 1) := ji_dchk_at jl_i11 844 46 jl_iok11 rfl
theorem jl_d_891 : decode code 891 = .ok (.iconst 2, 1) := ji_dchk_at jl_i11 844 47 jl_iok11 rfl
theorem jl_d_892 : decode code 892 = .ok (.iadd, 1) := ji_dchk_at jl_i11 844 48 jl_iok11 rfl
theorem jl_d_893 : decode code 893 = .ok (.iaload, 1) := ji_dchk_at jl_i11 844 49 jl_iok11 rfl
theorem jl_d_894 : decode code 894 = .ok (.aload_n 0, 1) := ji_dchk_at jl_i11 844 50 jl_iok11 rfl
theorem jl_d_895 : decode code 895 = .ok (.iload_n 3, 1) := ji_dchk_at jl_i11 844 51 jl_iok11 rfl
theorem jl_d_896 : decode code 896 = .ok (.iconst 3, 1) := ji_dchk_at jl_i11 844 52 jl_iok11 rfl
theorem jl_d_897 : decode code 897 = .ok (.iadd, 1) := ji_dchk_at jl_i11 844 53 jl_iok11 rfl
theorem jl_d_898 : decode code 898 = .ok (.iaload, 1) := ji_dchk_at jl_i11 844 54 jl_iok11 rfl
theorem jl_d_899 : decode code 899 = .ok (.invokevirtual 110, 3) := ji_dchk_at jl_i11 844 55 jl_iok11 rfl
