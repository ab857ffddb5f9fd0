/-! ===== the law's instructions 12 ===== -/
def jl_i12 : List (Option (Instr × Nat)) := [some (.aload_n 2, 1), some (.aload_n 0, 1), some (.iload_n 3, 1), some (.iconst 1, 1), some (.iadd, 1), some (.iaload, 1), some (.aload_n 0, 1), some (.iload_n 3, 1), some (.iconst 2, 1), some (.iadd, 1), some (.iaload, 1), some (.aload_n 0, 1), some (.iload_n 3, 1), some (.iconst 3, 1), some (.iadd, 1), some (.iaload, 1), some (.invokevirtual 113, 3), none, none, some (.if_icmp .eq 438, 3), none, none, some (.iconst 0, 1), some (.ireturn, 1), some (.aload_n 1, 1), some (.aload_n 0, 1), some (.iload_n 3, 1), some (.iconst 1, 1), some (.iadd, 1), some (.iaload, 1), some (.aload_n 0, 1), some (.iload_n 3, 1), some (.iconst 2, 1), some (.iadd, 1), some (.iaload, 1), some (.invokevirtual 114, 3), none, none, some (.aload_n 2, 1), some (.aload_n 0, 1), some (.iload_n 3, 1), some (.iconst 1, 1), some (.iadd, 1), some (.iaload, 1), some (.aload_n 0, 1), some (.iload_n 3, 1), some (.iconst 2, 1), some (.iadd, 1), some (.iaload, 1), some (.invokevirtual 117, 3), none, none, some (.if_icmp .eq 405, 3), none, none, some (.iconst 0, 1), some (.ireturn, 1), some (.aload_n 1, 1), some (.aload_n 0, 1), some (.iload_n 3, 1)]
theorem jl_iok12 : ji_dchk code jl_i12 902 = true := by decide +kernel
theorem jl_d_902 : decode code 902 = .ok (.aload_n 2, 1) := ji_dchk_at jl_i12 902 0 jl_iok12 rfl
theorem jl_d_903 : decode code 903 = .ok (.aload_n 0, 1) := ji_dchk_at jl_i12 902 1 jl_iok12 rfl
theorem jl_d_904 : decode code 904 = .ok (.iload_n 3, 1) := ji_dchk_at jl_i12 902 2 jl_iok12 rfl
theorem jl_d_905 : decode code 905 = .ok (.iconst 1, 1) := ji_dchk_at jl_i12 902 3 jl_iok12 rfl
theorem jl_d_906 : decode code 906 = .ok (.iadd, 1) := ji_dchk_at jl_i12 902 4 jl_iok12 rfl
theorem jl_d_907 : decode code 907 = .ok (.iaload, 1) := ji_dchk_at jl_i12 902 5 jl_iok12 rfl
theorem jl_d_908 : decode code 908 = .ok (.aload_n 0, 1) := ji_dchk_at jl_i12 902 6 jl_iok12 rfl
theorem jl_d_909 : decode code 909 = .ok (.iload_n 3, 1) := ji_dchk_at jl_i12 902 7 jl_iok12 rfl
theorem jl_d_910 : decode code 910 = .ok (.iconst 2, 1) := ji_dchk_at jl_i12 902 8 jl_iok12 rfl
theorem jl_d_911 : decode code 911 = .ok (.iadd, 1) := ji_dchk_at jl_i12 902 9 jl_iok12 rfl
theorem jl_d_912 : decode code 912 = .ok (.iaload, 1) := ji_dchk_at jl_i12 902 10 jl_iok12 rfl
theorem jl_d_913 : decode code 913 = .ok (.aload_n 0, 1) := ji_dchk_at jl_i12 902 11 jl_iok12 rfl
theorem jl_d_914 : decode code 914 = .ok (.iload_n 3, 1) := ji_dchk_at jl_i12 902 12 jl_iok12 rfl
theorem jl_d_915 : decode code 915 = .ok (.iconst 3, 1) := ji_dchk_at jl_i12 902 13 jl_iok12 rfl
theorem jl_d_916 : decode code 916 = .ok (.iadd, 1) := ji_dchk_at jl_i12 902 14 jl_iok12 rfl
theorem jl_d_917 : decode code 917 = .ok (.iaload, 1) := ji_dchk_at jl_i12 902 15 jl_iok12 rfl
theorem jl_d_918 : decode code 918 = .ok (.invokevirtual 113, 3) := ji_dchk_at jl_i12 902 16 jl_iok12 rfl
theorem jl_d_921 : decode code 921 = .ok (.if_icmp .eq 438, 3) := ji_dchk_at jl_i12 902 19 jl_iok12 rfl
theorem jl_d_924 : decode code 924 = .ok (.iconst 0, 1) := ji_dchk_at jl_i12 902 22 jl_iok12 rfl
theorem jl_d_925 : decode code 925 = .ok (.ireturn, 1) := ji_dchk_at jl_i12 902 23 jl_iok12 rfl
theorem jl_d_926 : decode code 926 = .ok (.aload_n 1, 1) := ji_dchk_at jl_i12 902 24 jl_iok12 rfl
theorem jl_d_927 : decode code 927 = .ok (.aload_n 0, 1) := ji_dchk_at jl_i12 902 25 jl_iok12 rfl
theorem jl_d_928 : decode code 928 = .ok (.iload_n 3, 1) := ji_dchk_at jl_i12 902 26 jl_iok12 rfl
theorem jl_d_929 : decode code 929 = .ok (.iconst 1, 1) := ji_dchk_at jl_i12 902 27 jl_iok12 rfl
theorem jl_d_930 : decode code 930 = .ok (.iadd, 1) := ji_dchk_at jl_i12 902 28 jl_iok12 rfl
theorem jl_d_931 : decode code 931 = .ok (.iaload, 1) := ji_dchk_at jl_i12 902 29 jl_iok12 rfl
theorem jl_d_932 : decode code 932 = .ok (.aload_n 0, 1) := ji_dchk_at jl_i12 902 30 jl_iok12 rfl
theorem jl_d_933 : decode code 933 = .ok (.iload_n 3, 1) := ji_dchk_at jl_i12 902 31 jl_iok12 rfl
theorem jl_d_934 : decode code 934 = .ok (.iconst 2, 1) := ji_dchk_at jl_i12 902 32 jl_iok12 rfl
theorem jl_d_935 : decode code 935 = .ok (.iadd, 1) := ji_dchk_at jl_i12 902 33 jl_iok12 rfl
theorem jl_d_936 : decode code 936 = .ok (.iaload, 1) := ji_dchk_at jl_i12 902 34 jl_iok12 rfl
theorem jl_d_937 : decode code 937 = .ok (.invokevirtual 114, 3) := ji_dchk_at jl_i12 902 35 jl_iok12 rfl
theorem jl_d_940 : decode code 940 = .ok (.aload_n 2, 1) := ji_dchk_at jl_i12 902 38 jl_iok12 rfl
theorem jl_d_941 : decode code 941 = .ok (.aload_n 0, 1) := ji_dchk_at jl_i12 902 39 jl_iok12 rfl
theorem jl_d_942 : decode code 942 = .ok (.iload_n 3, 1) := ji_dchk_at jl_i12 902 40 jl_iok12 rfl
theorem jl_d_943 : decode code 943 = .ok (.iconst 1, 1) := ji_dchk_at jl_i12 902 41 jl_iok12 rfl
theorem jl_d_944 : decode code 944 = .ok (.iadd, 1) := ji_dchk_at jl_i12 902 42 jl_iok12 rfl
theorem jl_d_945 : decode code 945 = .ok (.iaload, 1) := ji_dchk_at jl_i12 902 43 jl_iok12 rfl
theorem jl_d_946 : decode code 946 = .ok (.aload_n 0, 1) := ji_dchk_at jl_i12 902 44 jl_iok12 rfl
theorem jl_d_947 : decode code 947 = .ok (.iload_n 3, 1) := ji_dchk_at jl_i12 902 45 jl_iok12 rfl
theorem jl_d_948 : decode code 948 = .ok (.iconst 2, 1) := ji_dchk_at jl_i12 902 46 jl_iok12 rfl
theorem jl_d_949 : decode code 949 = .ok (.iadd, 1) := ji_dchk_at jl_i12 902 47 jl_iok12 rfl
theorem jl_d_950 : decode code 950 = .ok (.iaload, 1) := ji_dchk_at jl_i12 902 48 jl_iok12 rfl
theorem jl_d_951 : decode code 951 = .ok (.invokevirtual 117, 3) := ji_dchk_at jl_i12 902 49 jl_iok12 rfl
theorem jl_d_954 : decode code 954 = .ok (.if_icmp .eq 405, 3) := ji_dchk_at jl_i12 902 52 jl_iok12 rfl
theorem jl_d_957 : decode code 957 = .ok (.iconst 0, 1) := ji_dchk_at jl_i12 902 55 jl_iok12 rfl
theorem jl_d_958 : decode code 958 = .ok (.ireturn, 1) := ji_dchk_at jl_i12 902 56 jl_iok12 rfl
theorem jl_d_959 : decode code 959 = .ok (.aload_n 1, 1) := ji_dchk_at jl_i12 902 57 jl_iok12 rfl
theorem jl_d_960 : decode code 960 = .ok (.aload_n 0, 1) := ji_dchk_at jl_i12 902 58 jl_iok12 rfl
theorem jl_d_961 : decode code 961 = .ok (.iload_n 3, 1) := ji_dchk_at jl_i12 902 59 jl_iok12 rfl
