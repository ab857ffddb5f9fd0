/-! ===== the law's instructions 13 ===== -/
def jl_i13 : List (Option (Instr × Nat)) := [some (.iconst 1, 1), some (.iadd, 1), some (.iaload, 1), some (.aload_n 0, 1), some (.iload_n 3, 1), some (.iconst 2, 1), some (.iadd, 1), some (.iaload, 1), some (.aload_n 0, 1), some (.iload_n 3, 1), some (.iconst 3, 1), some (.iadd, 1), some (.iaload, 1), some (.invokevirtual 118, 3), none, none, some (.aload_n 2, 1), some (.aload_n 0, 1), some (.iload_n 3, 1), some (.iconst 1, 1), some (.iadd, 1), some (.iaload, 1), some (.aload_n 0, 1), some (.iload_n 3, 1), some (.iconst 2, 1), some (.iadd, 1), some (.iaload, 1), some (.aload_n 0, 1), some (.iload_n 3, 1), some (.iconst 3, 1), some (.iadd, 1), some (.iaload, 1), some (.invokevirtual 121, 3), none, none, some (.if_icmp .eq 362, 3), none, none, some (.iconst 0, 1), some (.ireturn, 1), some (.aload_n 1, 1), some (.aload_n 0, 1), some (.iload_n 3, 1), some (.iconst 1, 1), some (.iadd, 1), some (.iaload, 1), some (.invokevirtual 122, 3), none, none, some (.aload_n 2, 1), some (.aload_n 0, 1), some (.iload_n 3, 1), some (.iconst 1, 1), some (.iadd, 1), some (.iaload, 1), some (.invokevirtual 125, 3), none, none, some (.if_icmp .eq 339, 3), none, none, some (.iconst 0, 1)]
theorem jl_iok13 : ji_dchk code jl_i13 962 = true := by decide +kernel
theorem jl_d_962 : decode code 962 = .ok (.iconst 1, 1) := ji_dchk_at jl_i13 962 0 jl_iok13 rfl
theorem jl_d_963 : decode code 963 = .ok (.iadd, 1) := ji_dchk_at jl_i13 962 1 jl_iok13 rfl
theorem jl_d_964 : decode code 964 = .ok (.iaload, 1) := ji_dchk_at jl_i13 962 2 jl_iok13 rfl
theorem jl_d_965 : decode code 965 = .ok (.aload_n 0, 1) := ji_dchk_at jl_i13 962 3 jl_iok13 rfl
theorem jl_d_966 : decode code 966 = .ok (.iload_n 3, 1) := ji_dchk_at jl_i13 962 4 jl_iok13 rfl
theorem jl_d_967 : decode code 967 = .ok (.iconst 2, 1) := ji_dchk_at jl_i13 962 5 jl_iok13 rfl
theorem jl_d_968 : decode code 968 = .ok (.iadd, 1) := ji_dchk_at jl_i13 962 6 jl_iok13 rfl
theorem jl_d_969 : decode code 969 = .ok (.iaload, 1) := ji_dchk_at jl_i13 962 7 jl_iok13 rfl
theorem jl_d_970 : decode code 970 = .ok (.aload_n 0, 1) := ji_dchk_at jl_i13 962 8 jl_iok13 rfl
theorem jl_d_971 : decode code 971 = .ok (.iload_n 3, 1) := ji_dchk_at jl_i13 962 9 jl_iok13 rfl
theorem jl_d_972 : decode code 972 = .ok (.iconst 3, 1) := ji_dchk_at jl_i13 962 10 jl_iok13 rfl
theorem jl_d_973 : decode code 973 = .ok (.iadd, 1) := ji_dchk_at jl_i13 962 11 jl_iok13 rfl
theorem jl_d_974 : decode code 974 = .ok (.iaload, 1) := ji_dchk_at jl_i13 962 12 jl_iok13 rfl
theorem jl_d_975 : decode code 975 = .ok (.invokevirtual 118, 3) := ji_dchk_at jl_i13 962 13 jl_iok13 rfl
theorem jl_d_978 : decode code 978 = .ok (.aload_n 2, 1) := ji_dchk_at jl_i13 962 16 jl_iok13 rfl
theorem jl_d_979 : decode code 979 = .ok (.aload_n 0, 1) := ji_dchk_at jl_i13 962 17 jl_iok13 rfl
theorem jl_d_980 : decode code 980 = .ok (.iload_n 3, 1) := ji_dchk_at jl_i13 962 18 jl_iok13 rfl
theorem jl_d_981 : decode code 981 = .ok (.iconst 1, 1) := ji_dchk_at jl_i13 962 19 jl_iok13 rfl
theorem jl_d_982 : decode code 982 = .ok (.iadd, 1) := ji_dchk_at jl_i13 962 20 jl_iok13 rfl
theorem jl_d_983 : decode code 983 = .ok (.iaload, 1) := ji_dchk_at jl_i13 962 21 jl_iok13 rfl
theorem jl_d_984 : decode code 984 = .ok (.aload_n 0, 1) := ji_dchk_at jl_i13 962 22 jl_iok13 rfl
theorem jl_d_985 : decode code 985 = .ok (.iload_n 3, 1) := ji_dchk_at jl_i13 962 23 jl_iok13 rfl
theorem jl_d_986 : decode code 986 = .ok (.iconst 2, 1) := ji_dchk_at jl_i13 962 24 jl_iok13 rfl
theorem jl_d_987 : decode code 987 = .ok (.iadd, 1) := ji_dchk_at jl_i13 962 25 jl_iok13 rfl
theorem jl_d_988 : decode code 988 = .ok (.iaload, 1) := ji_dchk_at jl_i13 962 26 jl_iok13 rfl
theorem jl_d_989 : decode code 989 = .ok (.aload_n 0, 1) := ji_dchk_at jl_i13 962 27 jl_iok13 rfl
theorem jl_d_990 : decode code 990 = .ok (.iload_n 3, 1) := ji_dchk_at jl_i13 962 28 jl_iok13 rfl
theorem jl_d_991 : decode code 991 = .ok (.iconst 3, 1) := ji_dchk_at jl_i13 962 29 jl_iok13 rfl
theorem jl_d_992 : decode code 992 = .ok (.iadd, 1) := ji_dchk_at jl_i13 962 30 jl_iok13 rfl
theorem jl_d_993 : decode code 993 = .ok (.iaload, 1) := ji_dchk_at jl_i13 962 31 jl_iok13 rfl
theorem jl_d_994 : decode code 994 = .ok (.invokevirtual 121, 3) := ji_dchk_at jl_i13 962 32 jl_iok13 rfl
theorem jl_d_997 : decode code 997 = .ok (.if_icmp .eq 362, 3) := ji_dchk_at jl_i13 962 35 jl_iok13 rfl
theorem jl_d_1000 : decode code 1000 = .ok (.iconst 0, 1) := ji_dchk_at jl_i13 962 38 jl_iok13 rfl
theorem jl_d_1001 : decode code 1001 = .ok (.ireturn, 1) := ji_dchk_at jl_i13 962 39 jl_iok13 rfl
theorem jl_d_1002 : decode code 1002 = .ok (.aload_n 1, 1) := ji_dchk_at jl_i13 962 40 jl_iok13 rfl
theorem jl_d_1003 : decode code 1003 = .ok (.aload_n 0, 1) := ji_dchk_at jl_i13 962 41 jl_iok13 rfl
theorem jl_d_1004 : decode code 1004 = .ok (.iload_n 3, 1) := ji_dchk_at jl_i13 962 42 jl_iok13 rfl
theorem jl_d_1005 : decode code 1005 = .ok (.iconst 1, 1) := ji_dchk_at jl_i13 962 43 jl_iok13 rfl
theorem jl_d_1006 : decode code 1006 = .ok (.iadd, 1) := ji_dchk_at jl_i13 962 44 jl_iok13 rfl
theorem jl_d_1007 : decode code 1007 = .ok (.iaload, 1) := ji_dchk_at jl_i13 962 45 jl_iok13 rfl
theorem jl_d_1008 : decode code 1008 = .ok (.invokevirtual 122, 3) := ji_dchk_at jl_i13 962 46 jl_iok13 rfl
theorem jl_d_1011 : decode code 1011 = .ok (.aload_n 2, 1) := ji_dchk_at jl_i13 962 49 jl_iok13 rfl
theorem jl_d_1012 : decode code 1012 = .ok (.aload_n 0, 1) := ji_dchk_at jl_i13 962 50 jl_iok13 rfl
theorem jl_d_1013 : decode code 1013 = .ok (.iload_n 3, 1) := ji_dchk_at jl_i13 962 51 jl_iok13 rfl
theorem jl_d_1014 : decode code 1014 = .ok (.iconst 1, 1) := ji_dchk_at jl_i13 962 52 jl_iok13 rfl
theorem jl_d_1015 : decode code 1015 = .ok (.iadd, 1) := ji_dchk_at jl_i13 962 53 jl_iok13 rfl
theorem jl_d_1016 : decode code 1016 = .ok (.iaload, 1) := ji_dchk_at jl_i13 962 54 jl_iok13 rfl
theorem jl_d_1017 : decode code 1017 = .ok (.invokevirtual 125, 3) := ji_dchk_at jl_i13 962 55 jl_iok13 rfl
theorem jl_d_1020 : decode code 1020 = .ok (.if_icmp .eq 339, 3) := ji_dchk_at jl_i13 962 58 jl_iok13 rfl
theorem jl_d_1023 : decode code 1023 = .ok (.iconst 0, 1) := ji_dchk_at jl_i13 962 61 jl_iok13 rfl
