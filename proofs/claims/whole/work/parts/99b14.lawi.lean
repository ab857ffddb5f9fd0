/-! ===== the law's instructions 14 ===== -/
def jl_i14 : List (Option (Instr × Nat)) := [some (.ireturn, 1), some (.aload_n 1, 1), some (.aload_n 0, 1), some (.iload_n 3, 1), some (.iconst 1, 1), some (.iadd, 1), some (.iaload, 1), some (.aload_n 0, 1), some (.iload_n 3, 1), some (.iconst 2, 1), some (.iadd, 1), some (.iaload, 1), some (.invokevirtual 126, 3), none, none, some (.aload_n 2, 1), some (.aload_n 0, 1), some (.iload_n 3, 1), some (.iconst 1, 1), some (.iadd, 1), some (.iaload, 1), some (.aload_n 0, 1), some (.iload_n 3, 1), some (.iconst 2, 1), some (.iadd, 1), some (.iaload, 1), some (.invokevirtual 129, 3), none, none, some (.if_icmp .eq 306, 3), none, none, some (.iconst 0, 1), some (.ireturn, 1), some (.aload_n 1, 1), some (.aload_n 0, 1), some (.iload_n 3, 1), some (.iconst 1, 1), some (.iadd, 1), some (.iaload, 1), some (.aload_n 0, 1), some (.iload_n 3, 1), some (.iconst 2, 1), some (.iadd, 1), some (.iaload, 1), some (.aload_n 0, 1), some (.iload_n 3, 1), some (.iconst 3, 1), some (.iadd, 1), some (.iaload, 1), some (.invokevirtual 130, 3), none, none, some (.aload_n 2, 1), some (.aload_n 0, 1), some (.iload_n 3, 1), some (.iconst 1, 1), some (.iadd, 1)]
theorem jl_iok14 : ji_dchk code jl_i14 1024 = true := by decide +kernel
theorem jl_d_1024 : decode code 1024 = .ok (.ireturn, 1) := ji_dchk_at jl_i14 1024 0 jl_iok14 rfl
theorem jl_d_1025 : decode code 1025 = .ok (.aload_n 1, 1) := ji_dchk_at jl_i14 1024 1 jl_iok14 rfl
theorem jl_d_1026 : decode code 1026 = .ok (.aload_n 0, 1) := ji_dchk_at jl_i14 1024 2 jl_iok14 rfl
theorem jl_d_1027 : decode code 1027 = .ok (.iload_n 3, 1) := ji_dchk_at jl_i14 1024 3 jl_iok14 rfl
theorem jl_d_1028 : decode code 1028 = .ok (.iconst 1, 1) := ji_dchk_at jl_i14 1024 4 jl_iok14 rfl
theorem jl_d_1029 : decode code 1029 = .ok (.iadd, 1) := ji_dchk_at jl_i14 1024 5 jl_iok14 rfl
theorem jl_d_1030 : decode code 1030 = .ok (.iaload, 1) := ji_dchk_at jl_i14 1024 6 jl_iok14 rfl
theorem jl_d_1031 : decode code 1031 = .ok (.aload_n 0, 1) := ji_dchk_at jl_i14 1024 7 jl_iok14 rfl
theorem jl_d_1032 : decode code 1032 = .ok (.iload_n 3, 1) := ji_dchk_at jl_i14 1024 8 jl_iok14 rfl
theorem jl_d_1033 : decode code 1033 = .ok (.iconst 2, 1) := ji_dchk_at jl_i14 1024 9 jl_iok14 rfl
theorem jl_d_1034 : decode code 1034 = .ok (.iadd, 1) := ji_dchk_at jl_i14 1024 10 jl_iok14 rfl
theorem jl_d_1035 : decode code 1035 = .ok (.iaload, 1) := ji_dchk_at jl_i14 1024 11 jl_iok14 rfl
theorem jl_d_1036 : decode code 1036 = .ok (.invokevirtual 126, 3) := ji_dchk_at jl_i14 1024 12 jl_iok14 rfl
theorem jl_d_1039 : decode code 1039 = .ok (.aload_n 2, 1) := ji_dchk_at jl_i14 1024 15 jl_iok14 rfl
theorem jl_d_1040 : decode code 1040 = .ok (.aload_n 0, 1) := ji_dchk_at jl_i14 1024 16 jl_iok14 rfl
theorem jl_d_1041 : decode code 1041 = .ok (.iload_n 3, 1) := ji_dchk_at jl_i14 1024 17 jl_iok14 rfl
theorem jl_d_1042 : decode code 1042 = .ok (.iconst 1, 1) := ji_dchk_at jl_i14 1024 18 jl_iok14 rfl
theorem jl_d_1043 : decode code 1043 = .ok (.iadd, 1) := ji_dchk_at jl_i14 1024 19 jl_iok14 rfl
theorem jl_d_1044 : decode code 1044 = .ok (.iaload, 1) := ji_dchk_at jl_i14 1024 20 jl_iok14 rfl
theorem jl_d_1045 : decode code 1045 = .ok (.aload_n 0, 1) := ji_dchk_at jl_i14 1024 21 jl_iok14 rfl
theorem jl_d_1046 : decode code 1046 = .ok (.iload_n 3, 1) := ji_dchk_at jl_i14 1024 22 jl_iok14 rfl
theorem jl_d_1047 : decode code 1047 = .ok (.iconst 2, 1) := ji_dchk_at jl_i14 1024 23 jl_iok14 rfl
theorem jl_d_1048 : decode code 1048 = .ok (.iadd, 1) := ji_dchk_at jl_i14 1024 24 jl_iok14 rfl
theorem jl_d_1049 : decode code 1049 = .ok (.iaload, 1) := ji_dchk_at jl_i14 1024 25 jl_iok14 rfl
theorem jl_d_1050 : decode code 1050 = .ok (.invokevirtual 129, 3) := ji_dchk_at jl_i14 1024 26 jl_iok14 rfl
theorem jl_d_1053 : decode code 1053 = .ok (.if_icmp .eq 306, 3) := ji_dchk_at jl_i14 1024 29 jl_iok14 rfl
theorem jl_d_1056 : decode code 1056 = .ok (.iconst 0, 1) := ji_dchk_at jl_i14 1024 32 jl_iok14 rfl
theorem jl_d_1057 : decode code 1057 = .ok (.ireturn, 1) := ji_dchk_at jl_i14 1024 33 jl_iok14 rfl
theorem jl_d_1058 : decode code 1058 = .ok (.aload_n 1, 1) := ji_dchk_at jl_i14 1024 34 jl_iok14 rfl
theorem jl_d_1059 : decode code 1059 = .ok (.aload_n 0, 1) := ji_dchk_at jl_i14 1024 35 jl_iok14 rfl
theorem jl_d_1060 : decode code 1060 = .ok (.iload_n 3, 1) := ji_dchk_at jl_i14 1024 36 jl_iok14 rfl
theorem jl_d_1061 : decode code 1061 = .ok (.iconst 1, 1) := ji_dchk_at jl_i14 1024 37 jl_iok14 rfl
theorem jl_d_1062 : decode code 1062 = .ok (.iadd, 1) := ji_dchk_at jl_i14 1024 38 jl_iok14 rfl
theorem jl_d_1063 : decode code 1063 = .ok (.iaload, 1) := ji_dchk_at jl_i14 1024 39 jl_iok14 rfl
theorem jl_d_1064 : decode code 1064 = .ok (.aload_n 0, 1) := ji_dchk_at jl_i14 1024 40 jl_iok14 rfl
theorem jl_d_1065 : decode code 1065 = .ok (.iload_n 3, 1) := ji_dchk_at jl_i14 1024 41 jl_iok14 rfl
theorem jl_d_1066 : decode code 1066 = .ok (.iconst 2, 1) := ji_dchk_at jl_i14 1024 42 jl_iok14 rfl
theorem jl_d_1067 : decode code 1067 = .ok (.iadd, 1) := ji_dchk_at jl_i14 1024 43 jl_iok14 rfl
theorem jl_d_1068 : decode code 1068 = .ok (.iaload, 1) := ji_dchk_at jl_i14 1024 44 jl_iok14 rfl
theorem jl_d_1069 : decode code 1069 = .ok (.aload_n 0, 1) := ji_dchk_at jl_i14 1024 45 jl_iok14 rfl
theorem jl_d_1070 : decode code 1070 = .ok (.iload_n 3, 1) := ji_dchk_at jl_i14 1024 46 jl_iok14 rfl
theorem jl_d_1071 : decode code 1071 = .ok (.iconst 3, 1) := ji_dchk_at jl_i14 1024 47 jl_iok14 rfl
theorem jl_d_1072 : decode code 1072 = .ok (.iadd, 1) := ji_dchk_at jl_i14 1024 48 jl_iok14 rfl
theorem jl_d_1073 : decode code 1073 = .ok (.iaload, 1) := ji_dchk_at jl_i14 1024 49 jl_iok14 rfl
theorem jl_d_1074 : decode code 1074 = .ok (.invokevirtual 130, 3) := ji_dchk_at jl_i14 1024 50 jl_iok14 rfl
theorem jl_d_1077 : decode code 1077 = .ok (.aload_n 2, 1) := ji_dchk_at jl_i14 1024 53 jl_iok14 rfl
theorem jl_d_1078 : decode code 1078 = .ok (.aload_n 0, 1) := ji_dchk_at jl_i14 1024 54 jl_iok14 rfl
theorem jl_d_1079 : decode code 1079 = .ok (.iload_n 3, 1) := ji_dchk_at jl_i14 1024 55 jl_iok14 rfl
theorem jl_d_1080 : decode code 1080 = .ok (.iconst 1, 1) := ji_dchk_at jl_i14 1024 56 jl_iok14 rfl
theorem jl_d_1081 : decode code 1081 = .ok (.iadd, 1) := ji_dchk_at jl_i14 1024 57 jl_iok14 rfl
