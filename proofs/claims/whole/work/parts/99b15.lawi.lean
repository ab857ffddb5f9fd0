/-! ===== the law's instructions 15 ===== -/
def jl_i15 : List (Option (Instr × Nat)) := [some (.iaload, 1), some (.aload_n 0, 1), some (.iload_n 3, 1), some (.iconst 2, 1), some (.iadd, 1), some (.iaload, 1), some (.aload_n 0, 1), some (.iload_n 3, 1), some (.iconst 3, 1), some (.iadd, 1), some (.iaload, 1), some (.invokevirtual 133, 3), none, none, some (.if_icmp .eq 263, 3), none, none, some (.iconst 0, 1), some (.ireturn, 1), some (.aload_n 1, 1), some (.aload_n 0, 1), some (.iload_n 3, 1), some (.iconst 1, 1), some (.iadd, 1), some (.iaload, 1), some (.invokevirtual 134, 3), none, none, some (.aload_n 2, 1), some (.aload_n 0, 1), some (.iload_n 3, 1), some (.iconst 1, 1), some (.iadd, 1), some (.iaload, 1), some (.invokevirtual 137, 3), none, none, some (.if_icmp .eq 240, 3), none, none, some (.iconst 0, 1), some (.ireturn, 1), some (.aload_n 1, 1), some (.aload_n 0, 1), some (.iload_n 3, 1), some (.iconst 1, 1), some (.iadd, 1), some (.iaload, 1), some (.aload_n 0, 1), some (.iload_n 3, 1), some (.iconst 2, 1), some (.iadd, 1), some (.iaload, 1), some (.aload_n 0, 1), some (.iload_n 3, 1), some (.iconst 3, 1), some (.iadd, 1), some (.iaload, 1), some (.invokevirtual 138, 3), none, none, some (.aload_n 2, 1)]
theorem jl_iok15 : ji_dchk code jl_i15 1082 = true := by decide +kernel
theorem jl_d_1082 : decode code 1082 = .ok (.iaload, 1) := ji_dchk_at jl_i15 1082 0 jl_iok15 rfl
theorem jl_d_1083 : decode code 1083 = .ok (.aload_n 0, 1) := ji_dchk_at jl_i15 1082 1 jl_iok15 rfl
theorem jl_d_1084 : decode code 1084 = .ok (.iload_n 3, 1) := ji_dchk_at jl_i15 1082 2 jl_iok15 rfl
theorem jl_d_1085 : decode code 1085 = .ok (.iconst 2, 1) := ji_dchk_at jl_i15 1082 3 jl_iok15 rfl
theorem jl_d_1086 : decode code 1086 = .ok (.iadd, 1) := ji_dchk_at jl_i15 1082 4 jl_iok15 rfl
theorem jl_d_1087 : decode code 1087 = .ok (.iaload, 1) := ji_dchk_at jl_i15 1082 5 jl_iok15 rfl
theorem jl_d_1088 : decode code 1088 = .ok (.aload_n 0, 1) := ji_dchk_at jl_i15 1082 6 jl_iok15 rfl
theorem jl_d_1089 : decode code 1089 = .ok (.iload_n 3, 1) := ji_dchk_at jl_i15 1082 7 jl_iok15 rfl
theorem jl_d_1090 : decode code 1090 = .ok (.iconst 3, 1) := ji_dchk_at jl_i15 1082 8 jl_iok15 rfl
theorem jl_d_1091 : decode code 1091 = .ok (.iadd, 1) := ji_dchk_at jl_i15 1082 9 jl_iok15 rfl
theorem jl_d_1092 : decode code 1092 = .ok (.iaload, 1) := ji_dchk_at jl_i15 1082 10 jl_iok15 rfl
theorem jl_d_1093 : decode code 1093 = .ok (.invokevirtual 133, 3) := ji_dchk_at jl_i15 1082 11 jl_iok15 rfl
theorem jl_d_1096 : decode code 1096 = .ok (.if_icmp .eq 263, 3) := ji_dchk_at jl_i15 1082 14 jl_iok15 rfl
theorem jl_d_1099 : decode code 1099 = .ok (.iconst 0, 1) := ji_dchk_at jl_i15 1082 17 jl_iok15 rfl
theorem jl_d_1100 : decode code 1100 = .ok (.ireturn, 1) := ji_dchk_at jl_i15 1082 18 jl_iok15 rfl
theorem jl_d_1101 : decode code 1101 = .ok (.aload_n 1, 1) := ji_dchk_at jl_i15 1082 19 jl_iok15 rfl
theorem jl_d_1102 : decode code 1102 = .ok (.aload_n 0, 1) := ji_dchk_at jl_i15 1082 20 jl_iok15 rfl
theorem jl_d_1103 : decode code 1103 = .ok (.iload_n 3, 1) := ji_dchk_at jl_i15 1082 21 jl_iok15 rfl
theorem jl_d_1104 : decode code 1104 = .ok (.iconst 1, 1) := ji_dchk_at jl_i15 1082 22 jl_iok15 rfl
theorem jl_d_1105 : decode code 1105 = .ok (.iadd, 1) := ji_dchk_at jl_i15 1082 23 jl_iok15 rfl
theorem jl_d_1106 : decode code 1106 = .ok (.iaload, 1) := ji_dchk_at jl_i15 1082 24 jl_iok15 rfl
theorem jl_d_1107 : decode code 1107 = .ok (.invokevirtual 134, 3) := ji_dchk_at jl_i15 1082 25 jl_iok15 rfl
theorem jl_d_1110 : decode code 1110 = .ok (.aload_n 2, 1) := ji_dchk_at jl_i15 1082 28 jl_iok15 rfl
theorem jl_d_1111 : decode code 1111 = .ok (.aload_n 0, 1) := ji_dchk_at jl_i15 1082 29 jl_iok15 rfl
theorem jl_d_1112 : decode code 1112 = .ok (.iload_n 3, 1) := ji_dchk_at jl_i15 1082 30 jl_iok15 rfl
theorem jl_d_1113 : decode code 1113 = .ok (.iconst 1, 1) := ji_dchk_at jl_i15 1082 31 jl_iok15 rfl
theorem jl_d_1114 : decode code 1114 = .ok (.iadd, 1) := ji_dchk_at jl_i15 1082 32 jl_iok15 rfl
theorem jl_d_1115 : decode code 1115 = .ok (.iaload, 1) := ji_dchk_at jl_i15 1082 33 jl_iok15 rfl
theorem jl_d_1116 : decode code 1116 = .ok (.invokevirtual 137, 3) := ji_dchk_at jl_i15 1082 34 jl_iok15 rfl
theorem jl_d_1119 : decode code 1119 = .ok (.if_icmp .eq 240, 3) := ji_dchk_at jl_i15 1082 37 jl_iok15 rfl
theorem jl_d_1122 : decode code 1122 = .ok (.iconst 0, 1) := ji_dchk_at jl_i15 1082 40 jl_iok15 rfl
theorem jl_d_1123 : decode code 1123 = .ok (.ireturn, 1) := ji_dchk_at jl_i15 1082 41 jl_iok15 rfl
theorem jl_d_1124 : decode code 1124 = .ok (.aload_n 1, 1) := ji_dchk_at jl_i15 1082 42 jl_iok15 rfl
theorem jl_d_1125 : decode code 1125 = .ok (.aload_n 0, 1) := ji_dchk_at jl_i15 1082 43 jl_iok15 rfl
theorem jl_d_1126 : decode code 1126 = .ok (.iload_n 3, 1) := ji_dchk_at jl_i15 1082 44 jl_iok15 rfl
theorem jl_d_1127 : decode code 1127 = .ok (.iconst 1, 1) := ji_dchk_at jl_i15 1082 45 jl_iok15 rfl
theorem jl_d_1128 : decode code 1128 = .ok (.iadd, 1) := ji_dchk_at jl_i15 1082 46 jl_iok15 rfl
theorem jl_d_1129 : decode code 1129 = .ok (.iaload, 1) := ji_dchk_at jl_i15 1082 47 jl_iok15 rfl
theorem jl_d_1130 : decode code 1130 = .ok (.aload_n 0, 1) := ji_dchk_at jl_i15 1082 48 jl_iok15 rfl
theorem jl_d_1131 : decode code 1131 = .ok (.iload_n 3, 1) := ji_dchk_at jl_i15 1082 49 jl_iok15 rfl
theorem jl_d_1132 : decode code 1132 = .ok (.iconst 2, 1) := ji_dchk_at jl_i15 1082 50 jl_iok15 rfl
theorem jl_d_1133 : decode code 1133 = .ok (.iadd, 1) := ji_dchk_at jl_i15 1082 51 jl_iok15 rfl
theorem jl_d_1134 : decode code 1134 = .ok (.iaload, 1) := ji_dchk_at jl_i15 1082 52 jl_iok15 rfl
theorem jl_d_1135 : decode code 1135 = .ok (.aload_n 0, 1) := ji_dchk_at jl_i15 1082 53 jl_iok15 rfl
theorem jl_d_1136 : decode code 1136 = .ok (.iload_n 3, 1) := ji_dchk_at jl_i15 1082 54 jl_iok15 rfl
theorem jl_d_1137 : decode code 1137 = .ok (.iconst 3, 1) := ji_dchk_at jl_i15 1082 55 jl_iok15 rfl
theorem jl_d_1138 : decode code 1138 = .ok (.iadd, 1) := ji_dchk_at jl_i15 1082 56 jl_iok15 rfl
theorem jl_d_1139 : decode code 1139 = .ok (.iaload, 1) := ji_dchk_at jl_i15 1082 57 jl_iok15 rfl
theorem jl_d_1140 : decode code 1140 = .ok (.invokevirtual 138, 3) := ji_dchk_at jl_i15 1082 58 jl_iok15 rfl
theorem jl_d_1143 : decode code 1143 = .ok (.aload_n 2, 1) := ji_dchk_at jl_i15 1082 61 jl_iok15 rfl
