/-! ===== the law's instructions 16 ===== -/
def jl_i16 : List (Option (Instr × Nat)) := [some (.aload_n 0, 1), some (.iload_n 3, 1), some (.iconst 1, 1), some (.iadd, 1), some (.iaload, 1), some (.aload_n 0, 1), some (.iload_n 3, 1), some (.iconst 2, 1), some (.iadd, 1), some (.iaload, 1), some (.aload_n 0, 1), some (.iload_n 3, 1), some (.iconst 3, 1), some (.iadd, 1), some (.iaload, 1), some (.invokevirtual 141, 3), none, none, some (.if_icmp .eq 197, 3), none, none, some (.iconst 0, 1), some (.ireturn, 1), some (.aload_n 1, 1), some (.aload_n 0, 1), some (.iload_n 3, 1), some (.iconst 1, 1), some (.iadd, 1), some (.iaload, 1), some (.aload_n 0, 1), some (.iload_n 3, 1), some (.iconst 2, 1), some (.iadd, 1), some (.iaload, 1), some (.aload_n 0, 1), some (.iload_n 3, 1), some (.iconst 3, 1), some (.iadd, 1), some (.iaload, 1), some (.invokevirtual 142, 3), none, none, some (.aload_n 2, 1), some (.aload_n 0, 1), some (.iload_n 3, 1), some (.iconst 1, 1), some (.iadd, 1), some (.iaload, 1), some (.aload_n 0, 1), some (.iload_n 3, 1), some (.iconst 2, 1), some (.iadd, 1), some (.iaload, 1), some (.aload_n 0, 1), some (.iload_n 3, 1), some (.iconst 3, 1)]
theorem jl_iok16 : ji_dchk code jl_i16 1144 = true := by decide +kernel
theorem jl_d_1144 : decode code 1144 = .ok (.aload_n 0, 1) := ji_dchk_at jl_i16 1144 0 jl_iok16 rfl
theorem jl_d_1145 : decode code 1145 = .ok (.iload_n 3, 1) := ji_dchk_at jl_i16 1144 1 jl_iok16 rfl
theorem jl_d_1146 : decode code 1146 = .ok (.iconst 1, 1) := ji_dchk_at jl_i16 1144 2 jl_iok16 rfl
theorem jl_d_1147 : decode code 1147 = .ok (.iadd, 1) := ji_dchk_at jl_i16 1144 3 jl_iok16 rfl
theorem jl_d_1148 : decode code 1148 = .ok (.iaload, 1) := ji_dchk_at jl_i16 1144 4 jl_iok16 rfl
theorem jl_d_1149 : decode code 1149 = .ok (.aload_n 0, 1) := ji_dchk_at jl_i16 1144 5 jl_iok16 rfl
theorem jl_d_1150 : decode code 1150 = .ok (.iload_n 3, 1) := ji_dchk_at jl_i16 1144 6 jl_iok16 rfl
theorem jl_d_1151 : decode code 1151 = .ok (.iconst 2, 1) := ji_dchk_at jl_i16 1144 7 jl_iok16 rfl
theorem jl_d_1152 : decode code 1152 = .ok (.iadd, 1) := ji_dchk_at jl_i16 1144 8 jl_iok16 rfl
theorem jl_d_1153 : decode code 1153 = .ok (.iaload, 1) := ji_dchk_at jl_i16 1144 9 jl_iok16 rfl
theorem jl_d_1154 : decode code 1154 = .ok (.aload_n 0, 1) := ji_dchk_at jl_i16 1144 10 jl_iok16 rfl
theorem jl_d_1155 : decode code 1155 = .ok (.iload_n 3, 1) := ji_dchk_at jl_i16 1144 11 jl_iok16 rfl
theorem jl_d_1156 : decode code 1156 = .ok (.iconst 3, 1) := ji_dchk_at jl_i16 1144 12 jl_iok16 rfl
theorem jl_d_1157 : decode code 1157 = .ok (.iadd, 1) := ji_dchk_at jl_i16 1144 13 jl_iok16 rfl
theorem jl_d_1158 : decode code 1158 = .ok (.iaload, 1) := ji_dchk_at jl_i16 1144 14 jl_iok16 rfl
theorem jl_d_1159 : decode code 1159 = .ok (.invokevirtual 141, 3) := ji_dchk_at jl_i16 1144 15 jl_iok16 rfl
theorem jl_d_1162 : decode code 1162 = .ok (.if_icmp .eq 197, 3) := ji_dchk_at jl_i16 1144 18 jl_iok16 rfl
theorem jl_d_1165 : decode code 1165 = .ok (.iconst 0, 1) := ji_dchk_at jl_i16 1144 21 jl_iok16 rfl
theorem jl_d_1166 : decode code 1166 = .ok (.ireturn, 1) := ji_dchk_at jl_i16 1144 22 jl_iok16 rfl
theorem jl_d_1167 : decode code 1167 = .ok (.aload_n 1, 1) := ji_dchk_at jl_i16 1144 23 jl_iok16 rfl
theorem jl_d_1168 : decode code 1168 = .ok (.aload_n 0, 1) := ji_dchk_at jl_i16 1144 24 jl_iok16 rfl
theorem jl_d_1169 : decode code 1169 = .ok (.iload_n 3, 1) := ji_dchk_at jl_i16 1144 25 jl_iok16 rfl
theorem jl_d_1170 : decode code 1170 = .ok (.iconst 1, 1) := ji_dchk_at jl_i16 1144 26 jl_iok16 rfl
theorem jl_d_1171 : decode code 1171 = .ok (.iadd, 1) := ji_dchk_at jl_i16 1144 27 jl_iok16 rfl
theorem jl_d_1172 : decode code 1172 = .ok (.iaload, 1) := ji_dchk_at jl_i16 1144 28 jl_iok16 rfl
theorem jl_d_1173 : decode code 1173 = .ok (.aload_n 0, 1) := ji_dchk_at jl_i16 1144 29 jl_iok16 rfl
theorem jl_d_1174 : decode code 1174 = .ok (.iload_n 3, 1) := ji_dchk_at jl_i16 1144 30 jl_iok16 rfl
theorem jl_d_1175 : decode code 1175 = .ok (.iconst 2, 1) := ji_dchk_at jl_i16 1144 31 jl_iok16 rfl
theorem jl_d_1176 : decode code 1176 = .ok (.iadd, 1) := ji_dchk_at jl_i16 1144 32 jl_iok16 rfl
theorem jl_d_1177 : decode code 1177 = .ok (.iaload, 1) := ji_dchk_at jl_i16 1144 33 jl_iok16 rfl
theorem jl_d_1178 : decode code 1178 = .ok (.aload_n 0, 1) := ji_dchk_at jl_i16 1144 34 jl_iok16 rfl
theorem jl_d_1179 : decode code 1179 = .ok (.iload_n 3, 1) := ji_dchk_at jl_i16 1144 35 jl_iok16 rfl
theorem jl_d_1180 : decode code 1180 = .ok (.iconst 3, 1) := ji_dchk_at jl_i16 1144 36 jl_iok16 rfl
theorem jl_d_1181 : decode code 1181 = .ok (.iadd, 1) := ji_dchk_at jl_i16 1144 37 jl_iok16 rfl
theorem jl_d_1182 : decode code 1182 = .ok (.iaload, 1) := ji_dchk_at jl_i16 1144 38 jl_iok16 rfl
theorem jl_d_1183 : decode code 1183 = .ok (.invokevirtual 142, 3) := ji_dchk_at jl_i16 1144 39 jl_iok16 rfl
theorem jl_d_1186 : decode code 1186 = .ok (.aload_n 2, 1) := ji_dchk_at jl_i16 1144 42 jl_iok16 rfl
theorem jl_d_1187 : decode code 1187 = .ok (.aload_n 0, 1) := ji_dchk_at jl_i16 1144 43 jl_iok16 rfl
theorem jl_d_1188 : decode code 1188 = .ok (.iload_n 3, 1) := ji_dchk_at jl_i16 1144 44 jl_iok16 rfl
theorem jl_d_1189 : decode code 1189 = .ok (.iconst 1, 1) := ji_dchk_at jl_i16 1144 45 jl_iok16 rfl
theorem jl_d_1190 : decode code 1190 = .ok (.iadd, 1) := ji_dchk_at jl_i16 1144 46 jl_iok16 rfl
theorem jl_d_1191 : decode code 1191 = .ok (.iaload, 1) := ji_dchk_at jl_i16 1144 47 jl_iok16 rfl
theorem jl_d_1192 : decode code 1192 = .ok (.aload_n 0, 1) := ji_dchk_at jl_i16 1144 48 jl_iok16 rfl
theorem jl_d_1193 : decode code 1193 = .ok (.iload_n 3, 1) := ji_dchk_at jl_i16 1144 49 jl_iok16 rfl
theorem jl_d_1194 : decode code 1194 = .ok (.iconst 2, 1) := ji_dchk_at jl_i16 1144 50 jl_iok16 rfl
theorem jl_d_1195 : decode code 1195 = .ok (.iadd, 1) := ji_dchk_at jl_i16 1144 51 jl_iok16 rfl
theorem jl_d_1196 : decode code 1196 = .ok (.iaload, 1) := ji_dchk_at jl_i16 1144 52 jl_iok16 rfl
theorem jl_d_1197 : decode code 1197 = .ok (.aload_n 0, 1) := ji_dchk_at jl_i16 1144 53 jl_iok16 rfl
theorem jl_d_1198 : decode code 1198 = .ok (.iload_n 3, 1) := ji_dchk_at jl_i16 1144 54 jl_iok16 rfl
theorem jl_d_1199 : decode code 1199 = .ok (.iconst 3, 1) := ji_dchk_at jl_i16 1144 55 jl_iok16 rfl
