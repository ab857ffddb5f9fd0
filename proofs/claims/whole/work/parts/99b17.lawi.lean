/-! ===== the law's instructions 17 ===== -/
def jl_i17 : List (Option (Instr × Nat)) := [some (.iadd, 1), some (.iaload, 1), some (.invokevirtual 145, 3), none, none, some (.if_icmp .eq 154, 3), none, none, some (.iconst 0, 1), some (.ireturn, 1), some (.aload_n 1, 1), some (.aload_n 0, 1), some (.iload_n 3, 1), some (.iconst 1, 1), some (.iadd, 1), some (.iaload, 1), some (.aload_n 0, 1), some (.iload_n 3, 1), some (.iconst 2, 1), some (.iadd, 1), some (.iaload, 1), some (.aload_n 0, 1), some (.iload_n 3, 1), some (.iconst 3, 1), some (.iadd, 1), some (.iaload, 1), some (.aload_n 0, 1), some (.iload_n 3, 1), some (.iconst 4, 1), some (.iadd, 1), some (.iaload, 1), some (.aload_n 0, 1), some (.iload_n 3, 1), some (.iconst 5, 1), some (.iadd, 1), some (.iaload, 1), some (.invokevirtual 146, 3), none, none, some (.aload_n 2, 1), some (.aload_n 0, 1), some (.iload_n 3, 1), some (.iconst 1, 1), some (.iadd, 1), some (.iaload, 1), some (.aload_n 0, 1), some (.iload_n 3, 1), some (.iconst 2, 1), some (.iadd, 1), some (.iaload, 1), some (.aload_n 0, 1), some (.iload_n 3, 1), some (.iconst 3, 1), some (.iadd, 1), some (.iaload, 1), some (.aload_n 0, 1)]
theorem jl_iok17 : ji_dchk code jl_i17 1200 = true := by decide +kernel
theorem jl_d_1200 : decode code 1200 = .ok (.iadd, 1) := ji_dchk_at jl_i17 1200 0 jl_iok17 rfl
theorem jl_d_1201 : decode code 1201 = .ok (.iaload, 1) := ji_dchk_at jl_i17 1200 1 jl_iok17 rfl
theorem jl_d_1202 : decode code 1202 = .ok (.invokevirtual 145, 3) := ji_dchk_at jl_i17 1200 2 jl_iok17 rfl
theorem jl_d_1205 : decode code 1205 = .ok (.if_icmp .eq 154, 3) := ji_dchk_at jl_i17 1200 5 jl_iok17 rfl
theorem jl_d_1208 : decode code 1208 = .ok (.iconst 0, 1) := ji_dchk_at jl_i17 1200 8 jl_iok17 rfl
theorem jl_d_1209 : decode code 1209 = .ok (.ireturn, 1) := ji_dchk_at jl_i17 1200 9 jl_iok17 rfl
theorem jl_d_1210 : decode code 1210 = .ok (.aload_n 1, 1) := ji_dchk_at jl_i17 1200 10 jl_iok17 rfl
theorem jl_d_1211 : decode code 1211 = .ok (.aload_n 0, 1) := ji_dchk_at jl_i17 1200 11 jl_iok17 rfl
theorem jl_d_1212 : decode code 1212 = .ok (.iload_n 3, 1) := ji_dchk_at jl_i17 1200 12 jl_iok17 rfl
theorem jl_d_1213 : decode code 1213 = .ok (.iconst 1, 1) := ji_dchk_at jl_i17 1200 13 jl_iok17 rfl
theorem jl_d_1214 : decode code 1214 = .ok (.iadd, 1) := ji_dchk_at jl_i17 1200 14 jl_iok17 rfl
theorem jl_d_1215 : decode code 1215 = .ok (.iaload, 1) := ji_dchk_at jl_i17 1200 15 jl_iok17 rfl
theorem jl_d_1216 : decode code 1216 = .ok (.aload_n 0, 1) := ji_dchk_at jl_i17 1200 16 jl_iok17 rfl
theorem jl_d_1217 : decode code 1217 = .ok (.iload_n 3, 1) := ji_dchk_at jl_i17 1200 17 jl_iok17 rfl
theorem jl_d_1218 : decode code 1218 = .ok (.iconst 2, 1) := ji_dchk_at jl_i17 1200 18 jl_iok17 rfl
theorem jl_d_1219 : decode code 1219 = .ok (.iadd, 1) := ji_dchk_at jl_i17 1200 19 jl_iok17 rfl
theorem jl_d_1220 : decode code 1220 = .ok (.iaload, 1) := ji_dchk_at jl_i17 1200 20 jl_iok17 rfl
theorem jl_d_1221 : decode code 1221 = .ok (.aload_n 0, 1) := ji_dchk_at jl_i17 1200 21 jl_iok17 rfl
theorem jl_d_1222 : decode code 1222 = .ok (.iload_n 3, 1) := ji_dchk_at jl_i17 1200 22 jl_iok17 rfl
theorem jl_d_1223 : decode code 1223 = .ok (.iconst 3, 1) := ji_dchk_at jl_i17 1200 23 jl_iok17 rfl
theorem jl_d_1224 : decode code 1224 = .ok (.iadd, 1) := ji_dchk_at jl_i17 1200 24 jl_iok17 rfl
theorem jl_d_1225 : decode code 1225 = .ok (.iaload, 1) := ji_dchk_at jl_i17 1200 25 jl_iok17 rfl
theorem jl_d_1226 : decode code 1226 = .ok (.aload_n 0, 1) := ji_dchk_at jl_i17 1200 26 jl_iok17 rfl
theorem jl_d_1227 : decode code 1227 = .ok (.iload_n 3, 1) := ji_dchk_at jl_i17 1200 27 jl_iok17 rfl
theorem jl_d_1228 : decode code 1228 = .ok (.iconst 4, 1) := ji_dchk_at jl_i17 1200 28 jl_iok17 rfl
theorem jl_d_1229 : decode code 1229 = .ok (.iadd, 1) := ji_dchk_at jl_i17 1200 29 jl_iok17 rfl
theorem jl_d_1230 : decode code 1230 = .ok (.iaload, 1) := ji_dchk_at jl_i17 1200 30 jl_iok17 rfl
theorem jl_d_1231 : decode code 1231 = .ok (.aload_n 0, 1) := ji_dchk_at jl_i17 1200 31 jl_iok17 rfl
theorem jl_d_1232 : decode code 1232 = .ok (.iload_n 3, 1) := ji_dchk_at jl_i17 1200 32 jl_iok17 rfl
theorem jl_d_1233 : decode code 1233 = .ok (.iconst 5, 1) := ji_dchk_at jl_i17 1200 33 jl_iok17 rfl
theorem jl_d_1234 : decode code 1234 = .ok (.iadd, 1) := ji_dchk_at jl_i17 1200 34 jl_iok17 rfl
theorem jl_d_1235 : decode code 1235 = .ok (.iaload, 1) := ji_dchk_at jl_i17 1200 35 jl_iok17 rfl
theorem jl_d_1236 : decode code 1236 = .ok (.invokevirtual 146, 3) := ji_dchk_at jl_i17 1200 36 jl_iok17 rfl
theorem jl_d_1239 : decode code 1239 = .ok (.aload_n 2, 1) := ji_dchk_at jl_i17 1200 39 jl_iok17 rfl
theorem jl_d_1240 : decode code 1240 = .ok (.aload_n 0, 1) := ji_dchk_at jl_i17 1200 40 jl_iok17 rfl
theorem jl_d_1241 : decode code 1241 = .ok (.iload_n 3, 1) := ji_dchk_at jl_i17 1200 41 jl_iok17 rfl
theorem jl_d_1242 : decode code 1242 = .ok (.iconst 1, 1) := ji_dchk_at jl_i17 1200 42 jl_iok17 rfl
theorem jl_d_1243 : decode code 1243 = .ok (.iadd, 1) := ji_dchk_at jl_i17 1200 43 jl_iok17 rfl
theorem jl_d_1244 : decode code 1244 = .ok (.iaload, 1) := ji_dchk_at jl_i17 1200 44 jl_iok17 rfl
theorem jl_d_1245 : decode code 1245 = .ok (.aload_n 0, 1) := ji_dchk_at jl_i17 1200 45 jl_iok17 rfl
theorem jl_d_1246 : decode code 1246 = .ok (.iload_n 3, 1) := ji_dchk_at jl_i17 1200 46 jl_iok17 rfl
theorem jl_d_1247 : decode code 1247 = .ok (.iconst 2, 1) := ji_dchk_at jl_i17 1200 47 jl_iok17 rfl
theorem jl_d_1248 : decode code 1248 = .ok (.iadd, 1) := ji_dchk_at jl_i17 1200 48 jl_iok17 rfl
theorem jl_d_1249 : decode code 1249 = .ok (.iaload, 1) := ji_dchk_at jl_i17 1200 49 jl_iok17 rfl
theorem jl_d_1250 : decode code 1250 = .ok (.aload_n 0, 1) := ji_dchk_at jl_i17 1200 50 jl_iok17 rfl
theorem jl_d_1251 : decode code 1251 = .ok (.iload_n 3, 1) := ji_dchk_at jl_i17 1200 51 jl_iok17 rfl
theorem jl_d_1252 : decode code 1252 = .ok (.iconst 3, 1) := ji_dchk_at jl_i17 1200 52 jl_iok17 rfl
theorem jl_d_1253 : decode code 1253 = .ok (.iadd, 1) := ji_dchk_at jl_i17 1200 53 jl_iok17 rfl
theorem jl_d_1254 : decode code 1254 = .ok (.iaload, 1) := ji_dchk_at jl_i17 1200 54 jl_iok17 rfl
theorem jl_d_1255 : decode code 1255 = .ok (.aload_n 0, 1) := ji_dchk_at jl_i17 1200 55 jl_iok17 rfl
