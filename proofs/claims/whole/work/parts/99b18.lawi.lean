/-! ===== the law's instructions 18 ===== -/
def jl_i18 : List (Option (Instr × Nat)) := [some (.iload_n 3, 1), some (.iconst 4, 1), some (.iadd, 1), some (.iaload, 1), some (.aload_n 0, 1), some (.iload_n 3, 1), some (.iconst 5, 1), some (.iadd, 1), some (.iaload, 1), some (.invokevirtual 150, 3), none, none, some (.if_icmp .eq 91, 3), none, none, some (.iconst 0, 1), some (.ireturn, 1), some (.aload_n 1, 1), some (.aload_n 0, 1), some (.iload_n 3, 1), some (.iconst 1, 1), some (.iadd, 1), some (.iaload, 1), some (.aload_n 0, 1), some (.iload_n 3, 1), some (.iconst 2, 1), some (.iadd, 1), some (.iaload, 1), some (.aload_n 0, 1), some (.iload_n 3, 1), some (.iconst 3, 1), some (.iadd, 1), some (.iaload, 1), some (.aload_n 0, 1), some (.iload_n 3, 1), some (.iconst 4, 1), some (.iadd, 1), some (.iaload, 1), some (.invokevirtual 151, 3), none, none, some (.aload_n 2, 1), some (.aload_n 0, 1), some (.iload_n 3, 1), some (.iconst 1, 1), some (.iadd, 1), some (.iaload, 1), some (.aload_n 0, 1), some (.iload_n 3, 1), some (.iconst 2, 1), some (.iadd, 1), some (.iaload, 1), some (.aload_n 0, 1), some (.iload_n 3, 1), some (.iconst 3, 1), some (.iadd, 1)]
theorem jl_iok18 : ji_dchk code jl_i18 1256 = true := by decide +kernel
theorem jl_d_1256 : decode code 1256 = .ok (.iload_n 3, 1) := ji_dchk_at jl_i18 1256 0 jl_iok18 rfl
theorem jl_d_1257 : decode code 1257 = .ok (.iconst 4, 1) := ji_dchk_at jl_i18 1256 1 jl_iok18 rfl
theorem jl_d_1258 : decode code 1258 = .ok (.iadd, 1) := ji_dchk_at jl_i18 1256 2 jl_iok18 rfl
theorem jl_d_1259 : decode code 1259 = .ok (.iaload, 1) := ji_dchk_at jl_i18 1256 3 jl_iok18 rfl
theorem jl_d_1260 : decode code 1260 = .ok (.aload_n 0, 1) := ji_dchk_at jl_i18 1256 4 jl_iok18 rfl
theorem jl_d_1261 : decode code 1261 = .ok (.iload_n 3, 1) := ji_dchk_at jl_i18 1256 5 jl_iok18 rfl
theorem jl_d_1262 : decode code 1262 = .ok (.iconst 5, 1) := ji_dchk_at jl_i18 1256 6 jl_iok18 rfl
theorem jl_d_1263 : decode code 1263 = .ok (.iadd, 1) := ji_dchk_at jl_i18 1256 7 jl_iok18 rfl
theorem jl_d_1264 : decode code 1264 = .ok (.iaload, 1) := ji_dchk_at jl_i18 1256 8 jl_iok18 rfl
theorem jl_d_1265 : decode code 1265 = .ok (.invokevirtual 150, 3) := ji_dchk_at jl_i18 1256 9 jl_iok18 rfl
theorem jl_d_1268 : decode code 1268 = .ok (.if_icmp .eq 91, 3) := ji_dchk_at jl_i18 1256 12 jl_iok18 rfl
theorem jl_d_1271 : decode code 1271 = .ok (.iconst 0, 1) := ji_dchk_at jl_i18 1256 15 jl_iok18 rfl
theorem jl_d_1272 : decode code 1272 = .ok (.ireturn, 1) := ji_dchk_at jl_i18 1256 16 jl_iok18 rfl
theorem jl_d_1273 : decode code 1273 = .ok (.aload_n 1, 1) := ji_dchk_at jl_i18 1256 17 jl_iok18 rfl
theorem jl_d_1274 : decode code 1274 = .ok (.aload_n 0, 1) := ji_dchk_at jl_i18 1256 18 jl_iok18 rfl
theorem jl_d_1275 : decode code 1275 = .ok (.iload_n 3, 1) := ji_dchk_at jl_i18 1256 19 jl_iok18 rfl
theorem jl_d_1276 : decode code 1276 = .ok (.iconst 1, 1) := ji_dchk_at jl_i18 1256 20 jl_iok18 rfl
theorem jl_d_1277 : decode code 1277 = .ok (.iadd, 1) := ji_dchk_at jl_i18 1256 21 jl_iok18 rfl
theorem jl_d_1278 : decode code 1278 = .ok (.iaload, 1) := ji_dchk_at jl_i18 1256 22 jl_iok18 rfl
theorem jl_d_1279 : decode code 1279 = .ok (.aload_n 0, 1) := ji_dchk_at jl_i18 1256 23 jl_iok18 rfl
theorem jl_d_1280 : decode code 1280 = .ok (.iload_n 3, 1) := ji_dchk_at jl_i18 1256 24 jl_iok18 rfl
theorem jl_d_1281 : decode code 1281 = .ok (.iconst 2, 1) := ji_dchk_at jl_i18 1256 25 jl_iok18 rfl
theorem jl_d_1282 : decode code 1282 = .ok (.iadd, 1) := ji_dchk_at jl_i18 1256 26 jl_iok18 rfl
theorem jl_d_1283 : decode code 1283 = .ok (.iaload, 1) := ji_dchk_at jl_i18 1256 27 jl_iok18 rfl
theorem jl_d_1284 : decode code 1284 = .ok (.aload_n 0, 1) := ji_dchk_at jl_i18 1256 28 jl_iok18 rfl
theorem jl_d_1285 : decode code 1285 = .ok (.iload_n 3, 1) := ji_dchk_at jl_i18 1256 29 jl_iok18 rfl
theorem jl_d_1286 : decode code 1286 = .ok (.iconst 3, 1) := ji_dchk_at jl_i18 1256 30 jl_iok18 rfl
theorem jl_d_1287 : decode code 1287 = .ok (.iadd, 1) := ji_dchk_at jl_i18 1256 31 jl_iok18 rfl
theorem jl_d_1288 : decode code 1288 = .ok (.iaload, 1) := ji_dchk_at jl_i18 1256 32 jl_iok18 rfl
theorem jl_d_1289 : decode code 1289 = .ok (.aload_n 0, 1) := ji_dchk_at jl_i18 1256 33 jl_iok18 rfl
theorem jl_d_1290 : decode code 1290 = .ok (.iload_n 3, 1) := ji_dchk_at jl_i18 1256 34 jl_iok18 rfl
theorem jl_d_1291 : decode code 1291 = .ok (.iconst 4, 1) := ji_dchk_at jl_i18 1256 35 jl_iok18 rfl
theorem jl_d_1292 : decode code 1292 = .ok (.iadd, 1) := ji_dchk_at jl_i18 1256 36 jl_iok18 rfl
theorem jl_d_1293 : decode code 1293 = .ok (.iaload, 1) := ji_dchk_at jl_i18 1256 37 jl_iok18 rfl
theorem jl_d_1294 : decode code 1294 = .ok (.invokevirtual 151, 3) := ji_dchk_at jl_i18 1256 38 jl_iok18 rfl
theorem jl_d_1297 : decode code 1297 = .ok (.aload_n 2, 1) := ji_dchk_at jl_i18 1256 41 jl_iok18 rfl
theorem jl_d_1298 : decode code 1298 = .ok (.aload_n 0, 1) := ji_dchk_at jl_i18 1256 42 jl_iok18 rfl
theorem jl_d_1299 : decode code 1299 = .ok (.iload_n 3, 1) := ji_dchk_at jl_i18 1256 43 jl_iok18 rfl
theorem jl_d_1300 : decode code 1300 = .ok (.iconst 1, 1) := ji_dchk_at jl_i18 1256 44 jl_iok18 rfl
theorem jl_d_1301 : decode code 1301 = .ok (.iadd, 1) := ji_dchk_at jl_i18 1256 45 jl_iok18 rfl
theorem jl_d_1302 : decode code 1302 = .ok (.iaload, 1) := ji_dchk_at jl_i18 1256 46 jl_iok18 rfl
theorem jl_d_1303 : decode code 1303 = .ok (.aload_n 0, 1) := ji_dchk_at jl_i18 1256 47 jl_iok18 rfl
theorem jl_d_1304 : decode code 1304 = .ok (.iload_n 3, 1) := ji_dchk_at jl_i18 1256 48 jl_iok18 rfl
theorem jl_d_1305 : decode code 1305 = .ok (.iconst 2, 1) := ji_dchk_at jl_i18 1256 49 jl_iok18 rfl
theorem jl_d_1306 : decode code 1306 = .ok (.iadd, 1) := ji_dchk_at jl_i18 1256 50 jl_iok18 rfl
theorem jl_d_1307 : decode code 1307 = .ok (.iaload, 1) := ji_dchk_at jl_i18 1256 51 jl_iok18 rfl
theorem jl_d_1308 : decode code 1308 = .ok (.aload_n 0, 1) := ji_dchk_at jl_i18 1256 52 jl_iok18 rfl
theorem jl_d_1309 : decode code 1309 = .ok (.iload_n 3, 1) := ji_dchk_at jl_i18 1256 53 jl_iok18 rfl
theorem jl_d_1310 : decode code 1310 = .ok (.iconst 3, 1) := ji_dchk_at jl_i18 1256 54 jl_iok18 rfl
theorem jl_d_1311 : decode code 1311 = .ok (.iadd, 1) := ji_dchk_at jl_i18 1256 55 jl_iok18 rfl
