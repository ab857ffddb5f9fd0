/-! ===== the law's instructions 19 ===== -/
def jl_i19 : List (Option (Instr × Nat)) := [some (.iaload, 1), some (.aload_n 0, 1), some (.iload_n 3, 1), some (.iconst 4, 1), some (.iadd, 1), some (.iaload, 1), some (.invokevirtual 155, 3), none, none, some (.if_icmp .eq 38, 3), none, none, some (.iconst 0, 1), some (.ireturn, 1), some (.aload_n 1, 1), some (.aload_n 0, 1), some (.iload_n 3, 1), some (.iconst 1, 1), some (.iadd, 1), some (.iaload, 1), some (.aload_n 0, 1), some (.iload_n 3, 1), some (.iconst 2, 1), some (.iadd, 1), some (.iaload, 1), some (.invokevirtual 156, 3), none, none, some (.aload_n 2, 1), some (.aload_n 0, 1), some (.iload_n 3, 1), some (.iconst 1, 1), some (.iadd, 1), some (.iaload, 1), some (.aload_n 0, 1), some (.iload_n 3, 1), some (.iconst 2, 1), some (.iadd, 1), some (.iaload, 1), some (.invokevirtual 159, 3), none, none, some (.if_icmp .eq 5, 3), none, none, some (.iconst 0, 1), some (.ireturn, 1), some (.iinc 3 6, 3), none, none, some (.goto (-1344), 3), none, none, some (.iconst 1, 1), some (.ireturn, 1)]
theorem jl_iok19 : ji_dchk code jl_i19 1312 = true := by decide +kernel
theorem jl_d_1312 : decode code 1312 = .ok (.iaload, 1) := ji_dchk_at jl_i19 1312 0 jl_iok19 rfl
theorem jl_d_1313 : decode code 1313 = .ok (.aload_n 0, 1) := ji_dchk_at jl_i19 1312 1 jl_iok19 rfl
theorem jl_d_1314 : decode code 1314 = .ok (.iload_n 3, 1) := ji_dchk_at jl_i19 1312 2 jl_iok19 rfl
theorem jl_d_1315 : decode code 1315 = .ok (.iconst 4, 1) := ji_dchk_at jl_i19 1312 3 jl_iok19 rfl
theorem jl_d_1316 : decode code 1316 = .ok (.iadd, 1) := ji_dchk_at jl_i19 1312 4 jl_iok19 rfl
theorem jl_d_1317 : decode code 1317 = .ok (.iaload, 1) := ji_dchk_at jl_i19 1312 5 jl_iok19 rfl
theorem jl_d_1318 : decode code 1318 = .ok (.invokevirtual 155, 3) := ji_dchk_at jl_i19 1312 6 jl_iok19 rfl
theorem jl_d_1321 : decode code 1321 = .ok (.if_icmp .eq 38, 3) := ji_dchk_at jl_i19 1312 9 jl_iok19 rfl
theorem jl_d_1324 : decode code 1324 = .ok (.iconst 0, 1) := ji_dchk_at jl_i19 1312 12 jl_iok19 rfl
theorem jl_d_1325 : decode code 1325 = .ok (.ireturn, 1) := ji_dchk_at jl_i19 1312 13 jl_iok19 rfl
theorem jl_d_1326 : decode code 1326 = .ok (.aload_n 1, 1) := ji_dchk_at jl_i19 1312 14 jl_iok19 rfl
theorem jl_d_1327 : decode code 1327 = .ok (.aload_n 0, 1) := ji_dchk_at jl_i19 1312 15 jl_iok19 rfl
theorem jl_d_1328 : decode code 1328 = .ok (.iload_n 3, 1) := ji_dchk_at jl_i19 1312 16 jl_iok19 rfl
theorem jl_d_1329 : decode code 1329 = .ok (.iconst 1, 1) := ji_dchk_at jl_i19 1312 17 jl_iok19 rfl
theorem jl_d_1330 : decode code 1330 = .ok (.iadd, 1) := ji_dchk_at jl_i19 1312 18 jl_iok19 rfl
theorem jl_d_1331 : decode code 1331 = .ok (.iaload, 1) := ji_dchk_at jl_i19 1312 19 jl_iok19 rfl
theorem jl_d_1332 : decode code 1332 = .ok (.aload_n 0, 1) := ji_dchk_at jl_i19 1312 20 jl_iok19 rfl
theorem jl_d_1333 : decode code 1333 = .ok (.iload_n 3, 1) := ji_dchk_at jl_i19 1312 21 jl_iok19 rfl
theorem jl_d_1334 : decode code 1334 = .ok (.iconst 2, 1) := ji_dchk_at jl_i19 1312 22 jl_iok19 rfl
theorem jl_d_1335 : decode code 1335 = .ok (.iadd, 1) := ji_dchk_at jl_i19 1312 23 jl_iok19 rfl
theorem jl_d_1336 : decode code 1336 = .ok (.iaload, 1) := ji_dchk_at jl_i19 1312 24 jl_iok19 rfl
theorem jl_d_1337 : decode code 1337 = .ok (.invokevirtual 156, 3) := ji_dchk_at jl_i19 1312 25 jl_iok19 rfl
theorem jl_d_1340 : decode code 1340 = .ok (.aload_n 2, 1) := ji_dchk_at jl_i19 1312 28 jl_iok19 rfl
theorem jl_d_1341 : decode code 1341 = .ok (.aload_n 0, 1) := ji_dchk_at jl_i19 1312 29 jl_iok19 rfl
theorem jl_d_1342 : decode code 1342 = .ok (.iload_n 3, 1) := ji_dchk_at jl_i19 1312 30 jl_iok19 rfl
theorem jl_d_1343 : decode code 1343 = .ok (.iconst 1, 1) := ji_dchk_at jl_i19 1312 31 jl_iok19 rfl
theorem jl_d_1344 : decode code 1344 = .ok (.iadd, 1) := ji_dchk_at jl_i19 1312 32 jl_iok19 rfl
theorem jl_d_1345 : decode code 1345 = .ok (.iaload, 1) := ji_dchk_at jl_i19 1312 33 jl_iok19 rfl
theorem jl_d_1346 : decode code 1346 = .ok (.aload_n 0, 1) := ji_dchk_at jl_i19 1312 34 jl_iok19 rfl
theorem jl_d_1347 : decode code 1347 = .ok (.iload_n 3, 1) := ji_dchk_at jl_i19 1312 35 jl_iok19 rfl
theorem jl_d_1348 : decode code 1348 = .ok (.iconst 2, 1) := ji_dchk_at jl_i19 1312 36 jl_iok19 rfl
theorem jl_d_1349 : decode code 1349 = .ok (.iadd, 1) := ji_dchk_at jl_i19 1312 37 jl_iok19 rfl
theorem jl_d_1350 : decode code 1350 = .ok (.iaload, 1) := ji_dchk_at jl_i19 1312 38 jl_iok19 rfl
theorem jl_d_1351 : decode code 1351 = .ok (.invokevirtual 159, 3) := ji_dchk_at jl_i19 1312 39 jl_iok19 rfl
theorem jl_d_1354 : decode code 1354 = .ok (.if_icmp .eq 5, 3) := ji_dchk_at jl_i19 1312 42 jl_iok19 rfl
theorem jl_d_1357 : decode code 1357 = .ok (.iconst 0, 1) := ji_dchk_at jl_i19 1312 45 jl_iok19 rfl
theorem jl_d_1358 : decode code 1358 = .ok (.ireturn, 1) := ji_dchk_at jl_i19 1312 46 jl_iok19 rfl
theorem jl_d_1359 : decode code 1359 = .ok (.iinc 3 6, 3) := ji_dchk_at jl_i19 1312 47 jl_iok19 rfl
theorem jl_d_1362 : decode code 1362 = .ok (.goto (-1344), 3) := ji_dchk_at jl_i19 1312 50 jl_iok19 rfl
theorem jl_d_1365 : decode code 1365 = .ok (.iconst 1, 1) := ji_dchk_at jl_i19 1312 53 jl_iok19 rfl
theorem jl_d_1366 : decode code 1366 = .ok (.ireturn, 1) := ji_dchk_at jl_i19 1312 54 jl_iok19 rfl
