/-! ===== the law's instructions 2 ===== -/
def jl_i2 : List (Option (Instr × Nat)) := [some (.aload_n 0, 1), some (.iload_n 3, 1), some (.iconst 2, 1), some (.iadd, 1), some (.iaload, 1), some (.invokevirtual 28, 3), none, none, some (.aload_n 2, 1), some (.aload_n 0, 1), some (.iload_n 3, 1), some (.iconst 1, 1), some (.iadd, 1), some (.iaload, 1), some (.aload_n 0, 1), some (.iload_n 3, 1), some (.iconst 2, 1), some (.iadd, 1), some (.iaload, 1), some (.invokevirtual 31, 3), none, none, some (.if_icmp .eq 1057, 3), none, none, some (.iconst 0, 1), some (.ireturn, 1), some (.aload_n 1, 1), some (.aload_n 0, 1), some (.iload_n 3, 1), some (.iconst 1, 1), some (.iadd, 1), some (.iaload, 1), some (.aload_n 0, 1), some (.iload_n 3, 1), some (.iconst 2, 1), some (.iadd, 1), some (.iaload, 1), some (.invokevirtual 32, 3), none, none, some (.aload_n 2, 1), some (.aload_n 0, 1), some (.iload_n 3, 1), some (.iconst 1, 1), some (.iadd, 1), some (.iaload, 1), some (.aload_n 0, 1), some (.iload_n 3, 1), some (.iconst 2, 1), some (.iadd, 1), some (.iaload, 1), some (.invokevirtual 35, 3), none, none, some (.if_icmp .eq 1024, 3), none, none, some (.iconst 0, 1), some (.ireturn, 1), some (.aload_n 1, 1), some (.aload_n 0, 1)]
theorem jl_iok2 : ji_dchk code jl_i2 280 = true := by decide +kernel
theorem jl_d_280 : decode code 280 = .ok (.aload_n 0, 1) := ji_dchk_at jl_i2 280 0 jl_iok2 rfl
theorem jl_d_281 : decode code 281 = .ok (.iload_n 3, 1) := ji_dchk_at jl_i2 280 1 jl_iok2 rfl
theorem jl_d_282 : decode code 282 = .ok (.iconst 2, 1) := ji_dchk_at jl_i2 280 2 jl_iok2 rfl
theorem jl_d_283 : decode code 283 = .ok (.iadd, 1) := ji_dchk_at jl_i2 280 3 jl_iok2 rfl
theorem jl_d_284 : decode code 284 = .ok (.iaload, 1) := ji_dchk_at jl_i2 280 4 jl_iok2 rfl
theorem jl_d_285 : decode code 285 = .ok (.invokevirtual 28, 3) := ji_dchk_at jl_i2 280 5 jl_iok2 rfl
theorem jl_d_288 : decode code 288 = .ok (.aload_n 2, 1) := ji_dchk_at jl_i2 280 8 jl_iok2 rfl
theorem jl_d_289 : decode code 289 = .ok (.aload_n 0, 1) := ji_dchk_at jl_i2 280 9 jl_iok2 rfl
theorem jl_d_290 : decode code 290 = .ok (.iload_n 3, 1) := ji_dchk_at jl_i2 280 10 jl_iok2 rfl
theorem jl_d_291 : decode code 291 = .ok (.iconst 1, 1) := ji_dchk_at jl_i2 280 11 jl_iok2 rfl
theorem jl_d_292 : decode code 292 = .ok (.iadd, 1) := ji_dchk_at jl_i2 280 12 jl_iok2 rfl
theorem jl_d_293 : decode code 293 = .ok (.iaload, 1) := ji_dchk_at jl_i2 280 13 jl_iok2 rfl
theorem jl_d_294 : decode code 294 = .ok (.aload_n 0, 1) := ji_dchk_at jl_i2 280 14 jl_iok2 rfl
theorem jl_d_295 : decode code 295 = .ok (.iload_n 3, 1) := ji_dchk_at jl_i2 280 15 jl_iok2 rfl
theorem jl_d_296 : decode code 296 = .ok (.iconst 2, 1) := ji_dchk_at jl_i2 280 16 jl_iok2 rfl
theorem jl_d_297 : decode code 297 = .ok (.iadd, 1) := ji_dchk_at jl_i2 280 17 jl_iok2 rfl
theorem jl_d_298 : decode code 298 = .ok (.iaload, 1) := ji_dchk_at jl_i2 280 18 jl_iok2 rfl
theorem jl_d_299 : decode code 299 = .ok (.invokevirtual 31, 3) := ji_dchk_at jl_i2 280 19 jl_iok2 rfl
theorem jl_d_302 : decode code 302 = .ok (.if_icmp .eq 1057, 3) := ji_dchk_at jl_i2 280 22 jl_iok2 rfl
theorem jl_d_305 : decode code 305 = .ok (.iconst 0, 1) := ji_dchk_at jl_i2 280 25 jl_iok2 rfl
theorem jl_d_306 : decode code 306 = .ok (.ireturn, 1) := ji_dchk_at jl_i2 280 26 jl_iok2 rfl
theorem jl_d_307 : decode code 307 = .ok (.aload_n 1, 1) := ji_dchk_at jl_i2 280 27 jl_iok2 rfl
theorem jl_d_308 : decode code 308 = .ok (.aload_n 0, 1) := ji_dchk_at jl_i2 280 28 jl_iok2 rfl
theorem jl_d_309 : decode code 309 = .ok (.iload_n 3, 1) := ji_dchk_at jl_i2 280 29 jl_iok2 rfl
theorem jl_d_310 : decode code 310 = .ok (.iconst 1, 1) := ji_dchk_at jl_i2 280 30 jl_iok2 rfl
theorem jl_d_311 : decode code 311 = .ok (.iadd, 1) := ji_dchk_at jl_i2 280 31 jl_iok2 rfl
theorem jl_d_312 : decode code 312 = .ok (.iaload, 1) := ji_dchk_at jl_i2 280 32 jl_iok2 rfl
theorem jl_d_313 : decode code 313 = .ok (.aload_n 0, 1) := ji_dchk_at jl_i2 280 33 jl_iok2 rfl
theorem jl_d_314 : decode code 314 = .ok (.iload_n 3, 1) := ji_dchk_at jl_i2 280 34 jl_iok2 rfl
theorem jl_d_315 : decode code 315 = .ok (.iconst 2, 1) := ji_dchk_at jl_i2 280 35 jl_iok2 rfl
theorem jl_d_316 : decode code 316 = .ok (.iadd, 1) := ji_dchk_at jl_i2 280 36 jl_iok2 rfl
theorem jl_d_317 : decode code 317 = .ok (.iaload, 1) := ji_dchk_at jl_i2 280 37 jl_iok2 rfl
theorem jl_d_318 : decode code 318 = .ok (.invokevirtual 32, 3) := ji_dchk_at jl_i2 280 38 jl_iok2 rfl
theorem jl_d_321 : decode code 321 = .ok (.aload_n 2, 1) := ji_dchk_at jl_i2 280 41 jl_iok2 rfl
theorem jl_d_322 : decode code 322 = .ok (.aload_n 0, 1) := ji_dchk_at jl_i2 280 42 jl_iok2 rfl
theorem jl_d_323 : decode code 323 = .ok (.iload_n 3, 1) := ji_dchk_at jl_i2 280 43 jl_iok2 rfl
theorem jl_d_324 : decode code 324 = .ok (.iconst 1, 1) := ji_dchk_at jl_i2 280 44 jl_iok2 rfl
theorem jl_d_325 : decode code 325 = .ok (.iadd, 1) := ji_dchk_at jl_i2 280 45 jl_iok2 rfl
theorem jl_d_326 : decode code 326 = .ok (.iaload, 1) := ji_dchk_at jl_i2 280 46 jl_iok2 rfl
theorem jl_d_327 : decode code 327 = .ok (.aload_n 0, 1) := ji_dchk_at jl_i2 280 47 jl_iok2 rfl
theorem jl_d_328 : decode code 328 = .ok (.iload_n 3, 1) := ji_dchk_at jl_i2 280 48 jl_iok2 rfl
theorem jl_d_329 : decode code 329 = .ok (.iconst 2, 1) := ji_dchk_at jl_i2 280 49 jl_iok2 rfl
theorem jl_d_330 : decode code 330 = .ok (.iadd, 1) := ji_dchk_at jl_i2 280 50 jl_iok2 rfl
theorem jl_d_331 : decode code 331 = .ok (.iaload, 1) := ji_dchk_at jl_i2 280 51 jl_iok2 rfl
theorem jl_d_332 : decode code 332 = .ok (.invokevirtual 35, 3) := ji_dchk_at jl_i2 280 52 jl_iok2 rfl
theorem jl_d_335 : decode code 335 = .ok (.if_icmp .eq 1024, 3) := ji_dchk_at jl_i2 280 55 jl_iok2 rfl
theorem jl_d_338 : decode code 338 = .ok (.iconst 0, 1) := ji_dchk_at jl_i2 280 58 jl_iok2 rfl
theorem jl_d_339 : decode code 339 = .ok (.ireturn, 1) := ji_dchk_at jl_i2 280 59 jl_iok2 rfl
theorem jl_d_340 : decode code 340 = .ok (.aload_n 1, 1) := ji_dchk_at jl_i2 280 60 jl_iok2 rfl
theorem jl_d_341 : decode code 341 = .ok (.aload_n 0, 1) := ji_dchk_at jl_i2 280 61 jl_iok2 rfl
