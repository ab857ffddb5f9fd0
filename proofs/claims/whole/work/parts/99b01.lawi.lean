/-! ===== the law's instructions 1 ===== -/
def jl_i1 : List (Option (Instr × Nat)) := [some (.aload_n 1, 1), some (.aload_n 0, 1), some (.iload_n 3, 1), some (.iconst 1, 1), some (.iadd, 1), some (.iaload, 1), some (.invokevirtual 18, 3), none, none, some (.aload_n 2, 1), some (.aload_n 0, 1), some (.iload_n 3, 1), some (.iconst 1, 1), some (.iadd, 1), some (.iaload, 1), some (.invokevirtual 22, 3), none, none, some (.if_icmp .eq 1123, 3), none, none, some (.iconst 0, 1), some (.ireturn, 1), some (.aload_n 1, 1), some (.aload_n 0, 1), some (.iload_n 3, 1), some (.iconst 1, 1), some (.iadd, 1), some (.iaload, 1), some (.aload_n 0, 1), some (.iload_n 3, 1), some (.iconst 2, 1), some (.iadd, 1), some (.iaload, 1), some (.invokevirtual 23, 3), none, none, some (.aload_n 2, 1), some (.aload_n 0, 1), some (.iload_n 3, 1), some (.iconst 1, 1), some (.iadd, 1), some (.iaload, 1), some (.aload_n 0, 1), some (.iload_n 3, 1), some (.iconst 2, 1), some (.iadd, 1), some (.iaload, 1), some (.invokevirtual 27, 3), none, none, some (.if_icmp .eq 1090, 3), none, none, some (.iconst 0, 1), some (.ireturn, 1), some (.aload_n 1, 1), some (.aload_n 0, 1), some (.iload_n 3, 1), some (.iconst 1, 1), some (.iadd, 1), some (.iaload, 1)]
theorem jl_iok1 : ji_dchk code jl_i1 218 = true := by decide +kernel
theorem jl_d_218 : decode code 218 = .ok (.aload_n 1, 1) := ji_dchk_at jl_i1 218 0 jl_iok1 rfl
theorem jl_d_219 : decode code 219 = .ok (.aload_n 0, 1) := ji_dchk_at jl_i1 218 1 jl_iok1 rfl
theorem jl_d_220 : decode code 220 = .ok (.iload_n 3, 1) := ji_dchk_at jl_i1 218 2 jl_iok1 rfl
theorem jl_d_221 : decode code 221 = .ok (.iconst 1, 1) := ji_dchk_at jl_i1 218 3 jl_iok1 rfl
theorem jl_d_222 : decode code 222 = .ok (.iadd, 1) := ji_dchk_at jl_i1 218 4 jl_iok1 rfl
theorem jl_d_223 : decode code 223 = .ok (.iaload, 1) := ji_dchk_at jl_i1 218 5 jl_iok1 rfl
theorem jl_d_224 : decode code 224 = .ok (.invokevirtual 18, 3) := ji_dchk_at jl_i1 218 6 jl_iok1 rfl
theorem jl_d_227 : decode code 227 = .ok (.aload_n 2, 1) := ji_dchk_at jl_i1 218 9 jl_iok1 rfl
theorem jl_d_228 : decode code 228 = .ok (.aload_n 0, 1) := ji_dchk_at jl_i1 218 10 jl_iok1 rfl
theorem jl_d_229 : decode code 229 = .ok (.iload_n 3, 1) := ji_dchk_at jl_i1 218 11 jl_iok1 rfl
theorem jl_d_230 : decode code 230 = .ok (.iconst 1, 1) := ji_dchk_at jl_i1 218 12 jl_iok1 rfl
theorem jl_d_231 : decode code 231 = .ok (.iadd, 1) := ji_dchk_at jl_i1 218 13 jl_iok1 rfl
theorem jl_d_232 : decode code 232 = .ok (.iaload, 1) := ji_dchk_at jl_i1 218 14 jl_iok1 rfl
theorem jl_d_233 : decode code 233 = .ok (.invokevirtual 22, 3) := ji_dchk_at jl_i1 218 15 jl_iok1 rfl
theorem jl_d_236 : decode code 236 = .ok (.if_icmp .eq 1123, 3) := ji_dchk_at jl_i1 218 18 jl_iok1 rfl
theorem jl_d_239 : decode code 239 = .ok (.iconst 0, 1) := ji_dchk_at jl_i1 218 21 jl_iok1 rfl
theorem jl_d_240 : decode code 240 = .ok (.ireturn, 1) := ji_dchk_at jl_i1 218 22 jl_iok1 rfl
theorem jl_d_241 : decode code 241 = .ok (.aload_n 1, 1) := ji_dchk_at jl_i1 218 23 jl_iok1 rfl
theorem jl_d_242 : decode code 242 = .ok (.aload_n 0, 1) := ji_dchk_at jl_i1 218 24 jl_iok1 rfl
theorem jl_d_243 : decode code 243 = .ok (.iload_n 3, 1) := ji_dchk_at jl_i1 218 25 jl_iok1 rfl
theorem jl_d_244 : decode code 244 = .ok (.iconst 1, 1) := ji_dchk_at jl_i1 218 26 jl_iok1 rfl
theorem jl_d_245 : decode code 245 = .ok (.iadd, 1) := ji_dchk_at jl_i1 218 27 jl_iok1 rfl
theorem jl_d_246 : decode code 246 = .ok (.iaload, 1) := ji_dchk_at jl_i1 218 28 jl_iok1 rfl
theorem jl_d_247 : decode code 247 = .ok (.aload_n 0, 1) := ji_dchk_at jl_i1 218 29 jl_iok1 rfl
theorem jl_d_248 : decode code 248 = .ok (.iload_n 3, 1) := ji_dchk_at jl_i1 218 30 jl_iok1 rfl
theorem jl_d_249 : decode code 249 = .ok (.iconst 2, 1) := ji_dchk_at jl_i1 218 31 jl_iok1 rfl
theorem jl_d_250 : decode code 250 = .ok (.iadd, 1) := ji_dchk_at jl_i1 218 32 jl_iok1 rfl
theorem jl_d_251 : decode code 251 = .ok (.iaload, 1) := ji_dchk_at jl_i1 218 33 jl_iok1 rfl
theorem jl_d_252 : decode code 252 = .ok (.invokevirtual 23, 3) := ji_dchk_at jl_i1 218 34 jl_iok1 rfl
theorem jl_d_255 : decode code 255 = .ok (.aload_n 2, 1) := ji_dchk_at jl_i1 218 37 jl_iok1 rfl
theorem jl_d_256 : decode code 256 = .ok (.aload_n 0, 1) := ji_dchk_at jl_i1 218 38 jl_iok1 rfl
theorem jl_d_257 : decode code 257 = .ok (.iload_n 3, 1) := ji_dchk_at jl_i1 218 39 jl_iok1 rfl
theorem jl_d_258 : decode code 258 = .ok (.iconst 1, 1) := ji_dchk_at jl_i1 218 40 jl_iok1 rfl
theorem jl_d_259 : decode code 259 = .ok (.iadd, 1) := ji_dchk_at jl_i1 218 41 jl_iok1 rfl
theorem jl_d_260 : decode code 260 = .ok (.iaload, 1) := ji_dchk_at jl_i1 218 42 jl_iok1 rfl
theorem jl_d_261 : decode code 261 = .ok (.aload_n 0, 1) := ji_dchk_at jl_i1 218 43 jl_iok1 rfl
theorem jl_d_262 : decode code 262 = .ok (.iload_n 3, 1) := ji_dchk_at jl_i1 218 44 jl_iok1 rfl
theorem jl_d_263 : decode code 263 = .ok (.iconst 2, 1) := ji_dchk_at jl_i1 218 45 jl_iok1 rfl
theorem jl_d_264 : decode code 264 = .ok (.iadd, 1) := ji_dchk_at jl_i1 218 46 jl_iok1 rfl
theorem jl_d_265 : decode code 265 = .ok (.iaload, 1) := ji_dchk_at jl_i1 218 47 jl_iok1 rfl
theorem jl_d_266 : decode code 266 = .ok (.invokevirtual 27, 3) := ji_dchk_at jl_i1 218 48 jl_iok1 rfl
theorem jl_d_269 : decode code 269 = .ok (.if_icmp .eq 1090, 3) := ji_dchk_at jl_i1 218 51 jl_iok1 rfl
theorem jl_d_272 : decode code 272 = .ok (.iconst 0, 1) := ji_dchk_at jl_i1 218 54 jl_iok1 rfl
theorem jl_d_273 : decode code 273 = .ok (.ireturn, 1) := ji_dchk_at jl_i1 218 55 jl_iok1 rfl
theorem jl_d_274 : decode code 274 = .ok (.aload_n 1, 1) := ji_dchk_at jl_i1 218 56 jl_iok1 rfl
theorem jl_d_275 : decode code 275 = .ok (.aload_n 0, 1) := ji_dchk_at jl_i1 218 57 jl_iok1 rfl
theorem jl_d_276 : decode code 276 = .ok (.iload_n 3, 1) := ji_dchk_at jl_i1 218 58 jl_iok1 rfl
theorem jl_d_277 : decode code 277 = .ok (.iconst 1, 1) := ji_dchk_at jl_i1 218 59 jl_iok1 rfl
theorem jl_d_278 : decode code 278 = .ok (.iadd, 1) := ji_dchk_at jl_i1 218 60 jl_iok1 rfl
theorem jl_d_279 : decode code 279 = .ok (.iaload, 1) := ji_dchk_at jl_i1 218 61 jl_iok1 rfl
