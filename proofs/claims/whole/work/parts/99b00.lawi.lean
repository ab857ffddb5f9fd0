/-! ===== the law's instructions 0 ===== -/
def jl_i0 : List (Option (Instr × Nat)) := [some (.new 7, 3), none, none, some (.dup, 1), some (.invokespecial 9, 3), none, none, some (.astore_n 1, 1), some (.new 10, 3), none, none, some (.dup, 1), some (.invokespecial 12, 3), none, none, some (.astore_n 2, 1), some (.iconst 0, 1), some (.istore_n 3, 1), some (.iload_n 3, 1), some (.aload_n 0, 1), some (.arraylength, 1), some (.bipush 6, 2), none, some (.isub, 1), some (.if_icmp .gt 1341, 3), none, none, some (.aload_n 0, 1), some (.iload_n 3, 1), some (.iaload, 1), some (.bipush 63, 2), none, some (.iand, 1), some (.tableswitch 1326 0 33 #[151, 185, 208, 241, 274, 307, 330, 353, 377, 440, 453, 476, 510, 553, 596, 639, 672, 695, 718, 751, 784, 807, 850, 893, 926, 969, 992, 1025, 1068, 1091, 1134, 1177, 1240, 1293], 151), none, none, none, none, none, none, none, none, none, none, none, none, none, none, none, none, none, none, none, none, none, none, none, none, none, none, none, none, none, none, none, none, none, none, none, none, none, none, none, none, none, none, none, none, none, none, none, none, none, none, none, none, none, none, none, none, none, none, none, none, none, none, none, none, none, none, none, none, none, none, none, none, none, none, none, none, none, none, none, none, none, none, none, none, none, none, none, none, none, none, none, none, none, none, none, none, none, none, none, none, none, none, none, none, none, none, none, none, none, none, none, none, none, none, none, none, none, none, none, none, none, none, none, none, none, none, none, none, none, none, none, none, none, none, none, none, none, none, none, none, none, none, none, none, none, none, none, none, none, none, some (.aload_n 1, 1), some (.aload_n 0, 1), some (.iload_n 3, 1), some (.iconst 1, 1), some (.iadd, 1), some (.iaload, 1), some (.aload_n 0, 1), some (.iload_n 3, 1), some (.iconst 2, 1), some (.iadd, 1), some (.iaload, 1), some (.invokevirtual 13, 3), none, none, some (.aload_n 2, 1), some (.aload_n 0, 1), some (.iload_n 3, 1), some (.iconst 1, 1), some (.iadd, 1), some (.iaload, 1), some (.aload_n 0, 1), some (.iload_n 3, 1), some (.iconst 2, 1), some (.iadd, 1), some (.iaload, 1), some (.invokevirtual 17, 3), none, none, some (.lcmp, 1), some (.ifCond .eq 1146, 3), none, none, some (.iconst 0, 1), some (.ireturn, 1)]
theorem jl_iok0 : ji_dchk code jl_i0 0 = true := by decide +kernel
theorem jl_d_0 : decode code 0 = .ok (.new 7, 3) := ji_dchk_at jl_i0 0 0 jl_iok0 rfl
theorem jl_d_3 : decode code 3 = .ok (.dup, 1) := ji_dchk_at jl_i0 0 3 jl_iok0 rfl
theorem jl_d_4 : decode code 4 = .ok (.invokespecial 9, 3) := ji_dchk_at jl_i0 0 4 jl_iok0 rfl
theorem jl_d_7 : decode code 7 = .ok (.astore_n 1, 1) := ji_dchk_at jl_i0 0 7 jl_iok0 rfl
theorem jl_d_8 : decode code 8 = .ok (.new 10, 3) := ji_dchk_at jl_i0 0 8 jl_iok0 rfl
theorem jl_d_11 : decode code 11 = .ok (.dup, 1) := ji_dchk_at jl_i0 0 11 jl_iok0 rfl
theorem jl_d_12 : decode code 12 = .ok (.invokespecial 12, 3) := ji_dchk_at jl_i0 0 12 jl_iok0 rfl
theorem jl_d_15 : decode code 15 = .ok (.astore_n 2, 1) := ji_dchk_at jl_i0 0 15 jl_iok0 rfl
theorem jl_d_16 : decode code 16 = .ok (.iconst 0, 1) := ji_dchk_at jl_i0 0 16 jl_iok0 rfl
theorem jl_d_17 : decode code 17 = .ok (.istore_n 3, 1) := ji_dchk_at jl_i0 0 17 jl_iok0 rfl
theorem jl_d_18 : decode code 18 = .ok (.iload_n 3, 1) := ji_dchk_at jl_i0 0 18 jl_iok0 rfl
theorem jl_d_19 : decode code 19 = .ok (.aload_n 0, 1) := ji_dchk_at jl_i0 0 19 jl_iok0 rfl
theorem jl_d_20 : decode code 20 = .ok (.arraylength, 1) := ji_dchk_at jl_i0 0 20 jl_iok0 rfl
theorem jl_d_21 : decode code 21 = .ok (.bipush 6, 2) := ji_dchk_at jl_i0 0 21 jl_iok0 rfl
theorem jl_d_23 : decode code 23 = .ok (.isub, 1) := ji_dchk_at jl_i0 0 23 jl_iok0 rfl
theorem jl_d_24 : decode code 24 = .ok (.if_icmp .gt 1341, 3) := ji_dchk_at jl_i0 0 24 jl_iok0 rfl
theorem jl_d_27 : decode code 27 = .ok (.aload_n 0, 1) := ji_dchk_at jl_i0 0 27 jl_iok0 rfl
theorem jl_d_28 : decode code 28 = .ok (.iload_n 3, 1) := ji_dchk_at jl_i0 0 28 jl_iok0 rfl
theorem jl_d_29 : decode code 29 = .ok (.iaload, 1) := ji_dchk_at jl_i0 0 29 jl_iok0 rfl
theorem jl_d_30 : decode code 30 = .ok (.bipush 63, 2) := ji_dchk_at jl_i0 0 30 jl_iok0 rfl
theorem jl_d_32 : decode code 32 = .ok (.iand, 1) := ji_dchk_at jl_i0 0 32 jl_iok0 rfl
theorem jl_d_33 : decode code 33 = .ok (.tableswitch 1326 0 33 #[151, 185, 208, 241, 274, 307, 330, 353, 377, 440, 453, 476, 510, 553, 596, 639, 672, 695, 718, 751, 784, 807, 850, 893, 926, 969, 992, 1025, 1068, 1091, 1134, 1177, 1240, 1293], 151) := ji_dchk_at jl_i0 0 33 jl_iok0 rfl
theorem jl_d_184 : decode code 184 = .ok (.aload_n 1, 1) := ji_dchk_at jl_i0 0 184 jl_iok0 rfl
theorem jl_d_185 : decode code 185 = .ok (.aload_n 0, 1) := ji_dchk_at jl_i0 0 185 jl_iok0 rfl
theorem jl_d_186 : decode code 186 = .ok (.iload_n 3, 1) := ji_dchk_at jl_i0 0 186 jl_iok0 rfl
theorem jl_d_187 : decode code 187 = .ok (.iconst 1, 1) := ji_dchk_at jl_i0 0 187 jl_iok0 rfl
theorem jl_d_188 : decode code 188 = .ok (.iadd, 1) := ji_dchk_at jl_i0 0 188 jl_iok0 rfl
theorem jl_d_189 : decode code 189 = .ok (.iaload, 1) := ji_dchk_at jl_i0 0 189 jl_iok0 rfl
theorem jl_d_190 : decode code 190 = .ok (.aload_n 0, 1) := ji_dchk_at jl_i0 0 190 jl_iok0 rfl
theorem jl_d_191 : decode code 191 = .ok (.iload_n 3, 1) := ji_dchk_at jl_i0 0 191 jl_iok0 rfl
theorem jl_d_192 : decode code 192 = .ok (.iconst 2, 1) := ji_dchk_at jl_i0 0 192 jl_iok0 rfl
theorem jl_d_193 : decode code 193 = .ok (.iadd, 1) := ji_dchk_at jl_i0 0 193 jl_iok0 rfl
theorem jl_d_194 : decode code 194 = .ok (.iaload, 1) := ji_dchk_at jl_i0 0 194 jl_iok0 rfl
theorem jl_d_195 : decode code 195 = .ok (.invokevirtual 13, 3) := ji_dchk_at jl_i0 0 195 jl_iok0 rfl
theorem jl_d_198 : decode code 198 = .ok (.aload_n 2, 1) := ji_dchk_at jl_i0 0 198 jl_iok0 rfl
theorem jl_d_199 : decode code 199 = .ok (.aload_n 0, 1) := ji_dchk_at jl_i0 0 199 jl_iok0 rfl
theorem jl_d_200 : decode code 200 = .ok (.iload_n 3, 1) := ji_dchk_at jl_i0 0 200 jl_iok0 rfl
theorem jl_d_201 : decode code 201 = .ok (.iconst 1, 1) := ji_dchk_at jl_i0 0 201 jl_iok0 rfl
theorem jl_d_202 : decode code 202 = .ok (.iadd, 1) := ji_dchk_at jl_i0 0 202 jl_iok0 rfl
theorem jl_d_203 : decode code 203 = .ok (.iaload, 1) := ji_dchk_at jl_i0 0 203 jl_iok0 rfl
theorem jl_d_204 : decode code 204 = .ok (.aload_n 0, 1) := ji_dchk_at jl_i0 0 204 jl_iok0 rfl
theorem jl_d_205 : decode code 205 = .ok (.iload_n 3, 1) := ji_dchk_at jl_i0 0 205 jl_iok0 rfl
theorem jl_d_206 : decode code 206 = .ok (.iconst 2, 1) := ji_dchk_at jl_i0 0 206 jl_iok0 rfl
theorem jl_d_207 : decode code 207 = .ok (.iadd, 1) := ji_dchk_at jl_i0 0 207 jl_iok0 rfl
theorem jl_d_208 : decode code 208 = .ok (.iaload, 1) := ji_dchk_at jl_i0 0 208 jl_iok0 rfl
theorem jl_d_209 : decode code 209 = .ok (.invokevirtual 17, 3) := ji_dchk_at jl_i0 0 209 jl_iok0 rfl
theorem jl_d_212 : decode code 212 = .ok (.lcmp, 1) := ji_dchk_at jl_i0 0 212 jl_iok0 rfl
theorem jl_d_213 : decode code 213 = .ok (.ifCond .eq 1146, 3) := ji_dchk_at jl_i0 0 213 jl_iok0 rfl
theorem jl_d_216 : decode code 216 = .ok (.iconst 0, 1) := ji_dchk_at jl_i0 0 216 jl_iok0 rfl
theorem jl_d_217 : decode code 217 = .ok (.ireturn, 1) := ji_dchk_at jl_i0 0 217 jl_iok0 rfl
