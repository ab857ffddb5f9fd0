/-! ===== the law's cases 0 .. ===== -/
def jl_u (y z : Int32) : Int64 := (y.toInt64 <<< ((32 : Int32).toInt64 &&& 63)) ||| (z.toInt64 &&& 4294967295)
section JLC0
variable {p : Program} {l : Launch} {e : Env} {s : State} {m : MethodId} {args : Array Value} {below : List Frame} {meth : Method} {c : Code} {Q : State → Prop}
variable {x : Nat → Value} {D : va_G} {G : ji_G} {b L : Nat} {xs : Nat → Int32} {X N : ji_M} {H : Heap} {locs : List Loc} {cells slots bX bN : Nat} {ls : Array Slot} {x3 : Int32}
set_option maxRecDepth 100000 in
theorem jl_case_0 (C : jl_Cx p s m args c b L xs x D G) (R : ji_Rel jx_P X N) (I : jl_I s D G bX bN X N H locs) (hl : lv_has ls 4 [(3, .int x3), (2, .ref bN), (1, .ref bX), (0, .ref b)]) (hin : ∀ j : Nat, j ≤ 5 → vp_in (x3 + Int32.ofInt j) L) (hcs : cells ≤ 600000) (hss : slots ≤ 7302250)
    (kk : ∀ (X' N' : ji_M) (H1 : Heap) (locs1 : List Loc), ji_Rel jx_P X' N' → jl_I s D G bX bN X' N' H1 locs1 → W p l e room_1 s m args below meth c H1 locs1 cells slots Q (F0 m 1359 ls [])) : W p l e room_1 s m args below meth c H locs cells slots Q (F0 m 184 ls []) := by
  obtain ⟨hx, hb, -, hown, hts, -⟩ := id C
  obtain ⟨v, X', N', n1, n2, e1, e2, R'⟩ := jl_two (call_0 (x := jl_z xs x3 1) (y := jl_z xs x3 2) R)
  obtain ⟨z, rfl⟩ := jl_long (by decide +kernel) (by decide +kernel) e1
  refine lv_aload_n hx hb jl_d_184 rfl (lv_at hl 2 rfl) ?_
  refine jl_arg C I hl jl_d_185 jl_d_186 jl_d_187 jl_d_188 jl_d_189 (hin 1 (by decide)) ?_
  refine jl_arg C I hl jl_d_190 jl_d_191 jl_d_192 jl_d_193 jl_d_194 (hin 2 (by decide)) ?_
  refine jl_cX (As := [.int (jl_z xs x3 1), .int (jl_z xs x3 2)]) (rest := []) C I hl.1 e1 (xk_0 R.xf) (by decide +kernel) jl_w42 (by show (parseMethodDescriptor (ji_m 42).1.desc).map (fun d => d.parameters.length) = some 2; decide +kernel) rfl (Nat.le_of_ble_eq_true rfl) jl_d_195 hcs hss (fun H1 locs1 I1 => ?_)
  refine lv_aload_n hx hb jl_d_198 rfl (lv_at hl 1 rfl) ?_
  refine jl_arg C I1 hl jl_d_199 jl_d_200 jl_d_201 jl_d_202 jl_d_203 (hin 1 (by decide)) ?_
  refine jl_arg C I1 hl jl_d_204 jl_d_205 jl_d_206 jl_d_207 jl_d_208 (hin 2 (by decide)) ?_
  refine jl_cN (As := [.int (jl_z xs x3 1), .int (jl_z xs x3 2)]) (rest := [.long z]) C I1 hl.1 e2 (mk_0 R.mf) (by decide +kernel) jl_w157 (by show (parseMethodDescriptor (ji_m 157).1.desc).map (fun d => d.parameters.length) = some 2; decide +kernel) rfl (Nat.le_of_ble_eq_true rfl) jl_d_209 hcs hss (fun H2 locs2 I2 => ?_)
  refine W.lcmp (x := z) (y := z) hx hb jl_d_212 ?_
  exact lv_if_eq hx hb jl_d_213 (by decide) (fun _ => kk X' N' _ _ R' I2) (fun h => absurd ((lg_cmp_eq z z).mpr rfl) h)
set_option maxRecDepth 100000 in
theorem jl_case_1 (C : jl_Cx p s m args c b L xs x D G) (R : ji_Rel jx_P X N) (I : jl_I s D G bX bN X N H locs) (hl : lv_has ls 4 [(3, .int x3), (2, .ref bN), (1, .ref bX), (0, .ref b)]) (hin : ∀ j : Nat, j ≤ 5 → vp_in (x3 + Int32.ofInt j) L) (hcs : cells ≤ 600000) (hss : slots ≤ 7302250)
    (kk : ∀ (X' N' : ji_M) (H1 : Heap) (locs1 : List Loc), ji_Rel jx_P X' N' → jl_I s D G bX bN X' N' H1 locs1 → W p l e room_1 s m args below meth c H1 locs1 cells slots Q (F0 m 1359 ls [])) : W p l e room_1 s m args below meth c H locs cells slots Q (F0 m 218 ls []) := by
  obtain ⟨hx, hb, -, hown, hts, -⟩ := id C
  obtain ⟨v, X', N', n1, n2, e1, e2, R'⟩ := jl_two (call_1 (x := jl_z xs x3 1) R)
  obtain ⟨z, rfl⟩ := jl_int (by decide +kernel) e1
  refine lv_aload_n hx hb jl_d_218 rfl (lv_at hl 2 rfl) ?_
  refine jl_arg C I hl jl_d_219 jl_d_220 jl_d_221 jl_d_222 jl_d_223 (hin 1 (by decide)) ?_
  refine jl_cX (As := [.int (jl_z xs x3 1)]) (rest := []) C I hl.1 e1 (xk_0 R.xf) (by decide +kernel) jl_w45 (by show (parseMethodDescriptor (ji_m 45).1.desc).map (fun d => d.parameters.length) = some 1; decide +kernel) rfl (Nat.le_of_ble_eq_true rfl) jl_d_224 hcs hss (fun H1 locs1 I1 => ?_)
  refine lv_aload_n hx hb jl_d_227 rfl (lv_at hl 1 rfl) ?_
  refine jl_arg C I1 hl jl_d_228 jl_d_229 jl_d_230 jl_d_231 jl_d_232 (hin 1 (by decide)) ?_
  refine jl_cN (As := [.int (jl_z xs x3 1)]) (rest := [.int z]) C I1 hl.1 e2 (mk_0 R.mf) (by decide +kernel) jl_w159 (by show (parseMethodDescriptor (ji_m 159).1.desc).map (fun d => d.parameters.length) = some 1; decide +kernel) rfl (Nat.le_of_ble_eq_true rfl) jl_d_233 hcs hss (fun H2 locs2 I2 => ?_)
  exact lv_icmp_eq (x := z) (y := z) hx hb jl_d_236 (by decide) (fun _ => kk X' N' _ _ R' I2) (fun h => absurd rfl h)
set_option maxRecDepth 100000 in
theorem jl_case_2 (C : jl_Cx p s m args c b L xs x D G) (R : ji_Rel jx_P X N) (I : jl_I s D G bX bN X N H locs) (hl : lv_has ls 4 [(3, .int x3), (2, .ref bN), (1, .ref bX), (0, .ref b)]) (hin : ∀ j : Nat, j ≤ 5 → vp_in (x3 + Int32.ofInt j) L) (hcs : cells ≤ 600000) (hss : slots ≤ 7302250)
    (kk : ∀ (X' N' : ji_M) (H1 : Heap) (locs1 : List Loc), ji_Rel jx_P X' N' → jl_I s D G bX bN X' N' H1 locs1 → W p l e room_1 s m args below meth c H1 locs1 cells slots Q (F0 m 1359 ls [])) : W p l e room_1 s m args below meth c H locs cells slots Q (F0 m 241 ls []) := by
  obtain ⟨hx, hb, -, hown, hts, -⟩ := id C
  obtain ⟨v, X', N', n1, n2, e1, e2, R'⟩ := jl_two (call_2 (x := jl_z xs x3 1) (y := jl_z xs x3 2) R)
  obtain ⟨z, rfl⟩ := jl_int (by decide +kernel) e1
  refine lv_aload_n hx hb jl_d_241 rfl (lv_at hl 2 rfl) ?_
  refine jl_arg C I hl jl_d_242 jl_d_243 jl_d_244 jl_d_245 jl_d_246 (hin 1 (by decide)) ?_
  refine jl_arg C I hl jl_d_247 jl_d_248 jl_d_249 jl_d_250 jl_d_251 (hin 2 (by decide)) ?_
  refine jl_cX (As := [.int (jl_z xs x3 1), .int (jl_z xs x3 2)]) (rest := []) C I hl.1 e1 (xk_0 R.xf) (by decide +kernel) jl_w59 (by show (parseMethodDescriptor (ji_m 59).1.desc).map (fun d => d.parameters.length) = some 2; decide +kernel) rfl (Nat.le_of_ble_eq_true rfl) jl_d_252 hcs hss (fun H1 locs1 I1 => ?_)
  refine lv_aload_n hx hb jl_d_255 rfl (lv_at hl 1 rfl) ?_
  refine jl_arg C I1 hl jl_d_256 jl_d_257 jl_d_258 jl_d_259 jl_d_260 (hin 1 (by decide)) ?_
  refine jl_arg C I1 hl jl_d_261 jl_d_262 jl_d_263 jl_d_264 jl_d_265 (hin 2 (by decide)) ?_
  refine jl_cN (As := [.int (jl_z xs x3 1), .int (jl_z xs x3 2)]) (rest := [.int z]) C I1 hl.1 e2 (mk_0 R.mf) (by decide +kernel) jl_w164 (by show (parseMethodDescriptor (ji_m 164).1.desc).map (fun d => d.parameters.length) = some 2; decide +kernel) rfl (Nat.le_of_ble_eq_true rfl) jl_d_266 hcs hss (fun H2 locs2 I2 => ?_)
  exact lv_icmp_eq (x := z) (y := z) hx hb jl_d_269 (by decide) (fun _ => kk X' N' _ _ R' I2) (fun h => absurd rfl h)
set_option maxRecDepth 100000 in
theorem jl_case_3 (C : jl_Cx p s m args c b L xs x D G) (R : ji_Rel jx_P X N) (I : jl_I s D G bX bN X N H locs) (hl : lv_has ls 4 [(3, .int x3), (2, .ref bN), (1, .ref bX), (0, .ref b)]) (hin : ∀ j : Nat, j ≤ 5 → vp_in (x3 + Int32.ofInt j) L) (hcs : cells ≤ 600000) (hss : slots ≤ 7302250)
    (kk : ∀ (X' N' : ji_M) (H1 : Heap) (locs1 : List Loc), ji_Rel jx_P X' N' → jl_I s D G bX bN X' N' H1 locs1 → W p l e room_1 s m args below meth c H1 locs1 cells slots Q (F0 m 1359 ls [])) : W p l e room_1 s m args below meth c H locs cells slots Q (F0 m 274 ls []) := by
  obtain ⟨hx, hb, -, hown, hts, -⟩ := id C
  obtain ⟨v, X', N', n1, n2, e1, e2, R'⟩ := jl_two (call_3 (x := jl_z xs x3 1) (y := jl_z xs x3 2) R)
  obtain ⟨z, rfl⟩ := jl_int (by decide +kernel) e1
  refine lv_aload_n hx hb jl_d_274 rfl (lv_at hl 2 rfl) ?_
  refine jl_arg C I hl jl_d_275 jl_d_276 jl_d_277 jl_d_278 jl_d_279 (hin 1 (by decide)) ?_
  refine jl_arg C I hl jl_d_280 jl_d_281 jl_d_282 jl_d_283 jl_d_284 (hin 2 (by decide)) ?_
  refine jl_cX (As := [.int (jl_z xs x3 1), .int (jl_z xs x3 2)]) (rest := []) C I hl.1 e1 (xk_0 R.xf) (by decide +kernel) jl_w64 (by show (parseMethodDescriptor (ji_m 64).1.desc).map (fun d => d.parameters.length) = some 2; decide +kernel) rfl (Nat.le_of_ble_eq_true rfl) jl_d_285 hcs hss (fun H1 locs1 I1 => ?_)
  refine lv_aload_n hx hb jl_d_288 rfl (lv_at hl 1 rfl) ?_
  refine jl_arg C I1 hl jl_d_289 jl_d_290 jl_d_291 jl_d_292 jl_d_293 (hin 1 (by decide)) ?_
  refine jl_arg C I1 hl jl_d_294 jl_d_295 jl_d_296 jl_d_297 jl_d_298 (hin 2 (by decide)) ?_
  refine jl_cN (As := [.int (jl_z xs x3 1), .int (jl_z xs x3 2)]) (rest := [.int z]) C I1 hl.1 e2 (mk_0 R.mf) (by decide +kernel) jl_w165 (by show (parseMethodDescriptor (ji_m 165).1.desc).map (fun d => d.parameters.length) = some 2; decide +kernel) rfl (Nat.le_of_ble_eq_true rfl) jl_d_299 hcs hss (fun H2 locs2 I2 => ?_)
  exact lv_icmp_eq (x := z) (y := z) hx hb jl_d_302 (by decide) (fun _ => kk X' N' _ _ R' I2) (fun h => absurd rfl h)
set_option maxRecDepth 100000 in
theorem jl_case_4 (C : jl_Cx p s m args c b L xs x D G) (R : ji_Rel jx_P X N) (I : jl_I s D G bX bN X N H locs) (hl : lv_has ls 4 [(3, .int x3), (2, .ref bN), (1, .ref bX), (0, .ref b)]) (hin : ∀ j : Nat, j ≤ 5 → vp_in (x3 + Int32.ofInt j) L) (hcs : cells ≤ 600000) (hss : slots ≤ 7302250)
    (kk : ∀ (X' N' : ji_M) (H1 : Heap) (locs1 : List Loc), ji_Rel jx_P X' N' → jl_I s D G bX bN X' N' H1 locs1 → W p l e room_1 s m args below meth c H1 locs1 cells slots Q (F0 m 1359 ls [])) : W p l e room_1 s m args below meth c H locs cells slots Q (F0 m 307 ls []) := by
  obtain ⟨hx, hb, -, hown, hts, -⟩ := id C
  obtain ⟨v, X', N', n1, n2, e1, e2, R'⟩ := jl_two (call_4 (x := jl_z xs x3 1) (y := jl_z xs x3 2) R)
  obtain ⟨z, rfl⟩ := jl_int (by decide +kernel) e1
  refine lv_aload_n hx hb jl_d_307 rfl (lv_at hl 2 rfl) ?_
  refine jl_arg C I hl jl_d_308 jl_d_309 jl_d_310 jl_d_311 jl_d_312 (hin 1 (by decide)) ?_
  refine jl_arg C I hl jl_d_313 jl_d_314 jl_d_315 jl_d_316 jl_d_317 (hin 2 (by decide)) ?_
  refine jl_cX (As := [.int (jl_z xs x3 1), .int (jl_z xs x3 2)]) (rest := []) C I hl.1 e1 (xk_0 R.xf) (by decide +kernel) jl_w70 (by show (parseMethodDescriptor (ji_m 70).1.desc).map (fun d => d.parameters.length) = some 2; decide +kernel) rfl (Nat.le_of_ble_eq_true rfl) jl_d_318 hcs hss (fun H1 locs1 I1 => ?_)
  refine lv_aload_n hx hb jl_d_321 rfl (lv_at hl 1 rfl) ?_
  refine jl_arg C I1 hl jl_d_322 jl_d_323 jl_d_324 jl_d_325 jl_d_326 (hin 1 (by decide)) ?_
  refine jl_arg C I1 hl jl_d_327 jl_d_328 jl_d_329 jl_d_330 jl_d_331 (hin 2 (by decide)) ?_
  refine jl_cN (As := [.int (jl_z xs x3 1), .int (jl_z xs x3 2)]) (rest := [.int z]) C I1 hl.1 e2 (mk_0 R.mf) (by decide +kernel) jl_w168 (by show (parseMethodDescriptor (ji_m 168).1.desc).map (fun d => d.parameters.length) = some 2; decide +kernel) rfl (Nat.le_of_ble_eq_true rfl) jl_d_332 hcs hss (fun H2 locs2 I2 => ?_)
  exact lv_icmp_eq (x := z) (y := z) hx hb jl_d_335 (by decide) (fun _ => kk X' N' _ _ R' I2) (fun h => absurd rfl h)
set_option maxRecDepth 100000 in
theorem jl_case_5 (C : jl_Cx p s m args c b L xs x D G) (R : ji_Rel jx_P X N) (I : jl_I s D G bX bN X N H locs) (hl : lv_has ls 4 [(3, .int x3), (2, .ref bN), (1, .ref bX), (0, .ref b)]) (hin : ∀ j : Nat, j ≤ 5 → vp_in (x3 + Int32.ofInt j) L) (hcs : cells ≤ 600000) (hss : slots ≤ 7302250)
    (kk : ∀ (X' N' : ji_M) (H1 : Heap) (locs1 : List Loc), ji_Rel jx_P X' N' → jl_I s D G bX bN X' N' H1 locs1 → W p l e room_1 s m args below meth c H1 locs1 cells slots Q (F0 m 1359 ls [])) : W p l e room_1 s m args below meth c H locs cells slots Q (F0 m 340 ls []) := by
  obtain ⟨hx, hb, -, hown, hts, -⟩ := id C
  obtain ⟨v, X', N', n1, n2, e1, e2, R'⟩ := jl_two (call_5 (x := jl_z xs x3 1) R)
  obtain ⟨z, rfl⟩ := jl_int (by decide +kernel) e1
  refine lv_aload_n hx hb jl_d_340 rfl (lv_at hl 2 rfl) ?_
  refine jl_arg C I hl jl_d_341 jl_d_342 jl_d_343 jl_d_344 jl_d_345 (hin 1 (by decide)) ?_
  refine jl_cX (As := [.int (jl_z xs x3 1)]) (rest := []) C I hl.1 e1 (xk_0 R.xf) (by decide +kernel) jl_w84 (by show (parseMethodDescriptor (ji_m 84).1.desc).map (fun d => d.parameters.length) = some 1; decide +kernel) rfl (Nat.le_of_ble_eq_true rfl) jl_d_346 hcs hss (fun H1 locs1 I1 => ?_)
  refine lv_aload_n hx hb jl_d_349 rfl (lv_at hl 1 rfl) ?_
  refine jl_arg C I1 hl jl_d_350 jl_d_351 jl_d_352 jl_d_353 jl_d_354 (hin 1 (by decide)) ?_
  refine jl_cN (As := [.int (jl_z xs x3 1)]) (rest := [.int z]) C I1 hl.1 e2 (mk_0 R.mf) (by decide +kernel) jl_w191 (by show (parseMethodDescriptor (ji_m 191).1.desc).map (fun d => d.parameters.length) = some 1; decide +kernel) rfl (Nat.le_of_ble_eq_true rfl) jl_d_355 hcs hss (fun H2 locs2 I2 => ?_)
  exact lv_icmp_eq (x := z) (y := z) hx hb jl_d_358 (by decide) (fun _ => kk X' N' _ _ R' I2) (fun h => absurd rfl h)
set_option maxRecDepth 100000 in
theorem jl_case_6 (C : jl_Cx p s m args c b L xs x D G) (R : ji_Rel jx_P X N) (I : jl_I s D G bX bN X N H locs) (hl : lv_has ls 4 [(3, .int x3), (2, .ref bN), (1, .ref bX), (0, .ref b)]) (hin : ∀ j : Nat, j ≤ 5 → vp_in (x3 + Int32.ofInt j) L) (hcs : cells ≤ 600000) (hss : slots ≤ 7302250)
    (kk : ∀ (X' N' : ji_M) (H1 : Heap) (locs1 : List Loc), ji_Rel jx_P X' N' → jl_I s D G bX bN X' N' H1 locs1 → W p l e room_1 s m args below meth c H1 locs1 cells slots Q (F0 m 1359 ls [])) : W p l e room_1 s m args below meth c H locs cells slots Q (F0 m 363 ls []) := by
  obtain ⟨hx, hb, -, hown, hts, -⟩ := id C
  obtain ⟨v, X', N', n1, n2, e1, e2, R'⟩ := jl_two (call_6 (x := jl_z xs x3 1) R)
  obtain ⟨z, rfl⟩ := jl_int (by decide +kernel) e1
  refine lv_aload_n hx hb jl_d_363 rfl (lv_at hl 2 rfl) ?_
  refine jl_arg C I hl jl_d_364 jl_d_365 jl_d_366 jl_d_367 jl_d_368 (hin 1 (by decide)) ?_
  refine jl_cX (As := [.int (jl_z xs x3 1)]) (rest := []) C I hl.1 e1 (xk_0 R.xf) (by decide +kernel) jl_w85 (by show (parseMethodDescriptor (ji_m 85).1.desc).map (fun d => d.parameters.length) = some 1; decide +kernel) rfl (Nat.le_of_ble_eq_true rfl) jl_d_369 hcs hss (fun H1 locs1 I1 => ?_)
  refine lv_aload_n hx hb jl_d_372 rfl (lv_at hl 1 rfl) ?_
  refine jl_arg C I1 hl jl_d_373 jl_d_374 jl_d_375 jl_d_376 jl_d_377 (hin 1 (by decide)) ?_
  refine jl_cN (As := [.int (jl_z xs x3 1)]) (rest := [.int z]) C I1 hl.1 e2 (mk_0 R.mf) (by decide +kernel) jl_w192 (by show (parseMethodDescriptor (ji_m 192).1.desc).map (fun d => d.parameters.length) = some 1; decide +kernel) rfl (Nat.le_of_ble_eq_true rfl) jl_d_378 hcs hss (fun H2 locs2 I2 => ?_)
  exact lv_icmp_eq (x := z) (y := z) hx hb jl_d_381 (by decide) (fun _ => kk X' N' _ _ R' I2) (fun h => absurd rfl h)
set_option maxRecDepth 100000 in
theorem jl_case_7 (C : jl_Cx p s m args c b L xs x D G) (R : ji_Rel jx_P X N) (I : jl_I s D G bX bN X N H locs) (hl : lv_has ls 4 [(3, .int x3), (2, .ref bN), (1, .ref bX), (0, .ref b)]) (hin : ∀ j : Nat, j ≤ 5 → vp_in (x3 + Int32.ofInt j) L) (hcs : cells ≤ 600000) (hss : slots ≤ 7302250)
    (kk : ∀ (X' N' : ji_M) (H1 : Heap) (locs1 : List Loc), ji_Rel jx_P X' N' → jl_I s D G bX bN X' N' H1 locs1 → W p l e room_1 s m args below meth c H1 locs1 cells slots Q (F0 m 1359 ls [])) : W p l e room_1 s m args below meth c H locs cells slots Q (F0 m 386 ls []) := by
  obtain ⟨hx, hb, -, hown, hts, -⟩ := id C
  obtain ⟨v, X', N', n1, n2, e1, e2, R'⟩ := jl_two (call_7 (x := jl_z xs x3 1) R)
  obtain ⟨z, rfl⟩ := jl_long (by decide +kernel) (by decide +kernel) e1
  refine lv_aload_n hx hb jl_d_386 rfl (lv_at hl 2 rfl) ?_
  refine jl_arg C I hl jl_d_387 jl_d_388 jl_d_389 jl_d_390 jl_d_391 (hin 1 (by decide)) ?_
  refine jl_cX (As := [.int (jl_z xs x3 1)]) (rest := []) C I hl.1 e1 (xk_0 R.xf) (by decide +kernel) jl_w88 (by show (parseMethodDescriptor (ji_m 88).1.desc).map (fun d => d.parameters.length) = some 1; decide +kernel) rfl (Nat.le_of_ble_eq_true rfl) jl_d_392 hcs hss (fun H1 locs1 I1 => ?_)
  refine lv_aload_n hx hb jl_d_395 rfl (lv_at hl 1 rfl) ?_
  refine jl_arg C I1 hl jl_d_396 jl_d_397 jl_d_398 jl_d_399 jl_d_400 (hin 1 (by decide)) ?_
  refine jl_cN (As := [.int (jl_z xs x3 1)]) (rest := [.long z]) C I1 hl.1 e2 (mk_0 R.mf) (by decide +kernel) jl_w193 (by show (parseMethodDescriptor (ji_m 193).1.desc).map (fun d => d.parameters.length) = some 1; decide +kernel) rfl (Nat.le_of_ble_eq_true rfl) jl_d_401 hcs hss (fun H2 locs2 I2 => ?_)
  refine W.lcmp (x := z) (y := z) hx hb jl_d_404 ?_
  exact lv_if_eq hx hb jl_d_405 (by decide) (fun _ => kk X' N' _ _ R' I2) (fun h => absurd ((lg_cmp_eq z z).mpr rfl) h)
set_option maxRecDepth 100000 in
theorem jl_case_8 (C : jl_Cx p s m args c b L xs x D G) (R : ji_Rel jx_P X N) (I : jl_I s D G bX bN X N H locs) (hl : lv_has ls 4 [(3, .int x3), (2, .ref bN), (1, .ref bX), (0, .ref b)]) (hin : ∀ j : Nat, j ≤ 5 → vp_in (x3 + Int32.ofInt j) L) (hcs : cells ≤ 600000) (hss : slots ≤ 7302250)
    (kk : ∀ (X' N' : ji_M) (H1 : Heap) (locs1 : List Loc), ji_Rel jx_P X' N' → jl_I s D G bX bN X' N' H1 locs1 → W p l e room_1 s m args below meth c H1 locs1 cells slots Q (F0 m 1359 ls [])) : W p l e room_1 s m args below meth c H locs cells slots Q (F0 m 410 ls []) := by
  obtain ⟨hx, hb, -, hown, hts, -⟩ := id C
  obtain ⟨v, X', N', n1, n2, e1, e2, R'⟩ := jl_two (call_8 (x := jl_z xs x3 1) (u := jl_u (jl_z xs x3 2) (jl_z xs x3 3)) R)
  obtain ⟨z, rfl⟩ := jl_int (by decide +kernel) e1
  refine lv_aload_n hx hb jl_d_410 rfl (lv_at hl 2 rfl) ?_
  refine jl_arg C I hl jl_d_411 jl_d_412 jl_d_413 jl_d_414 jl_d_415 (hin 1 (by decide)) ?_
  refine jl_arg C I hl jl_d_416 jl_d_417 jl_d_418 jl_d_419 jl_d_420 (hin 2 (by decide)) ?_
  refine lv_i2l hx hb jl_d_421 rfl ?_
  refine lv_bipush (v := 32) hx hb jl_d_422 (by decide) ?_
  refine lv_lshl hx hb jl_d_424 rfl ?_
  refine jl_arg C I hl jl_d_425 jl_d_426 jl_d_427 jl_d_428 jl_d_429 (hin 3 (by decide)) ?_
  refine lv_i2l hx hb jl_d_430 rfl ?_
  refine lv_ldc2 (v := 4294967295) hx hb hown (hts _ (jl_ttin (ji_is1_in (p := 1616) (by decide +kernel)))) jl_d_431 ?_
  refine lv_land hx hb jl_d_434 ?_
  refine lv_lor hx hb jl_d_435 ?_
  refine jl_cX (As := [.int (jl_z xs x3 1), .long (jl_u (jl_z xs x3 2) (jl_z xs x3 3))]) (rest := []) C I hl.1 e1 (xk_0 R.xf) (by decide +kernel) jl_w92 (by show (parseMethodDescriptor (ji_m 92).1.desc).map (fun d => d.parameters.length) = some 2; decide +kernel) rfl (Nat.le_of_ble_eq_true rfl) jl_d_436 hcs hss (fun H1 locs1 I1 => ?_)
  refine lv_aload_n hx hb jl_d_439 rfl (lv_at hl 1 rfl) ?_
  refine jl_arg C I1 hl jl_d_440 jl_d_441 jl_d_442 jl_d_443 jl_d_444 (hin 1 (by decide)) ?_
  refine jl_arg C I1 hl jl_d_445 jl_d_446 jl_d_447 jl_d_448 jl_d_449 (hin 2 (by decide)) ?_
  refine lv_i2l hx hb jl_d_450 rfl ?_
  refine lv_bipush (v := 32) hx hb jl_d_451 (by decide) ?_
  refine lv_lshl hx hb jl_d_453 rfl ?_
  refine jl_arg C I1 hl jl_d_454 jl_d_455 jl_d_456 jl_d_457 jl_d_458 (hin 3 (by decide)) ?_
  refine lv_i2l hx hb jl_d_459 rfl ?_
  refine lv_ldc2 (v := 4294967295) hx hb hown (hts _ (jl_ttin (ji_is1_in (p := 1616) (by decide +kernel)))) jl_d_460 ?_
  refine lv_land hx hb jl_d_463 ?_
  refine lv_lor hx hb jl_d_464 ?_
  refine jl_cN (As := [.int (jl_z xs x3 1), .long (jl_u (jl_z xs x3 2) (jl_z xs x3 3))]) (rest := [.int z]) C I1 hl.1 e2 (mk_0 R.mf) (by decide +kernel) jl_w196 (by show (parseMethodDescriptor (ji_m 196).1.desc).map (fun d => d.parameters.length) = some 2; decide +kernel) rfl (Nat.le_of_ble_eq_true rfl) jl_d_465 hcs hss (fun H2 locs2 I2 => ?_)
  exact lv_icmp_eq (x := z) (y := z) hx hb jl_d_468 (by decide) (fun _ => kk X' N' _ _ R' I2) (fun h => absurd rfl h)
set_option maxRecDepth 100000 in
theorem jl_case_9 (C : jl_Cx p s m args c b L xs x D G) (R : ji_Rel jx_P X N) (I : jl_I s D G bX bN X N H locs) (hl : lv_has ls 4 [(3, .int x3), (2, .ref bN), (1, .ref bX), (0, .ref b)]) (hin : ∀ j : Nat, j ≤ 5 → vp_in (x3 + Int32.ofInt j) L) (hcs : cells ≤ 600000) (hss : slots ≤ 7302250)
    (kk : ∀ (X' N' : ji_M) (H1 : Heap) (locs1 : List Loc), ji_Rel jx_P X' N' → jl_I s D G bX bN X' N' H1 locs1 → W p l e room_1 s m args below meth c H1 locs1 cells slots Q (F0 m 1359 ls [])) : W p l e room_1 s m args below meth c H locs cells slots Q (F0 m 473 ls []) := by
  obtain ⟨hx, hb, -, hown, hts, -⟩ := id C
  obtain ⟨v, X', N', n1, n2, e1, e2, R'⟩ := jl_two (call_9  R)
  obtain ⟨z, rfl⟩ := jl_int (by decide +kernel) e1
  refine lv_aload_n hx hb jl_d_473 rfl (lv_at hl 2 rfl) ?_
  refine jl_cX (As := []) (rest := []) C I hl.1 e1 (xk_0 R.xf) (by decide +kernel) jl_w94 (by show (parseMethodDescriptor (ji_m 94).1.desc).map (fun d => d.parameters.length) = some 0; decide +kernel) rfl (Nat.le_of_ble_eq_true rfl) jl_d_474 hcs hss (fun H1 locs1 I1 => ?_)
  refine lv_aload_n hx hb jl_d_477 rfl (lv_at hl 1 rfl) ?_
  refine jl_cN (As := []) (rest := [.int z]) C I1 hl.1 e2 (mk_0 R.mf) (by decide +kernel) jl_w197 (by show (parseMethodDescriptor (ji_m 197).1.desc).map (fun d => d.parameters.length) = some 0; decide +kernel) rfl (Nat.le_of_ble_eq_true rfl) jl_d_478 hcs hss (fun H2 locs2 I2 => ?_)
  exact lv_icmp_eq (x := z) (y := z) hx hb jl_d_481 (by decide) (fun _ => kk X' N' _ _ R' I2) (fun h => absurd rfl h)
set_option maxRecDepth 100000 in
theorem jl_case_10 (C : jl_Cx p s m args c b L xs x D G) (R : ji_Rel jx_P X N) (I : jl_I s D G bX bN X N H locs) (hl : lv_has ls 4 [(3, .int x3), (2, .ref bN), (1, .ref bX), (0, .ref b)]) (hin : ∀ j : Nat, j ≤ 5 → vp_in (x3 + Int32.ofInt j) L) (hcs : cells ≤ 600000) (hss : slots ≤ 7302250)
    (kk : ∀ (X' N' : ji_M) (H1 : Heap) (locs1 : List Loc), ji_Rel jx_P X' N' → jl_I s D G bX bN X' N' H1 locs1 → W p l e room_1 s m args below meth c H1 locs1 cells slots Q (F0 m 1359 ls [])) : W p l e room_1 s m args below meth c H locs cells slots Q (F0 m 486 ls []) := by
  obtain ⟨hx, hb, -, hown, hts, -⟩ := id C
  obtain ⟨v, X', N', n1, n2, e1, e2, R'⟩ := jl_two (call_10 (x := jl_z xs x3 1) R)
  obtain ⟨z, rfl⟩ := jl_int (by decide +kernel) e1
  refine lv_aload_n hx hb jl_d_486 rfl (lv_at hl 2 rfl) ?_
  refine jl_arg C I hl jl_d_487 jl_d_488 jl_d_489 jl_d_490 jl_d_491 (hin 1 (by decide)) ?_
  refine jl_cX (As := [.int (jl_z xs x3 1)]) (rest := []) C I hl.1 e1 (xk_0 R.xf) (by decide +kernel) jl_w95 (by show (parseMethodDescriptor (ji_m 95).1.desc).map (fun d => d.parameters.length) = some 1; decide +kernel) rfl (Nat.le_of_ble_eq_true rfl) jl_d_492 hcs hss (fun H1 locs1 I1 => ?_)
  refine lv_aload_n hx hb jl_d_495 rfl (lv_at hl 1 rfl) ?_
  refine jl_arg C I1 hl jl_d_496 jl_d_497 jl_d_498 jl_d_499 jl_d_500 (hin 1 (by decide)) ?_
  refine jl_cN (As := [.int (jl_z xs x3 1)]) (rest := [.int z]) C I1 hl.1 e2 (mk_0 R.mf) (by decide +kernel) jl_w198 (by show (parseMethodDescriptor (ji_m 198).1.desc).map (fun d => d.parameters.length) = some 1; decide +kernel) rfl (Nat.le_of_ble_eq_true rfl) jl_d_501 hcs hss (fun H2 locs2 I2 => ?_)
  exact lv_icmp_eq (x := z) (y := z) hx hb jl_d_504 (by decide) (fun _ => kk X' N' _ _ R' I2) (fun h => absurd rfl h)
set_option maxRecDepth 100000 in
theorem jl_case_11 (C : jl_Cx p s m args c b L xs x D G) (R : ji_Rel jx_P X N) (I : jl_I s D G bX bN X N H locs) (hl : lv_has ls 4 [(3, .int x3), (2, .ref bN), (1, .ref bX), (0, .ref b)]) (hin : ∀ j : Nat, j ≤ 5 → vp_in (x3 + Int32.ofInt j) L) (hcs : cells ≤ 600000) (hss : slots ≤ 7302250)
    (kk : ∀ (X' N' : ji_M) (H1 : Heap) (locs1 : List Loc), ji_Rel jx_P X' N' → jl_I s D G bX bN X' N' H1 locs1 → W p l e room_1 s m args below meth c H1 locs1 cells slots Q (F0 m 1359 ls [])) : W p l e room_1 s m args below meth c H locs cells slots Q (F0 m 509 ls []) := by
  obtain ⟨hx, hb, -, hown, hts, -⟩ := id C
  obtain ⟨v, X', N', n1, n2, e1, e2, R'⟩ := jl_two (call_11 (x := jl_z xs x3 1) (y := jl_z xs x3 2) R)
  obtain ⟨z, rfl⟩ := jl_long (by decide +kernel) (by decide +kernel) e1
  refine lv_aload_n hx hb jl_d_509 rfl (lv_at hl 2 rfl) ?_
  refine jl_arg C I hl jl_d_510 jl_d_511 jl_d_512 jl_d_513 jl_d_514 (hin 1 (by decide)) ?_
  refine jl_arg C I hl jl_d_515 jl_d_516 jl_d_517 jl_d_518 jl_d_519 (hin 2 (by decide)) ?_
  refine jl_cX (As := [.int (jl_z xs x3 1), .int (jl_z xs x3 2)]) (rest := []) C I hl.1 e1 (xk_0 R.xf) (by decide +kernel) jl_w97 (by show (parseMethodDescriptor (ji_m 97).1.desc).map (fun d => d.parameters.length) = some 2; decide +kernel) rfl (Nat.le_of_ble_eq_true rfl) jl_d_520 hcs hss (fun H1 locs1 I1 => ?_)
  refine lv_aload_n hx hb jl_d_523 rfl (lv_at hl 1 rfl) ?_
  refine jl_arg C I1 hl jl_d_524 jl_d_525 jl_d_526 jl_d_527 jl_d_528 (hin 1 (by decide)) ?_
  refine jl_arg C I1 hl jl_d_529 jl_d_530 jl_d_531 jl_d_532 jl_d_533 (hin 2 (by decide)) ?_
  refine jl_cN (As := [.int (jl_z xs x3 1), .int (jl_z xs x3 2)]) (rest := [.long z]) C I1 hl.1 e2 (mk_0 R.mf) (by decide +kernel) jl_w199 (by show (parseMethodDescriptor (ji_m 199).1.desc).map (fun d => d.parameters.length) = some 2; decide +kernel) rfl (Nat.le_of_ble_eq_true rfl) jl_d_534 hcs hss (fun H2 locs2 I2 => ?_)
  refine W.lcmp (x := z) (y := z) hx hb jl_d_537 ?_
  exact lv_if_eq hx hb jl_d_538 (by decide) (fun _ => kk X' N' _ _ R' I2) (fun h => absurd ((lg_cmp_eq z z).mpr rfl) h)
end JLC0
