def ji_dok (q : (MethodName × ByteArray × Nat × Option FieldType × Nat) × List (Option (Instr × Nat))) : Prop := ji_dchk q.1.2.1 q.2 0 = true
set_option maxRecDepth 100000 in
theorem ji_dall : ∀ q ∈ ji_ms.zip ji_is, ji_dok q := by
  show ∀ q ∈ ji_ms.zip ji_is, ji_dok q
  unfold ji_ms ji_is
  repeat rw [List.zip_cons_cons]
  exact List.forall_mem_cons.mpr ⟨ji_d0, List.forall_mem_cons.mpr ⟨ji_d1, List.forall_mem_cons.mpr ⟨ji_d2, List.forall_mem_cons.mpr ⟨ji_d3, List.forall_mem_cons.mpr ⟨ji_d4, List.forall_mem_cons.mpr ⟨ji_d5, List.forall_mem_cons.mpr ⟨ji_d6, List.forall_mem_cons.mpr ⟨ji_d7, List.forall_mem_cons.mpr ⟨ji_d8, List.forall_mem_cons.mpr ⟨ji_d9, List.forall_mem_cons.mpr ⟨ji_d10, List.forall_mem_cons.mpr ⟨ji_d11, List.forall_mem_cons.mpr ⟨ji_d12, List.forall_mem_cons.mpr ⟨ji_d13, List.forall_mem_cons.mpr ⟨ji_d14, List.forall_mem_cons.mpr ⟨ji_d15, List.forall_mem_cons.mpr ⟨ji_d16, List.forall_mem_cons.mpr ⟨ji_d17, List.forall_mem_cons.mpr ⟨ji_d18, List.forall_mem_cons.mpr ⟨ji_d19, List.forall_mem_cons.mpr ⟨ji_d20, List.forall_mem_cons.mpr ⟨ji_d21, List.forall_mem_cons.mpr ⟨ji_d22, List.forall_mem_cons.mpr ⟨ji_d23, List.forall_mem_cons.mpr ⟨ji_d24, List.forall_mem_cons.mpr ⟨ji_d25, List.forall_mem_cons.mpr ⟨ji_d26, List.forall_mem_cons.mpr ⟨ji_d27, List.forall_mem_cons.mpr ⟨ji_d28, List.forall_mem_cons.mpr ⟨ji_d29, List.forall_mem_cons.mpr ⟨ji_d30, List.forall_mem_cons.mpr ⟨ji_d31, List.forall_mem_cons.mpr ⟨ji_d32, List.forall_mem_cons.mpr ⟨ji_d33, List.forall_mem_cons.mpr ⟨ji_d34, List.forall_mem_cons.mpr ⟨ji_d35, List.forall_mem_cons.mpr ⟨ji_d36, List.forall_mem_cons.mpr ⟨ji_d37, List.forall_mem_cons.mpr ⟨ji_d38, List.forall_mem_cons.mpr ⟨ji_d39, List.forall_mem_cons.mpr ⟨ji_d40, List.forall_mem_cons.mpr ⟨ji_d41, List.forall_mem_cons.mpr ⟨ji_d42, List.forall_mem_cons.mpr ⟨ji_d43, List.forall_mem_cons.mpr ⟨ji_d44, List.forall_mem_cons.mpr ⟨ji_d45, List.forall_mem_cons.mpr ⟨ji_d46, List.forall_mem_cons.mpr ⟨ji_d47, List.forall_mem_cons.mpr ⟨ji_d48, List.forall_mem_cons.mpr ⟨ji_d49, List.forall_mem_cons.mpr ⟨ji_d50, List.forall_mem_cons.mpr ⟨ji_d51, List.forall_mem_cons.mpr ⟨ji_d52, List.forall_mem_cons.mpr ⟨ji_d53, List.forall_mem_cons.mpr ⟨ji_d54, List.forall_mem_cons.mpr ⟨ji_d55, List.forall_mem_cons.mpr ⟨ji_d56, List.forall_mem_cons.mpr ⟨ji_d57, List.forall_mem_cons.mpr ⟨ji_d58, List.forall_mem_cons.mpr ⟨ji_d59, List.forall_mem_cons.mpr ⟨ji_d60, List.forall_mem_cons.mpr ⟨ji_d61, List.forall_mem_cons.mpr ⟨ji_d62, List.forall_mem_cons.mpr ⟨ji_d63, List.forall_mem_cons.mpr ⟨ji_d64, List.forall_mem_cons.mpr ⟨ji_d65, List.forall_mem_cons.mpr ⟨ji_d66, List.forall_mem_cons.mpr ⟨ji_d67, List.forall_mem_cons.mpr ⟨ji_d68, List.forall_mem_cons.mpr ⟨ji_d69, List.forall_mem_cons.mpr ⟨ji_d70, List.forall_mem_cons.mpr ⟨ji_d71, List.forall_mem_cons.mpr ⟨ji_d72, List.forall_mem_cons.mpr ⟨ji_d73, List.forall_mem_cons.mpr ⟨ji_d74, List.forall_mem_cons.mpr ⟨ji_d75, List.forall_mem_cons.mpr ⟨ji_d76, List.forall_mem_cons.mpr ⟨ji_d77, List.forall_mem_cons.mpr ⟨ji_d78, List.forall_mem_cons.mpr ⟨ji_d79, List.forall_mem_cons.mpr ⟨ji_d80, List.forall_mem_cons.mpr ⟨ji_d81, List.forall_mem_cons.mpr ⟨ji_d82, List.forall_mem_cons.mpr ⟨ji_d83, List.forall_mem_cons.mpr ⟨ji_d84, List.forall_mem_cons.mpr ⟨ji_d85, List.forall_mem_cons.mpr ⟨ji_d86, List.forall_mem_cons.mpr ⟨ji_d87, List.forall_mem_cons.mpr ⟨ji_d88, List.forall_mem_cons.mpr ⟨ji_d89, List.forall_mem_cons.mpr ⟨ji_d90, List.forall_mem_cons.mpr ⟨ji_d91, List.forall_mem_cons.mpr ⟨ji_d92, List.forall_mem_cons.mpr ⟨ji_d93, List.forall_mem_cons.mpr ⟨ji_d94, List.forall_mem_cons.mpr ⟨ji_d95, List.forall_mem_cons.mpr ⟨ji_d96, List.forall_mem_cons.mpr ⟨ji_d97, List.forall_mem_cons.mpr ⟨ji_d98, List.forall_mem_cons.mpr ⟨ji_d99, List.forall_mem_cons.mpr ⟨ji_d100, List.forall_mem_cons.mpr ⟨ji_d101, List.forall_mem_cons.mpr ⟨ji_d102, List.forall_mem_cons.mpr ⟨ji_d103, List.forall_mem_cons.mpr ⟨ji_d104, List.forall_mem_cons.mpr ⟨ji_d105, List.forall_mem_cons.mpr ⟨ji_d106, List.forall_mem_cons.mpr ⟨ji_d107, List.forall_mem_cons.mpr ⟨ji_d108, List.forall_mem_cons.mpr ⟨ji_d109, List.forall_mem_cons.mpr ⟨ji_d110, List.forall_mem_cons.mpr ⟨ji_d111, List.forall_mem_cons.mpr ⟨ji_d112, List.forall_mem_cons.mpr ⟨ji_d113, List.forall_mem_cons.mpr ⟨ji_d114, List.forall_mem_cons.mpr ⟨ji_d115, List.forall_mem_cons.mpr ⟨ji_d116, List.forall_mem_cons.mpr ⟨ji_d117, List.forall_mem_cons.mpr ⟨ji_d118, List.forall_mem_cons.mpr ⟨ji_d119, List.forall_mem_cons.mpr ⟨ji_d120, List.forall_mem_cons.mpr ⟨ji_d121, List.forall_mem_cons.mpr ⟨ji_d122, List.forall_mem_cons.mpr ⟨ji_d123, List.forall_mem_cons.mpr ⟨ji_d124, List.forall_mem_cons.mpr ⟨ji_d125, List.forall_mem_cons.mpr ⟨ji_d126, List.forall_mem_cons.mpr ⟨ji_d127, List.forall_mem_cons.mpr ⟨ji_d128, List.forall_mem_cons.mpr ⟨ji_d129, List.forall_mem_cons.mpr ⟨ji_d130, List.forall_mem_cons.mpr ⟨ji_d131, List.forall_mem_cons.mpr ⟨ji_d132, List.forall_mem_cons.mpr ⟨ji_d133, List.forall_mem_cons.mpr ⟨ji_d134, List.forall_mem_cons.mpr ⟨ji_d135, List.forall_mem_cons.mpr ⟨ji_d136, List.forall_mem_cons.mpr ⟨ji_d137, List.forall_mem_cons.mpr ⟨ji_d138, List.forall_mem_cons.mpr ⟨ji_d139, List.forall_mem_cons.mpr ⟨ji_d140, List.forall_mem_cons.mpr ⟨ji_d141, List.forall_mem_cons.mpr ⟨ji_d142, List.forall_mem_cons.mpr ⟨ji_d143, List.forall_mem_cons.mpr ⟨ji_d144, List.forall_mem_cons.mpr ⟨ji_d145, List.forall_mem_cons.mpr ⟨ji_d146, List.forall_mem_cons.mpr ⟨ji_d147, List.forall_mem_cons.mpr ⟨ji_d148, List.forall_mem_cons.mpr ⟨ji_d149, List.forall_mem_cons.mpr ⟨ji_d150, List.forall_mem_cons.mpr ⟨ji_d151, List.forall_mem_cons.mpr ⟨ji_d152, List.forall_mem_cons.mpr ⟨ji_d153, List.forall_mem_cons.mpr ⟨ji_d154, List.forall_mem_cons.mpr ⟨ji_d155, List.forall_mem_cons.mpr ⟨ji_d156, List.forall_mem_cons.mpr ⟨ji_d157, List.forall_mem_cons.mpr ⟨ji_d158, List.forall_mem_cons.mpr ⟨ji_d159, List.forall_mem_cons.mpr ⟨ji_d160, List.forall_mem_cons.mpr ⟨ji_d161, List.forall_mem_cons.mpr ⟨ji_d162, List.forall_mem_cons.mpr ⟨ji_d163, List.forall_mem_cons.mpr ⟨ji_d164, List.forall_mem_cons.mpr ⟨ji_d165, List.forall_mem_cons.mpr ⟨ji_d166, List.forall_mem_cons.mpr ⟨ji_d167, List.forall_mem_cons.mpr ⟨ji_d168, List.forall_mem_cons.mpr ⟨ji_d169, List.forall_mem_cons.mpr ⟨ji_d170, List.forall_mem_cons.mpr ⟨ji_d171, List.forall_mem_cons.mpr ⟨ji_d172, List.forall_mem_cons.mpr ⟨ji_d173, List.forall_mem_cons.mpr ⟨ji_d174, List.forall_mem_cons.mpr ⟨ji_d175, List.forall_mem_cons.mpr ⟨ji_d176, List.forall_mem_cons.mpr ⟨ji_d177, List.forall_mem_cons.mpr ⟨ji_d178, List.forall_mem_cons.mpr ⟨ji_d179, List.forall_mem_cons.mpr ⟨ji_d180, List.forall_mem_cons.mpr ⟨ji_d181, List.forall_mem_cons.mpr ⟨ji_d182, List.forall_mem_cons.mpr ⟨ji_d183, List.forall_mem_cons.mpr ⟨ji_d184, List.forall_mem_cons.mpr ⟨ji_d185, List.forall_mem_cons.mpr ⟨ji_d186, List.forall_mem_cons.mpr ⟨ji_d187, List.forall_mem_cons.mpr ⟨ji_d188, List.forall_mem_cons.mpr ⟨ji_d189, List.forall_mem_cons.mpr ⟨ji_d190, List.forall_mem_cons.mpr ⟨ji_d191, List.forall_mem_cons.mpr ⟨ji_d192, List.forall_mem_cons.mpr ⟨ji_d193, List.forall_mem_cons.mpr ⟨ji_d194, List.forall_mem_cons.mpr ⟨ji_d195, List.forall_mem_cons.mpr ⟨ji_d196, List.forall_mem_cons.mpr ⟨ji_d197, List.forall_mem_cons.mpr ⟨ji_d198, List.forall_mem_cons.mpr ⟨ji_d199, List.forall_mem_cons.mpr ⟨ji_d200, List.forall_mem_cons.mpr ⟨ji_d201, List.forall_mem_cons.mpr ⟨ji_d202, List.forall_mem_cons.mpr ⟨ji_d203, List.forall_mem_cons.mpr ⟨ji_d204, List.forall_mem_cons.mpr ⟨ji_d205, List.forall_mem_cons.mpr ⟨ji_d206, List.forall_mem_cons.mpr ⟨ji_d207, List.forall_mem_cons.mpr ⟨ji_d208, List.forall_mem_cons.mpr ⟨ji_d209, List.forall_mem_cons.mpr ⟨ji_d210, List.forall_mem_cons.mpr ⟨ji_d211, List.forall_mem_cons.mpr ⟨ji_d212, List.forall_mem_cons.mpr ⟨ji_d213, List.forall_mem_cons.mpr ⟨ji_d214, List.forall_mem_cons.mpr ⟨ji_d215, List.forall_mem_cons.mpr ⟨ji_d216, List.forall_mem_cons.mpr ⟨ji_d217, List.forall_mem_cons.mpr ⟨ji_d218, List.forall_mem_cons.mpr ⟨ji_d219, List.forall_mem_cons.mpr ⟨ji_d220, List.forall_mem_cons.mpr ⟨ji_d221, List.forall_mem_cons.mpr ⟨ji_d222, List.forall_mem_cons.mpr ⟨ji_d223, List.forall_mem_cons.mpr ⟨ji_d224, List.forall_mem_cons.mpr ⟨ji_d225, List.forall_mem_cons.mpr ⟨ji_d226, List.forall_mem_cons.mpr ⟨ji_d227, fun _ h => absurd h List.not_mem_nil⟩⟩⟩⟩⟩⟩⟩⟩⟩⟩⟩⟩⟩⟩⟩⟩⟩⟩⟩⟩⟩⟩⟩⟩⟩⟩⟩⟩⟩⟩⟩⟩⟩⟩⟩⟩⟩⟩⟩⟩⟩⟩⟩⟩⟩⟩⟩⟩⟩⟩⟩⟩⟩⟩⟩⟩⟩⟩⟩⟩⟩⟩⟩⟩⟩⟩⟩⟩⟩⟩⟩⟩⟩⟩⟩⟩⟩⟩⟩⟩⟩⟩⟩⟩⟩⟩⟩⟩⟩⟩⟩⟩⟩⟩⟩⟩⟩⟩⟩⟩⟩⟩⟩⟩⟩⟩⟩⟩⟩⟩⟩⟩⟩⟩⟩⟩⟩⟩⟩⟩⟩⟩⟩⟩⟩⟩⟩⟩⟩⟩⟩⟩⟩⟩⟩⟩⟩⟩⟩⟩⟩⟩⟩⟩⟩⟩⟩⟩⟩⟩⟩⟩⟩⟩⟩⟩⟩⟩⟩⟩⟩⟩⟩⟩⟩⟩⟩⟩⟩⟩⟩⟩⟩⟩⟩⟩⟩⟩⟩⟩⟩⟩⟩⟩⟩⟩⟩⟩⟩⟩⟩⟩⟩⟩⟩⟩⟩⟩⟩⟩⟩⟩⟩⟩⟩⟩⟩⟩⟩⟩⟩⟩⟩⟩⟩⟩⟩⟩⟩⟩⟩⟩⟩⟩⟩⟩⟩⟩
theorem ji_len : ji_ms.length = ji_is.length := by decide +kernel
def ji_ins (k pc : Nat) : Option (Instr × Nat) := ((ji_is.getD k []).getD pc none)
def ji_m (k : Nat) : MethodName × ByteArray × Nat × Option FieldType × Nat := ji_ms.getD k (⟨"", "", ""⟩, ⟨#[]⟩, 0, none, 0)
theorem ji_ins_at {k pc : Nat} {x : Instr × Nat} (h : ji_ins k pc = some x) : decode (ji_m k).2.1 pc = .ok x ∧ k < ji_ms.length := by
  unfold ji_ins at h
  rw [List.getD_eq_getElem?_getD, List.getD_eq_getElem?_getD] at h
  by_cases hk : k < ji_ms.length
  · have hk2 : k < ji_is.length := by rw [← ji_len]; exact hk
    refine ⟨?_, hk⟩
    have hz : (ji_ms.zip ji_is)[k]? = some (ji_ms[k], ji_is[k]) := by
      rw [List.getElem?_zip_eq_some]
      exact ⟨List.getElem?_eq_getElem hk, List.getElem?_eq_getElem hk2⟩
    have hd := ji_dall _ (List.mem_of_getElem? hz)
    rw [List.getElem?_eq_getElem hk2, Option.getD_some] at h
    have h3 : (ji_is[k])[pc]? = some (some x) := by
      cases hq : (ji_is[k])[pc]? with
      | none => rw [hq] at h; cases h
      | some z => rw [hq] at h; rw [Option.getD_some] at h; rw [h]
    have h4 := ji_dchk_at _ 0 pc hd h3
    rw [Nat.zero_add] at h4
    unfold ji_m
    rw [List.getD_eq_getElem?_getD, List.getElem?_eq_getElem hk, Option.getD_some]
    exact h4
  · have hk2 : ji_is.length ≤ k := by rw [← ji_len]; exact Nat.not_lt.mp hk
    rw [List.getElem?_eq_none hk2] at h
    simp at h
/-- the methods: their code's word, their class -/
def ji_mok (q : (MethodName × ByteArray × Nat × Option FieldType × Nat) × Nat × Nat) : Bool :=
  ji_is1 q.2.2 (.initialized q.1.1.cls) && decide (ji_nm q.1.2.2.2.2 = q.1.1.cls) && decide (plainName q.1.1.cls = true) && decide (q.1.2.2.1 ≤ 150) && decide (q.1.1.cls ≠ "java/lang/invoke/MethodHandle") && decide (q.1.1.cls ≠ "java/lang/invoke/VarHandle")
theorem ji_mall : (ji_ms.zip ji_mp).all ji_mok = true := by decide +kernel
set_option maxRecDepth 20000 in
theorem ji_mc0 : ji_w 92 = some (.code (ji_m 0).1 (ji_m 0).2.1 (ji_m 0).2.2.1 (ji_m 0).2.2.2.1) := by rfl
set_option maxRecDepth 20000 in
theorem ji_mc1 : ji_w 100 = some (.code (ji_m 1).1 (ji_m 1).2.1 (ji_m 1).2.2.1 (ji_m 1).2.2.2.1) := by rfl
set_option maxRecDepth 20000 in
theorem ji_mc2 : ji_w 106 = some (.code (ji_m 2).1 (ji_m 2).2.1 (ji_m 2).2.2.1 (ji_m 2).2.2.2.1) := by rfl
set_option maxRecDepth 20000 in
theorem ji_mc3 : ji_w 152 = some (.code (ji_m 3).1 (ji_m 3).2.1 (ji_m 3).2.2.1 (ji_m 3).2.2.2.1) := by rfl
set_option maxRecDepth 20000 in
theorem ji_mc4 : ji_w 158 = some (.code (ji_m 4).1 (ji_m 4).2.1 (ji_m 4).2.2.1 (ji_m 4).2.2.2.1) := by rfl
set_option maxRecDepth 20000 in
theorem ji_mc5 : ji_w 228 = some (.code (ji_m 5).1 (ji_m 5).2.1 (ji_m 5).2.2.1 (ji_m 5).2.2.2.1) := by rfl
set_option maxRecDepth 20000 in
theorem ji_mc6 : ji_w 256 = some (.code (ji_m 6).1 (ji_m 6).2.1 (ji_m 6).2.2.1 (ji_m 6).2.2.2.1) := by rfl
set_option maxRecDepth 20000 in
theorem ji_mc7 : ji_w 273 = some (.code (ji_m 7).1 (ji_m 7).2.1 (ji_m 7).2.2.1 (ji_m 7).2.2.2.1) := by rfl
set_option maxRecDepth 20000 in
theorem ji_mc8 : ji_w 306 = some (.code (ji_m 8).1 (ji_m 8).2.1 (ji_m 8).2.2.1 (ji_m 8).2.2.2.1) := by rfl
set_option maxRecDepth 20000 in
theorem ji_mc9 : ji_w 322 = some (.code (ji_m 9).1 (ji_m 9).2.1 (ji_m 9).2.2.1 (ji_m 9).2.2.2.1) := by rfl
set_option maxRecDepth 20000 in
theorem ji_mc10 : ji_w 327 = some (.code (ji_m 10).1 (ji_m 10).2.1 (ji_m 10).2.2.1 (ji_m 10).2.2.2.1) := by rfl
set_option maxRecDepth 20000 in
theorem ji_mc11 : ji_w 331 = some (.code (ji_m 11).1 (ji_m 11).2.1 (ji_m 11).2.2.1 (ji_m 11).2.2.2.1) := by rfl
set_option maxRecDepth 20000 in
theorem ji_mc12 : ji_w 337 = some (.code (ji_m 12).1 (ji_m 12).2.1 (ji_m 12).2.2.1 (ji_m 12).2.2.2.1) := by rfl
set_option maxRecDepth 20000 in
theorem ji_mc13 : ji_w 341 = some (.code (ji_m 13).1 (ji_m 13).2.1 (ji_m 13).2.2.1 (ji_m 13).2.2.2.1) := by rfl
set_option maxRecDepth 20000 in
theorem ji_mc14 : ji_w 344 = some (.code (ji_m 14).1 (ji_m 14).2.1 (ji_m 14).2.2.1 (ji_m 14).2.2.2.1) := by rfl
set_option maxRecDepth 20000 in
theorem ji_mc15 : ji_w 347 = some (.code (ji_m 15).1 (ji_m 15).2.1 (ji_m 15).2.2.1 (ji_m 15).2.2.2.1) := by rfl
set_option maxRecDepth 20000 in
theorem ji_mc16 : ji_w 352 = some (.code (ji_m 16).1 (ji_m 16).2.1 (ji_m 16).2.2.1 (ji_m 16).2.2.2.1) := by rfl
set_option maxRecDepth 20000 in
theorem ji_mc17 : ji_w 375 = some (.code (ji_m 17).1 (ji_m 17).2.1 (ji_m 17).2.2.1 (ji_m 17).2.2.2.1) := by rfl
set_option maxRecDepth 20000 in
theorem ji_mc18 : ji_w 379 = some (.code (ji_m 18).1 (ji_m 18).2.1 (ji_m 18).2.2.1 (ji_m 18).2.2.2.1) := by rfl
set_option maxRecDepth 20000 in
theorem ji_mc19 : ji_w 383 = some (.code (ji_m 19).1 (ji_m 19).2.1 (ji_m 19).2.2.1 (ji_m 19).2.2.2.1) := by rfl
set_option maxRecDepth 20000 in
theorem ji_mc20 : ji_w 387 = some (.code (ji_m 20).1 (ji_m 20).2.1 (ji_m 20).2.2.1 (ji_m 20).2.2.2.1) := by rfl
set_option maxRecDepth 20000 in
theorem ji_mc21 : ji_w 391 = some (.code (ji_m 21).1 (ji_m 21).2.1 (ji_m 21).2.2.1 (ji_m 21).2.2.2.1) := by rfl
set_option maxRecDepth 20000 in
theorem ji_mc22 : ji_w 394 = some (.code (ji_m 22).1 (ji_m 22).2.1 (ji_m 22).2.2.1 (ji_m 22).2.2.2.1) := by rfl
set_option maxRecDepth 20000 in
theorem ji_mc23 : ji_w 398 = some (.code (ji_m 23).1 (ji_m 23).2.1 (ji_m 23).2.2.1 (ji_m 23).2.2.2.1) := by rfl
set_option maxRecDepth 20000 in
theorem ji_mc24 : ji_w 402 = some (.code (ji_m 24).1 (ji_m 24).2.1 (ji_m 24).2.2.1 (ji_m 24).2.2.2.1) := by rfl
set_option maxRecDepth 20000 in
theorem ji_mc25 : ji_w 408 = some (.code (ji_m 25).1 (ji_m 25).2.1 (ji_m 25).2.2.1 (ji_m 25).2.2.2.1) := by rfl
set_option maxRecDepth 20000 in
theorem ji_mc26 : ji_w 412 = some (.code (ji_m 26).1 (ji_m 26).2.1 (ji_m 26).2.2.1 (ji_m 26).2.2.2.1) := by rfl
set_option maxRecDepth 20000 in
theorem ji_mc27 : ji_w 417 = some (.code (ji_m 27).1 (ji_m 27).2.1 (ji_m 27).2.2.1 (ji_m 27).2.2.2.1) := by rfl
set_option maxRecDepth 20000 in
theorem ji_mc28 : ji_w 421 = some (.code (ji_m 28).1 (ji_m 28).2.1 (ji_m 28).2.2.1 (ji_m 28).2.2.2.1) := by rfl
set_option maxRecDepth 20000 in
theorem ji_mc29 : ji_w 425 = some (.code (ji_m 29).1 (ji_m 29).2.1 (ji_m 29).2.2.1 (ji_m 29).2.2.2.1) := by rfl
set_option maxRecDepth 20000 in
theorem ji_mc30 : ji_w 428 = some (.code (ji_m 30).1 (ji_m 30).2.1 (ji_m 30).2.2.1 (ji_m 30).2.2.2.1) := by rfl
set_option maxRecDepth 20000 in
theorem ji_mc31 : ji_w 435 = some (.code (ji_m 31).1 (ji_m 31).2.1 (ji_m 31).2.2.1 (ji_m 31).2.2.2.1) := by rfl
set_option maxRecDepth 20000 in
theorem ji_mc32 : ji_w 474 = some (.code (ji_m 32).1 (ji_m 32).2.1 (ji_m 32).2.2.1 (ji_m 32).2.2.2.1) := by rfl
set_option maxRecDepth 20000 in
theorem ji_mc33 : ji_w 478 = some (.code (ji_m 33).1 (ji_m 33).2.1 (ji_m 33).2.2.1 (ji_m 33).2.2.2.1) := by rfl
set_option maxRecDepth 20000 in
theorem ji_mc34 : ji_w 482 = some (.code (ji_m 34).1 (ji_m 34).2.1 (ji_m 34).2.2.1 (ji_m 34).2.2.2.1) := by rfl
set_option maxRecDepth 20000 in
theorem ji_mc35 : ji_w 486 = some (.code (ji_m 35).1 (ji_m 35).2.1 (ji_m 35).2.2.1 (ji_m 35).2.2.2.1) := by rfl
set_option maxRecDepth 20000 in
theorem ji_mc36 : ji_w 490 = some (.code (ji_m 36).1 (ji_m 36).2.1 (ji_m 36).2.2.1 (ji_m 36).2.2.2.1) := by rfl
set_option maxRecDepth 20000 in
theorem ji_mc37 : ji_w 494 = some (.code (ji_m 37).1 (ji_m 37).2.1 (ji_m 37).2.2.1 (ji_m 37).2.2.2.1) := by rfl
set_option maxRecDepth 20000 in
theorem ji_mc38 : ji_w 510 = some (.code (ji_m 38).1 (ji_m 38).2.1 (ji_m 38).2.2.1 (ji_m 38).2.2.2.1) := by rfl
set_option maxRecDepth 20000 in
theorem ji_mc39 : ji_w 498 = some (.code (ji_m 39).1 (ji_m 39).2.1 (ji_m 39).2.2.1 (ji_m 39).2.2.2.1) := by rfl
set_option maxRecDepth 20000 in
theorem ji_mc40 : ji_w 502 = some (.code (ji_m 40).1 (ji_m 40).2.1 (ji_m 40).2.2.1 (ji_m 40).2.2.2.1) := by rfl
set_option maxRecDepth 20000 in
theorem ji_mc41 : ji_w 506 = some (.code (ji_m 41).1 (ji_m 41).2.1 (ji_m 41).2.2.1 (ji_m 41).2.2.2.1) := by rfl
set_option maxRecDepth 20000 in
theorem ji_mc42 : ji_w 558 = some (.code (ji_m 42).1 (ji_m 42).2.1 (ji_m 42).2.2.1 (ji_m 42).2.2.2.1) := by rfl
set_option maxRecDepth 20000 in
theorem ji_mc43 : ji_w 562 = some (.code (ji_m 43).1 (ji_m 43).2.1 (ji_m 43).2.2.1 (ji_m 43).2.2.2.1) := by rfl
set_option maxRecDepth 20000 in
theorem ji_mc44 : ji_w 567 = some (.code (ji_m 44).1 (ji_m 44).2.1 (ji_m 44).2.2.1 (ji_m 44).2.2.2.1) := by rfl
set_option maxRecDepth 20000 in
theorem ji_mc45 : ji_w 571 = some (.code (ji_m 45).1 (ji_m 45).2.1 (ji_m 45).2.2.1 (ji_m 45).2.2.2.1) := by rfl
set_option maxRecDepth 20000 in
theorem ji_mc46 : ji_w 575 = some (.code (ji_m 46).1 (ji_m 46).2.1 (ji_m 46).2.2.1 (ji_m 46).2.2.2.1) := by rfl
set_option maxRecDepth 20000 in
theorem ji_mc47 : ji_w 579 = some (.code (ji_m 47).1 (ji_m 47).2.1 (ji_m 47).2.2.1 (ji_m 47).2.2.2.1) := by rfl
set_option maxRecDepth 20000 in
theorem ji_mc48 : ji_w 583 = some (.code (ji_m 48).1 (ji_m 48).2.1 (ji_m 48).2.2.1 (ji_m 48).2.2.2.1) := by rfl
set_option maxRecDepth 20000 in
theorem ji_mc49 : ji_w 587 = some (.code (ji_m 49).1 (ji_m 49).2.1 (ji_m 49).2.2.1 (ji_m 49).2.2.2.1) := by rfl
set_option maxRecDepth 20000 in
theorem ji_mc50 : ji_w 591 = some (.code (ji_m 50).1 (ji_m 50).2.1 (ji_m 50).2.2.1 (ji_m 50).2.2.2.1) := by rfl
set_option maxRecDepth 20000 in
theorem ji_mc51 : ji_w 594 = some (.code (ji_m 51).1 (ji_m 51).2.1 (ji_m 51).2.2.1 (ji_m 51).2.2.2.1) := by rfl
set_option maxRecDepth 20000 in
theorem ji_mc52 : ji_w 601 = some (.code (ji_m 52).1 (ji_m 52).2.1 (ji_m 52).2.2.1 (ji_m 52).2.2.2.1) := by rfl
set_option maxRecDepth 20000 in
theorem ji_mc53 : ji_w 604 = some (.code (ji_m 53).1 (ji_m 53).2.1 (ji_m 53).2.2.1 (ji_m 53).2.2.2.1) := by rfl
set_option maxRecDepth 20000 in
theorem ji_mc54 : ji_w 607 = some (.code (ji_m 54).1 (ji_m 54).2.1 (ji_m 54).2.2.1 (ji_m 54).2.2.2.1) := by rfl
set_option maxRecDepth 20000 in
theorem ji_mc55 : ji_w 610 = some (.code (ji_m 55).1 (ji_m 55).2.1 (ji_m 55).2.2.1 (ji_m 55).2.2.2.1) := by rfl
set_option maxRecDepth 20000 in
theorem ji_mc56 : ji_w 613 = some (.code (ji_m 56).1 (ji_m 56).2.1 (ji_m 56).2.2.1 (ji_m 56).2.2.2.1) := by rfl
set_option maxRecDepth 20000 in
theorem ji_mc57 : ji_w 617 = some (.code (ji_m 57).1 (ji_m 57).2.1 (ji_m 57).2.2.1 (ji_m 57).2.2.2.1) := by rfl
set_option maxRecDepth 20000 in
theorem ji_mc58 : ji_w 621 = some (.code (ji_m 58).1 (ji_m 58).2.1 (ji_m 58).2.2.1 (ji_m 58).2.2.2.1) := by rfl
set_option maxRecDepth 20000 in
theorem ji_mc59 : ji_w 625 = some (.code (ji_m 59).1 (ji_m 59).2.1 (ji_m 59).2.2.1 (ji_m 59).2.2.2.1) := by rfl
set_option maxRecDepth 20000 in
theorem ji_mc60 : ji_w 628 = some (.code (ji_m 60).1 (ji_m 60).2.1 (ji_m 60).2.2.1 (ji_m 60).2.2.2.1) := by rfl
set_option maxRecDepth 20000 in
theorem ji_mc61 : ji_w 633 = some (.code (ji_m 61).1 (ji_m 61).2.1 (ji_m 61).2.2.1 (ji_m 61).2.2.2.1) := by rfl
set_option maxRecDepth 20000 in
theorem ji_mc62 : ji_w 637 = some (.code (ji_m 62).1 (ji_m 62).2.1 (ji_m 62).2.2.1 (ji_m 62).2.2.2.1) := by rfl
set_option maxRecDepth 20000 in
theorem ji_mc63 : ji_w 641 = some (.code (ji_m 63).1 (ji_m 63).2.1 (ji_m 63).2.2.1 (ji_m 63).2.2.2.1) := by rfl
set_option maxRecDepth 20000 in
theorem ji_mc64 : ji_w 647 = some (.code (ji_m 64).1 (ji_m 64).2.1 (ji_m 64).2.2.1 (ji_m 64).2.2.2.1) := by rfl
set_option maxRecDepth 20000 in
theorem ji_mc65 : ji_w 651 = some (.code (ji_m 65).1 (ji_m 65).2.1 (ji_m 65).2.2.1 (ji_m 65).2.2.2.1) := by rfl
set_option maxRecDepth 20000 in
theorem ji_mc66 : ji_w 655 = some (.code (ji_m 66).1 (ji_m 66).2.1 (ji_m 66).2.2.1 (ji_m 66).2.2.2.1) := by rfl
set_option maxRecDepth 20000 in
theorem ji_mc67 : ji_w 659 = some (.code (ji_m 67).1 (ji_m 67).2.1 (ji_m 67).2.2.1 (ji_m 67).2.2.2.1) := by rfl
set_option maxRecDepth 20000 in
theorem ji_mc68 : ji_w 662 = some (.code (ji_m 68).1 (ji_m 68).2.1 (ji_m 68).2.2.1 (ji_m 68).2.2.2.1) := by rfl
set_option maxRecDepth 20000 in
theorem ji_mc69 : ji_w 666 = some (.code (ji_m 69).1 (ji_m 69).2.1 (ji_m 69).2.2.1 (ji_m 69).2.2.2.1) := by rfl
set_option maxRecDepth 20000 in
theorem ji_mc70 : ji_w 673 = some (.code (ji_m 70).1 (ji_m 70).2.1 (ji_m 70).2.2.1 (ji_m 70).2.2.2.1) := by rfl
set_option maxRecDepth 20000 in
theorem ji_mc71 : ji_w 676 = some (.code (ji_m 71).1 (ji_m 71).2.1 (ji_m 71).2.2.1 (ji_m 71).2.2.2.1) := by rfl
set_option maxRecDepth 20000 in
theorem ji_mc72 : ji_w 679 = some (.code (ji_m 72).1 (ji_m 72).2.1 (ji_m 72).2.2.1 (ji_m 72).2.2.2.1) := by rfl
set_option maxRecDepth 20000 in
theorem ji_mc73 : ji_w 683 = some (.code (ji_m 73).1 (ji_m 73).2.1 (ji_m 73).2.2.1 (ji_m 73).2.2.2.1) := by rfl
set_option maxRecDepth 20000 in
theorem ji_mc74 : ji_w 687 = some (.code (ji_m 74).1 (ji_m 74).2.1 (ji_m 74).2.2.1 (ji_m 74).2.2.2.1) := by rfl
set_option maxRecDepth 20000 in
theorem ji_mc75 : ji_w 691 = some (.code (ji_m 75).1 (ji_m 75).2.1 (ji_m 75).2.2.1 (ji_m 75).2.2.2.1) := by rfl
set_option maxRecDepth 20000 in
theorem ji_mc76 : ji_w 698 = some (.code (ji_m 76).1 (ji_m 76).2.1 (ji_m 76).2.2.1 (ji_m 76).2.2.2.1) := by rfl
set_option maxRecDepth 20000 in
theorem ji_mc77 : ji_w 702 = some (.code (ji_m 77).1 (ji_m 77).2.1 (ji_m 77).2.2.1 (ji_m 77).2.2.2.1) := by rfl
set_option maxRecDepth 20000 in
theorem ji_mc78 : ji_w 706 = some (.code (ji_m 78).1 (ji_m 78).2.1 (ji_m 78).2.2.1 (ji_m 78).2.2.2.1) := by rfl
set_option maxRecDepth 20000 in
theorem ji_mc79 : ji_w 709 = some (.code (ji_m 79).1 (ji_m 79).2.1 (ji_m 79).2.2.1 (ji_m 79).2.2.2.1) := by rfl
set_option maxRecDepth 20000 in
theorem ji_mc80 : ji_w 713 = some (.code (ji_m 80).1 (ji_m 80).2.1 (ji_m 80).2.2.1 (ji_m 80).2.2.2.1) := by rfl
set_option maxRecDepth 20000 in
theorem ji_mc81 : ji_w 718 = some (.code (ji_m 81).1 (ji_m 81).2.1 (ji_m 81).2.2.1 (ji_m 81).2.2.2.1) := by rfl
set_option maxRecDepth 20000 in
theorem ji_mc82 : ji_w 722 = some (.code (ji_m 82).1 (ji_m 82).2.1 (ji_m 82).2.2.1 (ji_m 82).2.2.2.1) := by rfl
set_option maxRecDepth 20000 in
theorem ji_mc83 : ji_w 725 = some (.code (ji_m 83).1 (ji_m 83).2.1 (ji_m 83).2.2.1 (ji_m 83).2.2.2.1) := by rfl
set_option maxRecDepth 20000 in
theorem ji_mc84 : ji_w 732 = some (.code (ji_m 84).1 (ji_m 84).2.1 (ji_m 84).2.2.1 (ji_m 84).2.2.2.1) := by rfl
set_option maxRecDepth 20000 in
theorem ji_mc85 : ji_w 737 = some (.code (ji_m 85).1 (ji_m 85).2.1 (ji_m 85).2.2.1 (ji_m 85).2.2.2.1) := by rfl
set_option maxRecDepth 20000 in
theorem ji_mc86 : ji_w 741 = some (.code (ji_m 86).1 (ji_m 86).2.1 (ji_m 86).2.2.1 (ji_m 86).2.2.2.1) := by rfl
set_option maxRecDepth 20000 in
theorem ji_mc87 : ji_w 748 = some (.code (ji_m 87).1 (ji_m 87).2.1 (ji_m 87).2.2.1 (ji_m 87).2.2.2.1) := by rfl
set_option maxRecDepth 20000 in
theorem ji_mc88 : ji_w 752 = some (.code (ji_m 88).1 (ji_m 88).2.1 (ji_m 88).2.2.1 (ji_m 88).2.2.2.1) := by rfl
set_option maxRecDepth 20000 in
theorem ji_mc89 : ji_w 756 = some (.code (ji_m 89).1 (ji_m 89).2.1 (ji_m 89).2.2.1 (ji_m 89).2.2.2.1) := by rfl
set_option maxRecDepth 20000 in
theorem ji_mc90 : ji_w 760 = some (.code (ji_m 90).1 (ji_m 90).2.1 (ji_m 90).2.2.1 (ji_m 90).2.2.2.1) := by rfl
set_option maxRecDepth 20000 in
theorem ji_mc91 : ji_w 765 = some (.code (ji_m 91).1 (ji_m 91).2.1 (ji_m 91).2.2.1 (ji_m 91).2.2.2.1) := by rfl
set_option maxRecDepth 20000 in
theorem ji_mc92 : ji_w 769 = some (.code (ji_m 92).1 (ji_m 92).2.1 (ji_m 92).2.2.1 (ji_m 92).2.2.2.1) := by rfl
set_option maxRecDepth 20000 in
theorem ji_mc93 : ji_w 773 = some (.code (ji_m 93).1 (ji_m 93).2.1 (ji_m 93).2.2.1 (ji_m 93).2.2.2.1) := by rfl
set_option maxRecDepth 20000 in
theorem ji_mc94 : ji_w 779 = some (.code (ji_m 94).1 (ji_m 94).2.1 (ji_m 94).2.2.1 (ji_m 94).2.2.2.1) := by rfl
set_option maxRecDepth 20000 in
theorem ji_mc95 : ji_w 783 = some (.code (ji_m 95).1 (ji_m 95).2.1 (ji_m 95).2.2.1 (ji_m 95).2.2.2.1) := by rfl
set_option maxRecDepth 20000 in
theorem ji_mc96 : ji_w 788 = some (.code (ji_m 96).1 (ji_m 96).2.1 (ji_m 96).2.2.1 (ji_m 96).2.2.2.1) := by rfl
set_option maxRecDepth 20000 in
theorem ji_mc97 : ji_w 792 = some (.code (ji_m 97).1 (ji_m 97).2.1 (ji_m 97).2.2.1 (ji_m 97).2.2.2.1) := by rfl
set_option maxRecDepth 20000 in
theorem ji_mc98 : ji_w 796 = some (.code (ji_m 98).1 (ji_m 98).2.1 (ji_m 98).2.2.1 (ji_m 98).2.2.2.1) := by rfl
set_option maxRecDepth 20000 in
theorem ji_mc99 : ji_w 801 = some (.code (ji_m 99).1 (ji_m 99).2.1 (ji_m 99).2.2.1 (ji_m 99).2.2.2.1) := by rfl
set_option maxRecDepth 20000 in
theorem ji_mc100 : ji_w 805 = some (.code (ji_m 100).1 (ji_m 100).2.1 (ji_m 100).2.2.1 (ji_m 100).2.2.2.1) := by rfl
set_option maxRecDepth 20000 in
theorem ji_mc101 : ji_w 808 = some (.code (ji_m 101).1 (ji_m 101).2.1 (ji_m 101).2.2.1 (ji_m 101).2.2.2.1) := by rfl
set_option maxRecDepth 20000 in
theorem ji_mc102 : ji_w 814 = some (.code (ji_m 102).1 (ji_m 102).2.1 (ji_m 102).2.2.1 (ji_m 102).2.2.2.1) := by rfl
set_option maxRecDepth 20000 in
theorem ji_mc103 : ji_w 818 = some (.code (ji_m 103).1 (ji_m 103).2.1 (ji_m 103).2.2.1 (ji_m 103).2.2.2.1) := by rfl
set_option maxRecDepth 20000 in
theorem ji_mc104 : ji_w 823 = some (.code (ji_m 104).1 (ji_m 104).2.1 (ji_m 104).2.2.1 (ji_m 104).2.2.2.1) := by rfl
set_option maxRecDepth 20000 in
theorem ji_mc105 : ji_w 827 = some (.code (ji_m 105).1 (ji_m 105).2.1 (ji_m 105).2.2.1 (ji_m 105).2.2.2.1) := by rfl
set_option maxRecDepth 20000 in
theorem ji_mc106 : ji_w 833 = some (.code (ji_m 106).1 (ji_m 106).2.1 (ji_m 106).2.2.1 (ji_m 106).2.2.2.1) := by rfl
set_option maxRecDepth 20000 in
theorem ji_mc107 : ji_w 838 = some (.code (ji_m 107).1 (ji_m 107).2.1 (ji_m 107).2.2.1 (ji_m 107).2.2.2.1) := by rfl
set_option maxRecDepth 20000 in
theorem ji_mc108 : ji_w 844 = some (.code (ji_m 108).1 (ji_m 108).2.1 (ji_m 108).2.2.1 (ji_m 108).2.2.2.1) := by rfl
set_option maxRecDepth 20000 in
theorem ji_mc109 : ji_w 851 = some (.code (ji_m 109).1 (ji_m 109).2.1 (ji_m 109).2.2.1 (ji_m 109).2.2.2.1) := by rfl
set_option maxRecDepth 20000 in
theorem ji_mc110 : ji_w 860 = some (.code (ji_m 110).1 (ji_m 110).2.1 (ji_m 110).2.2.1 (ji_m 110).2.2.2.1) := by rfl
set_option maxRecDepth 20000 in
theorem ji_mc111 : ji_w 864 = some (.code (ji_m 111).1 (ji_m 111).2.1 (ji_m 111).2.2.1 (ji_m 111).2.2.2.1) := by rfl
set_option maxRecDepth 20000 in
theorem ji_mc112 : ji_w 868 = some (.code (ji_m 112).1 (ji_m 112).2.1 (ji_m 112).2.2.1 (ji_m 112).2.2.2.1) := by rfl
set_option maxRecDepth 20000 in
theorem ji_mc113 : ji_w 872 = some (.code (ji_m 113).1 (ji_m 113).2.1 (ji_m 113).2.2.1 (ji_m 113).2.2.2.1) := by rfl
set_option maxRecDepth 20000 in
theorem ji_mc114 : ji_w 877 = some (.code (ji_m 114).1 (ji_m 114).2.1 (ji_m 114).2.2.1 (ji_m 114).2.2.2.1) := by rfl
set_option maxRecDepth 20000 in
theorem ji_mc115 : ji_w 881 = some (.code (ji_m 115).1 (ji_m 115).2.1 (ji_m 115).2.2.1 (ji_m 115).2.2.2.1) := by rfl
set_option maxRecDepth 20000 in
theorem ji_mc116 : ji_w 885 = some (.code (ji_m 116).1 (ji_m 116).2.1 (ji_m 116).2.2.1 (ji_m 116).2.2.2.1) := by rfl
set_option maxRecDepth 20000 in
theorem ji_mc117 : ji_w 888 = some (.code (ji_m 117).1 (ji_m 117).2.1 (ji_m 117).2.2.1 (ji_m 117).2.2.2.1) := by rfl
set_option maxRecDepth 20000 in
theorem ji_mc118 : ji_w 892 = some (.code (ji_m 118).1 (ji_m 118).2.1 (ji_m 118).2.2.1 (ji_m 118).2.2.2.1) := by rfl
set_option maxRecDepth 20000 in
theorem ji_mc119 : ji_w 896 = some (.code (ji_m 119).1 (ji_m 119).2.1 (ji_m 119).2.2.1 (ji_m 119).2.2.2.1) := by rfl
set_option maxRecDepth 20000 in
theorem ji_mc120 : ji_w 901 = some (.code (ji_m 120).1 (ji_m 120).2.1 (ji_m 120).2.2.1 (ji_m 120).2.2.2.1) := by rfl
set_option maxRecDepth 20000 in
theorem ji_mc121 : ji_w 907 = some (.code (ji_m 121).1 (ji_m 121).2.1 (ji_m 121).2.2.1 (ji_m 121).2.2.2.1) := by rfl
set_option maxRecDepth 20000 in
theorem ji_mc122 : ji_w 911 = some (.code (ji_m 122).1 (ji_m 122).2.1 (ji_m 122).2.2.1 (ji_m 122).2.2.2.1) := by rfl
set_option maxRecDepth 20000 in
theorem ji_mc123 : ji_w 915 = some (.code (ji_m 123).1 (ji_m 123).2.1 (ji_m 123).2.2.1 (ji_m 123).2.2.2.1) := by rfl
set_option maxRecDepth 20000 in
theorem ji_mc124 : ji_w 920 = some (.code (ji_m 124).1 (ji_m 124).2.1 (ji_m 124).2.2.1 (ji_m 124).2.2.2.1) := by rfl
set_option maxRecDepth 20000 in
theorem ji_mc125 : ji_w 924 = some (.code (ji_m 125).1 (ji_m 125).2.1 (ji_m 125).2.2.1 (ji_m 125).2.2.2.1) := by rfl
set_option maxRecDepth 20000 in
theorem ji_mc126 : ji_w 928 = some (.code (ji_m 126).1 (ji_m 126).2.1 (ji_m 126).2.2.1 (ji_m 126).2.2.2.1) := by rfl
set_option maxRecDepth 20000 in
theorem ji_mc127 : ji_w 932 = some (.code (ji_m 127).1 (ji_m 127).2.1 (ji_m 127).2.2.1 (ji_m 127).2.2.2.1) := by rfl
set_option maxRecDepth 20000 in
theorem ji_mc128 : ji_w 936 = some (.code (ji_m 128).1 (ji_m 128).2.1 (ji_m 128).2.2.1 (ji_m 128).2.2.2.1) := by rfl
set_option maxRecDepth 20000 in
theorem ji_mc129 : ji_w 941 = some (.code (ji_m 129).1 (ji_m 129).2.1 (ji_m 129).2.2.1 (ji_m 129).2.2.2.1) := by rfl
set_option maxRecDepth 20000 in
theorem ji_mc130 : ji_w 945 = some (.code (ji_m 130).1 (ji_m 130).2.1 (ji_m 130).2.2.1 (ji_m 130).2.2.2.1) := by rfl
set_option maxRecDepth 20000 in
theorem ji_mc131 : ji_w 949 = some (.code (ji_m 131).1 (ji_m 131).2.1 (ji_m 131).2.2.1 (ji_m 131).2.2.2.1) := by rfl
set_option maxRecDepth 20000 in
theorem ji_mc132 : ji_w 953 = some (.code (ji_m 132).1 (ji_m 132).2.1 (ji_m 132).2.2.1 (ji_m 132).2.2.2.1) := by rfl
set_option maxRecDepth 20000 in
theorem ji_mc133 : ji_w 957 = some (.code (ji_m 133).1 (ji_m 133).2.1 (ji_m 133).2.2.1 (ji_m 133).2.2.2.1) := by rfl
set_option maxRecDepth 20000 in
theorem ji_mc134 : ji_w 961 = some (.code (ji_m 134).1 (ji_m 134).2.1 (ji_m 134).2.2.1 (ji_m 134).2.2.2.1) := by rfl
set_option maxRecDepth 20000 in
theorem ji_mc135 : ji_w 965 = some (.code (ji_m 135).1 (ji_m 135).2.1 (ji_m 135).2.2.1 (ji_m 135).2.2.2.1) := by rfl
set_option maxRecDepth 20000 in
theorem ji_mc136 : ji_w 969 = some (.code (ji_m 136).1 (ji_m 136).2.1 (ji_m 136).2.2.1 (ji_m 136).2.2.2.1) := by rfl
set_option maxRecDepth 20000 in
theorem ji_mc137 : ji_w 974 = some (.code (ji_m 137).1 (ji_m 137).2.1 (ji_m 137).2.2.1 (ji_m 137).2.2.2.1) := by rfl
set_option maxRecDepth 20000 in
theorem ji_mc138 : ji_w 979 = some (.code (ji_m 138).1 (ji_m 138).2.1 (ji_m 138).2.2.1 (ji_m 138).2.2.2.1) := by rfl
set_option maxRecDepth 20000 in
theorem ji_mc139 : ji_w 985 = some (.code (ji_m 139).1 (ji_m 139).2.1 (ji_m 139).2.2.1 (ji_m 139).2.2.2.1) := by rfl
set_option maxRecDepth 20000 in
theorem ji_mc140 : ji_w 989 = some (.code (ji_m 140).1 (ji_m 140).2.1 (ji_m 140).2.2.1 (ji_m 140).2.2.2.1) := by rfl
set_option maxRecDepth 20000 in
theorem ji_mc141 : ji_w 993 = some (.code (ji_m 141).1 (ji_m 141).2.1 (ji_m 141).2.2.1 (ji_m 141).2.2.2.1) := by rfl
set_option maxRecDepth 20000 in
theorem ji_mc142 : ji_w 998 = some (.code (ji_m 142).1 (ji_m 142).2.1 (ji_m 142).2.2.1 (ji_m 142).2.2.2.1) := by rfl
set_option maxRecDepth 20000 in
theorem ji_mc143 : ji_w 1001 = some (.code (ji_m 143).1 (ji_m 143).2.1 (ji_m 143).2.2.1 (ji_m 143).2.2.2.1) := by rfl
set_option maxRecDepth 20000 in
theorem ji_mc144 : ji_w 1005 = some (.code (ji_m 144).1 (ji_m 144).2.1 (ji_m 144).2.2.1 (ji_m 144).2.2.2.1) := by rfl
set_option maxRecDepth 20000 in
theorem ji_mc145 : ji_w 1013 = some (.code (ji_m 145).1 (ji_m 145).2.1 (ji_m 145).2.2.1 (ji_m 145).2.2.2.1) := by rfl
set_option maxRecDepth 20000 in
theorem ji_mc146 : ji_w 1017 = some (.code (ji_m 146).1 (ji_m 146).2.1 (ji_m 146).2.2.1 (ji_m 146).2.2.2.1) := by rfl
set_option maxRecDepth 20000 in
theorem ji_mc147 : ji_w 1021 = some (.code (ji_m 147).1 (ji_m 147).2.1 (ji_m 147).2.2.1 (ji_m 147).2.2.2.1) := by rfl
set_option maxRecDepth 20000 in
theorem ji_mc148 : ji_w 1025 = some (.code (ji_m 148).1 (ji_m 148).2.1 (ji_m 148).2.2.1 (ji_m 148).2.2.2.1) := by rfl
set_option maxRecDepth 20000 in
theorem ji_mc149 : ji_w 1029 = some (.code (ji_m 149).1 (ji_m 149).2.1 (ji_m 149).2.2.1 (ji_m 149).2.2.2.1) := by rfl
set_option maxRecDepth 20000 in
theorem ji_mc150 : ji_w 1034 = some (.code (ji_m 150).1 (ji_m 150).2.1 (ji_m 150).2.2.1 (ji_m 150).2.2.2.1) := by rfl
set_option maxRecDepth 20000 in
theorem ji_mc151 : ji_w 1039 = some (.code (ji_m 151).1 (ji_m 151).2.1 (ji_m 151).2.2.1 (ji_m 151).2.2.2.1) := by rfl
set_option maxRecDepth 20000 in
theorem ji_mc152 : ji_w 1043 = some (.code (ji_m 152).1 (ji_m 152).2.1 (ji_m 152).2.2.1 (ji_m 152).2.2.2.1) := by rfl
set_option maxRecDepth 20000 in
theorem ji_mc153 : ji_w 1049 = some (.code (ji_m 153).1 (ji_m 153).2.1 (ji_m 153).2.2.1 (ji_m 153).2.2.2.1) := by rfl
set_option maxRecDepth 20000 in
theorem ji_mc154 : ji_w 1053 = some (.code (ji_m 154).1 (ji_m 154).2.1 (ji_m 154).2.2.1 (ji_m 154).2.2.2.1) := by rfl
set_option maxRecDepth 20000 in
theorem ji_mc155 : ji_w 1058 = some (.code (ji_m 155).1 (ji_m 155).2.1 (ji_m 155).2.2.1 (ji_m 155).2.2.2.1) := by rfl
set_option maxRecDepth 20000 in
theorem ji_mc156 : ji_w 1064 = some (.code (ji_m 156).1 (ji_m 156).2.1 (ji_m 156).2.2.1 (ji_m 156).2.2.2.1) := by rfl
set_option maxRecDepth 20000 in
theorem ji_mc157 : ji_w 1313 = some (.code (ji_m 157).1 (ji_m 157).2.1 (ji_m 157).2.2.1 (ji_m 157).2.2.2.1) := by rfl
set_option maxRecDepth 20000 in
theorem ji_mc158 : ji_w 1317 = some (.code (ji_m 158).1 (ji_m 158).2.1 (ji_m 158).2.2.1 (ji_m 158).2.2.2.1) := by rfl
set_option maxRecDepth 20000 in
theorem ji_mc159 : ji_w 1323 = some (.code (ji_m 159).1 (ji_m 159).2.1 (ji_m 159).2.2.1 (ji_m 159).2.2.2.1) := by rfl
set_option maxRecDepth 20000 in
theorem ji_mc160 : ji_w 1327 = some (.code (ji_m 160).1 (ji_m 160).2.1 (ji_m 160).2.2.1 (ji_m 160).2.2.2.1) := by rfl
set_option maxRecDepth 20000 in
theorem ji_mc161 : ji_w 1331 = some (.code (ji_m 161).1 (ji_m 161).2.1 (ji_m 161).2.2.1 (ji_m 161).2.2.2.1) := by rfl
set_option maxRecDepth 20000 in
theorem ji_mc162 : ji_w 1335 = some (.code (ji_m 162).1 (ji_m 162).2.1 (ji_m 162).2.2.1 (ji_m 162).2.2.2.1) := by rfl
set_option maxRecDepth 20000 in
theorem ji_mc163 : ji_w 1339 = some (.code (ji_m 163).1 (ji_m 163).2.1 (ji_m 163).2.2.1 (ji_m 163).2.2.2.1) := by rfl
set_option maxRecDepth 20000 in
theorem ji_mc164 : ji_w 1343 = some (.code (ji_m 164).1 (ji_m 164).2.1 (ji_m 164).2.2.1 (ji_m 164).2.2.2.1) := by rfl
set_option maxRecDepth 20000 in
theorem ji_mc165 : ji_w 1347 = some (.code (ji_m 165).1 (ji_m 165).2.1 (ji_m 165).2.2.1 (ji_m 165).2.2.2.1) := by rfl
set_option maxRecDepth 20000 in
theorem ji_mc166 : ji_w 1351 = some (.code (ji_m 166).1 (ji_m 166).2.1 (ji_m 166).2.2.1 (ji_m 166).2.2.2.1) := by rfl
set_option maxRecDepth 20000 in
theorem ji_mc167 : ji_w 1355 = some (.code (ji_m 167).1 (ji_m 167).2.1 (ji_m 167).2.2.1 (ji_m 167).2.2.2.1) := by rfl
set_option maxRecDepth 20000 in
theorem ji_mc168 : ji_w 1359 = some (.code (ji_m 168).1 (ji_m 168).2.1 (ji_m 168).2.2.1 (ji_m 168).2.2.2.1) := by rfl
set_option maxRecDepth 20000 in
theorem ji_mc169 : ji_w 1363 = some (.code (ji_m 169).1 (ji_m 169).2.1 (ji_m 169).2.2.1 (ji_m 169).2.2.2.1) := by rfl
set_option maxRecDepth 20000 in
theorem ji_mc170 : ji_w 1367 = some (.code (ji_m 170).1 (ji_m 170).2.1 (ji_m 170).2.2.1 (ji_m 170).2.2.2.1) := by rfl
set_option maxRecDepth 20000 in
theorem ji_mc171 : ji_w 1371 = some (.code (ji_m 171).1 (ji_m 171).2.1 (ji_m 171).2.2.1 (ji_m 171).2.2.2.1) := by rfl
set_option maxRecDepth 20000 in
theorem ji_mc172 : ji_w 1375 = some (.code (ji_m 172).1 (ji_m 172).2.1 (ji_m 172).2.2.1 (ji_m 172).2.2.2.1) := by rfl
set_option maxRecDepth 20000 in
theorem ji_mc173 : ji_w 1379 = some (.code (ji_m 173).1 (ji_m 173).2.1 (ji_m 173).2.2.1 (ji_m 173).2.2.2.1) := by rfl
set_option maxRecDepth 20000 in
theorem ji_mc174 : ji_w 1383 = some (.code (ji_m 174).1 (ji_m 174).2.1 (ji_m 174).2.2.1 (ji_m 174).2.2.2.1) := by rfl
set_option maxRecDepth 20000 in
theorem ji_mc175 : ji_w 1387 = some (.code (ji_m 175).1 (ji_m 175).2.1 (ji_m 175).2.2.1 (ji_m 175).2.2.2.1) := by rfl
set_option maxRecDepth 20000 in
theorem ji_mc176 : ji_w 1394 = some (.code (ji_m 176).1 (ji_m 176).2.1 (ji_m 176).2.2.1 (ji_m 176).2.2.2.1) := by rfl
set_option maxRecDepth 20000 in
theorem ji_mc177 : ji_w 1410 = some (.code (ji_m 177).1 (ji_m 177).2.1 (ji_m 177).2.2.1 (ji_m 177).2.2.2.1) := by rfl
set_option maxRecDepth 20000 in
theorem ji_mc178 : ji_w 1414 = some (.code (ji_m 178).1 (ji_m 178).2.1 (ji_m 178).2.2.1 (ji_m 178).2.2.2.1) := by rfl
set_option maxRecDepth 20000 in
theorem ji_mc179 : ji_w 1418 = some (.code (ji_m 179).1 (ji_m 179).2.1 (ji_m 179).2.2.1 (ji_m 179).2.2.2.1) := by rfl
set_option maxRecDepth 20000 in
theorem ji_mc180 : ji_w 1422 = some (.code (ji_m 180).1 (ji_m 180).2.1 (ji_m 180).2.2.1 (ji_m 180).2.2.2.1) := by rfl
set_option maxRecDepth 20000 in
theorem ji_mc181 : ji_w 1426 = some (.code (ji_m 181).1 (ji_m 181).2.1 (ji_m 181).2.2.1 (ji_m 181).2.2.2.1) := by rfl
set_option maxRecDepth 20000 in
theorem ji_mc182 : ji_w 1430 = some (.code (ji_m 182).1 (ji_m 182).2.1 (ji_m 182).2.2.1 (ji_m 182).2.2.2.1) := by rfl
set_option maxRecDepth 20000 in
theorem ji_mc183 : ji_w 1434 = some (.code (ji_m 183).1 (ji_m 183).2.1 (ji_m 183).2.2.1 (ji_m 183).2.2.2.1) := by rfl
set_option maxRecDepth 20000 in
theorem ji_mc184 : ji_w 1438 = some (.code (ji_m 184).1 (ji_m 184).2.1 (ji_m 184).2.2.1 (ji_m 184).2.2.2.1) := by rfl
set_option maxRecDepth 20000 in
theorem ji_mc185 : ji_w 1442 = some (.code (ji_m 185).1 (ji_m 185).2.1 (ji_m 185).2.2.1 (ji_m 185).2.2.2.1) := by rfl
set_option maxRecDepth 20000 in
theorem ji_mc186 : ji_w 1446 = some (.code (ji_m 186).1 (ji_m 186).2.1 (ji_m 186).2.2.1 (ji_m 186).2.2.2.1) := by rfl
set_option maxRecDepth 20000 in
theorem ji_mc187 : ji_w 1450 = some (.code (ji_m 187).1 (ji_m 187).2.1 (ji_m 187).2.2.1 (ji_m 187).2.2.2.1) := by rfl
set_option maxRecDepth 20000 in
theorem ji_mc188 : ji_w 1454 = some (.code (ji_m 188).1 (ji_m 188).2.1 (ji_m 188).2.2.1 (ji_m 188).2.2.2.1) := by rfl
set_option maxRecDepth 20000 in
theorem ji_mc189 : ji_w 1458 = some (.code (ji_m 189).1 (ji_m 189).2.1 (ji_m 189).2.2.1 (ji_m 189).2.2.2.1) := by rfl
set_option maxRecDepth 20000 in
theorem ji_mc190 : ji_w 1462 = some (.code (ji_m 190).1 (ji_m 190).2.1 (ji_m 190).2.2.1 (ji_m 190).2.2.2.1) := by rfl
set_option maxRecDepth 20000 in
theorem ji_mc191 : ji_w 1466 = some (.code (ji_m 191).1 (ji_m 191).2.1 (ji_m 191).2.2.1 (ji_m 191).2.2.2.1) := by rfl
set_option maxRecDepth 20000 in
theorem ji_mc192 : ji_w 1470 = some (.code (ji_m 192).1 (ji_m 192).2.1 (ji_m 192).2.2.1 (ji_m 192).2.2.2.1) := by rfl
set_option maxRecDepth 20000 in
theorem ji_mc193 : ji_w 1474 = some (.code (ji_m 193).1 (ji_m 193).2.1 (ji_m 193).2.2.1 (ji_m 193).2.2.2.1) := by rfl
set_option maxRecDepth 20000 in
theorem ji_mc194 : ji_w 1478 = some (.code (ji_m 194).1 (ji_m 194).2.1 (ji_m 194).2.2.1 (ji_m 194).2.2.2.1) := by rfl
set_option maxRecDepth 20000 in
theorem ji_mc195 : ji_w 1482 = some (.code (ji_m 195).1 (ji_m 195).2.1 (ji_m 195).2.2.1 (ji_m 195).2.2.2.1) := by rfl
set_option maxRecDepth 20000 in
theorem ji_mc196 : ji_w 1487 = some (.code (ji_m 196).1 (ji_m 196).2.1 (ji_m 196).2.2.1 (ji_m 196).2.2.2.1) := by rfl
set_option maxRecDepth 20000 in
theorem ji_mc197 : ji_w 1491 = some (.code (ji_m 197).1 (ji_m 197).2.1 (ji_m 197).2.2.1 (ji_m 197).2.2.2.1) := by rfl
set_option maxRecDepth 20000 in
theorem ji_mc198 : ji_w 1495 = some (.code (ji_m 198).1 (ji_m 198).2.1 (ji_m 198).2.2.1 (ji_m 198).2.2.2.1) := by rfl
set_option maxRecDepth 20000 in
theorem ji_mc199 : ji_w 1499 = some (.code (ji_m 199).1 (ji_m 199).2.1 (ji_m 199).2.2.1 (ji_m 199).2.2.2.1) := by rfl
set_option maxRecDepth 20000 in
theorem ji_mc200 : ji_w 1503 = some (.code (ji_m 200).1 (ji_m 200).2.1 (ji_m 200).2.2.1 (ji_m 200).2.2.2.1) := by rfl
set_option maxRecDepth 20000 in
theorem ji_mc201 : ji_w 1507 = some (.code (ji_m 201).1 (ji_m 201).2.1 (ji_m 201).2.2.1 (ji_m 201).2.2.2.1) := by rfl
set_option maxRecDepth 20000 in
theorem ji_mc202 : ji_w 1511 = some (.code (ji_m 202).1 (ji_m 202).2.1 (ji_m 202).2.2.1 (ji_m 202).2.2.2.1) := by rfl
set_option maxRecDepth 20000 in
theorem ji_mc203 : ji_w 1515 = some (.code (ji_m 203).1 (ji_m 203).2.1 (ji_m 203).2.2.1 (ji_m 203).2.2.2.1) := by rfl
set_option maxRecDepth 20000 in
theorem ji_mc204 : ji_w 1519 = some (.code (ji_m 204).1 (ji_m 204).2.1 (ji_m 204).2.2.1 (ji_m 204).2.2.2.1) := by rfl
set_option maxRecDepth 20000 in
theorem ji_mc205 : ji_w 1526 = some (.code (ji_m 205).1 (ji_m 205).2.1 (ji_m 205).2.2.1 (ji_m 205).2.2.2.1) := by rfl
set_option maxRecDepth 20000 in
theorem ji_mc206 : ji_w 1530 = some (.code (ji_m 206).1 (ji_m 206).2.1 (ji_m 206).2.2.1 (ji_m 206).2.2.2.1) := by rfl
set_option maxRecDepth 20000 in
theorem ji_mc207 : ji_w 1534 = some (.code (ji_m 207).1 (ji_m 207).2.1 (ji_m 207).2.2.1 (ji_m 207).2.2.2.1) := by rfl
set_option maxRecDepth 20000 in
theorem ji_mc208 : ji_w 1538 = some (.code (ji_m 208).1 (ji_m 208).2.1 (ji_m 208).2.2.1 (ji_m 208).2.2.2.1) := by rfl
set_option maxRecDepth 20000 in
theorem ji_mc209 : ji_w 1542 = some (.code (ji_m 209).1 (ji_m 209).2.1 (ji_m 209).2.2.1 (ji_m 209).2.2.2.1) := by rfl
set_option maxRecDepth 20000 in
theorem ji_mc210 : ji_w 1546 = some (.code (ji_m 210).1 (ji_m 210).2.1 (ji_m 210).2.2.1 (ji_m 210).2.2.2.1) := by rfl
set_option maxRecDepth 20000 in
theorem ji_mc211 : ji_w 1550 = some (.code (ji_m 211).1 (ji_m 211).2.1 (ji_m 211).2.2.1 (ji_m 211).2.2.2.1) := by rfl
set_option maxRecDepth 20000 in
theorem ji_mc212 : ji_w 1554 = some (.code (ji_m 212).1 (ji_m 212).2.1 (ji_m 212).2.2.1 (ji_m 212).2.2.2.1) := by rfl
set_option maxRecDepth 20000 in
theorem ji_mc213 : ji_w 1558 = some (.code (ji_m 213).1 (ji_m 213).2.1 (ji_m 213).2.2.1 (ji_m 213).2.2.2.1) := by rfl
set_option maxRecDepth 20000 in
theorem ji_mc214 : ji_w 1562 = some (.code (ji_m 214).1 (ji_m 214).2.1 (ji_m 214).2.2.1 (ji_m 214).2.2.2.1) := by rfl
set_option maxRecDepth 20000 in
theorem ji_mc215 : ji_w 1566 = some (.code (ji_m 215).1 (ji_m 215).2.1 (ji_m 215).2.2.1 (ji_m 215).2.2.2.1) := by rfl
set_option maxRecDepth 20000 in
theorem ji_mc216 : ji_w 1570 = some (.code (ji_m 216).1 (ji_m 216).2.1 (ji_m 216).2.2.1 (ji_m 216).2.2.2.1) := by rfl
set_option maxRecDepth 20000 in
theorem ji_mc217 : ji_w 1574 = some (.code (ji_m 217).1 (ji_m 217).2.1 (ji_m 217).2.2.1 (ji_m 217).2.2.2.1) := by rfl
set_option maxRecDepth 20000 in
theorem ji_mc218 : ji_w 1578 = some (.code (ji_m 218).1 (ji_m 218).2.1 (ji_m 218).2.2.1 (ji_m 218).2.2.2.1) := by rfl
set_option maxRecDepth 20000 in
theorem ji_mc219 : ji_w 1582 = some (.code (ji_m 219).1 (ji_m 219).2.1 (ji_m 219).2.2.1 (ji_m 219).2.2.2.1) := by rfl
set_option maxRecDepth 20000 in
theorem ji_mc220 : ji_w 1586 = some (.code (ji_m 220).1 (ji_m 220).2.1 (ji_m 220).2.2.1 (ji_m 220).2.2.2.1) := by rfl
set_option maxRecDepth 20000 in
theorem ji_mc221 : ji_w 1590 = some (.code (ji_m 221).1 (ji_m 221).2.1 (ji_m 221).2.2.1 (ji_m 221).2.2.2.1) := by rfl
set_option maxRecDepth 20000 in
theorem ji_mc222 : ji_w 1594 = some (.code (ji_m 222).1 (ji_m 222).2.1 (ji_m 222).2.2.1 (ji_m 222).2.2.2.1) := by rfl
set_option maxRecDepth 20000 in
theorem ji_mc223 : ji_w 1598 = some (.code (ji_m 223).1 (ji_m 223).2.1 (ji_m 223).2.2.1 (ji_m 223).2.2.2.1) := by rfl
set_option maxRecDepth 20000 in
theorem ji_mc224 : ji_w 1602 = some (.code (ji_m 224).1 (ji_m 224).2.1 (ji_m 224).2.2.1 (ji_m 224).2.2.2.1) := by rfl
set_option maxRecDepth 20000 in
theorem ji_mc225 : ji_w 1606 = some (.code (ji_m 225).1 (ji_m 225).2.1 (ji_m 225).2.2.1 (ji_m 225).2.2.2.1) := by rfl
set_option maxRecDepth 20000 in
theorem ji_mc226 : ji_w 1610 = some (.code (ji_m 226).1 (ji_m 226).2.1 (ji_m 226).2.2.1 (ji_m 226).2.2.2.1) := by rfl
set_option maxRecDepth 20000 in
theorem ji_mc227 : ji_w 1615 = some (.code (ji_m 227).1 (ji_m 227).2.1 (ji_m 227).2.2.1 (ji_m 227).2.2.2.1) := by rfl
def ji_mcok (q : (MethodName × ByteArray × Nat × Option FieldType × Nat) × Nat × Nat) : Prop := ji_w q.2.1 = some (.code q.1.1 q.1.2.1 q.1.2.2.1 q.1.2.2.2.1)
set_option maxRecDepth 100000 in
theorem ji_mcall : ∀ q ∈ ji_ms.zip ji_mp, ji_mcok q := by
  unfold ji_ms ji_mp
  repeat rw [List.zip_cons_cons]
  exact List.forall_mem_cons.mpr ⟨ji_mc0, List.forall_mem_cons.mpr ⟨ji_mc1, List.forall_mem_cons.mpr ⟨ji_mc2, List.forall_mem_cons.mpr ⟨ji_mc3, List.forall_mem_cons.mpr ⟨ji_mc4, List.forall_mem_cons.mpr ⟨ji_mc5, List.forall_mem_cons.mpr ⟨ji_mc6, List.forall_mem_cons.mpr ⟨ji_mc7, List.forall_mem_cons.mpr ⟨ji_mc8, List.forall_mem_cons.mpr ⟨ji_mc9, List.forall_mem_cons.mpr ⟨ji_mc10, List.forall_mem_cons.mpr ⟨ji_mc11, List.forall_mem_cons.mpr ⟨ji_mc12, List.forall_mem_cons.mpr ⟨ji_mc13, List.forall_mem_cons.mpr ⟨ji_mc14, List.forall_mem_cons.mpr ⟨ji_mc15, List.forall_mem_cons.mpr ⟨ji_mc16, List.forall_mem_cons.mpr ⟨ji_mc17, List.forall_mem_cons.mpr ⟨ji_mc18, List.forall_mem_cons.mpr ⟨ji_mc19, List.forall_mem_cons.mpr ⟨ji_mc20, List.forall_mem_cons.mpr ⟨ji_mc21, List.forall_mem_cons.mpr ⟨ji_mc22, List.forall_mem_cons.mpr ⟨ji_mc23, List.forall_mem_cons.mpr ⟨ji_mc24, List.forall_mem_cons.mpr ⟨ji_mc25, List.forall_mem_cons.mpr ⟨ji_mc26, List.forall_mem_cons.mpr ⟨ji_mc27, List.forall_mem_cons.mpr ⟨ji_mc28, List.forall_mem_cons.mpr ⟨ji_mc29, List.forall_mem_cons.mpr ⟨ji_mc30, List.forall_mem_cons.mpr ⟨ji_mc31, List.forall_mem_cons.mpr ⟨ji_mc32, List.forall_mem_cons.mpr ⟨ji_mc33, List.forall_mem_cons.mpr ⟨ji_mc34, List.forall_mem_cons.mpr ⟨ji_mc35, List.forall_mem_cons.mpr ⟨ji_mc36, List.forall_mem_cons.mpr ⟨ji_mc37, List.forall_mem_cons.mpr ⟨ji_mc38, List.forall_mem_cons.mpr ⟨ji_mc39, List.forall_mem_cons.mpr ⟨ji_mc40, List.forall_mem_cons.mpr ⟨ji_mc41, List.forall_mem_cons.mpr ⟨ji_mc42, List.forall_mem_cons.mpr ⟨ji_mc43, List.forall_mem_cons.mpr ⟨ji_mc44, List.forall_mem_cons.mpr ⟨ji_mc45, List.forall_mem_cons.mpr ⟨ji_mc46, List.forall_mem_cons.mpr ⟨ji_mc47, List.forall_mem_cons.mpr ⟨ji_mc48, List.forall_mem_cons.mpr ⟨ji_mc49, List.forall_mem_cons.mpr ⟨ji_mc50, List.forall_mem_cons.mpr ⟨ji_mc51, List.forall_mem_cons.mpr ⟨ji_mc52, List.forall_mem_cons.mpr ⟨ji_mc53, List.forall_mem_cons.mpr ⟨ji_mc54, List.forall_mem_cons.mpr ⟨ji_mc55, List.forall_mem_cons.mpr ⟨ji_mc56, List.forall_mem_cons.mpr ⟨ji_mc57, List.forall_mem_cons.mpr ⟨ji_mc58, List.forall_mem_cons.mpr ⟨ji_mc59, List.forall_mem_cons.mpr ⟨ji_mc60, List.forall_mem_cons.mpr ⟨ji_mc61, List.forall_mem_cons.mpr ⟨ji_mc62, List.forall_mem_cons.mpr ⟨ji_mc63, List.forall_mem_cons.mpr ⟨ji_mc64, List.forall_mem_cons.mpr ⟨ji_mc65, List.forall_mem_cons.mpr ⟨ji_mc66, List.forall_mem_cons.mpr ⟨ji_mc67, List.forall_mem_cons.mpr ⟨ji_mc68, List.forall_mem_cons.mpr ⟨ji_mc69, List.forall_mem_cons.mpr ⟨ji_mc70, List.forall_mem_cons.mpr ⟨ji_mc71, List.forall_mem_cons.mpr ⟨ji_mc72, List.forall_mem_cons.mpr ⟨ji_mc73, List.forall_mem_cons.mpr ⟨ji_mc74, List.forall_mem_cons.mpr ⟨ji_mc75, List.forall_mem_cons.mpr ⟨ji_mc76, List.forall_mem_cons.mpr ⟨ji_mc77, List.forall_mem_cons.mpr ⟨ji_mc78, List.forall_mem_cons.mpr ⟨ji_mc79, List.forall_mem_cons.mpr ⟨ji_mc80, List.forall_mem_cons.mpr ⟨ji_mc81, List.forall_mem_cons.mpr ⟨ji_mc82, List.forall_mem_cons.mpr ⟨ji_mc83, List.forall_mem_cons.mpr ⟨ji_mc84, List.forall_mem_cons.mpr ⟨ji_mc85, List.forall_mem_cons.mpr ⟨ji_mc86, List.forall_mem_cons.mpr ⟨ji_mc87, List.forall_mem_cons.mpr ⟨ji_mc88, List.forall_mem_cons.mpr ⟨ji_mc89, List.forall_mem_cons.mpr ⟨ji_mc90, List.forall_mem_cons.mpr ⟨ji_mc91, List.forall_mem_cons.mpr ⟨ji_mc92, List.forall_mem_cons.mpr ⟨ji_mc93, List.forall_mem_cons.mpr ⟨ji_mc94, List.forall_mem_cons.mpr ⟨ji_mc95, List.forall_mem_cons.mpr ⟨ji_mc96, List.forall_mem_cons.mpr ⟨ji_mc97, List.forall_mem_cons.mpr ⟨ji_mc98, List.forall_mem_cons.mpr ⟨ji_mc99, List.forall_mem_cons.mpr ⟨ji_mc100, List.forall_mem_cons.mpr ⟨ji_mc101, List.forall_mem_cons.mpr ⟨ji_mc102, List.forall_mem_cons.mpr ⟨ji_mc103, List.forall_mem_cons.mpr ⟨ji_mc104, List.forall_mem_cons.mpr ⟨ji_mc105, List.forall_mem_cons.mpr ⟨ji_mc106, List.forall_mem_cons.mpr ⟨ji_mc107, List.forall_mem_cons.mpr ⟨ji_mc108, List.forall_mem_cons.mpr ⟨ji_mc109, List.forall_mem_cons.mpr ⟨ji_mc110, List.forall_mem_cons.mpr ⟨ji_mc111, List.forall_mem_cons.mpr ⟨ji_mc112, List.forall_mem_cons.mpr ⟨ji_mc113, List.forall_mem_cons.mpr ⟨ji_mc114, List.forall_mem_cons.mpr ⟨ji_mc115, List.forall_mem_cons.mpr ⟨ji_mc116, List.forall_mem_cons.mpr ⟨ji_mc117, List.forall_mem_cons.mpr ⟨ji_mc118, List.forall_mem_cons.mpr ⟨ji_mc119, List.forall_mem_cons.mpr ⟨ji_mc120, List.forall_mem_cons.mpr ⟨ji_mc121, List.forall_mem_cons.mpr ⟨ji_mc122, List.forall_mem_cons.mpr ⟨ji_mc123, List.forall_mem_cons.mpr ⟨ji_mc124, List.forall_mem_cons.mpr ⟨ji_mc125, List.forall_mem_cons.mpr ⟨ji_mc126, List.forall_mem_cons.mpr ⟨ji_mc127, List.forall_mem_cons.mpr ⟨ji_mc128, List.forall_mem_cons.mpr ⟨ji_mc129, List.forall_mem_cons.mpr ⟨ji_mc130, List.forall_mem_cons.mpr ⟨ji_mc131, List.forall_mem_cons.mpr ⟨ji_mc132, List.forall_mem_cons.mpr ⟨ji_mc133, List.forall_mem_cons.mpr ⟨ji_mc134, List.forall_mem_cons.mpr ⟨ji_mc135, List.forall_mem_cons.mpr ⟨ji_mc136, List.forall_mem_cons.mpr ⟨ji_mc137, List.forall_mem_cons.mpr ⟨ji_mc138, List.forall_mem_cons.mpr ⟨ji_mc139, List.forall_mem_cons.mpr ⟨ji_mc140, List.forall_mem_cons.mpr ⟨ji_mc141, List.forall_mem_cons.mpr ⟨ji_mc142, List.forall_mem_cons.mpr ⟨ji_mc143, List.forall_mem_cons.mpr ⟨ji_mc144, List.forall_mem_cons.mpr ⟨ji_mc145, List.forall_mem_cons.mpr ⟨ji_mc146, List.forall_mem_cons.mpr ⟨ji_mc147, List.forall_mem_cons.mpr ⟨ji_mc148, List.forall_mem_cons.mpr ⟨ji_mc149, List.forall_mem_cons.mpr ⟨ji_mc150, List.forall_mem_cons.mpr ⟨ji_mc151, List.forall_mem_cons.mpr ⟨ji_mc152, List.forall_mem_cons.mpr ⟨ji_mc153, List.forall_mem_cons.mpr ⟨ji_mc154, List.forall_mem_cons.mpr ⟨ji_mc155, List.forall_mem_cons.mpr ⟨ji_mc156, List.forall_mem_cons.mpr ⟨ji_mc157, List.forall_mem_cons.mpr ⟨ji_mc158, List.forall_mem_cons.mpr ⟨ji_mc159, List.forall_mem_cons.mpr ⟨ji_mc160, List.forall_mem_cons.mpr ⟨ji_mc161, List.forall_mem_cons.mpr ⟨ji_mc162, List.forall_mem_cons.mpr ⟨ji_mc163, List.forall_mem_cons.mpr ⟨ji_mc164, List.forall_mem_cons.mpr ⟨ji_mc165, List.forall_mem_cons.mpr ⟨ji_mc166, List.forall_mem_cons.mpr ⟨ji_mc167, List.forall_mem_cons.mpr ⟨ji_mc168, List.forall_mem_cons.mpr ⟨ji_mc169, List.forall_mem_cons.mpr ⟨ji_mc170, List.forall_mem_cons.mpr ⟨ji_mc171, List.forall_mem_cons.mpr ⟨ji_mc172, List.forall_mem_cons.mpr ⟨ji_mc173, List.forall_mem_cons.mpr ⟨ji_mc174, List.forall_mem_cons.mpr ⟨ji_mc175, List.forall_mem_cons.mpr ⟨ji_mc176, List.forall_mem_cons.mpr ⟨ji_mc177, List.forall_mem_cons.mpr ⟨ji_mc178, List.forall_mem_cons.mpr ⟨ji_mc179, List.forall_mem_cons.mpr ⟨ji_mc180, List.forall_mem_cons.mpr ⟨ji_mc181, List.forall_mem_cons.mpr ⟨ji_mc182, List.forall_mem_cons.mpr ⟨ji_mc183, List.forall_mem_cons.mpr ⟨ji_mc184, List.forall_mem_cons.mpr ⟨ji_mc185, List.forall_mem_cons.mpr ⟨ji_mc186, List.forall_mem_cons.mpr ⟨ji_mc187, List.forall_mem_cons.mpr ⟨ji_mc188, List.forall_mem_cons.mpr ⟨ji_mc189, List.forall_mem_cons.mpr ⟨ji_mc190, List.forall_mem_cons.mpr ⟨ji_mc191, List.forall_mem_cons.mpr ⟨ji_mc192, List.forall_mem_cons.mpr ⟨ji_mc193, List.forall_mem_cons.mpr ⟨ji_mc194, List.forall_mem_cons.mpr ⟨ji_mc195, List.forall_mem_cons.mpr ⟨ji_mc196, List.forall_mem_cons.mpr ⟨ji_mc197, List.forall_mem_cons.mpr ⟨ji_mc198, List.forall_mem_cons.mpr ⟨ji_mc199, List.forall_mem_cons.mpr ⟨ji_mc200, List.forall_mem_cons.mpr ⟨ji_mc201, List.forall_mem_cons.mpr ⟨ji_mc202, List.forall_mem_cons.mpr ⟨ji_mc203, List.forall_mem_cons.mpr ⟨ji_mc204, List.forall_mem_cons.mpr ⟨ji_mc205, List.forall_mem_cons.mpr ⟨ji_mc206, List.forall_mem_cons.mpr ⟨ji_mc207, List.forall_mem_cons.mpr ⟨ji_mc208, List.forall_mem_cons.mpr ⟨ji_mc209, List.forall_mem_cons.mpr ⟨ji_mc210, List.forall_mem_cons.mpr ⟨ji_mc211, List.forall_mem_cons.mpr ⟨ji_mc212, List.forall_mem_cons.mpr ⟨ji_mc213, List.forall_mem_cons.mpr ⟨ji_mc214, List.forall_mem_cons.mpr ⟨ji_mc215, List.forall_mem_cons.mpr ⟨ji_mc216, List.forall_mem_cons.mpr ⟨ji_mc217, List.forall_mem_cons.mpr ⟨ji_mc218, List.forall_mem_cons.mpr ⟨ji_mc219, List.forall_mem_cons.mpr ⟨ji_mc220, List.forall_mem_cons.mpr ⟨ji_mc221, List.forall_mem_cons.mpr ⟨ji_mc222, List.forall_mem_cons.mpr ⟨ji_mc223, List.forall_mem_cons.mpr ⟨ji_mc224, List.forall_mem_cons.mpr ⟨ji_mc225, List.forall_mem_cons.mpr ⟨ji_mc226, List.forall_mem_cons.mpr ⟨ji_mc227, fun _ h => absurd h List.not_mem_nil⟩⟩⟩⟩⟩⟩⟩⟩⟩⟩⟩⟩⟩⟩⟩⟩⟩⟩⟩⟩⟩⟩⟩⟩⟩⟩⟩⟩⟩⟩⟩⟩⟩⟩⟩⟩⟩⟩⟩⟩⟩⟩⟩⟩⟩⟩⟩⟩⟩⟩⟩⟩⟩⟩⟩⟩⟩⟩⟩⟩⟩⟩⟩⟩⟩⟩⟩⟩⟩⟩⟩⟩⟩⟩⟩⟩⟩⟩⟩⟩⟩⟩⟩⟩⟩⟩⟩⟩⟩⟩⟩⟩⟩⟩⟩⟩⟩⟩⟩⟩⟩⟩⟩⟩⟩⟩⟩⟩⟩⟩⟩⟩⟩⟩⟩⟩⟩⟩⟩⟩⟩⟩⟩⟩⟩⟩⟩⟩⟩⟩⟩⟩⟩⟩⟩⟩⟩⟩⟩⟩⟩⟩⟩⟩⟩⟩⟩⟩⟩⟩⟩⟩⟩⟩⟩⟩⟩⟩⟩⟩⟩⟩⟩⟩⟩⟩⟩⟩⟩⟩⟩⟩⟩⟩⟩⟩⟩⟩⟩⟩⟩⟩⟩⟩⟩⟩⟩⟩⟩⟩⟩⟩⟩⟩⟩⟩⟩⟩⟩⟩⟩⟩⟩⟩⟩⟩⟩⟩⟩⟩⟩⟩⟩⟩⟩⟩⟩⟩⟩⟩⟩⟩⟩⟩⟩⟩⟩⟩
theorem ji_mlen : ji_ms.length = ji_mp.length := by decide +kernel
theorem ji_m_at {k : Nat} (hk : k < ji_ms.length) : Cond.code (ji_m k).1 (ji_m k).2.1 (ji_m k).2.2.1 (ji_m k).2.2.2.1 ∈ ji_tt ∧ Cond.initialized (ji_m k).1.cls ∈ ji_tt ∧ ji_nm (ji_m k).2.2.2.2 = (ji_m k).1.cls ∧ plainName (ji_m k).1.cls = true ∧ (ji_m k).2.2.1 ≤ 150 ∧ (ji_m k).1.cls ≠ "java/lang/invoke/MethodHandle" ∧ (ji_m k).1.cls ≠ "java/lang/invoke/VarHandle" := by
  have hk2 : k < ji_mp.length := by rw [← ji_mlen]; exact hk
  have hz : (ji_ms.zip ji_mp)[k]? = some (ji_ms[k], ji_mp[k]) := by
    rw [List.getElem?_zip_eq_some]
    exact ⟨List.getElem?_eq_getElem hk, List.getElem?_eq_getElem hk2⟩
  have h := List.all_eq_true.mp ji_mall _ (List.mem_of_getElem? hz)
  have hc : ji_w ji_mp[k].1 = some (.code ji_ms[k].1 ji_ms[k].2.1 ji_ms[k].2.2.1 ji_ms[k].2.2.2.1) := ji_mcall _ (List.mem_of_getElem? hz)
  have e : ji_m k = ji_ms[k] := by
    unfold ji_m
    rw [List.getD_eq_getElem?_getD, List.getElem?_eq_getElem hk, Option.getD_some]
    try rfl
  rw [e]
  simp only [ji_mok, Bool.and_eq_true, decide_eq_true_eq] at h
  obtain ⟨⟨⟨⟨⟨h2, h3⟩, h4⟩, h5⟩, h6⟩, h7⟩ := h
  exact ⟨ji_tt_in hc rfl, ji_is1_in h2, h3, h4, h5, h6, h7⟩
/-- fields -/
def ji_fok (e : Nat × Nat × Nat × Nat × Nat × Nat) : Bool :=
  match ji_cl[e.2.2.1]? with
  | none => false
  | some q => decide (e.2.2.2.1 < q.2.2) && (if e.2.2.2.2.1 = 0 then ji_is1 e.2.2.2.2.2 (.fieldLink (ji_nm e.1) e.2.1 (q.2.1 e.2.2.2.1).1 (q.2.1 e.2.2.2.1).2.1 (q.2.1 e.2.2.2.1).2.2.1)
    else decide (ji_nw[e.2.2.2.2.2]? = some (.fieldLinkNest (ji_nm e.1) e.2.1 (q.2.1 e.2.2.2.1).1 (q.2.1 e.2.2.2.1).2.1 (q.2.1 e.2.2.2.1).2.2.1 "MudLibrary")))
theorem ji_fall : ji_fl.all ji_fok = true := by decide +kernel
theorem ji_nwin : ∀ w ∈ ji_nw, w ∈ lw_tbl := by decide +kernel
def ji_ncl (c : Nat) : Nat := match ji_cl[c]? with | some q => q.2.2 | none => 0
def ji_fty (c k : Nat) : Nat := (ji_fk.getD c []).getD k 0
/-- the classes: the words of their fields, names apart, types -/
def ji_lok (q : (vw_C × List Nat) × (Nat → FieldType) × List Nat) : Bool :=
  decide (q.1.1.2.2 = q.1.2.length) && decide (q.1.1.2.2 = q.2.2.length) &&
  (List.range q.1.1.2.2).all (fun k => ji_is1 (q.1.2.getD k 0) (u_lay q.1.1.1 q.1.1.2.1 k) && decide (parseFieldDescriptor (q.1.1.2.1 k).2.2.1 = some (q.2.1 k)) && decide ((q.1.1.2.1 k).1 = q.1.1.1) &&
    (match q.2.1 k with | .int => decide (q.2.2.getD k 0 = 0) | .long => decide (q.2.2.getD k 0 = 1) | .object _ => decide (q.2.2.getD k 0 = 2) | .array _ => decide (q.2.2.getD k 0 = 2) | _ => false) &&
    (List.range q.1.1.2.2).all (fun j => decide (j = k) || decide ((q.1.1.2.1 k).2.1 ≠ (q.1.1.2.1 j).2.1)))
theorem ji_lall : ((ji_cl.zip ji_lay).zip (ji_ty.zip ji_fk)).all ji_lok = true := by decide +kernel
theorem ji_llen : ji_cl.length = ji_lay.length ∧ ji_cl.length = ji_ty.length ∧ ji_cl.length = ji_fk.length := by decide +kernel
/-- calls -/
def ji_cok (e : Nat × Nat × Nat × Nat × Nat × Nat × Nat × Nat × Nat × Nat) : Bool :=
  match e with
  | (ow, ix, kd, y, n, rc, a, b, c, d) =>
    if kd = 5 then ji_is1 a (.methodLink (ji_nm ow) ix objectInit) && ji_is1 b (.instanceMethod objectInit) && ji_is1 c (.code objectInit ⟨#[0xb1]⟩ 1 none)
    else if kd = 6 then ji_is1 a (.methodLink (ji_nm ow) ix arraycopyName) && ji_is1 b (.native arraycopyName) && ji_is1 c (.static arraycopyName) && ji_is1 d (.initialized "java/lang/System")
    else if kd = 7 then ji_is1 a (.methodLink (ji_nm ow) ix Lib.Math.max.name) && ji_is1 b (.static Lib.Math.max.name) && ji_is1 c (.initialized "java/lang/Math") && ji_is1 d (.code Lib.Math.max.name Lib.Math.max.code 2 (some .int))
    else if kd = 8 then ji_is1 a (.methodLink (ji_nm ow) ix Lib.Math.min.name) && ji_is1 b (.static Lib.Math.min.name) && ji_is1 c (.initialized "java/lang/Math") && ji_is1 d (.code Lib.Math.min.name Lib.Math.min.code 2 (some .int))
    else if kd = 9 then ji_is1 a (.methodLink (ji_nm ow) ix Lib.MathLoose.min_long.x) && ji_is1 b (.static Lib.MathLoose.min_long.x) && ji_is1 c (.initialized "java/lang/Math") && ji_is1 d (.code Lib.MathLoose.min_long.x Lib.MathLoose.min_long.code 4 (some .long))
    else decide (y < ji_ms.length) && decide ((parseMethodDescriptor (ji_m y).1.desc).map (fun d => d.parameters.length) = some n) &&
      (if kd = 0 then decide (ji_nm rc = (ji_m y).1.cls) && ji_is1 a (.methodLink (ji_nm ow) ix (ji_m y).1) && ji_is1 b (.instanceMethod (ji_m y).1) && ji_is1 c (.selects (ji_m y).1.cls (ji_m y).1 (ji_m y).1) && ji_is1 d (.initialized (ji_m y).1.cls)
      else if kd = 1 then ji_is1 a (.methodLink (ji_nm ow) ix (ji_m y).1) && ji_is1 b (.static (ji_m y).1) && ji_is1 c (.initialized (ji_m y).1.cls)
      else if kd = 2 then decide (ji_nm rc = (ji_m y).1.cls) && ji_is1 a (.methodLink (ji_nm ow) ix (ji_m y).1) && ji_is1 b (.instanceMethod (ji_m y).1) && ji_is1 c (.initialized (ji_m y).1.cls) && decide ((ji_m y).1.name = "<init>") && decide ((ji_m y).2.2.2.1 = none)
      else if kd = 3 then decide (ji_nm rc = (ji_m y).1.cls) && decide (ji_nw[a]? = some (.methodLinkNest (ji_nm ow) ix (ji_m y).1 "MudLibrary")) && ji_is1 b (.instanceMethod (ji_m y).1) && ji_is1 c (.initialized (ji_m y).1.cls) && decide ((ji_m y).1.name = "<init>") && decide ((ji_m y).2.2.2.1 = none)
      else decide (kd = 4) && decide (ji_nw[a]? = some (.methodLinkNest (ji_nm ow) ix (ji_m y).1 "MudLibrary")) && ji_is1 b (.static (ji_m y).1) && ji_is1 c (.initialized (ji_m y).1.cls))
theorem ji_call : ji_cs.all ji_cok = true := by decide +kernel
/-- what is made -/
def ji_nok (e : Nat × Nat × Nat × Nat × Nat × Nat) : Bool :=
  match ji_cl[e.2.2.1]? with
  | none => false
  | some q => ji_is1 e.2.2.2.1 (.classLink (ji_nm e.1) e.2.1 q.1) && ji_is1 e.2.2.2.2.1 (.instantiable q.1 q.2.2) && ji_is1 e.2.2.2.2.2 (.initialized q.1)
theorem ji_nall : ji_nt.all ji_nok = true := by decide +kernel
theorem ji_mtall : ji_mt.all (fun e => ji_is1 e.2.2 (.classLink (ji_nm e.1) e.2.1 "[[I")) = true := by decide +kernel
theorem ji_pIok : ji_is1 ji_pI (.arrayClass .int) = true := by decide +kernel
theorem ji_pQok : ji_w ji_pQ = some (.arrayOver (.array .int)) := by decide +kernel
theorem ji_pSok : ji_w ji_pS = some (.arrayOver (.object "MudLibrary$Stock")) := by decide +kernel
/-- constants, static fields, the fields of texts -/
def ji_ctok (e : Nat × Nat × Value × Nat) : Bool :=
  match e.2.2.1 with
  | .int v => ji_is1 e.2.2.2 (.constant (ji_nm e.1) e.2.1 v)
  | .long v => ji_is1 e.2.2.2 (.constantLong (ji_nm e.1) e.2.1 v)
  | .retAddr (k + 1) => (match ji_st[k]? with | some t => decide (t.1 = ji_nm e.1) && decide (t.2.1 = e.2.1) && decide (ji_w e.2.2.2 = some (.stringRef t.1 t.2.1 t.2.2)) | none => false)
  | _ => false
theorem ji_ctall : ji_ct.all ji_ctok = true := by decide +kernel
def ji_sgok (e : Nat × Nat × Value × Nat) : Bool :=
  match e.2.2.1 with
  | .retAddr 0 => ji_is1 e.2.2.2 (.fieldLink (ji_nm e.1) e.2.1 "MudLibrary$Stock" "UNDER" "[I")
  | .int v => decide (v = 1) && ji_is1 e.2.2.2 (.fieldLink (ji_nm e.1) e.2.1 "java/lang/String" "COMPACT_STRINGS" "Z")
  | .retAddr k => decide (k = 7) && ji_is1 e.2.2.2 (.fieldLink (ji_nm e.1) e.2.1 "jdk/internal/util/Preconditions" "SIOOBE_FORMATTER" "Ljava/util/function/BiFunction;")
  | _ => false
theorem ji_sgall : ji_sg.all ji_sgok = true := by decide +kernel
def ji_xfok (e : Nat × Nat × Nat) : Bool :=
  if e.2.1 = 0 then ji_is1 e.2.2 (.fieldLink "java/lang/String" e.1 "java/lang/String" "value" "[B") else decide (e.2.1 = 1) && ji_is1 e.2.2 (.fieldLink "java/lang/String" e.1 "java/lang/String" "coder" "B")
theorem ji_xfall : ji_xf.all ji_xfok = true := by decide +kernel
