/-! ===== one instruction of the interpreter is one of the machine's ===== -/
def ji_ln : Instr → Nat
  | .iload _ => 2 | .lload _ => 2 | .aload _ => 2 | .istore _ => 2 | .lstore _ => 2 | .astore _ => 2
  | .bipush _ => 2 | .sipush _ => 3 | .ldc _ => 2 | .ldc_w _ => 3 | .ldc2_w _ => 3
  | .getstatic _ => 3 | .getfield _ => 3 | .putfield _ => 3 | .new _ => 3 | .newarray _ => 2 | .anewarray _ => 3 | .multianewarray _ _ => 4
  | .iinc _ _ => 3 | .ifCond _ _ => 3 | .if_icmp _ _ => 3 | .goto _ => 3
  | .tableswitch _ _ _ _ => 0 | .lookupswitch _ _ => 0
  | .invokevirtual _ => 3 | .invokestatic _ => 3 | .invokespecial _ => 3
  | _ => 1
theorem ji_lnall : ji_is.all (fun l => l.all (fun o => match o with | some i => decide (ji_ln i.1 = 0) || decide (i.2 = ji_ln i.1) | none => true)) = true := by decide +kernel
theorem ji_lnok {k pc : Nat} {x : Instr × Nat} (h : ji_ins k pc = some x) : ji_ln x.1 = 0 ∨ x.2 = ji_ln x.1 := by
  unfold ji_ins at h
  rw [List.getD_eq_getElem?_getD, List.getD_eq_getElem?_getD] at h
  cases hk : ji_is[k]? with
  | none => rw [hk] at h; simp at h
  | some l =>
    rw [hk, Option.getD_some] at h
    cases hp : l[pc]? with
    | none => rw [hp] at h; cases h
    | some o =>
      rw [hp, Option.getD_some] at h
      subst h
      have h1 := List.all_eq_true.mp ji_lnall l (List.mem_of_getElem? hk)
      have h2 := List.all_eq_true.mp h1 _ (List.mem_of_getElem? hp)
      simpa using h2
def ji_ws (k : Nat) : List Cond := Cond.code (ji_m k).1 (ji_m k).2.1 (ji_m k).2.2.1 (ji_m k).2.2.2.1 :: ji_tt
def ji_Cx (p : Program) (R : Room) (s : State) (m : MethodId) (args : Array Value) (meth : Method) (c : Code) (al : Bool) (b : Nat) (x : Nat → Value) (D : va_G) (G : ji_G) (d k : Nat) (M0 M1 : ji_M) : Prop :=
  p.tables.exec = Jvm.exec ∧ c.code = (ji_m k).2.1 ∧ meth.sig.returnType = (ji_m k).2.2.2.1 ∧ c.maxLocals = (ji_m k).2.2.1 ∧ s.vm.findClass (ji_nm (ji_ow k)) = some m.cls ∧ (∀ w ∈ ji_ws k, w.before args s = true) ∧ meth.locks = false ∧ meth.name = (ji_m k).1.name ∧
  ji_K D G x s ∧ ji_XK x (ji_A b M0.1.length s.heap.size) s s.heap ∧ ji_xo x ∧ (R.frames = d ∧ R.locals = 200 * d ∧ R.cells = M1.1.length - M0.1.length ∧ R.slots = ji_sl M1.1 - ji_sl M0.1) ∧ b + M0.1.length ≤ s.heap.size ∧ (al = true → s.heap.size = b + M0.1.length) ∧ 1 ≤ d
def ji_Iv (s : State) (al : Bool) (b : Nat) (D : va_G) (G : ji_G) (M0 M : ji_M) (H : Heap) (locs : List Loc) (cells slots : Nat) : Prop :=
  va_P D ji_cl (ji_Wd b G M) H ∧ va_S (ji_A b M0.1.length s.heap.size) s.heap H locs ∧ M0.1 <+: M.1 ∧ (al = false → M.1 = M0.1) ∧ cells + M0.1.length = M.1.length ∧ slots + ji_sl M0.1 = ji_sl M.1
def ji_Kk (p : Program) (l : Launch) (e : Env) (R : Room) (s : State) (m : MethodId) (args : Array Value) (below : List Frame) (meth : Method) (c : Code) (Q : State → Prop) (al : Bool) (b : Nat) (x : Nat → Value) (D : va_G) (G : ji_G) (k : Nat) (M0 : ji_M) (S : ji_S) : Prop :=
  ∀ (H : Heap) (locs : List Loc) (cells slots : Nat) (ls : Array Slot), ji_Iv s al b D G M0 S.2.1 H locs cells slots → ji_Lv b x ls (ji_m k).2.2.1 S.2.2.1 → W p l e R s m args below meth c H locs cells slots Q (F0 m S.1 ls (S.2.2.2.map (ji_tr b x)))
section JIS
variable {p : Program} {l : Launch} {e : Env} {R : Room} {s : State} {m : MethodId} {args : Array Value} {below : List Frame} {meth : Method} {c : Code} {Q : State → Prop}
variable {al : Bool} {b : Nat} {x : Nat → Value} {D : va_G} {G : ji_G} {d k : Nat} {M0 M1 M : ji_M} {H : Heap} {locs : List Loc} {cells slots pc len : Nat} {lv : ji_L} {st : List Value} {S : ji_S}
theorem ji_Iv_D (X : ji_Cx p R s m args meth c al b x D G d k M0 M1) (hI : ji_Iv s al b D G M0 M H locs cells slots) : va_D (ji_A b M0.1.length s.heap.size) (ji_Wd b G M) := by
  obtain ⟨-, -, -, -, -, -, -, -, -, -, -, -, -, hal, -⟩ := X
  obtain ⟨hP, hS, hpre, h2, -⟩ := hI
  refine ⟨fun i j q q' hi hj hq => ?_, fun i q hi => ?_⟩
  · obtain ⟨κ, -, rfl⟩ := ji_Wd_of hi
    obtain ⟨κ', -, rfl⟩ := ji_Wd_of hj
    exact Nat.add_left_cancel hq
  · obtain ⟨κ, hk, rfl⟩ := ji_Wd_of hi
    by_cases hl : i < M0.1.length
    · exact Or.inl ⟨Nat.le_add_right _ _, Nat.add_lt_add_left hl b⟩
    · refine Or.inr ?_
      cases ha : al with
      | true => have := hal ha; omega
      | false =>
        have e := h2 ha
        unfold ji_kd at hk
        rw [e] at hk
        exact absurd (List.getElem?_eq_some_iff.mp hk).1 hl
/-- an instruction that leaves memory as it is, and pushes or pops -/
theorem ji_st_iload (X : ji_Cx p R s m args meth c al b x D G d k M0 M1) {i : Nat} (hd : decode (ji_m k).2.1 pc = .ok (.iload i, 2)) (h : ji_ld (lv.getD i none) ji_isI (pc + 2) M lv st = .inl S) (kk : ji_Kk p l e R s m args below meth c Q al b x D G k M0 S) : ji_Kk p l e R s m args below meth c Q al b x D G k M0 (pc, M, lv, st) := by
  intro H locs cells slots ls hI hL
  obtain ⟨v, hv, ht, rfl⟩ := ji_ld_inv h
  have hg := hL.get hv
  cases v with
  | int z => exact lv_iload X.1 X.2.1 hd hg (kk H locs cells slots ls hI hL)
  | _ => cases ht
theorem ji_st_iload_n (X : ji_Cx p R s m args meth c al b x D G d k M0 M1) {i : Fin 4} (hd : decode (ji_m k).2.1 pc = .ok (.iload_n i, 1)) (h : ji_ld (lv.getD i.val none) ji_isI (pc + 1) M lv st = .inl S) (kk : ji_Kk p l e R s m args below meth c Q al b x D G k M0 S) : ji_Kk p l e R s m args below meth c Q al b x D G k M0 (pc, M, lv, st) := by
  intro H locs cells slots ls hI hL
  obtain ⟨v, hv, ht, rfl⟩ := ji_ld_inv h
  have hg := hL.get hv
  cases v with
  | int z => exact lv_iload_n X.1 X.2.1 hd rfl hg (kk H locs cells slots ls hI hL)
  | _ => cases ht
theorem ji_st_lload (X : ji_Cx p R s m args meth c al b x D G d k M0 M1) {i : Nat} (hd : decode (ji_m k).2.1 pc = .ok (.lload i, 2)) (h : ji_ld (lv.getD i none) ji_isL (pc + 2) M lv st = .inl S) (kk : ji_Kk p l e R s m args below meth c Q al b x D G k M0 S) : ji_Kk p l e R s m args below meth c Q al b x D G k M0 (pc, M, lv, st) := by
  intro H locs cells slots ls hI hL
  obtain ⟨v, hv, ht, rfl⟩ := ji_ld_inv h
  have hg := hL.get hv
  cases v with
  | long z => exact lv_lload X.1 X.2.1 hd hg (kk H locs cells slots ls hI hL)
  | _ => cases ht
theorem ji_st_lload_n (X : ji_Cx p R s m args meth c al b x D G d k M0 M1) {i : Fin 4} (hd : decode (ji_m k).2.1 pc = .ok (.lload_n i, 1)) (h : ji_ld (lv.getD i.val none) ji_isL (pc + 1) M lv st = .inl S) (kk : ji_Kk p l e R s m args below meth c Q al b x D G k M0 S) : ji_Kk p l e R s m args below meth c Q al b x D G k M0 (pc, M, lv, st) := by
  intro H locs cells slots ls hI hL
  obtain ⟨v, hv, ht, rfl⟩ := ji_ld_inv h
  have hg := hL.get hv
  cases v with
  | long z => exact lv_lload_n X.1 X.2.1 hd rfl hg (kk H locs cells slots ls hI hL)
  | _ => cases ht
theorem ji_st_aload (X : ji_Cx p R s m args meth c al b x D G d k M0 M1) {i : Nat} (hd : decode (ji_m k).2.1 pc = .ok (.aload i, 2)) (h : ji_ld (lv.getD i none) ji_isA (pc + 2) M lv st = .inl S) (kk : ji_Kk p l e R s m args below meth c Q al b x D G k M0 S) : ji_Kk p l e R s m args below meth c Q al b x D G k M0 (pc, M, lv, st) := by
  intro H locs cells slots ls hI hL
  obtain ⟨v, hv, ht, rfl⟩ := ji_ld_inv h
  have hg := hL.get hv
  have K := kk H locs cells slots ls hI hL
  have hxo := X.2.2.2.2.2.2.2.2.2.2.1
  cases v with
  | ref z => exact lv_aload X.1 X.2.1 hd hg K
  | retAddr t =>
    have K : W p l e R s m args below meth c H locs cells slots Q (F0 m (pc + 2) ls (x t :: st.map (ji_tr b x))) := K
    have hg : ls[i]? = some (.val (x t)) := hg
    rcases hxo t with e | ⟨a, e⟩
    · rw [e] at hg K
      exact lv_aloadN X.1 X.2.1 hd hg K
    · rw [e] at hg K
      exact lv_aload X.1 X.2.1 hd hg K
  | _ => cases ht
theorem ji_st_aload_n (X : ji_Cx p R s m args meth c al b x D G d k M0 M1) {i : Fin 4} (hd : decode (ji_m k).2.1 pc = .ok (.aload_n i, 1)) (h : ji_ld (lv.getD i.val none) ji_isA (pc + 1) M lv st = .inl S) (kk : ji_Kk p l e R s m args below meth c Q al b x D G k M0 S) : ji_Kk p l e R s m args below meth c Q al b x D G k M0 (pc, M, lv, st) := by
  intro H locs cells slots ls hI hL
  obtain ⟨v, hv, ht, rfl⟩ := ji_ld_inv h
  have hg := hL.get hv
  have K := kk H locs cells slots ls hI hL
  have hxo := X.2.2.2.2.2.2.2.2.2.2.1
  cases v with
  | ref z => exact lv_aload_n X.1 X.2.1 hd rfl hg K
  | retAddr t =>
    have K : W p l e R s m args below meth c H locs cells slots Q (F0 m (pc + 1) ls (x t :: st.map (ji_tr b x))) := K
    have hg : ls[i.val]? = some (.val (x t)) := hg
    rcases hxo t with e | ⟨a, e⟩
    · rw [e] at hg K
      exact lv_aload_nN X.1 X.2.1 hd rfl hg K
    · rw [e] at hg K
      exact lv_aload_n X.1 X.2.1 hd rfl hg K
  | _ => cases ht
theorem ji_st_istore (X : ji_Cx p R s m args meth c al b x D G d k M0 M1) {i : Nat} (hd : decode (ji_m k).2.1 pc = .ok (.istore i, 2)) (h : ji_sI1 i (pc + 2) M lv st = .inl S) (kk : ji_Kk p l e R s m args below meth c Q al b x D G k M0 S) : ji_Kk p l e R s m args below meth c Q al b x D G k M0 (pc, M, lv, st) := by
  intro H locs cells slots ls hI hL
  obtain ⟨z, r, rfl, hi, rfl⟩ := ji_sI1_inv h
  exact lv_istore X.1 X.2.1 hd hL.has (by rw [← hL.2.2.1]; exact hi) rfl (fun ls' h' => kk H locs cells slots ls' hI (hL.st1 (v := .int z) X.2.2.2.2.2.2.2.2.2.2.1 hi h'))
theorem ji_st_istore_n (X : ji_Cx p R s m args meth c al b x D G d k M0 M1) {i : Fin 4} (hd : decode (ji_m k).2.1 pc = .ok (.istore_n i, 1)) (h : ji_sI1 i.val (pc + 1) M lv st = .inl S) (kk : ji_Kk p l e R s m args below meth c Q al b x D G k M0 S) : ji_Kk p l e R s m args below meth c Q al b x D G k M0 (pc, M, lv, st) := by
  intro H locs cells slots ls hI hL
  obtain ⟨z, r, rfl, hi, rfl⟩ := ji_sI1_inv h
  exact lv_istore_n X.1 X.2.1 hd rfl hL.has (by rw [← hL.2.2.1]; exact hi) rfl (fun ls' h' => kk H locs cells slots ls' hI (hL.st1 (v := .int z) X.2.2.2.2.2.2.2.2.2.2.1 hi h'))
theorem ji_st_lstore (X : ji_Cx p R s m args meth c al b x D G d k M0 M1) {i : Nat} (hd : decode (ji_m k).2.1 pc = .ok (.lstore i, 2)) (h : ji_sL1 i (pc + 2) M lv st = .inl S) (kk : ji_Kk p l e R s m args below meth c Q al b x D G k M0 S) : ji_Kk p l e R s m args below meth c Q al b x D G k M0 (pc, M, lv, st) := by
  intro H locs cells slots ls hI hL
  obtain ⟨z, r, rfl, hi, rfl⟩ := ji_sL1_inv h
  exact lv_lstore X.1 X.2.1 hd hL.has (by rw [← hL.2.2.1]; exact hi) rfl (fun ls' h' => kk H locs cells slots ls' hI (hL.st2 (v := .long z) X.2.2.2.2.2.2.2.2.2.2.1 hi h'))
theorem ji_st_lstore_n (X : ji_Cx p R s m args meth c al b x D G d k M0 M1) {i : Fin 4} (hd : decode (ji_m k).2.1 pc = .ok (.lstore_n i, 1)) (h : ji_sL1 i.val (pc + 1) M lv st = .inl S) (kk : ji_Kk p l e R s m args below meth c Q al b x D G k M0 S) : ji_Kk p l e R s m args below meth c Q al b x D G k M0 (pc, M, lv, st) := by
  intro H locs cells slots ls hI hL
  obtain ⟨z, r, rfl, hi, rfl⟩ := ji_sL1_inv h
  exact lv_lstore_n X.1 X.2.1 hd rfl hL.has (by rw [← hL.2.2.1]; exact hi) rfl (fun ls' h' => kk H locs cells slots ls' hI (hL.st2 (v := .long z) X.2.2.2.2.2.2.2.2.2.2.1 hi h'))
theorem ji_st_astore (X : ji_Cx p R s m args meth c al b x D G d k M0 M1) {i : Nat} (hd : decode (ji_m k).2.1 pc = .ok (.astore i, 2)) (h : ji_sA1 i (pc + 2) M lv st = .inl S) (kk : ji_Kk p l e R s m args below meth c Q al b x D G k M0 S) : ji_Kk p l e R s m args below meth c Q al b x D G k M0 (pc, M, lv, st) := by
  intro H locs cells slots ls hI hL
  obtain ⟨z, r, rfl, hi, rfl⟩ := ji_sA1_inv h
  exact lv_astore X.1 X.2.1 hd hL.has (by rw [← hL.2.2.1]; exact hi) rfl (fun ls' h' => kk H locs cells slots ls' hI (hL.st1 (v := .ref z) X.2.2.2.2.2.2.2.2.2.2.1 hi h'))
theorem ji_st_astore_n (X : ji_Cx p R s m args meth c al b x D G d k M0 M1) {i : Fin 4} (hd : decode (ji_m k).2.1 pc = .ok (.astore_n i, 1)) (h : ji_sA1 i.val (pc + 1) M lv st = .inl S) (kk : ji_Kk p l e R s m args below meth c Q al b x D G k M0 S) : ji_Kk p l e R s m args below meth c Q al b x D G k M0 (pc, M, lv, st) := by
  intro H locs cells slots ls hI hL
  obtain ⟨z, r, rfl, hi, rfl⟩ := ji_sA1_inv h
  exact lv_astore_n X.1 X.2.1 hd rfl hL.has (by rw [← hL.2.2.1]; exact hi) rfl (fun ls' h' => kk H locs cells slots ls' hI (hL.st1 (v := .ref z) X.2.2.2.2.2.2.2.2.2.2.1 hi h'))
theorem ji_st_iinc (X : ji_Cx p R s m args meth c al b x D G d k M0 M1) {i : Nat} {n : Int} (hd : decode (ji_m k).2.1 pc = .ok (.iinc i n, 3)) (h : ji_ic i n pc M lv st = .inl S) (kk : ji_Kk p l e R s m args below meth c Q al b x D G k M0 S) : ji_Kk p l e R s m args below meth c Q al b x D G k M0 (pc, M, lv, st) := by
  intro H locs cells slots ls hI hL
  obtain ⟨z, hz, hi, rfl⟩ := ji_ic_inv h
  obtain ⟨j, hj⟩ := List.getElem?_of_mem (ji_prs_mem (b := b) (x := x) (ji_getD hz))
  exact lv_iinc (v := z + Int32.ofInt n) X.1 X.2.1 hd hL.has (k := j) hj rfl (by rw [← hL.2.2.1]; exact hi) rfl (fun ls' h' => kk H locs cells slots ls' hI (hL.st1 (v := .int (z + Int32.ofInt n)) X.2.2.2.2.2.2.2.2.2.2.1 hi h'))
theorem ji_if_t {cn : ClassFile.Cond} {u v : Int32} : ji_if cn u v True False ↔ (match cn with | .eq => u = v | .ne => ¬ u = v | .lt => u < v | .ge => v ≤ u | .gt => v < u | .le => u ≤ v) := by
  cases cn <;> simp [ji_if, Int32.not_lt]
theorem ji_st_ifz (X : ji_Cx p R s m args meth c al b x D G d k M0 M1) {cn : ClassFile.Cond} {off : Int} (hd : decode (ji_m k).2.1 pc = .ok (.ifCond cn off, 3)) (h : ji_ifz cn off pc M lv st = .inl S) (kk : ji_Kk p l e R s m args below meth c Q al b x D G k M0 S) : ji_Kk p l e R s m args below meth c Q al b x D G k M0 (pc, M, lv, st) := by
  intro H locs cells slots ls hI hL
  unfold ji_ifz at h
  split at h
  · split at h
    · rename_i hpos
      have ht : (pc : Int) + off = (((pc : Int) + off).toNat : Nat) := by omega
      rcases ji_if_inv h with ⟨hc, h⟩ | ⟨hc, h⟩
      · have e := ji_go_inv h
        subst e
        have K := kk H locs cells slots ls hI hL
        rw [ji_if_t] at hc
        cases cn <;> dsimp only at hc
        · exact lv_if_eq X.1 X.2.1 hd ht (fun _ => K) (fun q => absurd hc q)
        · exact lv_if_ne X.1 X.2.1 hd ht (fun _ => K) (fun q => absurd q hc)
        · exact lv_if_lt X.1 X.2.1 hd ht (fun _ => K) (fun q => absurd hc q)
        · exact lv_if_ge X.1 X.2.1 hd ht (fun _ => K) (fun q => absurd hc q)
        · exact lv_if_gt X.1 X.2.1 hd ht (fun _ => K) (fun q => absurd hc q)
        · exact lv_if_le X.1 X.2.1 hd ht (fun _ => K) (fun q => absurd hc q)
      · have e := ji_go_inv h
        subst e
        have K := kk H locs cells slots ls hI hL
        rw [ji_if_t] at hc
        cases cn <;> dsimp only at hc
        · exact lv_if_eq X.1 X.2.1 hd ht (fun q => absurd q hc) (fun _ => K)
        · exact lv_if_ne X.1 X.2.1 hd ht (fun q => absurd q hc) (fun _ => K)
        · exact lv_if_lt X.1 X.2.1 hd ht (fun q => absurd q hc) (fun _ => K)
        · exact lv_if_ge X.1 X.2.1 hd ht (fun q => absurd q hc) (fun _ => K)
        · exact lv_if_gt X.1 X.2.1 hd ht (fun q => absurd q hc) (fun _ => K)
        · exact lv_if_le X.1 X.2.1 hd ht (fun q => absurd q hc) (fun _ => K)
    · cases h
  · cases h
theorem ji_st_ifc (X : ji_Cx p R s m args meth c al b x D G d k M0 M1) {cn : ClassFile.Cond} {off : Int} (hd : decode (ji_m k).2.1 pc = .ok (.if_icmp cn off, 3)) (h : ji_ifc cn off pc M lv st = .inl S) (kk : ji_Kk p l e R s m args below meth c Q al b x D G k M0 S) : ji_Kk p l e R s m args below meth c Q al b x D G k M0 (pc, M, lv, st) := by
  intro H locs cells slots ls hI hL
  unfold ji_ifc at h
  split at h
  · split at h
    · rename_i hpos
      have ht : (pc : Int) + off = (((pc : Int) + off).toNat : Nat) := by omega
      rcases ji_if_inv h with ⟨hc, h⟩ | ⟨hc, h⟩
      · have e := ji_go_inv h
        subst e
        have K := kk H locs cells slots ls hI hL
        rw [ji_if_t] at hc
        cases cn <;> dsimp only at hc
        · exact lv_icmp_eq X.1 X.2.1 hd ht (fun _ => K) (fun q => absurd hc q)
        · exact lv_icmp_ne X.1 X.2.1 hd ht (fun _ => K) (fun q => absurd q hc)
        · exact lv_icmp_lt X.1 X.2.1 hd ht (fun _ => K) (fun q => absurd hc q)
        · exact lv_icmp_ge X.1 X.2.1 hd ht (fun _ => K) (fun q => absurd hc q)
        · exact lv_icmp_gt X.1 X.2.1 hd ht (fun _ => K) (fun q => absurd hc q)
        · exact lv_icmp_le X.1 X.2.1 hd ht (fun _ => K) (fun q => absurd hc q)
      · have e := ji_go_inv h
        subst e
        have K := kk H locs cells slots ls hI hL
        rw [ji_if_t] at hc
        cases cn <;> dsimp only at hc
        · exact lv_icmp_eq X.1 X.2.1 hd ht (fun q => absurd q hc) (fun _ => K)
        · exact lv_icmp_ne X.1 X.2.1 hd ht (fun q => absurd q hc) (fun _ => K)
        · exact lv_icmp_lt X.1 X.2.1 hd ht (fun q => absurd q hc) (fun _ => K)
        · exact lv_icmp_ge X.1 X.2.1 hd ht (fun q => absurd q hc) (fun _ => K)
        · exact lv_icmp_gt X.1 X.2.1 hd ht (fun q => absurd q hc) (fun _ => K)
        · exact lv_icmp_le X.1 X.2.1 hd ht (fun q => absurd q hc) (fun _ => K)
    · cases h
  · cases h
theorem ji_st_goto (X : ji_Cx p R s m args meth c al b x D G d k M0 M1) {off : Int} (hd : decode (ji_m k).2.1 pc = .ok (.goto off, 3)) (h : ji_jm pc off M lv st = .inl S) (kk : ji_Kk p l e R s m args below meth c Q al b x D G k M0 S) : ji_Kk p l e R s m args below meth c Q al b x D G k M0 (pc, M, lv, st) := by
  intro H locs cells slots ls hI hL
  obtain ⟨t, ht, rfl⟩ := ji_jm_inv h
  exact lv_goto X.1 X.2.1 hd ht (kk H locs cells slots ls hI hL)
theorem ji_st_iconst (X : ji_Cx p R s m args meth c al b x D G d k M0 M1) {n : Int} (hd : decode (ji_m k).2.1 pc = .ok (.iconst n, 1)) (h : ji_go (pc + 1) M lv (.int (Int32.ofInt n) :: st) = .inl S) (kk : ji_Kk p l e R s m args below meth c Q al b x D G k M0 S) : ji_Kk p l e R s m args below meth c Q al b x D G k M0 (pc, M, lv, st) := by
  intro H locs cells slots ls hI hL
  have e := ji_go_inv h
  subst e
  exact lv_iconst X.1 X.2.1 hd rfl (kk H locs cells slots ls hI hL)
theorem ji_st_bipush (X : ji_Cx p R s m args meth c al b x D G d k M0 M1) {n : Int} (hd : decode (ji_m k).2.1 pc = .ok (.bipush n, 2)) (h : ji_go (pc + 2) M lv (.int (Int8.ofInt n).toInt32 :: st) = .inl S) (kk : ji_Kk p l e R s m args below meth c Q al b x D G k M0 S) : ji_Kk p l e R s m args below meth c Q al b x D G k M0 (pc, M, lv, st) := by
  intro H locs cells slots ls hI hL
  have e := ji_go_inv h
  subst e
  exact lv_bipush X.1 X.2.1 hd rfl (kk H locs cells slots ls hI hL)
theorem ji_st_sipush (X : ji_Cx p R s m args meth c al b x D G d k M0 M1) {n : Int} (hd : decode (ji_m k).2.1 pc = .ok (.sipush n, 3)) (h : ji_go (pc + 3) M lv (.int (Int16.ofInt n).toInt32 :: st) = .inl S) (kk : ji_Kk p l e R s m args below meth c Q al b x D G k M0 S) : ji_Kk p l e R s m args below meth c Q al b x D G k M0 (pc, M, lv, st) := by
  intro H locs cells slots ls hI hL
  have e := ji_go_inv h
  subst e
  exact lv_sipush X.1 X.2.1 hd rfl (kk H locs cells slots ls hI hL)
theorem ji_st_lconst (X : ji_Cx p R s m args meth c al b x D G d k M0 M1) {n : Fin 2} (hd : decode (ji_m k).2.1 pc = .ok (.lconst n, 1)) (h : ji_go (pc + 1) M lv (.long (Int64.ofNat n.val) :: st) = .inl S) (kk : ji_Kk p l e R s m args below meth c Q al b x D G k M0 S) : ji_Kk p l e R s m args below meth c Q al b x D G k M0 (pc, M, lv, st) := by
  intro H locs cells slots ls hI hL
  have e := ji_go_inv h
  subst e
  exact lv_lconst X.1 X.2.1 hd rfl (kk H locs cells slots ls hI hL)
theorem ji_st_iadd (X : ji_Cx p R s m args meth c al b x D G d k M0 M1) (hd : decode (ji_m k).2.1 pc = .ok (.iadd, 1)) (h : ji_bI (fun x y => x + y) (pc + 1) M lv st = .inl S) (kk : ji_Kk p l e R s m args below meth c Q al b x D G k M0 S) : ji_Kk p l e R s m args below meth c Q al b x D G k M0 (pc, M, lv, st) := by
  intro H locs cells slots ls hI hL
  obtain ⟨v, w, r, rfl, rfl⟩ := ji_bI_inv h
  exact lv_iadd X.1 X.2.1 hd (kk H locs cells slots ls hI hL)
theorem ji_st_isub (X : ji_Cx p R s m args meth c al b x D G d k M0 M1) (hd : decode (ji_m k).2.1 pc = .ok (.isub, 1)) (h : ji_bI (fun x y => x - y) (pc + 1) M lv st = .inl S) (kk : ji_Kk p l e R s m args below meth c Q al b x D G k M0 S) : ji_Kk p l e R s m args below meth c Q al b x D G k M0 (pc, M, lv, st) := by
  intro H locs cells slots ls hI hL
  obtain ⟨v, w, r, rfl, rfl⟩ := ji_bI_inv h
  exact lv_isub X.1 X.2.1 hd (kk H locs cells slots ls hI hL)
theorem ji_st_imul (X : ji_Cx p R s m args meth c al b x D G d k M0 M1) (hd : decode (ji_m k).2.1 pc = .ok (.imul, 1)) (h : ji_bI (fun x y => x * y) (pc + 1) M lv st = .inl S) (kk : ji_Kk p l e R s m args below meth c Q al b x D G k M0 S) : ji_Kk p l e R s m args below meth c Q al b x D G k M0 (pc, M, lv, st) := by
  intro H locs cells slots ls hI hL
  obtain ⟨v, w, r, rfl, rfl⟩ := ji_bI_inv h
  exact lv_imul X.1 X.2.1 hd (kk H locs cells slots ls hI hL)
theorem ji_st_iand (X : ji_Cx p R s m args meth c al b x D G d k M0 M1) (hd : decode (ji_m k).2.1 pc = .ok (.iand, 1)) (h : ji_bI (fun x y => x &&& y) (pc + 1) M lv st = .inl S) (kk : ji_Kk p l e R s m args below meth c Q al b x D G k M0 S) : ji_Kk p l e R s m args below meth c Q al b x D G k M0 (pc, M, lv, st) := by
  intro H locs cells slots ls hI hL
  obtain ⟨v, w, r, rfl, rfl⟩ := ji_bI_inv h
  exact lv_iand X.1 X.2.1 hd (kk H locs cells slots ls hI hL)
theorem ji_st_ior (X : ji_Cx p R s m args meth c al b x D G d k M0 M1) (hd : decode (ji_m k).2.1 pc = .ok (.ior, 1)) (h : ji_bI (fun x y => x ||| y) (pc + 1) M lv st = .inl S) (kk : ji_Kk p l e R s m args below meth c Q al b x D G k M0 S) : ji_Kk p l e R s m args below meth c Q al b x D G k M0 (pc, M, lv, st) := by
  intro H locs cells slots ls hI hL
  obtain ⟨v, w, r, rfl, rfl⟩ := ji_bI_inv h
  exact lv_ior X.1 X.2.1 hd (kk H locs cells slots ls hI hL)
theorem ji_st_ixor (X : ji_Cx p R s m args meth c al b x D G d k M0 M1) (hd : decode (ji_m k).2.1 pc = .ok (.ixor, 1)) (h : ji_bI (fun x y => x ^^^ y) (pc + 1) M lv st = .inl S) (kk : ji_Kk p l e R s m args below meth c Q al b x D G k M0 S) : ji_Kk p l e R s m args below meth c Q al b x D G k M0 (pc, M, lv, st) := by
  intro H locs cells slots ls hI hL
  obtain ⟨v, w, r, rfl, rfl⟩ := ji_bI_inv h
  exact lv_ixor X.1 X.2.1 hd (kk H locs cells slots ls hI hL)
theorem ji_st_ishl (X : ji_Cx p R s m args meth c al b x D G d k M0 M1) (hd : decode (ji_m k).2.1 pc = .ok (.ishl, 1)) (h : ji_bI (fun x y => x <<< (y &&& 31)) (pc + 1) M lv st = .inl S) (kk : ji_Kk p l e R s m args below meth c Q al b x D G k M0 S) : ji_Kk p l e R s m args below meth c Q al b x D G k M0 (pc, M, lv, st) := by
  intro H locs cells slots ls hI hL
  obtain ⟨v, w, r, rfl, rfl⟩ := ji_bI_inv h
  exact lv_ishl X.1 X.2.1 hd (kk H locs cells slots ls hI hL)
theorem ji_st_ishr (X : ji_Cx p R s m args meth c al b x D G d k M0 M1) (hd : decode (ji_m k).2.1 pc = .ok (.ishr, 1)) (h : ji_bI (fun x y => x >>> (y &&& 31)) (pc + 1) M lv st = .inl S) (kk : ji_Kk p l e R s m args below meth c Q al b x D G k M0 S) : ji_Kk p l e R s m args below meth c Q al b x D G k M0 (pc, M, lv, st) := by
  intro H locs cells slots ls hI hL
  obtain ⟨v, w, r, rfl, rfl⟩ := ji_bI_inv h
  exact lv_ishr X.1 X.2.1 hd (kk H locs cells slots ls hI hL)
theorem ji_st_iushr (X : ji_Cx p R s m args meth c al b x D G d k M0 M1) (hd : decode (ji_m k).2.1 pc = .ok (.iushr, 1)) (h : ji_bI (fun x y => (x.toUInt32 >>> (y.toUInt32 &&& Int32.toUInt32 31)).toInt32) (pc + 1) M lv st = .inl S) (kk : ji_Kk p l e R s m args below meth c Q al b x D G k M0 S) : ji_Kk p l e R s m args below meth c Q al b x D G k M0 (pc, M, lv, st) := by
  intro H locs cells slots ls hI hL
  obtain ⟨v, w, r, rfl, rfl⟩ := ji_bI_inv h
  exact lv_iushr X.1 X.2.1 hd rfl (kk H locs cells slots ls hI hL)
theorem ji_st_idiv (X : ji_Cx p R s m args meth c al b x D G d k M0 M1) (hd : decode (ji_m k).2.1 pc = .ok (.idiv, 1)) (h : ji_bD (fun x y => x / y) (pc + 1) M lv st = .inl S) (kk : ji_Kk p l e R s m args below meth c Q al b x D G k M0 S) : ji_Kk p l e R s m args below meth c Q al b x D G k M0 (pc, M, lv, st) := by
  intro H locs cells slots ls hI hL
  obtain ⟨v, w, r, rfl, h0, rfl⟩ := ji_bD_inv h
  exact lv_idiv X.1 X.2.1 hd h0 (kk H locs cells slots ls hI hL)
theorem ji_st_irem (X : ji_Cx p R s m args meth c al b x D G d k M0 M1) (hd : decode (ji_m k).2.1 pc = .ok (.irem, 1)) (h : ji_bD (fun x y => x - x / y * y) (pc + 1) M lv st = .inl S) (kk : ji_Kk p l e R s m args below meth c Q al b x D G k M0 S) : ji_Kk p l e R s m args below meth c Q al b x D G k M0 (pc, M, lv, st) := by
  intro H locs cells slots ls hI hL
  obtain ⟨v, w, r, rfl, h0, rfl⟩ := ji_bD_inv h
  exact lv_irem X.1 X.2.1 hd h0 (kk H locs cells slots ls hI hL)
theorem ji_st_ladd (X : ji_Cx p R s m args meth c al b x D G d k M0 M1) (hd : decode (ji_m k).2.1 pc = .ok (.ladd, 1)) (h : ji_bL (fun x y => x + y) (pc + 1) M lv st = .inl S) (kk : ji_Kk p l e R s m args below meth c Q al b x D G k M0 S) : ji_Kk p l e R s m args below meth c Q al b x D G k M0 (pc, M, lv, st) := by
  intro H locs cells slots ls hI hL
  obtain ⟨v, w, r, rfl, rfl⟩ := ji_bL_inv h
  exact lv_ladd X.1 X.2.1 hd (kk H locs cells slots ls hI hL)
theorem ji_st_lsub (X : ji_Cx p R s m args meth c al b x D G d k M0 M1) (hd : decode (ji_m k).2.1 pc = .ok (.lsub, 1)) (h : ji_bL (fun x y => x - y) (pc + 1) M lv st = .inl S) (kk : ji_Kk p l e R s m args below meth c Q al b x D G k M0 S) : ji_Kk p l e R s m args below meth c Q al b x D G k M0 (pc, M, lv, st) := by
  intro H locs cells slots ls hI hL
  obtain ⟨v, w, r, rfl, rfl⟩ := ji_bL_inv h
  exact lv_lsub X.1 X.2.1 hd (kk H locs cells slots ls hI hL)
theorem ji_st_lmul (X : ji_Cx p R s m args meth c al b x D G d k M0 M1) (hd : decode (ji_m k).2.1 pc = .ok (.lmul, 1)) (h : ji_bL (fun x y => x * y) (pc + 1) M lv st = .inl S) (kk : ji_Kk p l e R s m args below meth c Q al b x D G k M0 S) : ji_Kk p l e R s m args below meth c Q al b x D G k M0 (pc, M, lv, st) := by
  intro H locs cells slots ls hI hL
  obtain ⟨v, w, r, rfl, rfl⟩ := ji_bL_inv h
  exact lv_lmul X.1 X.2.1 hd (kk H locs cells slots ls hI hL)
theorem ji_st_land (X : ji_Cx p R s m args meth c al b x D G d k M0 M1) (hd : decode (ji_m k).2.1 pc = .ok (.land, 1)) (h : ji_bL (fun x y => x &&& y) (pc + 1) M lv st = .inl S) (kk : ji_Kk p l e R s m args below meth c Q al b x D G k M0 S) : ji_Kk p l e R s m args below meth c Q al b x D G k M0 (pc, M, lv, st) := by
  intro H locs cells slots ls hI hL
  obtain ⟨v, w, r, rfl, rfl⟩ := ji_bL_inv h
  exact lv_land X.1 X.2.1 hd (kk H locs cells slots ls hI hL)
theorem ji_st_lor (X : ji_Cx p R s m args meth c al b x D G d k M0 M1) (hd : decode (ji_m k).2.1 pc = .ok (.lor, 1)) (h : ji_bL (fun x y => x ||| y) (pc + 1) M lv st = .inl S) (kk : ji_Kk p l e R s m args below meth c Q al b x D G k M0 S) : ji_Kk p l e R s m args below meth c Q al b x D G k M0 (pc, M, lv, st) := by
  intro H locs cells slots ls hI hL
  obtain ⟨v, w, r, rfl, rfl⟩ := ji_bL_inv h
  exact lv_lor X.1 X.2.1 hd (kk H locs cells slots ls hI hL)
theorem ji_st_ldiv (X : ji_Cx p R s m args meth c al b x D G d k M0 M1) (hd : decode (ji_m k).2.1 pc = .ok (.ldiv, 1)) (h : ji_bDL (fun x y => x / y) (pc + 1) M lv st = .inl S) (kk : ji_Kk p l e R s m args below meth c Q al b x D G k M0 S) : ji_Kk p l e R s m args below meth c Q al b x D G k M0 (pc, M, lv, st) := by
  intro H locs cells slots ls hI hL
  obtain ⟨v, w, r, rfl, h0, rfl⟩ := ji_bDL_inv h
  exact lv_ldiv X.1 X.2.1 hd h0 (kk H locs cells slots ls hI hL)
theorem ji_st_lshl (X : ji_Cx p R s m args meth c al b x D G d k M0 M1) (hd : decode (ji_m k).2.1 pc = .ok (.lshl, 1)) (h : ji_bS (fun x y => x <<< (y.toInt64 &&& 63)) (pc + 1) M lv st = .inl S) (kk : ji_Kk p l e R s m args below meth c Q al b x D G k M0 S) : ji_Kk p l e R s m args below meth c Q al b x D G k M0 (pc, M, lv, st) := by
  intro H locs cells slots ls hI hL
  obtain ⟨v, w, r, rfl, rfl⟩ := ji_bS_inv h
  exact lv_lshl X.1 X.2.1 hd rfl (kk H locs cells slots ls hI hL)
theorem ji_st_lshr (X : ji_Cx p R s m args meth c al b x D G d k M0 M1) (hd : decode (ji_m k).2.1 pc = .ok (.lshr, 1)) (h : ji_bS (fun x y => x >>> (y.toInt64 &&& 63)) (pc + 1) M lv st = .inl S) (kk : ji_Kk p l e R s m args below meth c Q al b x D G k M0 S) : ji_Kk p l e R s m args below meth c Q al b x D G k M0 (pc, M, lv, st) := by
  intro H locs cells slots ls hI hL
  obtain ⟨v, w, r, rfl, rfl⟩ := ji_bS_inv h
  exact lv_lshr X.1 X.2.1 hd rfl (kk H locs cells slots ls hI hL)
theorem ji_st_lushr (X : ji_Cx p R s m args meth c al b x D G d k M0 M1) (hd : decode (ji_m k).2.1 pc = .ok (.lushr, 1)) (h : ji_bS (fun x y => (x.toUInt64 >>> (y.toInt64.toUInt64 &&& Int64.toUInt64 63)).toInt64) (pc + 1) M lv st = .inl S) (kk : ji_Kk p l e R s m args below meth c Q al b x D G k M0 S) : ji_Kk p l e R s m args below meth c Q al b x D G k M0 (pc, M, lv, st) := by
  intro H locs cells slots ls hI hL
  obtain ⟨v, w, r, rfl, rfl⟩ := ji_bS_inv h
  exact lv_lushr X.1 X.2.1 hd rfl (kk H locs cells slots ls hI hL)
theorem ji_st_ineg (X : ji_Cx p R s m args meth c al b x D G d k M0 M1) (hd : decode (ji_m k).2.1 pc = .ok (.ineg, 1)) (h : ji_uI (fun x => .int (-x)) (pc + 1) M lv st = .inl S) (kk : ji_Kk p l e R s m args below meth c Q al b x D G k M0 S) : ji_Kk p l e R s m args below meth c Q al b x D G k M0 (pc, M, lv, st) := by
  intro H locs cells slots ls hI hL
  obtain ⟨v, r, rfl, rfl⟩ := ji_uI_inv h
  exact lv_ineg X.1 X.2.1 hd (kk H locs cells slots ls hI hL)
theorem ji_st_i2l (X : ji_Cx p R s m args meth c al b x D G d k M0 M1) (hd : decode (ji_m k).2.1 pc = .ok (.i2l, 1)) (h : ji_uI (fun x => .long x.toInt64) (pc + 1) M lv st = .inl S) (kk : ji_Kk p l e R s m args below meth c Q al b x D G k M0 S) : ji_Kk p l e R s m args below meth c Q al b x D G k M0 (pc, M, lv, st) := by
  intro H locs cells slots ls hI hL
  obtain ⟨v, r, rfl, rfl⟩ := ji_uI_inv h
  exact lv_i2l X.1 X.2.1 hd rfl (kk H locs cells slots ls hI hL)
theorem ji_st_i2b (X : ji_Cx p R s m args meth c al b x D G d k M0 M1) (hd : decode (ji_m k).2.1 pc = .ok (.i2b, 1)) (h : ji_uI (fun x => .int x.toInt8.toInt32) (pc + 1) M lv st = .inl S) (kk : ji_Kk p l e R s m args below meth c Q al b x D G k M0 S) : ji_Kk p l e R s m args below meth c Q al b x D G k M0 (pc, M, lv, st) := by
  intro H locs cells slots ls hI hL
  obtain ⟨v, r, rfl, rfl⟩ := ji_uI_inv h
  exact lv_i2b X.1 X.2.1 hd rfl (kk H locs cells slots ls hI hL)
theorem ji_st_i2s (X : ji_Cx p R s m args meth c al b x D G d k M0 M1) (hd : decode (ji_m k).2.1 pc = .ok (.i2s, 1)) (h : ji_uI (fun x => .int x.toInt16.toInt32) (pc + 1) M lv st = .inl S) (kk : ji_Kk p l e R s m args below meth c Q al b x D G k M0 S) : ji_Kk p l e R s m args below meth c Q al b x D G k M0 (pc, M, lv, st) := by
  intro H locs cells slots ls hI hL
  obtain ⟨v, r, rfl, rfl⟩ := ji_uI_inv h
  exact lv_i2s X.1 X.2.1 hd rfl (kk H locs cells slots ls hI hL)
theorem ji_st_i2c (X : ji_Cx p R s m args meth c al b x D G d k M0 M1) (hd : decode (ji_m k).2.1 pc = .ok (.i2c, 1)) (h : ji_uI (fun x => .int (x.toUInt32 % 65536).toInt32) (pc + 1) M lv st = .inl S) (kk : ji_Kk p l e R s m args below meth c Q al b x D G k M0 S) : ji_Kk p l e R s m args below meth c Q al b x D G k M0 (pc, M, lv, st) := by
  intro H locs cells slots ls hI hL
  obtain ⟨v, r, rfl, rfl⟩ := ji_uI_inv h
  exact lv_i2c X.1 X.2.1 hd rfl (kk H locs cells slots ls hI hL)
theorem ji_st_l2i (X : ji_Cx p R s m args meth c al b x D G d k M0 M1) (hd : decode (ji_m k).2.1 pc = .ok (.l2i, 1)) (h : ji_uL (fun x => .int x.toInt32) (pc + 1) M lv st = .inl S) (kk : ji_Kk p l e R s m args below meth c Q al b x D G k M0 S) : ji_Kk p l e R s m args below meth c Q al b x D G k M0 (pc, M, lv, st) := by
  intro H locs cells slots ls hI hL
  obtain ⟨v, r, rfl, rfl⟩ := ji_uL_inv h
  exact lv_l2i X.1 X.2.1 hd rfl (kk H locs cells slots ls hI hL)
theorem ji_st_lcmp (X : ji_Cx p R s m args meth c al b x D G d k M0 M1) (hd : decode (ji_m k).2.1 pc = .ok (.lcmp, 1)) (h : (match st with | .long y :: .long x :: st => ji_go (pc + 1) M lv (.int (lg_cmp x y) :: st) | _ => ji_no) = .inl S) (kk : ji_Kk p l e R s m args below meth c Q al b x D G k M0 S) : ji_Kk p l e R s m args below meth c Q al b x D G k M0 (pc, M, lv, st) := by
  intro H locs cells slots ls hI hL
  split at h
  · have e := ji_go_inv h
    subst e
    exact W.lcmp X.1 X.2.1 hd (kk H locs cells slots ls hI hL)
  · cases h
theorem ji_st_dup (X : ji_Cx p R s m args meth c al b x D G d k M0 M1) (hd : decode (ji_m k).2.1 pc = .ok (.dup, 1)) (h : ji_du (pc + 1) M lv st = .inl S) (kk : ji_Kk p l e R s m args below meth c Q al b x D G k M0 S) : ji_Kk p l e R s m args below meth c Q al b x D G k M0 (pc, M, lv, st) := by
  intro H locs cells slots ls hI hL
  obtain ⟨v, r, rfl, hv, rfl⟩ := ji_du_inv h
  exact lv_dup X.1 X.2.1 hd (by rw [ji_tr_cat X.2.2.2.2.2.2.2.2.2.2.1]; exact hv) (kk H locs cells slots ls hI hL)
theorem ji_st_dup2 (X : ji_Cx p R s m args meth c al b x D G d k M0 M1) (hd : decode (ji_m k).2.1 pc = .ok (.dup2, 1)) (h : ji_dd2 (pc + 1) M lv st = .inl S) (kk : ji_Kk p l e R s m args below meth c Q al b x D G k M0 S) : ji_Kk p l e R s m args below meth c Q al b x D G k M0 (pc, M, lv, st) := by
  intro H locs cells slots ls hI hL
  obtain ⟨v, w, r, rfl, hv, hw, rfl⟩ := ji_dd2_inv h
  exact lv_dup2_11 X.1 X.2.1 hd (by rw [ji_tr_cat X.2.2.2.2.2.2.2.2.2.2.1]; exact hv) (by rw [ji_tr_cat X.2.2.2.2.2.2.2.2.2.2.1]; exact hw) (kk H locs cells slots ls hI hL)
theorem ji_st_pop (X : ji_Cx p R s m args meth c al b x D G d k M0 M1) (hd : decode (ji_m k).2.1 pc = .ok (.pop, 1)) (h : ji_po (pc + 1) M lv st = .inl S) (kk : ji_Kk p l e R s m args below meth c Q al b x D G k M0 S) : ji_Kk p l e R s m args below meth c Q al b x D G k M0 (pc, M, lv, st) := by
  intro H locs cells slots ls hI hL
  obtain ⟨v, r, rfl, hv, rfl⟩ := ji_po_inv h
  exact lv_pop X.1 X.2.1 hd (by rw [ji_tr_cat X.2.2.2.2.2.2.2.2.2.2.1]; exact hv) (kk H locs cells slots ls hI hL)
theorem ji_tab_off {z : Int32} : ∀ (os : List Int) (lo : Int) (dd : Int), -1000000 ≤ lo → lo + os.length ≤ 1000001 → ((z.toInt < lo ∨ lo + os.length ≤ z.toInt) ∧ ji_tab z (Int32.ofInt lo) os dd = dd) ∨ (lo ≤ z.toInt ∧ z.toInt < lo + os.length ∧ os[(z.toInt - lo).toNat]? = some (ji_tab z (Int32.ofInt lo) os dd)) := by
  intro os
  induction os with
  | nil =>
    intro lo dd h1 h2
    refine Or.inl ⟨?_, rfl⟩
    simp only [List.length_nil]
    omega
  | cons o os ih =>
    intro lo dd h1 h2
    simp only [List.length_cons] at h2 ⊢
    have hlo : (Int32.ofInt lo).toInt = lo := Int32.toInt_ofInt_of_le (by omega) (by omega)
    have hs : Int32.ofInt lo + 1 = Int32.ofInt (lo + 1) := by rw [Int32.ofInt_add]; rfl
    by_cases hz : z = Int32.ofInt lo
    · refine Or.inr ⟨by rw [hz, hlo]; omega, by rw [hz, hlo]; omega, ?_⟩
      rw [hz, hlo]
      simp [ji_tab]
    · have hne : z.toInt ≠ lo := fun q => hz (Int32.toInt_inj.mp (by rw [hlo]; exact q))
      have e : ji_tab z (Int32.ofInt lo) (o :: os) dd = ji_tab z (Int32.ofInt (lo + 1)) os dd := by
        rw [ji_tab, if_neg hz, hs]
      rw [e]
      rcases ih (lo + 1) dd (by omega) (by omega) with ⟨q1, q2⟩ | ⟨q1, q2, q3⟩
      · exact Or.inl ⟨by omega, q2⟩
      · refine Or.inr ⟨by omega, by omega, ?_⟩
        rw [show (z.toInt - lo).toNat = (z.toInt - (lo + 1)).toNat + 1 by omega, List.getElem?_cons_succ]
        exact q3
theorem ji_lok2_off {z : Int32} : ∀ (ps : List (Int × Int)) (dd : Int), (ps.all fun q => decide ((Int32.ofInt q.1).toInt = q.1)) = true → Op.lookupswitch.offset ps dd z.toInt = ji_lok2 z ps dd := by
  intro ps
  induction ps with
  | nil => intro dd _; rfl
  | cons q r ih =>
    intro dd h
    simp only [List.all_cons, Bool.and_eq_true, decide_eq_true_eq] at h
    obtain ⟨a, o⟩ := q
    rw [Op.lookupswitch.offset_cons]
    by_cases hz : z = Int32.ofInt a
    · have : z.toInt = a := by rw [hz]; exact h.1
      rw [ji_lok2, if_pos hz]
      simp [this]
    · have hne : ¬ z.toInt = a := fun q => hz (Int32.toInt_inj.mp (by rw [h.1]; exact q))
      rw [ji_lok2, if_neg hz, ← ih dd h.2]
      first | rw [if_neg hne] | (simp [hne]; intro e; exact absurd e.symm hne)
theorem ji_st_ts (X : ji_Cx p R s m args meth c al b x D G d k M0 M1) {dd lo hi : Int} {offs : Array Int} (hd : decode (ji_m k).2.1 pc = .ok (.tableswitch dd lo hi offs, len)) (h : ji_ts dd lo hi offs pc M lv st = .inl S) (kk : ji_Kk p l e R s m args below meth c Q al b x D G k M0 S) : ji_Kk p l e R s m args below meth c Q al b x D G k M0 (pc, M, lv, st) := by
  intro H locs cells slots ls hI hL
  unfold ji_ts at h
  split at h
  · rename_i z r
    split at h
    · rename_i hq
      obtain ⟨q1, q2, q3⟩ := hq
      obtain ⟨t, ht, rfl⟩ := ji_jm_inv h
      have K := kk H locs cells slots ls hI hL
      rcases ji_tab_off (z := z) offs.toList lo dd q1 (by omega) with ⟨h1, h2⟩ | ⟨h1, h2, h3⟩
      · rw [h2] at ht
        exact lv_tableOut X.1 X.2.1 hd (by omega) ht K
      · exact lv_tableIn (off := ji_tab z (Int32.ofInt lo) offs.toList dd) X.1 X.2.1 hd (by omega) (by omega) (by rw [← Array.getElem?_toList]; exact h3) ht K
    · cases h
  · cases h
theorem ji_st_lks (X : ji_Cx p R s m args meth c al b x D G d k M0 M1) {dd : Int} {ps : Array (Int × Int)} (hd : decode (ji_m k).2.1 pc = .ok (.lookupswitch dd ps, len)) (h : ji_lks dd ps pc M lv st = .inl S) (kk : ji_Kk p l e R s m args below meth c Q al b x D G k M0 S) : ji_Kk p l e R s m args below meth c Q al b x D G k M0 (pc, M, lv, st) := by
  intro H locs cells slots ls hI hL
  unfold ji_lks at h
  split at h
  · rename_i z r
    split at h
    · rename_i hq
      obtain ⟨t, ht, rfl⟩ := ji_jm_inv h
      have K := kk H locs cells slots ls hI hL
      exact lv_lookup X.1 X.2.1 hd hq.2 (ji_lok2_off ps.toList dd hq.1) ht K
    · cases h
  · cases h
end JIS
