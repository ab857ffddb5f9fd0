/-! ===== the law: calls out of its frame ===== -/
def R_law : String := "MudLibraryLaw"
section JLA
variable {p : Program} {l : Launch} {e : Env} {s : State} {m : MethodId} {args : Array Value} {below : List Frame} {meth : Method} {c : Code} {Q : State → Prop}
variable {al : Bool} {x : Nat → Value} {D : va_G} {G : ji_G} {k : Nat} {M M' : ji_M} {H : Heap} {locs : List Loc} {cells slots pc bo : Nat}
theorem jl_sub (hS : va_S (fun q : Nat => s.heap.size ≤ q) s.heap H locs) (hlo : s.heap.size ≤ bo) : ∀ q, ji_A bo M.1.length H.size q → s.heap.size ≤ q := by
  intro q hq
  have := hS.1
  unfold ji_A at hq
  omega
theorem jl_after {R : Room} {mc ms : Nat} {ls : Array Slot} {st0 rest : List Value} {v : Option Value} {a : Array Value} (hS : va_S (fun q : Nat => s.heap.size ≤ q) s.heap H locs) (hlo : s.heap.size ≤ bo)
    (hr : va_Run p l e R s m args below meth c H locs cells slots mc ms (F0 m pc ls st0) rest (ji_Q bo x D G M' (ji_A bo M.1.length H.size) v a) (ji_A bo M.1.length H.size))
    (kk : ∀ (H1 : Heap) (locs1 : List Loc), va_P D ji_cl (ji_Wd bo G M') H1 → va_S (fun q : Nat => s.heap.size ≤ q) s.heap H1 locs1 → H.size ≤ H1.size → (∀ q, q < H.size → ¬ ji_A bo M.1.length H.size q → H1[q]? = H[q]?) → W p l e R s m args below meth c H1 locs1 (cells + mc) (slots + ms) Q (F0 m (pc + 3) ls ((v.map (ji_tr bo x)).toList ++ rest))) : W p l e R s m args below meth c H locs cells slots Q (F0 m pc ls st0) := by
  have hsub := jl_sub (M := M) hS hlo
  intro T hT Xs
  obtain ⟨w, st₀, t, T', L, h0, X', hLL, e1, e2, ⟨hv, hP, hF⟩, hst⟩ := hr T hT Xs
  have hw : w = v.map (ji_tr bo x) := by cases hv; rfl
  subst hw
  obtain ⟨f1, f2⟩ := hF
  rw [h0] at f1 f2
  have g1 : H.size ≤ T'.heap.size := by rw [e1]; exact f1
  have g2 : ∀ q, q < H.size → ¬ ji_A bo M.1.length H.size q → T'.heap[q]? = H[q]? := fun q h1 h2 => by rw [e1]; exact f2 q h1 h2
  obtain ⟨t2, a1, b1⟩ := kk T'.heap (locs ++ L) (by rw [e1]; exact hP) ⟨Nat.le_trans hS.1 g1, fun q h1 h2 => by rw [g2 q (Nat.lt_of_lt_of_le h1 hS.1) (fun z => h2 (hsub q z))]; exact hS.2.1 q h1 h2, fun q hq => by
      rcases List.mem_append.mp hq with h | h
      · exact hS.2.2 q h
      · exact hsub _ (hLL q h)⟩ g1 g2 T' rfl X'
  exact ⟨t2, hst t2 a1, b1⟩
theorem jl_pre (hK : ji_K D G x s) (hXK : ji_XK x (fun q : Nat => s.heap.size ≤ q) s s.heap) (hP : va_P D ji_cl (ji_Wd bo G M) H) (hS : va_S (fun q : Nat => s.heap.size ≤ q) s.heap H locs) (hlo : s.heap.size ≤ bo) (hhi : bo + M.1.length ≤ H.size) (hal : al = true → H.size = bo + M.1.length) {U : State} (hU : U.heap = H) (hW : s.WarmedH U.vm) : ji_B al bo x D G M H.size U := by
  refine ⟨by rw [hU], by rw [hU]; exact hP, hK.warm hW, ?_, hhi, hal⟩
  rw [hU]
  exact ((hXK.kept hS.2.1).narrow (jl_sub hS hlo)).moved hW.alike
theorem jl_ttin {w : Cond} (h : w ∈ ji_tt) : w ∈ lw_tbl := (ji_tt_good h).1
theorem jl_goodIn (hk : k < ji_ms.length) : GoodIn lw_tbl (ji_ws k) := by
  intro w hw
  have hw2 : w ∈ ji_tt := by
    rcases List.mem_cons.mp hw with e | e
    · rw [e]; exact (ji_m_at hk).1
    · exact e
  exact ⟨jl_ttin hw2, ji_good hw2⟩
theorem jl_goodV {ix : Nat} {y : MethodName} (hk : k < ji_ms.length) (h1 : ∀ w ∈ [Cond.methodLink R_law ix y, .instanceMethod y, .selects y.cls y y, .initialized y.cls], w ∈ ji_tt) : ∀ w ∈ wsV R_law ix y.cls y (ji_ws k), w ∈ lw_tbl ∧ ((w.onTables && w.keeps) = true ∨ ∃ ty, w = .arrayClass ty) := by
  intro w hw
  unfold wsV at hw
  rcases List.mem_append.mp hw with h | h
  · have h2 : w ∈ ji_tt := h1 w (by
      simp only [List.mem_cons, List.not_mem_nil, or_false] at h ⊢
      rcases h with h | h | h | h <;> simp [h])
    exact ⟨jl_ttin h2, ji_good h2⟩
  · exact jl_goodIn hk w h
/-- a method of one of the two objects is called -/
theorem jl_call {ls : Array Slot} {rest As : List Value} {ix Nf rc : Nat} {a : List Value} {r : Option Value} (hx : p.tables.exec = Jvm.exec) (hb : c.code = code) (hml : c.maxLocals = 4) (hown : s.vm.findClass R_law = some m.cls) (hts : ∀ w ∈ lw_tbl, w.before args s = true)
    (hK : ji_K D G x s) (hXK : ji_XK x (fun q : Nat => s.heap.size ≤ q) s s.heap) (hxo : ji_xo x) (hP : va_P D ji_cl (ji_Wd bo G M) H) (hS : va_S (fun q : Nat => s.heap.size ≤ q) s.heap H locs) (hlo : s.heap.size ≤ bo) (hhi : bo + M.1.length ≤ H.size)
    (hcl : ji_clN false Nf 60 k (.ref 0 :: a) M = some (r, M')) (hrc : ji_kd M 0 = some (0, rc)) (hnm : ji_nm rc = (ji_m k).1.cls)
    (hw : ∀ w ∈ [Cond.methodLink R_law ix (ji_m k).1, .instanceMethod (ji_m k).1, .selects (ji_m k).1.cls (ji_m k).1 (ji_m k).1, .initialized (ji_m k).1.cls], w ∈ ji_tt)
    (hpar : (parseMethodDescriptor (ji_m k).1.desc).map (fun d => d.parameters.length) = some As.length)
    (hAs : a.map (ji_tr bo x) = As) (hsz : ls.size = 4) (hrest : (rest.map fun v => v.category).sum ≤ 8) (hd : decode code pc = .ok (.invokevirtual ix, 3)) (hcs : cells ≤ 600000) (hss : slots ≤ 7302250)
    (kk : ∀ (H1 : Heap) (locs1 : List Loc), va_P D ji_cl (ji_Wd bo G M') H1 → M'.1 = M.1 → va_S (fun q : Nat => s.heap.size ≤ q) s.heap H1 locs1 → H.size ≤ H1.size → (∀ q, q < H.size → ¬ ji_A bo M.1.length H.size q → H1[q]? = H[q]?) → W p l e room_1 s m args below meth c H1 locs1 cells slots Q (F0 m (pc + 3) ls ((r.map (ji_tr bo x)).toList ++ rest))) : W p l e room_1 s m args below meth c H locs cells slots Q (F0 m pc ls (As.reverse ++ .ref bo :: rest)) := by
  obtain ⟨hk, hpre, hsame, hM⟩ := ji_sound l false Nf 60 _ _ _ _ _ hcl
  obtain ⟨mc1, mc2, mc3, mc4, mc5, mc6, mc7⟩ := ji_m_at hk
  have hMet := hM bo x D G H.size hxo
  have hs1 := hsame rfl
  have hat := ji_Wd_at (b := bo) (G := G) hrc
  obtain ⟨q, hq, -⟩ := hP 0 _ hat
  obtain ⟨ty, -, -, -, -, -, hcn, -⟩ := ji_cl_ok hq
  obtain ⟨cell, c1, c2, c3⟩ := va_recv hK.1 hP hq hat
  have hG : GoodIn lw_tbl (wsV R_law ix (ji_m k).1.cls (ji_m k).1 (ji_ws k)) := jl_goodV hk hw
  have e0 : M'.1.length - M.1.length = 0 := by rw [hs1]; exact Nat.sub_self _
  have e1 : ji_sl M'.1 - ji_sl M.1 = 0 := by rw [hs1]; exact Nat.sub_self _
  have hrun := va_runV (e := e) (below := below) (meth := meth) (locs := locs) (cells := cells) (slots := slots) (R := room_1) (As := As) (rest := rest) (b := bo) (g := F0 m pc ls (As.reverse ++ .ref bo :: rest)) ⟨hx, hb, hml, hown, hts⟩ hMet (cwV As.length hts hG rfl rfl rfl ⟨rfl, mc6, mc7, hpar⟩ ⟨by show 60 + 1 ≤ 2048; omega, by show 8 + ((ji_m k).2.2.1 + 11) + 200 * 60 ≤ 84000; omega⟩)
    ⟨ji_blind, ⟨cell, c1, c2, by rw [← hnm, hcn]; exact c3⟩, fun U hU hW => ⟨by rw [List.map_cons, hAs]; rfl, jl_pre hK hXK hP hS hlo hhi (fun h => by cases h) hU hW⟩⟩ rfl rfl hsz rfl (lv_room hrest) hd ⟨by rw [e0]; exact hcs, by rw [e1]; exact hss⟩
  refine jl_after hS hlo hrun fun H1 locs1 hP1 hS1 z1 o1 => ?_
  rw [e0, e1]
  exact kk H1 locs1 hP1 hs1 hS1 z1 o1
/-- a constructor -/
theorem jl_init {ls : Array Slot} {rest : List Value} {ix Nf d : Nat} (hx : p.tables.exec = Jvm.exec) (hb : c.code = code) (hml : c.maxLocals = 4) (hown : s.vm.findClass R_law = some m.cls) (hts : ∀ w ∈ lw_tbl, w.before args s = true)
    (hK : ji_K D G x s) (hXK : ji_XK x (fun q : Nat => s.heap.size ≤ q) s s.heap) (hxo : ji_xo x) (hP : va_P D ji_cl (ji_Wd bo G M) H) (hS : va_S (fun q : Nat => s.heap.size ≤ q) s.heap H locs) (hlo : s.heap.size ≤ bo) (hhi : H.size = bo + M.1.length)
    (hcl : ji_clN true Nf d k [.ref 0] M = some (none, M')) (hd60 : d ≤ 60) (hret : (ji_m k).2.2.2.1 = none) (hnm : (ji_m k).1.name = "<init>")
    (hw1 : Cond.methodLink R_law ix (ji_m k).1 ∈ ji_tt) (hw2 : Cond.initialized (ji_m k).1.cls ∈ ji_tt) (hw3 : Cond.instanceMethod (ji_m k).1 ∈ ji_tt)
    (hpar : (parseMethodDescriptor (ji_m k).1.desc).map (fun d => d.parameters.length) = some 0)
    (hsz : ls.size = 4) (hrest : (rest.map fun v => v.category).sum ≤ 8) (hd : decode code pc = .ok (.invokespecial ix, 3)) (hcs : cells + (M'.1.length - M.1.length) ≤ 600000) (hss : slots + (ji_sl M'.1 - ji_sl M.1) ≤ 7302250)
    (kk : ∀ (H1 : Heap) (locs1 : List Loc), va_P D ji_cl (ji_Wd bo G M') H1 → va_S (fun q : Nat => s.heap.size ≤ q) s.heap H1 locs1 → H.size ≤ H1.size → (∀ q, q < H.size → ¬ ji_A bo M.1.length H.size q → H1[q]? = H[q]?) → W p l e room_1 s m args below meth c H1 locs1 (cells + (M'.1.length - M.1.length)) (slots + (ji_sl M'.1 - ji_sl M.1)) Q (F0 m (pc + 3) ls rest)) : W p l e room_1 s m args below meth c H locs cells slots Q (F0 m pc ls (.ref bo :: rest)) := by
  obtain ⟨hk, hpre, hsame, hM⟩ := ji_sound l true Nf d _ _ _ _ _ hcl
  obtain ⟨mc1, mc2, mc3, mc4, mc5, mc6, mc7⟩ := ji_m_at hk
  have hMet := hM bo x D G H.size hxo
  have ew : ji_ws k = Cond.code (ji_m k).1 (ji_m k).2.1 (ji_m k).2.2.1 none :: ji_tt := by unfold ji_ws; rw [hret]
  have hrun := va_runI (e := e) (below := below) (meth := meth) (locs := locs) (cells := cells) (slots := slots) (R := room_1) (As := []) (rest := rest) (b := bo) (g := F0 m pc ls (.ref bo :: rest)) ⟨hx, hb, hml, hown, hts⟩ hMet (cwI 0 hts (jl_goodIn hk) ew rfl rfl (hts _ (jl_ttin hw2)) (hts _ (jl_ttin hw1)) (hts _ (jl_ttin hw3)) hnm ⟨mc6, mc7, hpar⟩ ⟨by show d + 1 ≤ 2048; omega, by show 8 + ((ji_m k).2.2.1 + 11) + 200 * d ≤ 84000; omega⟩)
    ⟨ji_blind, fun U hU hW => ⟨rfl, jl_pre hK hXK hP hS hlo (Nat.le_of_eq hhi.symm) (fun _ => hhi) hU hW⟩⟩ rfl rfl hsz rfl (lv_room hrest) hd ⟨hcs, hss⟩
  exact jl_after hS hlo hrun kk
end JLA
