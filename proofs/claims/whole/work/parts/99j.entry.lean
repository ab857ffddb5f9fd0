/-! ===== the law from its entry ===== -/
section JLN
variable {p : Program} {l : Launch} {e : Env} {s : State} {m : MethodId} {args : Array Value} {below : List Frame} {meth : Method} {c : Code} {Q : State → Prop}
variable {x : Nat → Value} {D : va_G} {G : ji_G} {M : ji_M} {H : Heap} {locs : List Loc} {cells slots pc bo : Nat} {ls : Array Slot} {rest : List Value}
theorem jl_top (hP : va_P D ji_cl (ji_Wd bo G M) H) (h : 0 < M.1.length) : bo + M.1.length ≤ H.size := by
  have hi : M.1.length - 1 < M.1.length := by omega
  have hk : ji_kd M (M.1.length - 1) = some M.1[M.1.length - 1] := List.getElem?_eq_getElem hi
  have := (hP _ _ (ji_Wd_at (b := bo) (G := G) hk)).lt
  dsimp only at this
  omega
theorem jl_new {c' ix : Nat} {q : vw_C} (hx : p.tables.exec = Jvm.exec) (hb : c.code = code) (hown : s.vm.findClass R_law = some m.cls) (hts : ∀ w ∈ lw_tbl, w.before args s = true) (hK : ji_K D G x s) (hq : ji_cl[c']? = some q) (hw1 : Cond.classLink R_law ix q.1 ∈ ji_tt) (hw2 : Cond.instantiable q.1 q.2.2 ∈ ji_tt) (hw3 : Cond.initialized q.1 ∈ ji_tt)
    (hd : decode code pc = .ok (.new ix, 3)) (hcs : cells + 1 ≤ 600000) (hss : slots + q.2.2 ≤ 7302250)
    (kk : ∀ H1 : Heap, H1.size = H.size + 1 → va_P D ji_cl (ji_Wd H.size G (ji_M00 c')) H1 → (∀ a : Nat, a < H.size → H1[a]? = H[a]?) → W p l e room_1 s m args below meth c H1 locs (cells + 1) (slots + q.2.2) Q (F0 m (pc + 3) ls (.ref H.size :: rest))) : W p l e room_1 s m args below meth c H locs cells slots Q (F0 m pc ls rest) := by
  obtain ⟨ty, hu, hty, hnmz, hdc, htk, hcn, hnc⟩ := ji_cl_ok hq
  have hKn := hK.1.1 c' _ hq
  refine W.newcK hx hb hown (hts _ (jl_ttin hw1)) (hts _ (jl_ttin hw2)) (hts _ (jl_ttin hw3)) rfl hd hcs hss hKn.2.1 rfl fun H1 kC hkC e1 z1 o1 => ?_
  refine kk H1 z1 (ji_P_of fun i κ hi => ?_) o1
  have hi1 : i < 1 := by
    unfold ji_kd at hi
    exact (List.getElem?_eq_some_iff.mp hi).1
  have hi0 : i = 0 := by omega
  subst hi0
  have hκ : κ = (0, c') := by
    have h2 : ji_kd (ji_M00 c') 0 = some (0, c') := rfl
    rw [h2] at hi
    exact (Option.some.inj hi).symm
  subst hκ
  rw [ji_Ent_o]
  refine ⟨_, hq, (u_born ty hts (fun w hw => jl_ttin (hu w hw)) hKn hkC e1 hty).to (fun j hj => ?_)⟩
  have hv : vp_V ((List.range (ji_ncl c')).map (ji_fvt H.size (ji_M00 c') 0 c')) j = ji_fvt H.size (ji_M00 c') 0 c' j := by
    unfold vp_V
    rw [List.getD_eq_getElem?_getD, List.getElem?_map, List.getElem?_range (by rw [hnc]; exact hj)]
    rfl
  rw [hv]
  rcases htk j hj with ⟨t1, t2⟩ | ⟨t1, t2⟩ | ⟨t1, ⟨n, t2⟩ | ⟨u, t2⟩⟩ <;> simp [ji_fvt, t1, t2, ji_M00, ji_nO, defaultValue, va_rf]
end JLN
set_option maxHeartbeats 4000000 in
set_option maxRecDepth 100000 in
theorem whole_start {p : Program} {e : Env} {s : State} {m : MethodId} {below : List Frame} {meth : Method} {c : Code} (l : Launch) (hflags : l.flags = flags0) {b L : Nat} {xs : Nat → Int32} (hL : L ≤ 3072) (C0 : lw_At p s m meth c b L xs) : W p l e room_1 s m #[Value.ref b] below meth c s.heap [] 0 0 (lw_Z below #[Value.ref b] s) (entryFrame m ([Value.ref b] : List Value).toArray 4) := by
  obtain ⟨hx, hb, hr, hml, hown, hts, hX, hbl, hlocks, hgv⟩ := C0
  obtain ⟨x, D, G, hK, hXK, hxo⟩ := jl_ready hgv hts
  obtain ⟨X, N, eX, eN, R⟩ := jx_rel0
  have C : jl_Cx p s m #[Value.ref b] c b L xs x D G := ⟨hx, hb, hml, hown, hts, hX, hbl, hL, hK, hXK, hxo⟩
  have lX : X.1.length = 90 := by rw [R.xf.1]; decide +kernel
  have lN : N.1.length = 56 := by rw [R.mf.1]; decide +kernel
  have sX : ji_sl X.1 ≤ 100000 := by rw [R.xf.1]; decide +kernel
  have sN : ji_sl N.1 ≤ 100000 := by rw [R.mf.1]; decide +kernel
  have hl := lv_entry ([.ref b]) (n := 4) (Nat.le_of_ble_eq_true rfl)
  rw [lg_entry_eq]
  generalize (lg_sl ([.ref b]) ++ List.replicate (4 - (lg_sl ([.ref b])).length) Slot.unset).toArray = ls at hl ⊢
  have hl : lv_has ls 4 [(0, .ref b)] := hl
  have q8 : ji_cl[8]? = some ("MudLibrary", ji_T8, 14) := rfl
  have q9 : ji_cl[9]? = some ("MudLibraryModel", ji_T9, 81) := rfl
  refine jl_new hx hb hown hts hK q8 (ji_is1_in (p := 88) (by decide +kernel)) (ji_is1_in (p := 89) (by decide +kernel)) (ji_is1_in (p := 69) (by decide +kernel)) jl_d_0 (by decide) (by decide) fun H1 z1 hP1 o1 => ?_
  have hS1 : va_S (fun q : Nat => s.heap.size ≤ q) s.heap H1 [] := ⟨by omega, fun q h1 _ => o1 q h1, fun q h => by cases h⟩
  refine lv_dup hx hb jl_d_3 rfl ?_
  refine jl_init (k := 0) (d := 60) (rest := [.ref s.heap.size]) hx hb hml hown hts hK hXK hxo hP1 hS1 (Nat.le_refl _) z1 eX (Nat.le_refl _) (by decide +kernel) (by decide +kernel) (ji_is1_in (p := 90) (by decide +kernel)) (ji_is1_in (p := 69) (by decide +kernel)) (ji_is1_in (p := 91) (by decide +kernel)) (by decide +kernel) hl.1 (Nat.le_of_ble_eq_true rfl) jl_d_4 (by rw [lX]; omega) (by dsimp only; omega) fun H2 locs2 hP2 hS2 z2 o2 => ?_
  have t2 := jl_top hP2 (by omega)
  refine lv_astore_n (lv' := [(1, .ref s.heap.size), (0, .ref b)]) hx hb jl_d_7 rfl hl (by decide) rfl (fun ls hl => ?_)
  refine jl_new hx hb hown hts hK q9 (ji_is1_in (p := 1060) (by decide +kernel)) (ji_is1_in (p := 1061) (by decide +kernel)) (ji_is1_in (p := 84) (by decide +kernel)) jl_d_8 (by rw [lX]; omega) (by dsimp only; omega) fun H3 z3 hP3 o3 => ?_
  have hS3 : va_S (fun q : Nat => s.heap.size ≤ q) s.heap H3 locs2 := ⟨Nat.le_trans hS2.1 (by omega), fun q h1 h2 => (o3 q (Nat.lt_of_lt_of_le h1 hS2.1)).trans (hS2.2.1 q h1 h2), hS2.2.2⟩
  have hPX3 : va_P D ji_cl (ji_Wd s.heap.size G X) H3 := hP2.kept fun i q hq => o3 _ (hP2 i q hq).lt
  refine lv_dup hx hb jl_d_11 rfl ?_
  refine jl_init (k := 156) (d := 10) (rest := [.ref H2.size]) hx hb hml hown hts hK hXK hxo hP3 hS3 hS2.1 z3 eN (by decide) (by decide +kernel) (by decide +kernel) (ji_is1_in (p := 1062) (by decide +kernel)) (ji_is1_in (p := 84) (by decide +kernel)) (ji_is1_in (p := 1063) (by decide +kernel)) (by decide +kernel) hl.1 (Nat.le_of_ble_eq_true rfl) jl_d_12 (by rw [lX, lN]; omega) (by dsimp only; omega) fun H4 locs4 hP4 hS4 z4 o4 => ?_
  have t4 := jl_top hP4 (by omega)
  have hPX4 : va_P D ji_cl (ji_Wd s.heap.size G X) H4 := hPX3.kept fun i q hq => by
    have h1 := (hP2 i q hq).lt
    have h2 := (hPX3 i q hq).lt
    refine o4 _ h2 (fun h => ?_)
    unfold ji_A at h
    omega
  refine lv_astore_n (lv' := [(2, .ref H2.size), (1, .ref s.heap.size), (0, .ref b)]) hx hb jl_d_15 rfl hl (by decide) rfl (fun ls hl => ?_)
  refine lv_iconst (v := 0) hx hb jl_d_16 (by decide) ?_
  refine lv_istore_n (lv' := [(3, .int 0), (2, .ref H2.size), (1, .ref s.heap.size), (0, .ref b)]) hx hb jl_d_17 rfl hl (by decide) rfl (fun ls hl => ?_)
  exact jl_loop C hr hlocks (by rw [lX, lN]; show 0 + 1 + (90 - 1) + 1 + (56 - 1) ≤ 600000; omega) (by dsimp only; omega) (L + 1) 0 (Nat.zero_le L) (by omega) X N H4 locs4 ls 0 nI_0.symm R ⟨hPX4, hP4, hS4, Nat.le_refl _, t2, t4⟩ hl
