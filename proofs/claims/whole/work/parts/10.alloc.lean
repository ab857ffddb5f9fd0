/-! ===== instructions that make cells ===== -/
theorem ji_P_of {b : Nat} {G : ji_G} {D : va_G} {M : ji_M} {H : Heap} (h : ∀ (i : Nat) (κ : Nat × Nat), ji_kd M i = some κ → va_at D ji_cl (b + i, ji_Ent b G M i κ) H) : va_P D ji_cl (ji_Wd b G M) H := by
  intro i q hq
  obtain ⟨κ, hk, rfl⟩ := ji_Wd_of hq
  exact h i κ hk
theorem ji_alloc {b : Nat} {G : ji_G} {D : va_G} {M M' : ji_M} {H H1 : Heap} {ks : List (Nat × Nat)} (hks : M'.1 = M.1 ++ ks) (hold : ∀ i, i < M.1.length → ∀ κ', ji_Ent b G M' i κ' = ji_Ent b G M i κ') (hP : va_P D ji_cl (ji_Wd b G M) H) (hk : ∀ q, q < H.size → H1[q]? = H[q]?) (hnew : ∀ (j : Nat) (κ' : Nat × Nat), ks[j]? = some κ' → va_at D ji_cl (b + (M.1.length + j), ji_Ent b G M' (M.1.length + j) κ') H1) : va_P D ji_cl (ji_Wd b G M') H1 := by
  refine ji_P_of fun i κ hi => ?_
  unfold ji_kd at hi
  rw [hks] at hi
  by_cases hl : i < M.1.length
  · rw [List.getElem?_append_left hl] at hi
    have h0 := hP i _ (ji_Wd_at (b := b) (G := G) (show ji_kd M i = some κ from hi))
    rw [hold i hl]
    exact h0.kept (hk _ h0.lt)
  · rw [List.getElem?_append_right (Nat.not_lt.mp hl)] at hi
    have h0 := hnew _ _ hi
    rw [show M.1.length + (i - M.1.length) = i by omega] at h0
    exact h0
theorem ji_sl_app (a c : List (Nat × Nat)) : ji_sl (a ++ c) = ji_sl a + ji_sl c := by
  unfold ji_sl
  rw [List.map_append, List.sum_append]
theorem ji_sl_one (κ : Nat × Nat) : ji_sl [κ] = ji_sz κ := by simp [ji_sl]
theorem ji_sl_rep (n : Nat) (κ : Nat × Nat) : ji_sl (List.replicate n κ) = n * ji_sz κ := by
  induction n with
  | zero => simp [ji_sl]
  | succ n ih =>
    rw [List.replicate_succ]
    show ji_sl ([κ] ++ List.replicate n κ) = _
    rw [ji_sl_app, ji_sl_one, ih, Nat.succ_mul, Nat.add_comm]
theorem ji_nO_old {b : Nat} {G : ji_G} {M : ji_M} {κ : Nat × Nat} (i : Nat) (hi : i < M.1.length) (κ' : Nat × Nat) : ji_Ent b G (ji_nO M κ) i κ' = ji_Ent b G M i κ' :=
  ji_Ent_congr (fun q => by simp [ji_nO, Nat.not_le.mpr hi]) (fun q => by simp [ji_nO, Nat.not_le.mpr hi]) (fun q => by simp [ji_nO, Nat.not_le.mpr hi])
theorem ji_nQ_old {b : Nat} {G : ji_G} {M : ji_M} {n k : Nat} (i : Nat) (hi : i < M.1.length) (κ' : Nat × Nat) : ji_Ent b G (ji_nQ M n k) i κ' = ji_Ent b G M i κ' :=
  ji_Ent_congr (fun q => by simp [ji_nQ, Nat.not_le.mpr hi]) (fun q => by simp [ji_nQ, Nat.not_le.mpr hi]) (fun q => by simp [ji_nQ, Nat.not_le.mpr hi])
theorem ji_strQ : "[" ++ (FieldType.array FieldType.int).toString = "[[I" := by decide +kernel
section JIA
variable {p : Program} {l : Launch} {e : Env} {R : Room} {s : State} {m : MethodId} {args : Array Value} {below : List Frame} {meth : Method} {c : Code} {Q : State → Prop}
variable {al : Bool} {b : Nat} {x : Nat → Value} {D : va_G} {G : ji_G} {d k : Nat} {M0 M1 M : ji_M} {H : Heap} {locs : List Loc} {cells slots pc len : Nat} {lv : ji_L} {st : List Value} {S : ji_S}
theorem ji_Iv_new {M' : ji_M} {H1 : Heap} {ks : List (Nat × Nat)} (ha : al = true) (hI : ji_Iv s al b D G M0 M H locs cells slots) (hks : M'.1 = M.1 ++ ks) (hP : va_P D ji_cl (ji_Wd b G M') H1) (hk : ∀ q, q < H.size → H1[q]? = H[q]?) (hz : H.size ≤ H1.size) : ji_Iv s al b D G M0 M' H1 locs (cells + ks.length) (slots + ji_sl ks) := by
  obtain ⟨-, hS, hpre, h2, hc, hs⟩ := hI
  refine ⟨hP, ⟨Nat.le_trans hS.1 hz, fun q h1 h2 => (hk q (Nat.lt_of_lt_of_le h1 hS.1)).trans (hS.2.1 q h1 h2), hS.2.2⟩, ?_, fun h => (by rw [ha] at h; cases h), ?_, ?_⟩
  · rw [hks]; exact hpre.trans (List.prefix_append _ _)
  · rw [hks, List.length_append]; omega
  · rw [hks, ji_sl_app]; omega
theorem ji_st_new (X : ji_Cx p R s m args meth c al b x D G d k M0 M1) {ix : Nat} (hd : decode (ji_m k).2.1 pc = .ok (.new ix, 3)) (h : ji_nw1 al k ix pc M lv st = .inl S) (hroom : S.2.1.1.length ≤ M1.1.length ∧ ji_sl S.2.1.1 ≤ ji_sl M1.1) (kk : ji_Kk p l e R s m args below meth c Q al b x D G k M0 S) : ji_Kk p l e R s m args below meth c Q al b x D G k M0 (pc, M, lv, st) := by
  intro H locs cells slots ls hI hL
  replace hI : ji_Iv s al b D G M0 M H locs cells slots := hI
  refine ji_size X hI (fun hsz => ?_)
  obtain ⟨hx, hb, hr, hml, hown, hts, hlk, hnm, hK, hXK, hxo, hR, hle, hal, h1⟩ := id X
  obtain ⟨c', ha, hnd, rfl⟩ := ji_nw1_inv h
  obtain ⟨⟨C', T, N⟩, hq, hw1, hw2, hw3⟩ := ji_nd_ok hnd
  obtain ⟨ty, hu, hty, hnmz, hdc, htk, hcn, hnc⟩ := ji_cl_ok hq
  have hKn := hK.1.1 c' _ hq
  have hszN : ji_sz (0, c') = N := by simp [ji_sz, hnc]
  dsimp only at hroom
  have hl1 : (ji_nO M (0, c')).1.length = M.1.length + 1 := by simp [ji_nO]
  have hl2 : ji_sl (ji_nO M (0, c')).1 = ji_sl M.1 + N := by show ji_sl (M.1 ++ [(0, c')]) = _; rw [ji_sl_app, ji_sl_one, hszN]
  obtain ⟨hr1, hr2, hr3, hr4⟩ := hR
  have hic : cells + M0.1.length = M.1.length := hI.2.2.2.2.1
  have his : slots + ji_sl M0.1 = ji_sl M.1 := hI.2.2.2.2.2
  refine W.newcK hx hb hown (hts _ (List.mem_cons_of_mem _ hw1)) (hts _ (List.mem_cons_of_mem _ hw2)) (hts _ (List.mem_cons_of_mem _ hw3)) rfl hd (by rw [hr3]; omega) (by rw [hr4]; dsimp only; omega) hKn.2.1 (hsz ha) fun H1 kC hkC e1 z1 o1 => ?_
  have hP1 : va_P D ji_cl (ji_Wd b G (ji_nO M (0, c'))) H1 := by
    refine ji_alloc (ks := [(0, c')]) rfl ji_nO_old hI.1 (fun q hq => o1 q (by rw [← hsz ha]; exact hq)) (fun j κ' hj => ?_)
    have hj0 : j < 1 := (List.getElem?_eq_some_iff.mp hj).1
    have hj1 : j = 0 := by omega
    subst hj1
    cases hj
    rw [ji_Ent_o]
    refine ⟨_, hq, (u_born ty hts (fun w hw => List.mem_cons_of_mem _ (hu w hw)) hKn hkC e1 hty).to (fun j hj => ?_)⟩
    have hv : vp_V ((List.range (ji_ncl c')).map (ji_fvt b (ji_nO M (0, c')) (M.1.length + 0) c')) j = ji_fvt b (ji_nO M (0, c')) (M.1.length + 0) c' j := by
      unfold vp_V
      rw [List.getD_eq_getElem?_getD, List.getElem?_map, List.getElem?_range (by rw [hnc]; exact hj)]
      rfl
    rw [hv]
    rcases htk j hj with ⟨t1, t2⟩ | ⟨t1, t2⟩ | ⟨t1, ⟨n, t2⟩ | ⟨u, t2⟩⟩ <;> simp [ji_fvt, t1, t2, ji_nO, defaultValue, va_rf]
  have hI1 := ji_Iv_new (ks := [(0, c')]) ha hI rfl hP1 (fun q hq => o1 q (by rw [← hsz ha]; exact hq)) (by rw [z1, hsz ha]; omega)
  have e2 : slots + ji_sl [(0, c')] = slots + N := by rw [ji_sl_one, hszN]
  rw [e2] at hI1
  exact kk H1 locs _ _ ls hI1 hL
theorem ji_st_newarray (X : ji_Cx p R s m args meth c al b x D G d k M0 M1) (hd : decode (ji_m k).2.1 pc = .ok (.newarray .int, 2)) (h : ji_na1 al 1 (pc + 2) M lv st = .inl S) (hroom : S.2.1.1.length ≤ M1.1.length ∧ ji_sl S.2.1.1 ≤ ji_sl M1.1) (kk : ji_Kk p l e R s m args below meth c Q al b x D G k M0 S) : ji_Kk p l e R s m args below meth c Q al b x D G k M0 (pc, M, lv, st) := by
  intro H locs cells slots ls hI hL
  replace hI : ji_Iv s al b D G M0 M H locs cells slots := hI
  refine ji_size X hI (fun hsz => ?_)
  obtain ⟨hx, hb, hr, hml, hown, hts, hlk, hnm, hK, hXK, hxo, hR, hle, hal, h1⟩ := id X
  obtain ⟨n, r, rfl, ha, hn0, hn1, rfl⟩ := ji_na1_inv h
  dsimp only at hroom
  have hl1 : (ji_nO M (1, n.toNatClampNeg)).1.length = M.1.length + 1 := by simp [ji_nO]
  have hl2 : ji_sl (ji_nO M (1, n.toNatClampNeg)).1 = ji_sl M.1 + n.toNatClampNeg := by show ji_sl (M.1 ++ [(1, n.toNatClampNeg)]) = _; rw [ji_sl_app, ji_sl_one]; rfl
  obtain ⟨hr1, hr2, hr3, hr4⟩ := hR
  have hic : cells + M0.1.length = M.1.length := hI.2.2.2.2.1
  have his : slots + ji_sl M0.1 = ji_sl M.1 := hI.2.2.2.2.2
  have harr : (Cond.arrayClass .int).before args s = true := hts _ (List.mem_cons_of_mem _ (ji_is1_in ji_pIok))
  refine va_newaK (atype := .int) hx hb harr rfl hd rfl hn0 rfl (by show n.toNatClampNeg * 4 ≤ 536870912; omega) (by rw [hr3]; omega) (by rw [hr4]; omega) (hsz ha) fun H1 cA e1 z1 o1 hAr hNm => ?_
  have ecA : cA = G.1 := by
    have h2 := (hK.1.2 0 _ rfl).2
    have h2 : s.vm.findClass ("[" ++ FieldType.int.toString) = some G.1 := h2
    have h3 : s.vm.findClass ("[" ++ FieldType.int.toString) = some cA := hNm
    rw [h2] at h3
    exact (Option.some.inj h3).symm
  have hP1 : va_P D ji_cl (ji_Wd b G (ji_nO M (1, n.toNatClampNeg))) H1 := by
    refine ji_alloc (ks := [(1, n.toNatClampNeg)]) rfl ji_nO_old hI.1 (fun q hq => o1 q (by rw [← hsz ha]; exact hq)) (fun j κ' hj => ?_)
    have hj0 : j < 1 := (List.getElem?_eq_some_iff.mp hj).1
    have hj1 : j = 0 := by omega
    subst hj1
    cases hj
    rw [ji_Ent_i]
    show H1[b + (M.1.length + 0)]? = some (vp_cell _ _)
    rw [vp_cell_i, Nat.add_zero, e1, ecA]
    refine congrArg some (congrArg (arrV G.1 n.toNatClampNeg) (funext fun j => ?_))
    show defaultValue .int = _
    simp [defaultValue, ji_nO]
  have hI1 := ji_Iv_new (ks := [(1, n.toNatClampNeg)]) ha hI rfl hP1 (fun q hq => o1 q (by rw [← hsz ha]; exact hq)) (by rw [z1, hsz ha]; omega)
  have e2 : slots + ji_sl [(1, n.toNatClampNeg)] = slots + n.toNatClampNeg := by rw [ji_sl_one]; rfl
  rw [e2] at hI1
  exact kk H1 locs _ _ ls hI1 hL
theorem ji_nd11 : ji_nd 1 11 = some 5 := by decide +kernel
theorem ji_st_anewarray (X : ji_Cx p R s m args meth c al b x D G d k M0 M1) {ix : Nat} (hd : decode (ji_m k).2.1 pc = .ok (.anewarray ix, 3)) (h : (if ji_ow k = 1 ∧ ix = 11 then ji_na1 al 3 (pc + 3) M lv st else ji_no) = .inl S) (hroom : S.2.1.1.length ≤ M1.1.length ∧ ji_sl S.2.1.1 ≤ ji_sl M1.1) (kk : ji_Kk p l e R s m args below meth c Q al b x D G k M0 S) : ji_Kk p l e R s m args below meth c Q al b x D G k M0 (pc, M, lv, st) := by
  intro H locs cells slots ls hI hL
  replace hI : ji_Iv s al b D G M0 M H locs cells slots := hI
  refine ji_size X hI (fun hsz => ?_)
  obtain ⟨hx, hb, hr, hml, hown, hts, hlk, hnm, hK, hXK, hxo, hR, hle, hal, h1⟩ := id X
  split at h
  · rename_i hoi
    obtain ⟨ho, rfl⟩ := hoi
    obtain ⟨n, r, rfl, ha, hn0, hn1, rfl⟩ := ji_na1_inv h
    obtain ⟨q, hq, hw1, hw2, hw3⟩ := ji_nd_ok ji_nd11
    rw [ji_cl5] at hq
    cases hq
    rw [← ho] at hw1
    dsimp only at hroom hw1
    have hl1 : (ji_nO M (3, n.toNatClampNeg)).1.length = M.1.length + 1 := by simp [ji_nO]
    have hl2 : ji_sl (ji_nO M (3, n.toNatClampNeg)).1 = ji_sl M.1 + n.toNatClampNeg := by show ji_sl (M.1 ++ [(3, n.toNatClampNeg)]) = _; rw [ji_sl_app, ji_sl_one]; rfl
    obtain ⟨hr1, hr2, hr3, hr4⟩ := hR
    have hic : cells + M0.1.length = M.1.length := hI.2.2.2.2.1
    have his : slots + ji_sl M0.1 = ji_sl M.1 := hI.2.2.2.2.2
    refine W.anew hx hb hown (hts _ (List.mem_cons_of_mem _ hw1)) (va_AO.use hK.2.2.2.1) rfl hd rfl hn0 (by omega) (by rw [hr3]; omega) (by rw [hr4]; omega) fun cA kA comp f1 f2 f3 f4 => ?_
    have ecA : cA = G.2.2 := by
      obtain ⟨kA2, comp2, g1, g2, g3, g4⟩ := (hK.1.2 2 _ rfl).2
      rw [f1] at g4
      exact Option.some.inj g4
    generalize hH1 : H.push ({ cls := cA, slots := Array.replicate n.toNatClampNeg .null, vm := .none } : Cell) = H1
    have z1 : H1.size = H.size + 1 := by rw [← hH1, Array.size_push]
    have e1 : H1[H.size]? = some (arrV cA n.toNatClampNeg (fun _ => .null)) := by rw [← hH1, Array.getElem?_push_size, ← arrV_new]
    have o1 : ∀ q : Nat, q < H.size → H1[q]? = H[q]? := fun q hq => by rw [← hH1, Array.getElem?_push, if_neg (Nat.ne_of_lt hq)]
    have hP1 : va_P D ji_cl (ji_Wd b G (ji_nO M (3, n.toNatClampNeg))) H1 := by
      refine ji_alloc (ks := [(3, n.toNatClampNeg)]) rfl ji_nO_old hI.1 o1 (fun j κ' hj => ?_)
      have hj0 : j < 1 := (List.getElem?_eq_some_iff.mp hj).1
      have hj1 : j = 0 := by omega
      subst hj1
      cases hj
      rw [ji_Ent_s]
      show H1[b + (M.1.length + 0)]? = some (vp_cell _ _)
      rw [vp_cell_q, Nat.add_zero, ← hsz ha, e1, ecA]
      refine congrArg some (congrArg (arrV G.2.2 n.toNatClampNeg) (funext fun j => ?_))
      simp [ji_nO, va_rf]
    have hI1 := ji_Iv_new (ks := [(3, n.toNatClampNeg)]) ha hI rfl hP1 o1 (by rw [z1]; omega)
    have e2 : slots + ji_sl [(3, n.toNatClampNeg)] = slots + n.toNatClampNeg := by rw [ji_sl_one]; rfl
    rw [e2] at hI1
    have K := kk H1 locs _ _ ls hI1 hL
    have e3 : ji_tr b x (.ref M.1.length) = .ref H.size := by rw [hsz ha]; rfl
    rw [List.map_cons, e3] at K
    exact K
  · cases h
theorem ji_st_multi (X : ji_Cx p R s m args meth c al b x D G d k M0 M1) {ix : Nat} (hd : decode (ji_m k).2.1 pc = .ok (.multianewarray ix 2, 4)) (h : ji_nm1 al k ix pc M lv st = .inl S) (hroom : S.2.1.1.length ≤ M1.1.length ∧ ji_sl S.2.1.1 ≤ ji_sl M1.1) (kk : ji_Kk p l e R s m args below meth c Q al b x D G k M0 S) : ji_Kk p l e R s m args below meth c Q al b x D G k M0 (pc, M, lv, st) := by
  intro H locs cells slots ls hI hL
  replace hI : ji_Iv s al b D G M0 M H locs cells slots := hI
  refine ji_size X hI (fun hsz => ?_)
  obtain ⟨hx, hb, hr, hml, hown, hts, hlk, hnm, hK, hXK, hxo, hR, hle, hal, h1⟩ := id X
  obtain ⟨kI, n, r, rfl, ha, hmd, hk0, hk1, hn0, hn1, rfl⟩ := ji_nm1_inv h
  have hw := ji_md_ok hmd
  rw [← ji_strQ] at hw
  dsimp only at hroom
  generalize hN : n.toNatClampNeg = N at hroom kk hn1
  generalize hM : kI.toNatClampNeg = K at hroom kk hk1
  have hks : (ji_nQ M N K).1 = M.1 ++ ((2, N) :: List.replicate N (1, K)) := rfl
  have hkl : ((2, N) :: List.replicate N (1, K)).length = N + 1 := by simp
  have hksl : ji_sl ((2, N) :: List.replicate N (1, K)) = N + N * K := by
    show ji_sl ([(2, N)] ++ List.replicate N (1, K)) = _
    rw [ji_sl_app, ji_sl_one, ji_sl_rep]
    rfl
  rw [hks, List.length_append, hkl, ji_sl_app, hksl] at hroom
  obtain ⟨hr1, hr2, hr3, hr4⟩ := hR
  have hic : cells + M0.1.length = M.1.length := hI.2.2.2.2.1
  have his : slots + ji_sl M0.1 = ji_sl M.1 := hI.2.2.2.2.2
  have harr : (Cond.arrayClass .int).before args s = true := hts _ (List.mem_cons_of_mem _ (ji_is1_in ji_pIok))
  have hover : (Cond.arrayOver (.array .int)).before args s = true := hK.2.2.1
  intro T hT Xs
  obtain ⟨vm₁, cA, comp, -, fA, fC, -, -, X', step⟩ := Xs.multianewarray2F hx hown (hts _ (List.mem_cons_of_mem _ hw)) hover harr (g := F0 m pc ls (.int kI :: .int n :: r.map (ji_tr b x))) rfl (by rw [hb]; exact hd) rfl hn0 hk0 (by rw [hN]; omega) (by rw [hM]; show K * 4 ≤ _; omega) (by rw [hM]; omega) (by rfl) (by rfl) (by rw [hN, hr3]; omega) (by rw [hN, hM, hr4]; omega)
  rw [hN, hM] at X' step
  have eA : cA = G.2.1 := by
    have h2 : s.vm.findClass ("[" ++ (FieldType.array FieldType.int).toString) = some G.2.1 := (hK.1.2 1 _ rfl).2
    rw [h2] at fA
    exact (Option.some.inj fA).symm
  have eC : comp = G.1 := by
    have h2 : s.vm.findClass ("[" ++ FieldType.int.toString) = some G.1 := (hK.1.2 0 _ rfl).2
    have h3 : s.vm.findClass ("[" ++ FieldType.int.toString) = some comp := fC
    rw [h2] at h3
    exact (Option.some.inj h3).symm
  subst eA; subst eC
  have hTh : (T.setVm vm₁).heap = H := hT
  obtain ⟨f1, f2, -, -⟩ := Jvm.Free.Multi.fill_facts (T.setVm vm₁) G.2.1 G.1 N K (defaultValue .int) N
  have hold : ∀ q : Nat, q < H.size → (Jvm.Free.Multi.fill (T.setVm vm₁) G.2.1 G.1 N K (defaultValue .int) N).heap[q]? = H[q]? := fun q hq => by
    have := Jvm.Free.Multi.fill_old (T.setVm vm₁) G.2.1 G.1 N K (defaultValue .int) (a := q) (by rw [hTh]; exact hq) N
    rw [hTh] at this
    exact this
  have hrow : ∀ j : Nat, j < N → (Jvm.Free.Multi.fill (T.setVm vm₁) G.2.1 G.1 N K (defaultValue .int) N).heap[H.size + 1 + j]? = some (Jvm.Free.Multi.innerC G.1 K (defaultValue .int)) := fun j hj => by
    have := Jvm.Free.Multi.fill_inner (T.setVm vm₁) G.2.1 G.1 N K (defaultValue .int) N j hj
    rw [hTh] at this
    exact this
  rw [hTh] at f1 f2
  have hout : ∀ i : Nat, i ≤ N → Jvm.Free.Multi.outerC G.2.1 N H.size i = arrV G.2.1 N (fun j => if j < i then .ref (H.size + 1 + j) else .null) := by
    intro i
    induction i with
    | zero => intro _; show ({ cls := G.2.1, slots := Array.replicate N .null, vm := .none } : Cell) = _; rw [arrV_new]; simp
    | succ i ih =>
      intro hi
      show (Jvm.Free.Multi.outerC G.2.1 N H.size i).setSlot i (.ref (H.size + 1 + i)) = _
      rw [ih (by omega), arrV_store]
      refine congrArg (arrV G.2.1 N) (funext fun j => ?_)
      by_cases e : j = i
      · subst e; simp [updV]
      · by_cases h : j < i
        · simp [updV, e, h, Nat.lt_succ_of_lt h]
        · simp [updV, e, h, show ¬ j < i + 1 by omega]
  generalize hH1 : Jvm.Free.Multi.fill (T.setVm vm₁) G.2.1 G.1 N K (defaultValue .int) N = F at X' step f1 f2 hold hrow
  have hP1 : va_P D ji_cl (ji_Wd b G (ji_nQ M N K)) F.heap := by
    refine ji_alloc hks ji_nQ_old hI.1 hold (fun j κ' hj => ?_)
    cases j with
    | zero =>
      cases hj
      rw [ji_Ent_q]
      show F.heap[b + (M.1.length + 0)]? = some (vp_cell _ _)
      rw [vp_cell_q, Nat.add_zero, ← hsz ha, f2, hout N (Nat.le_refl _)]
      refine congrArg some ?_
      apply (show ∀ f g : Nat → Value, (∀ j, j < N → f j = g j) → arrV G.2.1 N f = arrV G.2.1 N g from fun f g h => by
        unfold arrV
        congr 2
        funext j
        exact h j.val j.isLt)
      intro j hj
      simp only [ji_nQ, Nat.le_refl, if_true, hj, and_self, Option.map_some, va_rf]
      have hz9 := hsz ha
      refine congrArg Value.ref ?_
      show H.size + 1 + j = b + (M.1.length + 1 + j)
      omega
    | succ j =>
      rw [List.getElem?_cons_succ, List.getElem?_replicate] at hj
      split at hj
      · rename_i hjN
        cases hj
        rw [ji_Ent_i]
        show F.heap[b + (M.1.length + (j + 1))]? = some (vp_cell _ _)
        rw [vp_cell_i, show b + (M.1.length + (j + 1)) = H.size + 1 + j by rw [hsz ha]; omega, hrow j hjN]
        refine congrArg some ?_
        show ({ cls := G.1, slots := Array.replicate K (defaultValue .int), vm := .none } : Cell) = _
        rw [arrV_new]
        refine congrArg (arrV G.1 K) (funext fun j => ?_)
        simp [ji_nQ, defaultValue]
      · cases hj
  have hI1 := ji_Iv_new ha hI hks hP1 hold (by rw [f1]; omega)
  rw [hkl, hksl] at hI1
  have e4 : cells + (N + 1) = cells + 1 + N := by omega
  have e5 : slots + (N + N * K) = slots + N + N * K := by omega
  rw [e4, e5] at hI1
  have K9 := kk F.heap locs _ _ ls hI1 hL
  have e3 : ji_tr b x (.ref M.1.length) = .ref T.heap.size := by rw [hT, hsz ha]; rfl
  rw [List.map_cons, e3] at K9
  obtain ⟨t, a1, b1⟩ := K9 F rfl X'
  exact ⟨t, step t a1, b1⟩
end JIA
