/-! ===== instructions that read and write cells ===== -/
theorem ji_nm10 : ji_nm 10 = "java/lang/String" := by decide +kernel
section JIH
variable {p : Program} {l : Launch} {e : Env} {R : Room} {s : State} {m : MethodId} {args : Array Value} {below : List Frame} {meth : Method} {c : Code} {Q : State → Prop}
variable {al : Bool} {b : Nat} {x : Nat → Value} {D : va_G} {G : ji_G} {d k : Nat} {M0 M1 M : ji_M} {H : Heap} {locs : List Loc} {cells slots pc len : Nat} {lv : ji_L} {st : List Value} {S : ji_S}
theorem ji_low (X : ji_Cx p R s m args meth c al b x D G d k M0 M1) (hI : ji_Iv s al b D G M0 M H locs cells slots) : b + M.1.length ≤ H.size := by
  obtain ⟨-, -, -, -, -, -, -, -, -, -, -, -, hle, -, -⟩ := X
  obtain ⟨hP, hS, hpre, h2, -⟩ := hI
  have hlen := hpre.length_le
  by_cases e : M.1.length = M0.1.length
  · rw [e]; exact Nat.le_trans hle hS.1
  · have hi : M.1.length - 1 < M.1.length := by omega
    have hk : ji_kd M (M.1.length - 1) = some M.1[M.1.length - 1] := List.getElem?_eq_getElem hi
    have := (hP _ _ (ji_Wd_at (b := b) (G := G) hk)).lt
    dsimp only at this
    omega
/-- where cells are made the heap's size is known -/
theorem ji_size {g : JFrame} (X : ji_Cx p R s m args meth c al b x D G d k M0 M1) (hI : ji_Iv s al b D G M0 M H locs cells slots) (kk : (al = true → H.size = b + M.1.length) → W p l e R s m args below meth c H locs cells slots Q g) : W p l e R s m args below meth c H locs cells slots Q g := by
  intro T hT St
  refine kk (fun ha => ?_) T hT St
  have h1 := ji_low X hI
  have h2 := St.heapSize
  obtain ⟨-, -, -, -, -, -, -, -, -, -, -, -, hle, hal, -⟩ := X
  obtain ⟨-, -, -, -, hc, -⟩ := hI
  have h3 := hal ha
  rw [hT] at h2
  omega
theorem ji_st_getfield (X : ji_Cx p R s m args meth c al b x D G d k M0 M1) {ix : Nat} (hd : decode (ji_m k).2.1 pc = .ok (.getfield ix, 3)) (h : ji_gf k ix pc M lv st = .inl S) (kk : ji_Kk p l e R s m args below meth c Q al b x D G k M0 S) : ji_Kk p l e R s m args below meth c Q al b x D G k M0 (pc, M, lv, st) := by
  intro H locs cells slots ls hI hL
  obtain ⟨hx, hb, hr, hml, hown, hts, hlk, hnm, hK, hXK, hxo, hR, hle, hal, h1⟩ := id X
  rcases ji_gf_inv h with ⟨a, r, c', f, z, rfl, hfd, hkd, rfl⟩ | ⟨t, r, z, rfl, how, ht1, ht3, hxf, rfl⟩
  · have Kt := kk H locs cells slots ls hI hL
    obtain ⟨⟨C', T, N⟩, hq, hf, hw0, hw1⟩ := ji_fd_ok hfd
    obtain ⟨ty, hu, hty, hnmz, hdc, htk, hcn, hnc⟩ := ji_cl_ok hq
    have hat := ji_Wd_at (b := b) (G := G) hkd
    rw [ji_Ent_o] at hat
    have hfs : ((List.range (ji_ncl c')).map (ji_fvt b M a c'))[f]? = some (ji_fvt b M a c' f) := by
      rw [List.getElem?_map, List.getElem?_range (by rw [hnc]; exact hf)]
      rfl
    have Kt' : W p l e R s m args below meth c H locs cells slots Q (F0 m (pc + 3) ls (ji_fvt b M a c' f :: r.map (ji_tr b x))) := by rw [ji_fvt_tr (x := x)]; exact Kt
    by_cases hz : z = 0
    · exact va_get hx hb hts (fun w hw => List.mem_cons_of_mem _ (hu w hw)) hown hK.1 hI.1 a hat hq f hf (hts _ (List.mem_cons_of_mem _ (hw0 hz))) (fun _ h9 => h9) hfs hd Kt'
    · exact va_getN hx hb hts (fun w hw => List.mem_cons_of_mem _ (hu w hw)) hown hK.1 hI.1 a hat hq f hf (va_Nw.use rfl (hK.2.1 _ (hw1 hz))) (fun _ h9 => h9) hfs hd Kt'
  · have Kt := kk H locs cells slots ls hI hL
    obtain ⟨a, ha, hO, hco, hva⟩ := hXK.2.2.2.1 t ht1 ht3
    have hown2 : s.vm.findClass "java/lang/String" = some m.cls := by rw [← ji_nm10, ← how]; exact hown
    show W p l e R s m args below meth c H locs cells slots Q (F0 m pc ls (x t :: r.map (ji_tr b x)))
    rw [ha]
    rcases ji_xfd_ok hxf with ⟨hz, hw⟩ | ⟨hz, hw⟩
    · subst hz
      have Kt : W p l e R s m args below meth c H locs cells slots Q (F0 m (pc + 3) ls (x (t + 3) :: r.map (ji_tr b x))) := Kt
      exact vk_getf hx hb hva hI.2.1 hown2 (hts _ (List.mem_cons_of_mem _ hw)) (fun _ h9 => h9) hd Kt
    · subst hz
      have Kt : W p l e R s m args below meth c H locs cells slots Q (F0 m (pc + 3) ls (.int 0 :: r.map (ji_tr b x))) := Kt
      exact vk_getf hx hb hco hI.2.1 hown2 (hts _ (List.mem_cons_of_mem _ hw)) (fun _ h9 => h9) hd Kt
/-- a field is written: what holds behind -/
theorem ji_put_any (X : ji_Cx p R s m args meth c al b x D G d k M0 M1) {ix a c' f : Nat} {M' : ji_M} {v : Value} {r : List Value} (hd : decode (ji_m k).2.1 pc = .ok (.putfield ix, 3)) (hI : ji_Iv s al b D G M0 M H locs cells slots) {ls : Array Slot} (hL : ji_Lv b x ls (ji_m k).2.2.1 lv)
    (hfd : ji_fd (ji_ow k) ix = some (c', f, 0)) (hkd : ji_kd M a = some (0, c')) (hpf : ji_pf k c' f = true) (hM : M'.1 = M.1) (hw : ji_Wd b G M' = (ji_Wd b G M).set a (b + a, ji_Ent b G M' a (0, c'))) (hv : ji_fvt b M' a c' f = v) (ho : ∀ j, j ≠ f → ji_fvt b M' a c' j = ji_fvt b M a c' j)
    (hty0 : ∀ ty, ji_tyok (ji_fty c' f) ty → narrow ty v = v ∧ fits ty v = true)
    (kk : ji_Kk p l e R s m args below meth c Q al b x D G k M0 (pc + 3, M', lv, r)) : W p l e R s m args below meth c H locs cells slots Q (F0 m pc ls (v :: .ref (b + a) :: r.map (ji_tr b x))) := by
  obtain ⟨hx, hb, hr, hml, hown, hts, hlk, hnm, hK, hXK, hxo, hR, hle, hal, h1⟩ := id X
  obtain ⟨⟨C', T, N⟩, hq, hf, hw0, hw1⟩ := ji_fd_ok hfd
  obtain ⟨ty, hu, hty, hnmz, hdc, htk, hcn, hnc⟩ := ji_cl_ok hq
  have hat := ji_Wd_at (b := b) (G := G) hkd
  rw [ji_Ent_o] at hat
  have hD := ji_Iv_D X hI
  have hEnt := ji_Ent_fld (G := G) hv ho
  rw [hEnt] at hw
  obtain ⟨hn, hfit⟩ := hty0 _ (htk f hf)
  have hlen : f < ((List.range (ji_ncl c')).map (ji_fvt b M a c')).length := by rw [List.length_map, List.length_range, hnc]; exact hf
  have key : ∀ (H1 : Heap) (locs1 : List Loc), va_P D ji_cl ((ji_Wd b G M).set a (b + a, .inr (c', ((List.range (ji_ncl c')).map (ji_fvt b M a c')).set f v))) H1 → va_D (ji_A b M0.1.length s.heap.size) ((ji_Wd b G M).set a (b + a, .inr (c', ((List.range (ji_ncl c')).map (ji_fvt b M a c')).set f v))) → va_S (ji_A b M0.1.length s.heap.size) s.heap H1 locs1 → W p l e R s m args below meth c H1 locs1 cells slots Q (F0 m (pc + 3) ls (r.map (ji_tr b x))) := by
    intro H1 locs1 hP1 _ hS1
    rw [← hw] at hP1
    obtain ⟨-, -, i3, i4, i5, i6⟩ := hI
    exact kk H1 locs1 cells slots ls ⟨hP1, hS1, by show M0.1 <+: M'.1; rw [hM]; exact i3, fun ha => hM.trans (i4 ha), by show cells + M0.1.length = M'.1.length; rw [hM]; exact i5, by show slots + ji_sl M0.1 = ji_sl M'.1; rw [hM]; exact i6⟩ hL
  unfold ji_pf at hpf
  have hfn : ji_fin c' f = (T f).2.2.2 := by unfold ji_fin; rw [hq]
  rw [hfn] at hpf
  cases hfin : (T f).2.2.2 with
  | false => exact va_put hx hb hts (fun w hw => List.mem_cons_of_mem _ (hu w hw)) ty hty hnmz hown hK.1 hI.1 hD hI.2.1 a hat hq f hf (hts _ (List.mem_cons_of_mem _ (hw0 rfl))) (fun _ h9 => h9) hfin (hty f hf) hn hfit hlen hd key
  | true =>
    rw [hfin] at hpf
    simp only [Bool.not_true, Bool.false_or, Bool.and_eq_true, decide_eq_true_eq] at hpf
    have hdecl : (T f).1 = ji_nm (ji_ow k) := by rw [hpf.2, hcn]; exact hdc f hf
    exact va_putF hx hb hts (fun w hw => List.mem_cons_of_mem _ (hu w hw)) ty hty hnmz hown hK.1 hI.1 hD hI.2.1 a hat hq f hf (hts _ (List.mem_cons_of_mem _ (hw0 rfl))) (fun _ h9 => h9) hfin (hnm.trans hpf.1) hdecl (hty f hf) hn hfit hlen hd key
theorem ji_st_putfield (X : ji_Cx p R s m args meth c al b x D G d k M0 M1) {ix : Nat} (hd : decode (ji_m k).2.1 pc = .ok (.putfield ix, 3)) (h : ji_pu k ix pc M lv st = .inl S) (kk : ji_Kk p l e R s m args below meth c Q al b x D G k M0 S) : ji_Kk p l e R s m args below meth c Q al b x D G k M0 (pc, M, lv, st) := by
  intro H locs cells slots ls hI hL
  obtain ⟨v, a, r, c', f, M', rfl, hfd, hkd, hpf, hwf, rfl⟩ := ji_pu_inv h
  rcases ji_wf_inv hwf with ⟨z, ht, rfl, rfl⟩ | ⟨z, ht, rfl, rfl⟩ | ⟨z, ht, rfl, rfl⟩
  · obtain ⟨g1, g2⟩ := ji_fvt_sI (b := b) (M := M) (i := a) (v := z) ht
    refine ji_put_any (M := M) (M' := ji_sI M a f z) (v := .int z) (r := r) X hd hI hL hfd hkd hpf rfl (ji_Wd_sI hkd) g1 g2 (fun ty hty => ?_) kk
    rw [ht] at hty
    rcases hty with ⟨-, rfl⟩ | ⟨h9, -⟩ | ⟨h9, -⟩
    · exact ⟨rfl, rfl⟩
    · cases h9
    · cases h9
  · obtain ⟨g1, g2⟩ := ji_fvt_sL (b := b) (M := M) (i := a) (v := z) ht
    refine ji_put_any (M := M) (M' := ji_sL M a f z) (v := .long z) (r := r) X hd hI hL hfd hkd hpf rfl (ji_Wd_sL hkd) g1 g2 (fun ty hty => ?_) kk
    rw [ht] at hty
    rcases hty with ⟨h9, -⟩ | ⟨-, rfl⟩ | ⟨h9, -⟩
    · cases h9
    · exact ⟨rfl, rfl⟩
    · cases h9
  · obtain ⟨g1, g2⟩ := ji_fvt_sR (b := b) (M := M) (i := a) (r := z) ht
    refine ji_put_any (M := M) (M' := ji_sR M a f (some z)) (v := .ref (b + z)) (r := r) X hd hI hL hfd hkd hpf rfl (ji_Wd_sR hkd) g1 g2 (fun ty hty => ?_) kk
    rw [ht] at hty
    rcases hty with ⟨h9, -⟩ | ⟨h9, -⟩ | ⟨-, ⟨n, rfl⟩ | ⟨u, rfl⟩⟩
    · cases h9
    · cases h9
    · exact ⟨rfl, rfl⟩
    · exact ⟨rfl, rfl⟩
theorem ji_st_iaload (X : ji_Cx p R s m args meth c al b x D G d k M0 M1) (hd : decode (ji_m k).2.1 pc = .ok (.iaload, 1)) (h : ji_ial pc M lv st = .inl S) (kk : ji_Kk p l e R s m args below meth c Q al b x D G k M0 S) : ji_Kk p l e R s m args below meth c Q al b x D G k M0 (pc, M, lv, st) := by
  intro H locs cells slots ls hI hL
  obtain ⟨hx, hb, hr, hml, hown, hts, hlk, hnm, hK, hXK, hxo, hR, hle, hal, h1⟩ := id X
  rcases ji_ial_inv h with ⟨i, a, r, n, rfl, hkd, hin, rfl⟩ | ⟨i, r, xs, rfl, hxa, hin, rfl⟩
  · have hat := ji_Wd_at (b := b) (G := G) hkd
    rw [ji_Ent_i] at hat
    exact va_iald hx hb hK.1 hI.1 a 0 hat rfl hin hd (kk H locs cells slots ls hI hL)
  · have Kt := kk H locs cells slots ls hI hL
    obtain ⟨a, ha, hT⟩ := hXK.2.2.2.2 0 xs hxa
    show W p l e R s m args below meth c H locs cells slots Q (F0 m pc ls (.int i :: x 0 :: r.map (ji_tr b x)))
    rw [ha]
    exact va_ti hx hb hT hI.2.1 hin rfl hd Kt
theorem ji_st_baload (X : ji_Cx p R s m args meth c al b x D G d k M0 M1) (hd : decode (ji_m k).2.1 pc = .ok (.baload, 1)) (h : ji_bal pc M lv st = .inl S) (kk : ji_Kk p l e R s m args below meth c Q al b x D G k M0 S) : ji_Kk p l e R s m args below meth c Q al b x D G k M0 (pc, M, lv, st) := by
  intro H locs cells slots ls hI hL
  obtain ⟨hx, hb, hr, hml, hown, hts, hlk, hnm, hK, hXK, hxo, hR, hle, hal, h1⟩ := id X
  obtain ⟨i, t, r, xs, rfl, ht4, hxa, hin, rfl⟩ := ji_bal_inv h
  have Kt := kk H locs cells slots ls hI hL
  obtain ⟨a, ha, hT⟩ := hXK.2.2.2.2 t xs hxa
  rw [if_neg (by omega)] at hT
  show W p l e R s m args below meth c H locs cells slots Q (F0 m pc ls (.int i :: x t :: r.map (ji_tr b x)))
  rw [ha]
  exact va_tb hx hb hT hI.2.1 hin rfl hd Kt
theorem ji_st_iastore (X : ji_Cx p R s m args meth c al b x D G d k M0 M1) (hd : decode (ji_m k).2.1 pc = .ok (.iastore, 1)) (h : ji_ias pc M lv st = .inl S) (kk : ji_Kk p l e R s m args below meth c Q al b x D G k M0 S) : ji_Kk p l e R s m args below meth c Q al b x D G k M0 (pc, M, lv, st) := by
  intro H locs cells slots ls hI hL
  obtain ⟨hx, hb, hr, hml, hown, hts, hlk, hnm, hK, hXK, hxo, hR, hle, hal, h1⟩ := id X
  obtain ⟨v, i, a, r, n, rfl, hkd, hin, rfl⟩ := ji_ias_inv h
  have hat := ji_Wd_at (b := b) (G := G) hkd
  rw [ji_Ent_i] at hat
  refine va_iast hx hb hK.1 hI.1 (ji_Iv_D X hI) hI.2.1 a 0 hat rfl hin hd (fun H1 locs1 hP1 _ hS1 => ?_)
  obtain ⟨-, -, i3, i4, i5, i6⟩ := hI
  have e : ji_Ent b G (ji_sI M a i.toNatClampNeg v) a (1, n) = .inl (G.1, n, .inl (upd (M.2.1 a) i.toNatClampNeg v)) := by
    rw [ji_Ent_i]
    have : (ji_sI M a i.toNatClampNeg v).2.1 a = upd (M.2.1 a) i.toNatClampNeg v := by funext j; simp [ji_sI, upd]
    rw [this]
  rw [← e, ← ji_Wd_sI hkd] at hP1
  exact kk H1 locs1 cells slots ls ⟨hP1, hS1, i3, i4, i5, i6⟩ hL
theorem ji_st_aaload (X : ji_Cx p R s m args meth c al b x D G d k M0 M1) (hd : decode (ji_m k).2.1 pc = .ok (.aaload, 1)) (h : ji_aal pc M lv st = .inl S) (kk : ji_Kk p l e R s m args below meth c Q al b x D G k M0 S) : ji_Kk p l e R s m args below meth c Q al b x D G k M0 (pc, M, lv, st) := by
  intro H locs cells slots ls hI hL
  obtain ⟨hx, hb, hr, hml, hown, hts, hlk, hnm, hK, hXK, hxo, hR, hle, hal, h1⟩ := id X
  obtain ⟨i, a, r, t, n, rfl, hkd, ht, hin, rfl⟩ := ji_aal_inv h
  have Kt := kk H locs cells slots ls hI hL
  have Kt' : W p l e R s m args below meth c H locs cells slots Q (F0 m (pc + 1) ls (va_rf ((M.2.2.2 a i.toNatClampNeg).map (b + ·)) :: r.map (ji_tr b x))) := by rw [ji_rv_tr (x := x)]; exact Kt
  have hat := ji_Wd_at (b := b) (G := G) hkd
  have hlt : i.toNatClampNeg < n := Nat.not_le.mp fun q => hin (Or.inr q)
  rcases ht with rfl | rfl
  · rw [ji_Ent_q] at hat
    exact W.aald (v := va_rf ((M.2.2.2 a i.toNatClampNeg).map (b + ·))) (ty := .array .int) hx hb (hI.1 a _ hat) ((hK.1.2 1 _ rfl).1 n (fun j => va_rf ((M.2.2.2 a j).map (b + ·)))) rfl (fun q => by cases q) (by show ¬ (i < 0 ∨ (arrV _ _ _).slots.size ≤ _); rw [arrV_size]; exact hin) (by show (arrV _ _ _).slots[_]? = _; rw [arrV_read _ _ hlt]) rfl rfl hd Kt'
  · rw [ji_Ent_s] at hat
    exact va_aldq hx hb hK.1 hI.1 a 2 hat rfl hin hd Kt'
theorem ji_cl5 : ji_cl[5]? = some ("MudLibrary$Stock", ji_T5, 6) := rfl
theorem ji_st_aastore (X : ji_Cx p R s m args meth c al b x D G d k M0 M1) (hd : decode (ji_m k).2.1 pc = .ok (.aastore, 1)) (h : ji_aas pc M lv st = .inl S) (kk : ji_Kk p l e R s m args below meth c Q al b x D G k M0 S) : ji_Kk p l e R s m args below meth c Q al b x D G k M0 (pc, M, lv, st) := by
  intro H locs cells slots ls hI hL
  obtain ⟨hx, hb, hr, hml, hown, hts, hlk, hnm, hK, hXK, hxo, hR, hle, hal, h1⟩ := id X
  obtain ⟨v, i, a, r, n, rfl, hkd, hkv, hin, rfl⟩ := ji_aas_inv h
  have hat := ji_Wd_at (b := b) (G := G) hkd
  rw [ji_Ent_s] at hat
  have hav := ji_Wd_at (b := b) (G := G) hkv
  rw [ji_Ent_o] at hav
  refine va_astq hx hb hK.1 hI.1 (ji_Iv_D X hI) hI.2.1 a 2 v 5 hat rfl hav ji_cl5 hin hd (fun H1 locs1 hP1 _ hS1 => ?_)
  obtain ⟨-, -, i3, i4, i5, i6⟩ := hI
  have e : ji_Ent b G (ji_sR M a i.toNatClampNeg (some v)) a (3, n) = .inl (G.2.2, n, .inr (.inr (.inr (.inr (va_up (fun j => (M.2.2.2 a j).map (b + ·)) i.toNatClampNeg (some (b + v))))))) := by
    rw [ji_Ent_s]
    have : (fun j => ((ji_sR M a i.toNatClampNeg (some v)).2.2.2 a j).map (b + ·)) = va_up (fun j => (M.2.2.2 a j).map (b + ·)) i.toNatClampNeg (some (b + v)) := by
      funext j
      by_cases hj : j = i.toNatClampNeg
      · subst hj; simp [ji_sR, va_up]
      · simp [ji_sR, va_up, hj]
    rw [this]
  rw [← e, ← ji_Wd_sR hkd] at hP1
  exact kk H1 locs1 cells slots ls ⟨hP1, hS1, i3, i4, i5, i6⟩ hL
theorem ji_st_alen (X : ji_Cx p R s m args meth c al b x D G d k M0 M1) (hd : decode (ji_m k).2.1 pc = .ok (.arraylength, 1)) (h : ji_aln pc M lv st = .inl S) (kk : ji_Kk p l e R s m args below meth c Q al b x D G k M0 S) : ji_Kk p l e R s m args below meth c Q al b x D G k M0 (pc, M, lv, st) := by
  intro H locs cells slots ls hI hL
  obtain ⟨hx, hb, hr, hml, hown, hts, hlk, hnm, hK, hXK, hxo, hR, hle, hal, h1⟩ := id X
  rcases ji_aln_inv h with ⟨a, r, t, n, rfl, hkd, ht, rfl⟩ | ⟨t, r, xs, rfl, hxa, rfl⟩
  · have Kt := kk H locs cells slots ls hI hL
    have hat := ji_Wd_at (b := b) (G := G) hkd
    rcases ht with rfl | rfl | rfl
    · rw [ji_Ent_i] at hat
      exact va_alen hx hb hK.1 hI.1 a 0 hat rfl rfl hd Kt
    · rw [ji_Ent_q] at hat
      exact va_alen hx hb hK.1 hI.1 a 1 hat rfl rfl hd Kt
    · rw [ji_Ent_s] at hat
      exact va_alen hx hb hK.1 hI.1 a 2 hat rfl rfl hd Kt
  · have Kt := kk H locs cells slots ls hI hL
    obtain ⟨a, ha, hT⟩ := hXK.2.2.2.2 t xs hxa
    show W p l e R s m args below meth c H locs cells slots Q (F0 m pc ls (x t :: r.map (ji_tr b x)))
    rw [ha]
    exact va_tlen hx hb hT hI.2.1 rfl hd Kt
theorem ji_st_ldc (X : ji_Cx p R s m args meth c al b x D G d k M0 M1) {ix : Nat} (hd : decode (ji_m k).2.1 pc = .ok (.ldc ix, 2)) (h : ji_cI (ji_ctd (ji_ow k) ix) ji_tI (pc + 2) M lv st = .inl S) (kk : ji_Kk p l e R s m args below meth c Q al b x D G k M0 S) : ji_Kk p l e R s m args below meth c Q al b x D G k M0 (pc, M, lv, st) := by
  intro H locs cells slots ls hI hL
  obtain ⟨hx, hb, hr, hml, hown, hts, hlk, hnm, hK, hXK, hxo, hR, hle, hal, h1⟩ := id X
  obtain ⟨v, hv, ht, rfl⟩ := ji_ld_inv h
  have Kt := kk H locs cells slots ls hI hL
  rcases ji_ctd_ok hv with ⟨z, rfl, hw⟩ | ⟨z, rfl, hw⟩ | ⟨j, t, rfl, hst, e1, e2⟩
  · exact lv_ldc hx hb hown (hts _ (List.mem_cons_of_mem _ hw)) hd Kt
  · cases ht
  · obtain ⟨a, ha, hZ⟩ := hK.2.2.2.2 j t hst
    have Kt : W p l e R s m args below meth c H locs cells slots Q (F0 m (pc + 2) ls (x (j + 1) :: st.map (ji_tr b x))) := Kt
    rw [ha] at Kt
    rw [e1, e2] at hZ
    exact va_ldcS hx hb hown hZ hd Kt
theorem ji_st_ldc_w (X : ji_Cx p R s m args meth c al b x D G d k M0 M1) {ix : Nat} (hd : decode (ji_m k).2.1 pc = .ok (.ldc_w ix, 3)) (h : ji_cI (ji_ctd (ji_ow k) ix) ji_isI (pc + 3) M lv st = .inl S) (kk : ji_Kk p l e R s m args below meth c Q al b x D G k M0 S) : ji_Kk p l e R s m args below meth c Q al b x D G k M0 (pc, M, lv, st) := by
  intro H locs cells slots ls hI hL
  obtain ⟨hx, hb, hr, hml, hown, hts, hlk, hnm, hK, hXK, hxo, hR, hle, hal, h1⟩ := id X
  obtain ⟨v, hv, ht, rfl⟩ := ji_ld_inv h
  have Kt := kk H locs cells slots ls hI hL
  rcases ji_ctd_ok hv with ⟨z, rfl, hw⟩ | ⟨z, rfl, hw⟩ | ⟨j, t, rfl, hst, e1, e2⟩
  · exact lv_ldcw hx hb hown (hts _ (List.mem_cons_of_mem _ hw)) hd Kt
  · cases ht
  · cases ht
theorem ji_st_ldc2 (X : ji_Cx p R s m args meth c al b x D G d k M0 M1) {ix : Nat} (hd : decode (ji_m k).2.1 pc = .ok (.ldc2_w ix, 3)) (h : ji_cI (ji_ctd (ji_ow k) ix) ji_isL (pc + 3) M lv st = .inl S) (kk : ji_Kk p l e R s m args below meth c Q al b x D G k M0 S) : ji_Kk p l e R s m args below meth c Q al b x D G k M0 (pc, M, lv, st) := by
  intro H locs cells slots ls hI hL
  obtain ⟨hx, hb, hr, hml, hown, hts, hlk, hnm, hK, hXK, hxo, hR, hle, hal, h1⟩ := id X
  obtain ⟨v, hv, ht, rfl⟩ := ji_ld_inv h
  have Kt := kk H locs cells slots ls hI hL
  rcases ji_ctd_ok hv with ⟨z, rfl, hw⟩ | ⟨z, rfl, hw⟩ | ⟨j, t, rfl, hst, e1, e2⟩
  · cases ht
  · exact lv_ldc2 hx hb hown (hts _ (List.mem_cons_of_mem _ hw)) hd Kt
  · cases ht
theorem ji_st_getstatic (X : ji_Cx p R s m args meth c al b x D G d k M0 M1) {ix : Nat} (hd : decode (ji_m k).2.1 pc = .ok (.getstatic ix, 3)) (h : ji_cI (ji_sgd (ji_ow k) ix) (fun _ => true) (pc + 3) M lv st = .inl S) (kk : ji_Kk p l e R s m args below meth c Q al b x D G k M0 S) : ji_Kk p l e R s m args below meth c Q al b x D G k M0 (pc, M, lv, st) := by
  intro H locs cells slots ls hI hL
  obtain ⟨hx, hb, hr, hml, hown, hts, hlk, hnm, hK, hXK, hxo, hR, hle, hal, h1⟩ := id X
  obtain ⟨v, hv, ht, rfl⟩ := ji_ld_inv h
  have Kt := kk H locs cells slots ls hI hL
  rcases ji_sgd_ok hv with ⟨rfl, hw⟩ | ⟨rfl, hw⟩ | ⟨rfl, hw⟩
  · exact va_gets hx hb hXK.1 hI.2.1 hown (hts _ (List.mem_cons_of_mem _ hw)) (fun _ h9 => h9) hd Kt
  · exact va_gets hx hb hXK.2.1 hI.2.1 hown (hts _ (List.mem_cons_of_mem _ hw)) (fun _ h9 => h9) hd Kt
  · exact va_gets hx hb hXK.2.2.1 hI.2.1 hown (hts _ (List.mem_cons_of_mem _ hw)) (fun _ h9 => h9) hd Kt
end JIH
