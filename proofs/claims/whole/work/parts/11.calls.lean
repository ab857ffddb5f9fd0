/-! ===== calls ===== -/
def ji_B (al : Bool) (b : Nat) (x : Nat → Value) (D : va_G) (G : ji_G) (M : ji_M) (sz : Nat) (U : State) : Prop :=
  U.heap.size = sz ∧ va_P D ji_cl (ji_Wd b G M) U.heap ∧ ji_K D G x U ∧ ji_XK x (ji_A b M.1.length sz) U U.heap ∧ b + M.1.length ≤ sz ∧ (al = true → sz = b + M.1.length)
def ji_Q (b : Nat) (x : Nat → Value) (D : va_G) (G : ji_G) (M' : ji_M) (A : Nat → Prop) (r : Option Value) : Array Value → State → Outcome → State → Prop := fun _ st o t =>
  o = .returned (r.map (ji_tr b x)) ∧ va_P D ji_cl (ji_Wd b G M') t.heap ∧ va_F A st t
def ji_rm (d : Nat) (M M' : ji_M) : Room := { frames := d, cells := M'.1.length - M.1.length, slots := ji_sl M'.1 - ji_sl M.1, locals := 200 * d }
def ji_Met (l : Launch) (al : Bool) (b : Nat) (x : Nat → Value) (D : va_G) (G : ji_G) (d k : Nat) (a : List Value) (M : ji_M) (r : Option Value) (M' : ji_M) (sz : Nat) : Prop :=
  Met l (ji_m k).1 (ji_ws k) (ji_rm d M M') (va_Pc (a.map (ji_tr b x)) (ji_B al b x D G M sz)) (ji_Q b x D G M' (ji_A b M.1.length sz) r) (M'.1.length - M.1.length) (ji_sl M'.1 - ji_sl M.1) (ji_A b M.1.length sz)
/-- what a table of methods must be for callers: each answer of its is the machine's, to depth d -/
def ji_ok (l : Launch) (al : Bool) (d : Nat) (C : ji_C) : Prop :=
  ∀ (k : Nat) (a : List Value) (M : ji_M) (r : Option Value) (M' : ji_M), C k a M = some (r, M') → k < ji_ms.length ∧ M.1 <+: M'.1 ∧ (al = false → M'.1 = M.1) ∧
    ∀ (b : Nat) (x : Nat → Value) (D : va_G) (G : ji_G) (sz : Nat), ji_xo x → ji_Met l al b x D G d k a M r M' sz
theorem ji_nw_tab : ji_nw.all (fun w => w.onTables) = true := by decide +kernel
theorem ji_K.calling {D : va_G} {G : ji_G} {x : Nat → Value} {U : State} {g : JFrame} {mk : MethodId} {a : Array Value} (h : ji_K D G x U) : ji_K D G x (U.calling g mk a) := by
  obtain ⟨h1, h2, h3, h4, h5⟩ := h
  refine ⟨va_K.moved (u := U) (U := U.calling g mk a) (Vm.Alike.refl U.vm) h1, fun w hw => va_Nw.same (u := U) (U := U.calling g mk a) (List.all_eq_true.mp ji_nw_tab w hw) rfl (h2 w hw), arrayOver_alikeB (s := U) (U := U.calling g mk a) (Vm.Alike.refl U.vm) h3, va_AO.moved (u := U) (U := U.calling g mk a) (Vm.Alike.refl U.vm) h4, fun k t ht => ?_⟩
  obtain ⟨r, q1, q2⟩ := h5 k t ht
  exact ⟨r, q1, q2.same rfl⟩
theorem ji_blind {al : Bool} {b : Nat} {x : Nat → Value} {D : va_G} {G : ji_G} {M : ji_M} {sz : Nat} {av : List Value} : FrameBlind (va_Pc av (ji_B al b x D G M sz)) := by
  intro a U g mk h
  obtain ⟨h0, h1, h2, h3, h4, h5, h6⟩ := h
  exact ⟨h0, h1, h2, h3.calling, ji_XK.moved (u := U) (U := U.calling g mk a) (Vm.Alike.refl U.vm) h4, h5, h6⟩
theorem ji_sl_pre {a c : List (Nat × Nat)} (h : a <+: c) : ji_sl a ≤ ji_sl c := by
  obtain ⟨t, rfl⟩ := h
  rw [ji_sl_app]
  exact Nat.le_add_right _ _
theorem ji_good {w : Cond} (h : w ∈ ji_tt) : (w.onTables && w.keeps) = true ∨ ∃ ty, w = .arrayClass ty := good_of_word (ji_tt_good h).2
theorem ji_goodIn {k y : Nat} (hy : y < ji_ms.length) : GoodIn (ji_ws k) (ji_ws y) := by
  intro w hw
  have hw2 : w ∈ ji_tt := by
    rcases List.mem_cons.mp hw with e | e
    · rw [e]; exact (ji_m_at hy).1
    · exact e
  exact ⟨List.mem_cons_of_mem _ hw2, ji_good hw2⟩
theorem ji_goodApp {k : Nat} {a w : List Cond} (ha : ∀ w ∈ a, w ∈ ji_tt) (hw : GoodIn (ji_ws k) w) : GoodIn (ji_ws k) (a ++ w) := by
  intro q hq
  rcases List.mem_append.mp hq with h | h
  · exact ⟨List.mem_cons_of_mem _ (ha q h), ji_good (ha q h)⟩
  · exact hw q h
section JIC
variable {p : Program} {l : Launch} {e : Env} {R : Room} {s : State} {m : MethodId} {args : Array Value} {below : List Frame} {meth : Method} {c : Code} {Q : State → Prop}
variable {al : Bool} {b : Nat} {x : Nat → Value} {D : va_G} {G : ji_G} {d d' k : Nat} {M0 M1 M M' : ji_M} {H : Heap} {locs : List Loc} {cells slots pc len : Nat} {lv : ji_L} {st : List Value} {S : ji_S} {C : ji_C}
theorem ji_Asub (X : ji_Cx p R s m args meth c al b x D G d k M0 M1) (hI : ji_Iv s al b D G M0 M H locs cells slots) : ∀ q, ji_A b M.1.length H.size q → ji_A b M0.1.length s.heap.size q := by
  obtain ⟨-, -, -, -, -, -, -, -, -, -, -, -, hle, hal, -⟩ := X
  obtain ⟨hP, hS, hpre, h2, -⟩ := hI
  have h3 := hS.1
  intro q hq
  unfold ji_A at hq ⊢
  cases ha : al with
  | true => have := hal ha; omega
  | false => rw [h2 ha] at hq; omega
/-- what the callee asks of the state -/
theorem ji_pre (X : ji_Cx p R s m args meth c al b x D G d k M0 M1) (hI : ji_Iv s al b D G M0 M H locs cells slots) (hsz : al = true → H.size = b + M.1.length) {U : State} (hU : U.heap = H) (hW : s.WarmedH U.vm) : ji_B al b x D G M H.size U := by
  have hlow := ji_low X hI
  have hsub := ji_Asub X hI
  obtain ⟨hx, hb, hr, hml, hown, hts, hlk, hnm, hK, hXK, hxo, hR, hle, hal, h1⟩ := X
  refine ⟨by rw [hU], by rw [hU]; exact hI.1, hK.warm hW, ?_, hlow, hsz⟩
  rw [hU]
  exact ((hXK.kept hI.2.1.2.1).narrow hsub).moved hW.alike
theorem ji_after {mc ms : Nat} {ls : Array Slot} {st0 rest : List Value} {v : Option Value} {a : Array Value} (X : ji_Cx p R s m args meth c al b x D G d k M0 M1) (hI : ji_Iv s al b D G M0 M H locs cells slots) (hL : ji_Lv b x ls (ji_m k).2.2.1 lv)
    (hpre : M.1 <+: M'.1) (hsame : al = false → M'.1 = M.1) (hmc : mc = M'.1.length - M.1.length) (hms : ms = ji_sl M'.1 - ji_sl M.1)
    (hr : va_Run p l e R s m args below meth c H locs cells slots mc ms (F0 m pc ls st0) (rest.map (ji_tr b x)) (ji_Q b x D G M' (ji_A b M.1.length H.size) v a) (ji_A b M.1.length H.size))
    (kk : ji_Kk p l e R s m args below meth c Q al b x D G k M0 (pc + 3, M', lv, v.toList ++ rest)) : W p l e R s m args below meth c H locs cells slots Q (F0 m pc ls st0) := by
  have hsub := ji_Asub X hI
  have hlen := hpre.length_le
  have hsl := ji_sl_pre hpre
  intro T hT Xs
  obtain ⟨w, st₀, t, T', L, h0, X', hLL, e1, e2, ⟨hv, hP, hF⟩, hst⟩ := hr T hT Xs
  have hw : w = v.map (ji_tr b x) := by cases hv; rfl
  subst hw
  obtain ⟨-, hS, i3, i4, i5, i6⟩ := hI
  have hI' : ji_Iv s al b D G M0 M' T'.heap (locs ++ L) (cells + mc) (slots + ms) := by
    refine ⟨by rw [e1]; exact hP, ⟨?_, fun q h1 h2 => ?_, fun q hq => ?_⟩, i3.trans hpre, fun ha => (hsame ha).trans (i4 ha), by omega, by omega⟩
    · have := hF.1
      rw [h0] at this
      rw [e1]
      exact Nat.le_trans hS.1 this
    · rw [e1, hF.2 q (by rw [h0]; exact Nat.lt_of_lt_of_le h1 hS.1) (fun z => h2 (hsub q z)), h0]
      exact hS.2.1 q h1 h2
    · rcases List.mem_append.mp hq with h | h
      · exact hS.2.2 q h
      · exact hsub _ (hLL q h)
  obtain ⟨t2, a1, b1⟩ := kk T'.heap (locs ++ L) (cells + mc) (slots + ms) ls hI' hL T' rfl X'
  have ef : ((v.toList ++ rest).map (ji_tr b x)) = (v.map (ji_tr b x)).toList ++ rest.map (ji_tr b x) := by
    cases v <;> rfl
  rw [ef] at a1
  exact ⟨t2, hst t2 a1, b1⟩
theorem ji_w8t (hxo : ji_xo x) {r : List Value} (h : (r.map fun v => v.category).sum ≤ 8) : ((r.map (ji_tr b x)).map fun v => v.category).sum ≤ 8 := by
  rw [List.map_map]
  have : ((fun v : Value => v.category) ∘ ji_tr b x) = fun v => v.category := funext fun v => ji_tr_cat hxo v
  rw [this]
  exact h
theorem ji_stk {n : Nat} {r : Value} {st' : List Value} (h : st.drop n = r :: st') : st.map (ji_tr b x) = ((st.take n).reverse.map (ji_tr b x)).reverse ++ ji_tr b x r :: st'.map (ji_tr b x) ∧ ((st.take n).reverse.map (ji_tr b x)).length = n := by
  have h1 := List.take_append_drop n st
  refine ⟨?_, ?_⟩
  · rw [← List.map_reverse, List.reverse_reverse]
    conv => lhs; rw [← h1, h]
    simp
  · have hn : n < st.length := by
      rcases Nat.lt_or_ge n st.length with q | q
      · exact q
      · rw [List.drop_eq_nil_of_le q] at h; cases h
    simp
    omega
theorem ji_st_iv (X : ji_Cx p R s m args meth c al b x D G d k M0 M1) (hC : ji_ok l al d' C) (hdd : d = d' + 1) {ix : Nat} (hd : decode (ji_m k).2.1 pc = .ok (.invokevirtual ix, 3)) (h : ji_iv C k ix pc M lv st = .inl S) (hroom : S.2.1.1.length ≤ M1.1.length ∧ ji_sl S.2.1.1 ≤ ji_sl M1.1) (kk : ji_Kk p l e R s m args below meth c Q al b x D G k M0 S) : ji_Kk p l e R s m args below meth c Q al b x D G k M0 (pc, M, lv, st) := by
  intro H locs cells slots ls hI hL
  replace hI : ji_Iv s al b D G M0 M H locs cells slots := hI
  refine ji_size X hI (fun hsz => ?_)
  obtain ⟨hx, hb, hr, hml, hown, hts, hlk, hnm, hK, hXK, hxo, hR, hle, hal, h1⟩ := id X
  obtain ⟨y, n, rc, r, st', v, M', hcd, hdrop, hrc, h8, hc, rfl⟩ := ji_iv_inv h
  obtain ⟨hy, hpre, hsame, hM⟩ := hC _ _ _ _ _ hc
  obtain ⟨wa, wb, wc, wd, hcok⟩ := ji_cd_ok hcd
  simp only [ji_cok, if_neg (show ¬ (0 : Nat) = 5 by decide), if_neg (show ¬ (0 : Nat) = 6 by decide), if_neg (show ¬ (0 : Nat) = 7 by decide), if_neg (show ¬ (0 : Nat) = 8 by decide), if_neg (show ¬ (0 : Nat) = 9 by decide), if_true, Bool.and_eq_true, decide_eq_true_eq] at hcok
  obtain ⟨⟨hy2, hpar⟩, ⟨⟨⟨hcl, hwa⟩, hwb⟩, hwc⟩, hwd⟩ := hcok
  obtain ⟨mc1, mc2, mc3, mc4, mc5, mc6, mc7⟩ := ji_m_at hy
  have hMet := hM b x D G H.size hxo
  obtain ⟨e1, e2⟩ := ji_stk (b := b) (x := x) hdrop
  obtain ⟨hr1, hr2, hr3, hr4⟩ := hR
  have hic : cells + M0.1.length = M.1.length := hI.2.2.2.2.1
  have his : slots + ji_sl M0.1 = ji_sl M.1 := hI.2.2.2.2.2
  have hlen := hpre.length_le
  have hsl := ji_sl_pre hpre
  dsimp only at hroom
  have hrecv : ∃ (ad : Nat) (cell : Cell), ji_tr b x r = .ref ad ∧ H[ad]? = some cell ∧ cell.vm.isStatics = false ∧ s.vm.findClass (ji_m y).1.cls = some cell.cls := by
    cases r with
    | ref a =>
      simp only [ji_rcb, decide_eq_true_eq] at hrc
      have hat := ji_Wd_at (b := b) (G := G) hrc
      rw [ji_Ent_o] at hat
      obtain ⟨q, hq, -⟩ := hI.1 a _ hat
      obtain ⟨ty, -, -, -, -, -, hcn, -⟩ := ji_cl_ok hq
      obtain ⟨cell, c1, c2, c3⟩ := va_recv hK.1 hI.1 hq hat
      exact ⟨b + a, cell, rfl, c1, c2, by rw [← hcl, hcn]; exact c3⟩
    | retAddr t =>
      simp only [ji_rcb, Bool.and_eq_true, decide_eq_true_eq] at hrc
      obtain ⟨a, ha, hO, -⟩ := hXK.2.2.2.1 t hrc.1.2 hrc.2
      obtain ⟨cell, c1, c2, c3, -⟩ := hO.kept hI.2.1.2.1
      refine ⟨a, cell, ha, c1, c2, ?_⟩
      rw [← hcl, hrc.1.1, ji_nm10]
      exact c3
    | _ => cases hrc
  obtain ⟨ad, cell, ha, c1, c2, c3⟩ := hrecv
  rw [ha] at e1
  have hG : GoodIn (ji_ws k) (wsV (ji_nm (ji_ow k)) ix (ji_m y).1.cls (ji_m y).1 (ji_ws y)) := by
    unfold wsV
    refine ji_goodApp (fun w hw => ?_) (ji_goodIn hy)
    simp only [List.mem_cons, List.not_mem_nil, or_false] at hw
    rcases hw with rfl | rfl | rfl | rfl
    · exact ji_is1_in hwa
    · exact ji_is1_in hwb
    · exact ji_is1_in hwc
    · exact ji_is1_in hwd
  have hrun := va_runV (e := e) (below := below) (meth := meth) (locs := locs) (cells := cells) (slots := slots) (R := R) (As := (st.take n).reverse.map (ji_tr b x)) (rest := st'.map (ji_tr b x)) (b := ad) (g := F0 m pc ls (st.map (ji_tr b x))) ⟨hx, hb, hml, hown, hts⟩ hMet (cwV n hts hG rfl rfl rfl ⟨rfl, mc6, mc7, hpar⟩ ⟨by rw [hr1]; show d' + 1 ≤ d; omega, by rw [hr2]; show 8 + ((ji_m y).2.2.1 + 11) + 200 * d' ≤ 200 * d; omega⟩)
    ⟨ji_blind, ⟨cell, c1, c2, c3⟩, fun U hU hW => ⟨by rw [List.map_cons, ha], ji_pre X hI hsz hU hW⟩⟩ rfl e2 hL.1 e1 (lv_room (ji_w8t hxo h8)) hd ⟨by rw [hr3]; omega, by rw [hr4]; omega⟩
  exact ji_after X hI hL hpre hsame rfl rfl hrun kk
end JIC
