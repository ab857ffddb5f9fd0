/-! ===== calls of static methods, of constructors, and what the kit has as one row ===== -/
section JID
variable {p : Program} {l : Launch} {e : Env} {R : Room} {s : State} {m : MethodId} {args : Array Value} {below : List Frame} {meth : Method} {c : Code} {Q : State → Prop}
variable {al : Bool} {b : Nat} {x : Nat → Value} {D : va_G} {G : ji_G} {d d' k : Nat} {M0 M1 M M' : ji_M} {H : Heap} {locs : List Loc} {cells slots pc len : Nat} {lv : ji_L} {st : List Value} {S : ji_S} {C : ji_C}
theorem ji_stkS {n : Nat} (h : n ≤ st.length) : st.map (ji_tr b x) = ((st.take n).reverse.map (ji_tr b x)).reverse ++ (st.drop n).map (ji_tr b x) ∧ ((st.take n).reverse.map (ji_tr b x)).length = n := by
  refine ⟨?_, ?_⟩
  · rw [← List.map_reverse, List.reverse_reverse, ← List.map_append, List.take_append_drop]
  · simp
    omega
theorem ji_st_is (X : ji_Cx p R s m args meth c al b x D G d k M0 M1) (hC : ji_ok l al d' C) (hdd : d = d' + 1) {ix : Nat} (hd : decode (ji_m k).2.1 pc = .ok (.invokestatic ix, 3)) (h : ji_is9 C k ix pc M lv st = .inl S) (hroom : S.2.1.1.length ≤ M1.1.length ∧ ji_sl S.2.1.1 ≤ ji_sl M1.1) (kk : ji_Kk p l e R s m args below meth c Q al b x D G k M0 S) : ji_Kk p l e R s m args below meth c Q al b x D G k M0 (pc, M, lv, st) := by
  intro H locs cells slots ls hI hL
  replace hI : ji_Iv s al b D G M0 M H locs cells slots := hI
  refine ji_size X hI (fun hsz => ?_)
  obtain ⟨hx, hb, hr, hml, hown, hts, hlk, hnm, hK, hXK, hxo, hR, hle, hal, h1⟩ := id X
  obtain ⟨hr1, hr2, hr3, hr4⟩ := hR
  have hic : cells + M0.1.length = M.1.length := hI.2.2.2.2.1
  have his : slots + ji_sl M0.1 = ji_sl M.1 := hI.2.2.2.2.2
  have hmls : c.maxLocals = ls.size := by rw [hml]; exact hL.1.symm
  rcases ji_is9_inv h with ⟨kd, y, n, z, v, M', hkd, hcd, hn, h8, hc, rfl⟩ | ⟨⟨_, _, _⟩, n, dp, a1, sp, a0, st', n0, n1, hcd, rfl, hk0, hk1, g1, g2, g3, g4, g5, h8, rfl⟩ | ⟨⟨_, _, _⟩, y, z, st', hcd, rfl, h8, rfl⟩ | ⟨⟨_, _, _⟩, y, z, st', hcd, rfl, h8, rfl⟩ | ⟨⟨_, _, _⟩, y, z, st', hcd, rfl, h8, rfl⟩
  · obtain ⟨hy, hpre, hsame, hM⟩ := hC _ _ _ _ _ hc
    obtain ⟨wa, wb, wc, wd, hcok⟩ := ji_cd_ok hcd
    obtain ⟨mc1, mc2, mc3, mc4, mc5, mc6, mc7⟩ := ji_m_at hy
    have hMet := hM b x D G H.size hxo
    obtain ⟨e1, e2⟩ := ji_stkS (b := b) (x := x) hn
    have hlen := hpre.length_le
    have hsl := ji_sl_pre hpre
    dsimp only at hroom
    rcases hkd with rfl | rfl
    · simp only [ji_cok, if_neg (show ¬ (1 : Nat) = 5 by decide), if_neg (show ¬ (1 : Nat) = 6 by decide), if_neg (show ¬ (1 : Nat) = 7 by decide), if_neg (show ¬ (1 : Nat) = 8 by decide), if_neg (show ¬ (1 : Nat) = 9 by decide), if_neg (show ¬ (1 : Nat) = 0 by decide), if_true, Bool.and_eq_true, decide_eq_true_eq] at hcok
      obtain ⟨⟨hy2, hpar⟩, ⟨hwa, hwb⟩, hwc⟩ := hcok
      have hG : GoodIn (ji_ws k) (va_wsS (ji_nm (ji_ow k)) ix (ji_m y).1 (ji_ws y)) := by
        unfold va_wsS
        refine ji_goodApp (fun w hw => ?_) (ji_goodIn hy)
        simp only [List.mem_cons, List.not_mem_nil, or_false] at hw
        rcases hw with rfl | rfl | rfl
        · exact ji_is1_in hwa
        · exact ji_is1_in hwb
        · exact ji_is1_in hwc
      have hrun := va_runS (e := e) (below := below) (meth := meth) (locs := locs) (cells := cells) (slots := slots) (R := R) (As := (st.take n).reverse.map (ji_tr b x)) (rest := (st.drop n).map (ji_tr b x)) (g := F0 m pc ls (st.map (ji_tr b x))) ⟨hx, hb, hml, hown, hts⟩ hMet (va_cwS n hts hG rfl rfl rfl ⟨mc6, mc7, hpar⟩ ⟨by rw [hr1]; show d' + 1 ≤ d; omega, by rw [hr2]; show 8 + ((ji_m y).2.2.1 + 11) + 200 * d' ≤ 200 * d; omega⟩)
        ⟨ji_blind, fun U hU hW => ⟨rfl, ji_pre X hI hsz hU hW⟩⟩ rfl e2 hL.1 e1 (lv_room (ji_w8t hxo h8)) hd ⟨by rw [hr3]; omega, by rw [hr4]; omega⟩
      exact ji_after X hI hL hpre hsame rfl rfl hrun kk
    · simp only [ji_cok, if_neg (show ¬ (4 : Nat) = 5 by decide), if_neg (show ¬ (4 : Nat) = 6 by decide), if_neg (show ¬ (4 : Nat) = 7 by decide), if_neg (show ¬ (4 : Nat) = 8 by decide), if_neg (show ¬ (4 : Nat) = 9 by decide), if_neg (show ¬ (4 : Nat) = 0 by decide), if_neg (show ¬ (4 : Nat) = 1 by decide), if_neg (show ¬ (4 : Nat) = 2 by decide), if_neg (show ¬ (4 : Nat) = 3 by decide), if_true, Bool.and_eq_true, decide_eq_true_eq] at hcok
      obtain ⟨⟨hy2, hpar⟩, ⟨⟨-, hwa⟩, hwb⟩, hwc⟩ := hcok
      have hl9 := hK.2.1 _ (List.mem_of_getElem? hwa)
      have hrun := va_runSN (e := e) (below := below) (meth := meth) (locs := locs) (cells := cells) (slots := slots) (R := R) (As := (st.take n).reverse.map (ji_tr b x)) (rest := (st.drop n).map (ji_tr b x)) (g := F0 m pc ls (st.map (ji_tr b x))) ⟨hx, hb, hml, hown, hts⟩ hMet ⟨va_cnB n hts (ji_goodIn hy) rfl rfl rfl hl9 (hts _ (List.mem_cons_of_mem _ (ji_is1_in hwc))) ⟨mc6, mc7, hpar⟩ ⟨by rw [hr1]; show d' + 1 ≤ d; omega, by rw [hr2]; show 8 + ((ji_m y).2.2.1 + 11) + 200 * d' ≤ 200 * d; omega⟩, hts _ (List.mem_cons_of_mem _ (ji_is1_in hwb)), trivial⟩
        ⟨ji_blind, fun U hU hW => ⟨rfl, ji_pre X hI hsz hU hW⟩⟩ rfl e2 hL.1 e1 (lv_room (ji_w8t hxo h8)) hd ⟨by rw [hr3]; omega, by rw [hr4]; omega⟩
      exact ji_after X hI hL hpre hsame rfl rfl hrun kk
  · obtain ⟨wa, wb, wc, wd, hcok⟩ := ji_cd_ok hcd
    simp only [ji_cok, if_neg (show ¬ (6 : Nat) = 5 by decide), if_true, Bool.and_eq_true] at hcok
    obtain ⟨⟨⟨hwa, hwb⟩, hwc⟩, hwd⟩ := hcok
    have hat0 := ji_Wd_at (b := b) (G := G) hk0
    have hat1 := ji_Wd_at (b := b) (G := G) hk1
    rw [ji_Ent_i] at hat0 hat1
    refine va_copyi hx hb hmls hown (hts _ (List.mem_cons_of_mem _ (ji_is1_in hwa))) (hts _ (List.mem_cons_of_mem _ (ji_is1_in hwb))) (hts _ (List.mem_cons_of_mem _ (ji_is1_in hwc))) (hts _ (List.mem_cons_of_mem _ (ji_is1_in hwd))) hK.1 hI.1 (ji_Iv_D X hI) hI.2.1 a0 a1 0 0 hat0 hat1 rfl rfl rfl g1 g2 g3 g4 g5 (fun _ _ => rfl) (by rw [hr1]; exact h1) (by
      have := ji_w8t (x := x) (b := b) hxo h8
      have h9 : nativeFrameWords "java/lang/System" "arraycopy" 5 ≤ 100 := by decide +kernel
      rw [hr2]; omega) hd (fun H1 locs1 hP1 _ hS1 => ?_)
    obtain ⟨-, -, i3, i4, i5, i6⟩ := hI
    have ee : ji_Ent b G (ji_cp M a0 sp.toNatClampNeg a1 dp.toNatClampNeg n.toNatClampNeg) a1 (1, n1) = .inl (G.1, n1, .inl (va_cpy (M.2.1 a0) (M.2.1 a1) sp.toNatClampNeg dp.toNatClampNeg n.toNatClampNeg)) := by
      rw [ji_Ent_i]
      have : (ji_cp M a0 sp.toNatClampNeg a1 dp.toNatClampNeg n.toNatClampNeg).2.1 a1 = va_cpy (M.2.1 a0) (M.2.1 a1) sp.toNatClampNeg dp.toNatClampNeg n.toNatClampNeg := by funext j; simp [ji_cp, va_cpy]
      rw [this]
    rw [← ee, ← ji_Wd_cp hk1] at hP1
    exact kk H1 locs1 cells slots ls ⟨hP1, hS1, i3, i4, i5, i6⟩ hL
  · obtain ⟨wa, wb, wc, wd, hcok⟩ := ji_cd_ok hcd
    simp only [ji_cok, if_neg (show ¬ (7 : Nat) = 5 by decide), if_neg (show ¬ (7 : Nat) = 6 by decide), if_true, Bool.and_eq_true] at hcok
    obtain ⟨⟨⟨hwa, hwb⟩, hwc⟩, hwd⟩ := hcok
    dsimp only at hroom
    exact va_mmax hx hb hmls hown (hts _ (List.mem_cons_of_mem _ (ji_is1_in hwa))) (hts _ (List.mem_cons_of_mem _ (ji_is1_in hwb))) (hts _ (List.mem_cons_of_mem _ (ji_is1_in hwc))) (hts _ (List.mem_cons_of_mem _ (ji_is1_in hwd))) (by rw [hr1]; exact h1) (by have := ji_w8t (x := x) (b := b) hxo h8; rw [hr2]; omega) (by rw [hr3]; omega) (by rw [hr4]; omega) hd (kk H locs cells slots ls hI hL)
  · obtain ⟨wa, wb, wc, wd, hcok⟩ := ji_cd_ok hcd
    simp only [ji_cok, if_neg (show ¬ (8 : Nat) = 5 by decide), if_neg (show ¬ (8 : Nat) = 6 by decide), if_neg (show ¬ (8 : Nat) = 7 by decide), if_true, Bool.and_eq_true] at hcok
    obtain ⟨⟨⟨hwa, hwb⟩, hwc⟩, hwd⟩ := hcok
    dsimp only at hroom
    exact va_mmin hx hb hmls hown (hts _ (List.mem_cons_of_mem _ (ji_is1_in hwa))) (hts _ (List.mem_cons_of_mem _ (ji_is1_in hwb))) (hts _ (List.mem_cons_of_mem _ (ji_is1_in hwc))) (hts _ (List.mem_cons_of_mem _ (ji_is1_in hwd))) (by rw [hr1]; exact h1) (by have := ji_w8t (x := x) (b := b) hxo h8; rw [hr2]; omega) (by rw [hr3]; omega) (by rw [hr4]; omega) hd (kk H locs cells slots ls hI hL)
  · obtain ⟨wa, wb, wc, wd, hcok⟩ := ji_cd_ok hcd
    simp only [ji_cok, if_neg (show ¬ (9 : Nat) = 5 by decide), if_neg (show ¬ (9 : Nat) = 6 by decide), if_neg (show ¬ (9 : Nat) = 7 by decide), if_neg (show ¬ (9 : Nat) = 8 by decide), if_true, Bool.and_eq_true] at hcok
    obtain ⟨⟨⟨hwa, hwb⟩, hwc⟩, hwd⟩ := hcok
    dsimp only at hroom
    exact va_mmin_long hx hb hmls hown (hts _ (List.mem_cons_of_mem _ (ji_is1_in hwa))) (hts _ (List.mem_cons_of_mem _ (ji_is1_in hwb))) (hts _ (List.mem_cons_of_mem _ (ji_is1_in hwc))) (hts _ (List.mem_cons_of_mem _ (ji_is1_in hwd))) (by rw [hr1]; exact h1) (by have := ji_w8t (x := x) (b := b) hxo h8; rw [hr2]; omega) (by rw [hr3]; omega) (by rw [hr4]; omega) hd (kk H locs cells slots ls hI hL)
theorem ji_st_ip (X : ji_Cx p R s m args meth c al b x D G d k M0 M1) (hC : ji_ok l al d' C) (hdd : d = d' + 1) {ix : Nat} (hd : decode (ji_m k).2.1 pc = .ok (.invokespecial ix, 3)) (h : ji_ip C k ix pc M lv st = .inl S) (hroom : S.2.1.1.length ≤ M1.1.length ∧ ji_sl S.2.1.1 ≤ ji_sl M1.1) (kk : ji_Kk p l e R s m args below meth c Q al b x D G k M0 S) : ji_Kk p l e R s m args below meth c Q al b x D G k M0 (pc, M, lv, st) := by
  intro H locs cells slots ls hI hL
  replace hI : ji_Iv s al b D G M0 M H locs cells slots := hI
  refine ji_size X hI (fun hsz => ?_)
  obtain ⟨hx, hb, hr, hml, hown, hts, hlk, hnm, hK, hXK, hxo, hR, hle, hal, h1⟩ := id X
  obtain ⟨hr1, hr2, hr3, hr4⟩ := hR
  have hic : cells + M0.1.length = M.1.length := hI.2.2.2.2.1
  have his : slots + ji_sl M0.1 = ji_sl M.1 := hI.2.2.2.2.2
  rcases ji_ip_inv h with ⟨kd, y, n, rc, a, st', v, M', hkd, hcd, hdrop, hka, h8, hc, rfl⟩ | ⟨⟨_, _, _⟩, a, r, hcd, rfl, h8, rfl⟩
  · obtain ⟨hy, hpre, hsame, hM⟩ := hC _ _ _ _ _ hc
    obtain ⟨wa, wb, wc, wd, hcok⟩ := ji_cd_ok hcd
    obtain ⟨mc1, mc2, mc3, mc4, mc5, mc6, mc7⟩ := ji_m_at hy
    have hMet := hM b x D G H.size hxo
    obtain ⟨e1, e2⟩ := ji_stk (b := b) (x := x) hdrop
    have hlen := hpre.length_le
    have hsl := ji_sl_pre hpre
    dsimp only at hroom
    have ew : ∀ {w : List Cond}, (ji_m y).2.2.2.1 = none → w = ji_ws y → w = Cond.code (ji_m y).1 (ji_m y).2.1 (ji_m y).2.2.1 none :: ji_tt := by
      intro w h0 hw
      rw [hw]
      unfold ji_ws
      rw [h0]
    rcases hkd with rfl | rfl
    · simp only [ji_cok, if_neg (show ¬ (2 : Nat) = 5 by decide), if_neg (show ¬ (2 : Nat) = 6 by decide), if_neg (show ¬ (2 : Nat) = 7 by decide), if_neg (show ¬ (2 : Nat) = 8 by decide), if_neg (show ¬ (2 : Nat) = 9 by decide), if_neg (show ¬ (2 : Nat) = 0 by decide), if_neg (show ¬ (2 : Nat) = 1 by decide), if_true, Bool.and_eq_true, decide_eq_true_eq] at hcok
      obtain ⟨⟨hy2, hpar⟩, ⟨⟨⟨⟨hcl, hwa⟩, hwb⟩, hwc⟩, hin⟩, hrn⟩ := hcok
      have hrun := va_runI (e := e) (below := below) (meth := meth) (locs := locs) (cells := cells) (slots := slots) (R := R) (As := (st.take n).reverse.map (ji_tr b x)) (rest := st'.map (ji_tr b x)) (b := b + a) (g := F0 m pc ls (st.map (ji_tr b x))) ⟨hx, hb, hml, hown, hts⟩ hMet (cwI n hts (ji_goodIn hy) (ew hrn rfl) rfl rfl (hts _ (List.mem_cons_of_mem _ (ji_is1_in hwc))) (hts _ (List.mem_cons_of_mem _ (ji_is1_in hwa))) (hts _ (List.mem_cons_of_mem _ (ji_is1_in hwb))) hin ⟨mc6, mc7, hpar⟩ ⟨by rw [hr1]; show d' + 1 ≤ d; omega, by rw [hr2]; show 8 + ((ji_m y).2.2.1 + 11) + 200 * d' ≤ 200 * d; omega⟩)
        ⟨ji_blind, fun U hU hW => ⟨rfl, ji_pre X hI hsz hU hW⟩⟩ rfl e2 hL.1 e1 (lv_room (ji_w8t hxo h8)) hd ⟨by rw [hr3]; omega, by rw [hr4]; omega⟩
      exact ji_after X hI hL hpre hsame rfl rfl hrun kk
    · simp only [ji_cok, if_neg (show ¬ (3 : Nat) = 5 by decide), if_neg (show ¬ (3 : Nat) = 6 by decide), if_neg (show ¬ (3 : Nat) = 7 by decide), if_neg (show ¬ (3 : Nat) = 8 by decide), if_neg (show ¬ (3 : Nat) = 9 by decide), if_neg (show ¬ (3 : Nat) = 0 by decide), if_neg (show ¬ (3 : Nat) = 1 by decide), if_neg (show ¬ (3 : Nat) = 2 by decide), if_true, Bool.and_eq_true, decide_eq_true_eq] at hcok
      obtain ⟨⟨hy2, hpar⟩, ⟨⟨⟨⟨hcl, hwa⟩, hwb⟩, hwc⟩, hin⟩, hrn⟩ := hcok
      have hl9 := hK.2.1 _ (List.mem_of_getElem? hwa)
      have hrun := va_runIN (e := e) (below := below) (meth := meth) (locs := locs) (cells := cells) (slots := slots) (R := R) (As := (st.take n).reverse.map (ji_tr b x)) (rest := st'.map (ji_tr b x)) (b := b + a) (g := F0 m pc ls (st.map (ji_tr b x))) ⟨hx, hb, hml, hown, hts⟩ hMet ⟨va_cnB n hts (ji_goodIn hy) (ew hrn rfl) rfl rfl hl9 (hts _ (List.mem_cons_of_mem _ (ji_is1_in hwc))) ⟨mc6, mc7, hpar⟩ ⟨by rw [hr1]; show d' + 1 ≤ d; omega, by rw [hr2]; show 8 + ((ji_m y).2.2.1 + 11) + 200 * d' ≤ 200 * d; omega⟩, hin, hts _ (List.mem_cons_of_mem _ (ji_is1_in hwb))⟩
        ⟨ji_blind, fun U hU hW => ⟨rfl, ji_pre X hI hsz hU hW⟩⟩ rfl e2 hL.1 e1 (lv_room (ji_w8t hxo h8)) hd ⟨by rw [hr3]; omega, by rw [hr4]; omega⟩
      exact ji_after X hI hL hpre hsame rfl rfl hrun kk
  · obtain ⟨wa, wb, wc, wd, hcok⟩ := ji_cd_ok hcd
    simp only [ji_cok, if_true, Bool.and_eq_true] at hcok
    obtain ⟨⟨hwa, hwb⟩, hwc⟩ := hcok
    have h9 := ji_w8t (x := x) (b := b) hxo h8
    exact W.objInit (g := F0 m pc ls ((Value.ref a :: r).map (ji_tr b x))) (a := b + a) (rest := r.map (ji_tr b x)) hx hb hown (hts _ (List.mem_cons_of_mem _ (ji_is1_in hwa))) (hts _ (List.mem_cons_of_mem _ (ji_is1_in hwb))) (hts _ (List.mem_cons_of_mem _ (ji_is1_in hwc))) rfl (by rw [hml]; exact hL.1) rfl hd (by rw [hr1]; exact h1) (by rw [hr2]; show 2 * 0 + _ + 12 ≤ _; omega) (kk H locs cells slots ls hI hL)
end JID
