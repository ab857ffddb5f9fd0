/-! ===== the model goes on by a token ===== -/
theorem cs_40_41 : ((40 : Int32) = 41) = False := eq_false (by decide)
theorem cs_40_59 : ((40 : Int32) = 59) = False := eq_false (by decide)
theorem cs_40_43 : ((40 : Int32) = 43) = False := eq_false (by decide)
theorem cs_40_45 : ((40 : Int32) = 45) = False := eq_false (by decide)
theorem cs_40_42 : ((40 : Int32) = 42) = False := eq_false (by decide)
theorem cs_40_60 : ((40 : Int32) = 60) = False := eq_false (by decide)
theorem cs_40_61 : ((40 : Int32) = 61) = False := eq_false (by decide)
theorem cs_41_40 : ((41 : Int32) = 40) = False := eq_false (by decide)
theorem cs_41_59 : ((41 : Int32) = 59) = False := eq_false (by decide)
theorem cs_41_43 : ((41 : Int32) = 43) = False := eq_false (by decide)
theorem cs_41_45 : ((41 : Int32) = 45) = False := eq_false (by decide)
theorem cs_41_42 : ((41 : Int32) = 42) = False := eq_false (by decide)
theorem cs_41_60 : ((41 : Int32) = 60) = False := eq_false (by decide)
theorem cs_41_61 : ((41 : Int32) = 61) = False := eq_false (by decide)
theorem cs_59_40 : ((59 : Int32) = 40) = False := eq_false (by decide)
theorem cs_59_41 : ((59 : Int32) = 41) = False := eq_false (by decide)
theorem cs_59_43 : ((59 : Int32) = 43) = False := eq_false (by decide)
theorem cs_59_45 : ((59 : Int32) = 45) = False := eq_false (by decide)
theorem cs_59_42 : ((59 : Int32) = 42) = False := eq_false (by decide)
theorem cs_59_60 : ((59 : Int32) = 60) = False := eq_false (by decide)
theorem cs_59_61 : ((59 : Int32) = 61) = False := eq_false (by decide)
theorem cs_43_40 : ((43 : Int32) = 40) = False := eq_false (by decide)
theorem cs_43_41 : ((43 : Int32) = 41) = False := eq_false (by decide)
theorem cs_43_59 : ((43 : Int32) = 59) = False := eq_false (by decide)
theorem cs_43_45 : ((43 : Int32) = 45) = False := eq_false (by decide)
theorem cs_43_42 : ((43 : Int32) = 42) = False := eq_false (by decide)
theorem cs_43_60 : ((43 : Int32) = 60) = False := eq_false (by decide)
theorem cs_43_61 : ((43 : Int32) = 61) = False := eq_false (by decide)
theorem cs_45_40 : ((45 : Int32) = 40) = False := eq_false (by decide)
theorem cs_45_41 : ((45 : Int32) = 41) = False := eq_false (by decide)
theorem cs_45_59 : ((45 : Int32) = 59) = False := eq_false (by decide)
theorem cs_45_43 : ((45 : Int32) = 43) = False := eq_false (by decide)
theorem cs_45_42 : ((45 : Int32) = 42) = False := eq_false (by decide)
theorem cs_45_60 : ((45 : Int32) = 60) = False := eq_false (by decide)
theorem cs_45_61 : ((45 : Int32) = 61) = False := eq_false (by decide)
theorem cs_42_40 : ((42 : Int32) = 40) = False := eq_false (by decide)
theorem cs_42_41 : ((42 : Int32) = 41) = False := eq_false (by decide)
theorem cs_42_59 : ((42 : Int32) = 59) = False := eq_false (by decide)
theorem cs_42_43 : ((42 : Int32) = 43) = False := eq_false (by decide)
theorem cs_42_45 : ((42 : Int32) = 45) = False := eq_false (by decide)
theorem cs_42_60 : ((42 : Int32) = 60) = False := eq_false (by decide)
theorem cs_42_61 : ((42 : Int32) = 61) = False := eq_false (by decide)
theorem cs_60_40 : ((60 : Int32) = 40) = False := eq_false (by decide)
theorem cs_60_41 : ((60 : Int32) = 41) = False := eq_false (by decide)
theorem cs_60_59 : ((60 : Int32) = 59) = False := eq_false (by decide)
theorem cs_60_43 : ((60 : Int32) = 43) = False := eq_false (by decide)
theorem cs_60_45 : ((60 : Int32) = 45) = False := eq_false (by decide)
theorem cs_60_42 : ((60 : Int32) = 42) = False := eq_false (by decide)
theorem cs_60_61 : ((60 : Int32) = 61) = False := eq_false (by decide)
theorem cs_61_40 : ((61 : Int32) = 40) = False := eq_false (by decide)
theorem cs_61_41 : ((61 : Int32) = 41) = False := eq_false (by decide)
theorem cs_61_59 : ((61 : Int32) = 59) = False := eq_false (by decide)
theorem cs_61_43 : ((61 : Int32) = 43) = False := eq_false (by decide)
theorem cs_61_45 : ((61 : Int32) = 45) = False := eq_false (by decide)
theorem cs_61_42 : ((61 : Int32) = 42) = False := eq_false (by decide)
theorem cs_61_60 : ((61 : Int32) = 60) = False := eq_false (by decide)
theorem jx_nk_w (k : Nat) (h : 6 ≤ k) (h2 : k < 12) : jx_nk (2000 + Int32.ofNat k - 6) = 3 ∧ (2000 + Int32.ofNat k - 6 : Int32).toInt = 1994 + k ∧ (2000 + Int32.ofNat k - 6 : Int32) - 2000 = Int32.ofNat (k - 6) := by
  have q : ∀ j : Fin 12, 6 ≤ j.val → jx_nk (2000 + Int32.ofNat j.val - 6) = 3 ∧ (2000 + Int32.ofNat j.val - 6 : Int32).toInt = 1994 + j.val ∧ (2000 + Int32.ofNat j.val - 6 : Int32) - 2000 = Int32.ofNat (j.val - 6) := by decide
  exact q ⟨k, h2⟩ h
section JIV
variable {X N M : ji_M} {P : ji_P} {x y z v : Int32} {ta tk ts vl wn pn on ta' tk' ts' vl' wn' pn' on' : Int32} {f g wf pf t : ji_F} {d a b r c m s p n i j bs k : Nat} {o : Option Value × ji_M} {u : Int64}
theorem jx_ru_c (hL : ∀ i, i < k → jx_L (t (s + i)) = true) : ∀ c ∈ jx_ru t s k, 97 ≤ c.toInt ∧ c.toInt ≤ 122 := by
  intro c hc
  unfold jx_ru at hc
  obtain ⟨i, hi, rfl⟩ := List.mem_map.mp hc
  have q := hL i (List.mem_range.mp hi)
  unfold jx_L at q
  rw [Bool.and_eq_true, decide_eq_true_eq, decide_eq_true_eq] at q
  exact q
theorem jx_hs_c (hk : k ≤ 6) (hL : ∀ i, i < k → jx_L (t (s + i)) = true) : (jx_hs t s k).toInt = jx_lv (jx_ru t s k) := by
  have e : (Int32.ofNat k).toInt.toNat = k := by rw [vi_nn (by omega)]; omega
  exact (jx_hs_v (k := Int32.ofNat k) (by rw [e]; exact hL) k (by rw [e]; exact Nat.le_refl _) hk).1
theorem jx_word (hL : ∀ i, i < k → jx_L (t (s + i)) = true) {V : Int32} (hV : V = if 6 < k then -1 else jx_wo (jx_hs t s k)) : (V < 0 ∧ jx_nk (jx_wt (jx_ru t s k) 12).1 = -1 ∨ ¬ V < 0 ∧ V < 10 ∧ jx_nk (jx_wt (jx_ru t s k) 12).1 = 3 ∨ ¬ V < 0 ∧ ¬ V < 10 ∧ jx_nk (jx_wt (jx_ru t s k) 12).1 = 2) ∧ jx_nvok (jx_wt (jx_ru t s k) 12).1 (jx_wt (jx_ru t s k) 12).2 V := by
  have hC := jx_ru_c hL
  by_cases h : ∃ w, w < 12 ∧ jx_ru t s k = jx_ws.getD w []
  · obtain ⟨w, hw, e⟩ := h
    have wt := jx_wt_at hw e 12 hw (Nat.le_refl _)
    have hk : k < 6 := by
      have l := congrArg List.length e
      rw [jx_ru_len] at l
      have : (jx_ws.getD w []).length < 6 := (jx_ws_W ⟨w, hw⟩).1
      omega
    have hv := jx_hs_c (t := t) (s := s) (k := k) (by omega) hL
    rw [e, (jx_ws_v ⟨w, hw⟩).1] at hv
    rw [if_neg (by omega)] at hV
    rw [wt]
    have hv : (jx_hs t s k).toInt = jx_wc w := hv
    have hw' : w = 0 ∨ w = 1 ∨ w = 2 ∨ w = 3 ∨ w = 4 ∨ w = 5 ∨ w = 6 ∨ w = 7 ∨ w = 8 ∨ w = 9 ∨ w = 10 ∨ w = 11 := by omega
    rcases hw' with rfl | rfl | rfl | rfl | rfl | rfl | rfl | rfl | rfl | rfl | rfl | rfl
    · have q : jx_hs t s k = 14144900 := Int64.toInt_inj.mp (hv.trans (by decide))
      have hV : V = 10 := hV.trans (by rw [q]; decide)
      subst hV
      exact ⟨by decide, by decide, by decide, by decide⟩
    · have q : jx_hs t s k = 9675 := Int64.toInt_inj.mp (hv.trans (by decide))
      have hV : V = 11 := hV.trans (by rw [q]; decide)
      subst hV
      exact ⟨by decide, by decide, by decide, by decide⟩
    · have q : jx_hs t s k = 16826546 := Int64.toInt_inj.mp (hv.trans (by decide))
      have hV : V = 12 := hV.trans (by rw [q]; decide)
      subst hV
      exact ⟨by decide, by decide, by decide, by decide⟩
    · have q : jx_hs t s k = 24627848 := Int64.toInt_inj.mp (hv.trans (by decide))
      have hV : V = 13 := hV.trans (by rw [q]; decide)
      subst hV
      exact ⟨by decide, by decide, by decide, by decide⟩
    · have q : jx_hs t s k = 1253 := Int64.toInt_inj.mp (hv.trans (by decide))
      have hV : V = 14 := hV.trans (by rw [q]; decide)
      subst hV
      exact ⟨by decide, by decide, by decide, by decide⟩
    · have q : jx_hs t s k = 632645 := Int64.toInt_inj.mp (hv.trans (by decide))
      have hV : V = 15 := hV.trans (by rw [q]; decide)
      subst hV
      exact ⟨by decide, by decide, by decide, by decide⟩
    · have q : jx_hs t s k = 6605428 := Int64.toInt_inj.mp (hv.trans (by decide))
      have hV : V = 0 := hV.trans (by rw [q]; decide)
      subst hV
      exact ⟨by decide, by decide, by decide, by decide⟩
    · have q : jx_hs t s k = 13369 := Int64.toInt_inj.mp (hv.trans (by decide))
      have hV : V = 1 := hV.trans (by rw [q]; decide)
      subst hV
      exact ⟨by decide, by decide, by decide, by decide⟩
    · have q : jx_hs t s k = 23114405 := Int64.toInt_inj.mp (hv.trans (by decide))
      have hV : V = 2 := hV.trans (by rw [q]; decide)
      subst hV
      exact ⟨by decide, by decide, by decide, by decide⟩
    · have q : jx_hs t s k = 498 := Int64.toInt_inj.mp (hv.trans (by decide))
      have hV : V = 3 := hV.trans (by rw [q]; decide)
      subst hV
      exact ⟨by decide, by decide, by decide, by decide⟩
    · have q : jx_hs t s k = 1476 := Int64.toInt_inj.mp (hv.trans (by decide))
      have hV : V = 4 := hV.trans (by rw [q]; decide)
      subst hV
      exact ⟨by decide, by decide, by decide, by decide⟩
    · have q : jx_hs t s k = 14836 := Int64.toInt_inj.mp (hv.trans (by decide))
      have hV : V = 5 := hV.trans (by rw [q]; decide)
      subst hV
      exact ⟨by decide, by decide, by decide, by decide⟩
  · have nw : ∀ w, w < 12 → ¬ jx_ru t s k = jx_ws.getD w [] := fun w hw e => h ⟨w, hw, e⟩
    rw [jx_wt_no nw 12 (Nat.le_refl _)]
    have hV1 : V = -1 := by
      rw [hV]
      by_cases h6 : 6 < k
      · rw [if_pos h6]
      · rw [if_neg h6]
        have hv := jx_hs_c (t := t) (s := s) (k := k) (by omega) hL
        have n : ∀ w, w < 12 → ∀ c : Int64, c.toInt = jx_wc w → ¬ jx_hs t s k = c := by
          intro w hw c hc q
          rw [q, hc] at hv
          have hwv := jx_ws_v ⟨w, hw⟩
          exact nw w hw (jx_lv_i _ _ _ rfl hC hwv.2 (hv.symm.trans hwv.1.symm))
        have n0 : ¬ jx_hs t s k = 6605428 := n 6 (by omega) 6605428 (by decide)
        have n1 : ¬ jx_hs t s k = 13369 := n 7 (by omega) 13369 (by decide)
        have n2 : ¬ jx_hs t s k = 23114405 := n 8 (by omega) 23114405 (by decide)
        have n3 : ¬ jx_hs t s k = 498 := n 9 (by omega) 498 (by decide)
        have n4 : ¬ jx_hs t s k = 1476 := n 10 (by omega) 1476 (by decide)
        have n5 : ¬ jx_hs t s k = 14836 := n 11 (by omega) 14836 (by decide)
        have n6 : ¬ jx_hs t s k = 14144900 := n 0 (by omega) 14144900 (by decide)
        have n7 : ¬ jx_hs t s k = 9675 := n 1 (by omega) 9675 (by decide)
        have n8 : ¬ jx_hs t s k = 16826546 := n 2 (by omega) 16826546 (by decide)
        have n9 : ¬ jx_hs t s k = 24627848 := n 3 (by omega) 24627848 (by decide)
        have n10 : ¬ jx_hs t s k = 1253 := n 4 (by omega) 1253 (by decide)
        have n11 : ¬ jx_hs t s k = 632645 := n 5 (by omega) 632645 (by decide)
        unfold jx_wo
        simp only [n0, n1, n2, n3, n4, n5, n6, n7, n8, n9, n10, n11, if_false]
    subst hV1
    refine ⟨Or.inl ⟨by decide, by decide⟩, ?_, ?_, ?_⟩
    · intro q; exact absurd q (by decide)
    · intro q; exact absurd q (by decide)
    · intro q; exact absurd q (by decide)
theorem m173 (H : jx_NO N t n bs) (hp : p ≤ n) : ∃ v, jx_nvok (jx_tok t n p).1 (jx_tok t n p).2.1 v ∧ ∀ d, ji_CL (d + 3) 173 [.ref 0] (jx_NM N (Int32.ofNat p) tk ts vl wn pn on wf pf) = some (none, jx_NM N (Int32.ofNat (jx_tok t n p).2.2.2) (jx_nk (jx_tok t n p).1) (Int32.ofNat (jx_tok t n p).2.2.1) v wn pn on wf pf) := by
  have hN := H.1
  have h2 := H.2.2.1
  have h3 := H.2.2.2.1
  have hb := H.2.2.2.2.2
  have a := jx_en_b (q := jx_B) (t := t) (n := n) _ p (Nat.le_refl _) hp
  have F : ∀ (M' : ji_M), (∀ d, ji_Ev (ji_CL (d + 2)) 173 39 (jx_NM N (Int32.ofNat (jx_en jx_B t n p)) tk ts vl wn pn on wf pf) [some (.ref 0), none, none, none, none] [] (none, M')) → ∀ d, ji_CL (d + 3) 173 [.ref 0] (jx_NM N (Int32.ofNat p) tk ts vl wn pn on wf pf) = some (none, M') := by
    intro M' G d
    apply en_173
    exact m173B (d := d) H (n - p) p (Nat.le_refl _) hp (G d)
  unfold jx_tok
  generalize jx_en jx_B t n p = s at a F
  have es := vi_nn (n := s) (by omega)
  have en := vi_nn (n := n) (by omega)
  have cMF := fun ta tk ts vl wn pn on wf pf => jx_NM_MF (N := N) (ta := ta) (tk := tk) (ts := ts) (vl := vl) (wn := wn) (pn := pn) (on := on) (wf := wf) (pf := pf) hN
  by_cases hs : s < n
  · rw [if_pos hs]
    have g : ¬ Int32.ofNat s = Int32.ofNat n := by rw [vi_eq]; omega
    have B := fun d ts => m174 (d := d) (ta := Int32.ofNat s) (tk := tk) (ts := ts) (vl := vl) (wn := wn) (pn := pn) (on := on) (wf := wf) (pf := pf) H hs
    by_cases hL : jx_L (t s) = true
    · rw [if_pos hL]
      have b := jx_en_b (q := jx_L) (t := t) (n := n) _ s (Nat.le_refl _) a.2
      have bq := jx_en_q (q := jx_L) (t := t) (n := n) _ s (Nat.le_refl _)
      generalize hE : jx_en jx_L t n s = e at b bq
      have hLL : ∀ i, i < e - s → jx_L (t (s + i)) = true := fun i hi => bq (s + i) (by omega) (by omega)
      obtain ⟨V, hV⟩ : ∃ V, V = if 6 < e - s then -1 else jx_wo (jx_hs t s (e - s)) := ⟨_, rfl⟩
      have W := jx_word hLL hV
      refine ⟨V, W.2, F _ (fun d => ?_)⟩
      have ek := vi_nn (n := e - s) (by omega)
      have e6 : (6 : Int32).toInt = 6 := rfl
      have L := m173L (d := d) (N := N) (tk := tk) (ts := Int32.ofNat s) (vl := vl) (wn := wn) (pn := pn) (on := on) (wf := wf) (pf := pf) (c0 := t s) (o := (none, jx_NM N (Int32.ofNat e) (jx_nk (jx_wt (jx_ru t s (e - s)) 12).1) (Int32.ofNat s) V wn pn on wf pf)) H (n - s) s 0 (Nat.le_refl _) a.2 rfl (by
        rw [hE]
        by_cases h6 : 6 < e - s
        · have g6 : 6 < Int32.ofNat (e - s) := by rw [vi_lt]; omega
          rw [if_pos h6] at hV
          have w : jx_nk (jx_wt (jx_ru t s (e - s)) 12).1 = -1 := by
            rcases W.1 with w | w | w
            · exact w.2
            · rw [hV] at w; exact absurd (by decide) w.1
            · rw [hV] at w; exact absurd (by decide) w.1
          rw [w, hV]
          simp only [s173_0, s173_1, s173_2, q173_5, s173_8, s173_10, s173_13, s173_14, s173_15, q173_18, s173_21, s173_23, s173_26, s173_27, s173_27r, s173_28, s173_31, s173_32, s173_33, s173_36, s173_39, s173_40, s173_41, s173_44, s173_47, s173_48, s173_49, q173_52, s173_55, s173_56, s173_57, s173_60, s173_61, s173_64, s173_67, s173_68, s173_69, s173_72, s173_75, s173_76, q173_77, s173_80, s173_83, s173_84, s173_85, s173_86, s173_88, s173_89, s173_90, s173_91, q173_94, q173_97, s173_100, s173_103, s173_105, s173_107, s173_110, s173_113, s173_114, s173_115, s173_116, s173_117, q173_120, s173_123, s173_124, s173_125, s173_128, s173_129, s173_132, s173_135, q173_136, s173_139, s173_140, s173_140r, s173_141, s173_144, s173_145, s173_146, s173_149, s173_152, s173_153, s173_155, s173_157, s173_160, s173_161, s173_164, s173_165, q173_166, s173_169, s173_172, s173_173, s173_174, s173_177, s173_180, s173_181, s173_184, s173_185, s173_188, s173_190, s173_193, s173_194, s173_197, s173_198, s173_201, s173_204, s173_205, q173_206, s173_209, s173_212, s173_213, s173_214, s173_217, s173_218, s173_219, s173_220, q173_223, q173_226, s173_229, s173_232, s173_233, s173_236, s173_237, s173_240, s173_241, s173_242, s173_245, s173_246, s173_248, s173_249, s173_252, s173_253, s173_254, s173_255, q173_258, s173_261, s173_262, s173_264, s173_265, s173_268, s173_269, s173_269r, s173_270, s173_273, s173_274, s173_275, s173_278, s173_281, s173_282, s173_283, s173_286, s173_287, s173_290, s173_291, s173_292, s173_295, s173_296, s173_299, s173_300, s173_303, s173_306, s173_307, s173_309, s173_312, s173_313, s173_315, s173_318, s173_319, s173_321, s173_324, s173_325, s173_327, s173_330, s173_331, s173_333, s173_336, s173_337, s173_339, s173_342, s173_343, s173_345, s173_348, s173_349, s173_351, s173_354, s173_355, s173_358, s173_359, s173_360, s173_361, s173_362, s173_365, s173_366, s173_369, s173_370, s173_373, s173_374, s173_374r, s173_375, s173_378, s173_379, s173_380, s173_383, xIL_1, xIS_1, xQL_2, xQL_3, xAN_1, xAN_2, xAN_3, xCP_1, xC_s, xNC_I, ji_oI1, ji_oIm, kd_sC, gR_sC, gL_sC, ji_rv_s, ji_tl_s, ji_tl_n, ji_s1, ji_s2, ji_kl, List.getD_cons_zero, List.getD_cons_succ, List.set_cons_zero, List.set_cons_succ, List.length_cons, List.length_nil, ji_b_0, ji_b_1, ji_n0, ji_n1, ji_rcb_iff, ji_ok8_0, ji_ok8_1, ji_ok8_2, ji_ok8_3, ji_ok8_4, kd_sI, kd_sL, kd_sR, kd_cp, gR_sI, gR_sL, gR_cp, gL_sI, gL_sR, gL_cp, gI_sL, gI_sR, gI_sI, gL_sL, Nat.reduceEqDiff, false_and, and_false, true_and, and_true, Nat.reduceAdd, Nat.reduceLT, Nat.reduceSub, Int32.reduceLT, Int32.reduceAdd, not_false_eq_true, not_true_eq_false, and_self, ji_b_n, if_true, if_false, ↓reduceIte, cz_m100, cz_m19, cz_m18, cz_m17, cz_m16, cz_m15, cz_m14, cz_m13, cz_m12, cz_m11, cz_m4, cz_m3, cz_m2, cz_m1, cz_1, cz_2, cz_3, cz_4, cz_5, cz_6, cz_7, cz_8, cz_9, cz_10, cz_11, cz_12, cz_13, cz_14, cz_15, cz_16, cz_20, cz_24, cz_30, cz_32, cz_33, cz_38, cz_40, cz_41, cz_42, cz_43, cz_45, cz_48, cz_57, cz_59, cz_60, cz_61, cz_63, cz_64, cz_72, cz_96, cz_97, cz_99, cz_100, cz_122, cz_124, cz_126, cz_160, cz_161, cz_168, cz_200, cz_255, cz_300, cz_960, cz_999, cz_1000, cz_1001, cz_1002, cz_1003, cz_1120, cz_2000, cz_2003, cz_2004, cz_2005, cz_3999, cz_9999, cz_14640, jx_NM_kd, mk_0 hN, g6, jx_NW_vl, jx_NM_vl, jx_NW_tk]
        · have g6 : ¬ 6 < Int32.ofNat (e - s) := by rw [vi_lt]; omega
          rw [if_neg h6] at hV
          rcases W.1 with w | w | w
          · rw [w.2]
            simp only [s173_0, s173_1, s173_2, q173_5, s173_8, s173_10, s173_13, s173_14, s173_15, q173_18, s173_21, s173_23, s173_26, s173_27, s173_27r, s173_28, s173_31, s173_32, s173_33, s173_36, s173_39, s173_40, s173_41, s173_44, s173_47, s173_48, s173_49, q173_52, s173_55, s173_56, s173_57, s173_60, s173_61, s173_64, s173_67, s173_68, s173_69, s173_72, s173_75, s173_76, q173_77, s173_80, s173_83, s173_84, s173_85, s173_86, s173_88, s173_89, s173_90, s173_91, q173_94, q173_97, s173_100, s173_103, s173_105, s173_107, s173_110, s173_113, s173_114, s173_115, s173_116, s173_117, q173_120, s173_123, s173_124, s173_125, s173_128, s173_129, s173_132, s173_135, q173_136, s173_139, s173_140, s173_140r, s173_141, s173_144, s173_145, s173_146, s173_149, s173_152, s173_153, s173_155, s173_157, s173_160, s173_161, s173_164, s173_165, q173_166, s173_169, s173_172, s173_173, s173_174, s173_177, s173_180, s173_181, s173_184, s173_185, s173_188, s173_190, s173_193, s173_194, s173_197, s173_198, s173_201, s173_204, s173_205, q173_206, s173_209, s173_212, s173_213, s173_214, s173_217, s173_218, s173_219, s173_220, q173_223, q173_226, s173_229, s173_232, s173_233, s173_236, s173_237, s173_240, s173_241, s173_242, s173_245, s173_246, s173_248, s173_249, s173_252, s173_253, s173_254, s173_255, q173_258, s173_261, s173_262, s173_264, s173_265, s173_268, s173_269, s173_269r, s173_270, s173_273, s173_274, s173_275, s173_278, s173_281, s173_282, s173_283, s173_286, s173_287, s173_290, s173_291, s173_292, s173_295, s173_296, s173_299, s173_300, s173_303, s173_306, s173_307, s173_309, s173_312, s173_313, s173_315, s173_318, s173_319, s173_321, s173_324, s173_325, s173_327, s173_330, s173_331, s173_333, s173_336, s173_337, s173_339, s173_342, s173_343, s173_345, s173_348, s173_349, s173_351, s173_354, s173_355, s173_358, s173_359, s173_360, s173_361, s173_362, s173_365, s173_366, s173_369, s173_370, s173_373, s173_374, s173_374r, s173_375, s173_378, s173_379, s173_380, s173_383, xIL_1, xIS_1, xQL_2, xQL_3, xAN_1, xAN_2, xAN_3, xCP_1, xC_s, xNC_I, ji_oI1, ji_oIm, kd_sC, gR_sC, gL_sC, ji_rv_s, ji_tl_s, ji_tl_n, ji_s1, ji_s2, ji_kl, List.getD_cons_zero, List.getD_cons_succ, List.set_cons_zero, List.set_cons_succ, List.length_cons, List.length_nil, ji_b_0, ji_b_1, ji_n0, ji_n1, ji_rcb_iff, ji_ok8_0, ji_ok8_1, ji_ok8_2, ji_ok8_3, ji_ok8_4, kd_sI, kd_sL, kd_sR, kd_cp, gR_sI, gR_sL, gR_cp, gL_sI, gL_sR, gL_cp, gI_sL, gI_sR, gI_sI, gL_sL, Nat.reduceEqDiff, false_and, and_false, true_and, and_true, Nat.reduceAdd, Nat.reduceLT, Nat.reduceSub, Int32.reduceLT, Int32.reduceAdd, not_false_eq_true, not_true_eq_false, and_self, ji_b_n, if_true, if_false, ↓reduceIte, cz_m100, cz_m19, cz_m18, cz_m17, cz_m16, cz_m15, cz_m14, cz_m13, cz_m12, cz_m11, cz_m4, cz_m3, cz_m2, cz_m1, cz_1, cz_2, cz_3, cz_4, cz_5, cz_6, cz_7, cz_8, cz_9, cz_10, cz_11, cz_12, cz_13, cz_14, cz_15, cz_16, cz_20, cz_24, cz_30, cz_32, cz_33, cz_38, cz_40, cz_41, cz_42, cz_43, cz_45, cz_48, cz_57, cz_59, cz_60, cz_61, cz_63, cz_64, cz_72, cz_96, cz_97, cz_99, cz_100, cz_122, cz_124, cz_126, cz_160, cz_161, cz_168, cz_200, cz_255, cz_300, cz_960, cz_999, cz_1000, cz_1001, cz_1002, cz_1003, cz_1120, cz_2000, cz_2003, cz_2004, cz_2005, cz_3999, cz_9999, cz_14640, jx_NM_kd, mk_0 hN, g6, m176, ← hV, jx_NW_vl, jx_NM_vl, jx_NW_tk, w.1]
          · rw [w.2.2]
            simp only [s173_0, s173_1, s173_2, q173_5, s173_8, s173_10, s173_13, s173_14, s173_15, q173_18, s173_21, s173_23, s173_26, s173_27, s173_27r, s173_28, s173_31, s173_32, s173_33, s173_36, s173_39, s173_40, s173_41, s173_44, s173_47, s173_48, s173_49, q173_52, s173_55, s173_56, s173_57, s173_60, s173_61, s173_64, s173_67, s173_68, s173_69, s173_72, s173_75, s173_76, q173_77, s173_80, s173_83, s173_84, s173_85, s173_86, s173_88, s173_89, s173_90, s173_91, q173_94, q173_97, s173_100, s173_103, s173_105, s173_107, s173_110, s173_113, s173_114, s173_115, s173_116, s173_117, q173_120, s173_123, s173_124, s173_125, s173_128, s173_129, s173_132, s173_135, q173_136, s173_139, s173_140, s173_140r, s173_141, s173_144, s173_145, s173_146, s173_149, s173_152, s173_153, s173_155, s173_157, s173_160, s173_161, s173_164, s173_165, q173_166, s173_169, s173_172, s173_173, s173_174, s173_177, s173_180, s173_181, s173_184, s173_185, s173_188, s173_190, s173_193, s173_194, s173_197, s173_198, s173_201, s173_204, s173_205, q173_206, s173_209, s173_212, s173_213, s173_214, s173_217, s173_218, s173_219, s173_220, q173_223, q173_226, s173_229, s173_232, s173_233, s173_236, s173_237, s173_240, s173_241, s173_242, s173_245, s173_246, s173_248, s173_249, s173_252, s173_253, s173_254, s173_255, q173_258, s173_261, s173_262, s173_264, s173_265, s173_268, s173_269, s173_269r, s173_270, s173_273, s173_274, s173_275, s173_278, s173_281, s173_282, s173_283, s173_286, s173_287, s173_290, s173_291, s173_292, s173_295, s173_296, s173_299, s173_300, s173_303, s173_306, s173_307, s173_309, s173_312, s173_313, s173_315, s173_318, s173_319, s173_321, s173_324, s173_325, s173_327, s173_330, s173_331, s173_333, s173_336, s173_337, s173_339, s173_342, s173_343, s173_345, s173_348, s173_349, s173_351, s173_354, s173_355, s173_358, s173_359, s173_360, s173_361, s173_362, s173_365, s173_366, s173_369, s173_370, s173_373, s173_374, s173_374r, s173_375, s173_378, s173_379, s173_380, s173_383, xIL_1, xIS_1, xQL_2, xQL_3, xAN_1, xAN_2, xAN_3, xCP_1, xC_s, xNC_I, ji_oI1, ji_oIm, kd_sC, gR_sC, gL_sC, ji_rv_s, ji_tl_s, ji_tl_n, ji_s1, ji_s2, ji_kl, List.getD_cons_zero, List.getD_cons_succ, List.set_cons_zero, List.set_cons_succ, List.length_cons, List.length_nil, ji_b_0, ji_b_1, ji_n0, ji_n1, ji_rcb_iff, ji_ok8_0, ji_ok8_1, ji_ok8_2, ji_ok8_3, ji_ok8_4, kd_sI, kd_sL, kd_sR, kd_cp, gR_sI, gR_sL, gR_cp, gL_sI, gL_sR, gL_cp, gI_sL, gI_sR, gI_sI, gL_sL, Nat.reduceEqDiff, false_and, and_false, true_and, and_true, Nat.reduceAdd, Nat.reduceLT, Nat.reduceSub, Int32.reduceLT, Int32.reduceAdd, not_false_eq_true, not_true_eq_false, and_self, ji_b_n, if_true, if_false, ↓reduceIte, cz_m100, cz_m19, cz_m18, cz_m17, cz_m16, cz_m15, cz_m14, cz_m13, cz_m12, cz_m11, cz_m4, cz_m3, cz_m2, cz_m1, cz_1, cz_2, cz_3, cz_4, cz_5, cz_6, cz_7, cz_8, cz_9, cz_10, cz_11, cz_12, cz_13, cz_14, cz_15, cz_16, cz_20, cz_24, cz_30, cz_32, cz_33, cz_38, cz_40, cz_41, cz_42, cz_43, cz_45, cz_48, cz_57, cz_59, cz_60, cz_61, cz_63, cz_64, cz_72, cz_96, cz_97, cz_99, cz_100, cz_122, cz_124, cz_126, cz_160, cz_161, cz_168, cz_200, cz_255, cz_300, cz_960, cz_999, cz_1000, cz_1001, cz_1002, cz_1003, cz_1120, cz_2000, cz_2003, cz_2004, cz_2005, cz_3999, cz_9999, cz_14640, jx_NM_kd, mk_0 hN, g6, m176, ← hV, jx_NW_vl, jx_NM_vl, jx_NW_tk, w.1, w.2.1]
          · rw [w.2.2]
            simp only [s173_0, s173_1, s173_2, q173_5, s173_8, s173_10, s173_13, s173_14, s173_15, q173_18, s173_21, s173_23, s173_26, s173_27, s173_27r, s173_28, s173_31, s173_32, s173_33, s173_36, s173_39, s173_40, s173_41, s173_44, s173_47, s173_48, s173_49, q173_52, s173_55, s173_56, s173_57, s173_60, s173_61, s173_64, s173_67, s173_68, s173_69, s173_72, s173_75, s173_76, q173_77, s173_80, s173_83, s173_84, s173_85, s173_86, s173_88, s173_89, s173_90, s173_91, q173_94, q173_97, s173_100, s173_103, s173_105, s173_107, s173_110, s173_113, s173_114, s173_115, s173_116, s173_117, q173_120, s173_123, s173_124, s173_125, s173_128, s173_129, s173_132, s173_135, q173_136, s173_139, s173_140, s173_140r, s173_141, s173_144, s173_145, s173_146, s173_149, s173_152, s173_153, s173_155, s173_157, s173_160, s173_161, s173_164, s173_165, q173_166, s173_169, s173_172, s173_173, s173_174, s173_177, s173_180, s173_181, s173_184, s173_185, s173_188, s173_190, s173_193, s173_194, s173_197, s173_198, s173_201, s173_204, s173_205, q173_206, s173_209, s173_212, s173_213, s173_214, s173_217, s173_218, s173_219, s173_220, q173_223, q173_226, s173_229, s173_232, s173_233, s173_236, s173_237, s173_240, s173_241, s173_242, s173_245, s173_246, s173_248, s173_249, s173_252, s173_253, s173_254, s173_255, q173_258, s173_261, s173_262, s173_264, s173_265, s173_268, s173_269, s173_269r, s173_270, s173_273, s173_274, s173_275, s173_278, s173_281, s173_282, s173_283, s173_286, s173_287, s173_290, s173_291, s173_292, s173_295, s173_296, s173_299, s173_300, s173_303, s173_306, s173_307, s173_309, s173_312, s173_313, s173_315, s173_318, s173_319, s173_321, s173_324, s173_325, s173_327, s173_330, s173_331, s173_333, s173_336, s173_337, s173_339, s173_342, s173_343, s173_345, s173_348, s173_349, s173_351, s173_354, s173_355, s173_358, s173_359, s173_360, s173_361, s173_362, s173_365, s173_366, s173_369, s173_370, s173_373, s173_374, s173_374r, s173_375, s173_378, s173_379, s173_380, s173_383, xIL_1, xIS_1, xQL_2, xQL_3, xAN_1, xAN_2, xAN_3, xCP_1, xC_s, xNC_I, ji_oI1, ji_oIm, kd_sC, gR_sC, gL_sC, ji_rv_s, ji_tl_s, ji_tl_n, ji_s1, ji_s2, ji_kl, List.getD_cons_zero, List.getD_cons_succ, List.set_cons_zero, List.set_cons_succ, List.length_cons, List.length_nil, ji_b_0, ji_b_1, ji_n0, ji_n1, ji_rcb_iff, ji_ok8_0, ji_ok8_1, ji_ok8_2, ji_ok8_3, ji_ok8_4, kd_sI, kd_sL, kd_sR, kd_cp, gR_sI, gR_sL, gR_cp, gL_sI, gL_sR, gL_cp, gI_sL, gI_sR, gI_sI, gL_sL, Nat.reduceEqDiff, false_and, and_false, true_and, and_true, Nat.reduceAdd, Nat.reduceLT, Nat.reduceSub, Int32.reduceLT, Int32.reduceAdd, not_false_eq_true, not_true_eq_false, and_self, ji_b_n, if_true, if_false, ↓reduceIte, cz_m100, cz_m19, cz_m18, cz_m17, cz_m16, cz_m15, cz_m14, cz_m13, cz_m12, cz_m11, cz_m4, cz_m3, cz_m2, cz_m1, cz_1, cz_2, cz_3, cz_4, cz_5, cz_6, cz_7, cz_8, cz_9, cz_10, cz_11, cz_12, cz_13, cz_14, cz_15, cz_16, cz_20, cz_24, cz_30, cz_32, cz_33, cz_38, cz_40, cz_41, cz_42, cz_43, cz_45, cz_48, cz_57, cz_59, cz_60, cz_61, cz_63, cz_64, cz_72, cz_96, cz_97, cz_99, cz_100, cz_122, cz_124, cz_126, cz_160, cz_161, cz_168, cz_200, cz_255, cz_300, cz_960, cz_999, cz_1000, cz_1001, cz_1002, cz_1003, cz_1120, cz_2000, cz_2003, cz_2004, cz_2005, cz_3999, cz_9999, cz_14640, jx_NM_kd, mk_0 hN, g6, m176, ← hV, jx_NW_vl, jx_NM_vl, jx_NW_tk, w.1, w.2.1])
      simp only [s173_0, s173_1, s173_2, q173_5, s173_8, s173_10, s173_13, s173_14, s173_15, q173_18, s173_21, s173_23, s173_26, s173_27, s173_27r, s173_28, s173_31, s173_32, s173_33, s173_36, s173_39, s173_40, s173_41, s173_44, s173_47, s173_48, s173_49, q173_52, s173_55, s173_56, s173_57, s173_60, s173_61, s173_64, s173_67, s173_68, s173_69, s173_72, s173_75, s173_76, q173_77, s173_80, s173_83, s173_84, s173_85, s173_86, s173_89, s173_90, s173_91, q173_94, q173_97, s173_100, s173_103, s173_105, s173_107, s173_110, s173_113, s173_114, s173_115, s173_116, s173_117, q173_120, s173_123, s173_124, s173_125, s173_128, s173_129, s173_132, s173_135, q173_136, s173_139, s173_140, s173_140r, s173_141, s173_144, s173_145, s173_146, s173_149, s173_152, s173_153, s173_155, s173_157, s173_160, s173_161, s173_164, s173_165, q173_166, s173_169, s173_172, s173_173, s173_174, s173_177, s173_180, s173_181, s173_184, s173_185, s173_188, s173_190, s173_193, s173_194, s173_197, s173_198, s173_201, s173_204, s173_205, q173_206, s173_209, s173_212, s173_213, s173_214, s173_217, s173_218, s173_219, s173_220, q173_223, q173_226, s173_229, s173_232, s173_233, s173_236, s173_237, s173_240, s173_241, s173_242, s173_245, s173_246, s173_248, s173_249, s173_252, s173_253, s173_254, s173_255, q173_258, s173_261, s173_262, s173_264, s173_265, s173_268, s173_269, s173_269r, s173_270, s173_273, s173_274, s173_275, s173_278, s173_281, s173_282, s173_283, s173_286, s173_287, s173_290, s173_291, s173_292, s173_295, s173_296, s173_299, s173_300, s173_303, s173_306, s173_307, s173_309, s173_312, s173_313, s173_315, s173_318, s173_319, s173_321, s173_324, s173_325, s173_327, s173_330, s173_331, s173_333, s173_336, s173_337, s173_339, s173_342, s173_343, s173_345, s173_348, s173_349, s173_351, s173_354, s173_355, s173_358, s173_359, s173_360, s173_361, s173_362, s173_365, s173_366, s173_369, s173_370, s173_373, s173_374, s173_374r, s173_375, s173_378, s173_379, s173_380, s173_383, xIL_1, xIS_1, xQL_2, xQL_3, xAN_1, xAN_2, xAN_3, xCP_1, xC_s, xNC_I, ji_oI1, ji_oIm, kd_sC, gR_sC, gL_sC, ji_rv_s, ji_tl_s, ji_tl_n, ji_s1, ji_s2, ji_kl, List.getD_cons_zero, List.getD_cons_succ, List.set_cons_zero, List.set_cons_succ, List.length_cons, List.length_nil, ji_b_0, ji_b_1, ji_n0, ji_n1, ji_rcb_iff, ji_ok8_0, ji_ok8_1, ji_ok8_2, ji_ok8_3, ji_ok8_4, kd_sI, kd_sL, kd_sR, kd_cp, gR_sI, gR_sL, gR_cp, gL_sI, gL_sR, gL_cp, gI_sL, gI_sR, gI_sI, gL_sL, Nat.reduceEqDiff, false_and, and_false, true_and, and_true, Nat.reduceAdd, Nat.reduceLT, Nat.reduceSub, Int32.reduceLT, Int32.reduceAdd, not_false_eq_true, not_true_eq_false, and_self, ji_b_n, if_true, if_false, ↓reduceIte, cz_m100, cz_m19, cz_m18, cz_m17, cz_m16, cz_m15, cz_m14, cz_m13, cz_m12, cz_m11, cz_m4, cz_m3, cz_m2, cz_m1, cz_1, cz_2, cz_3, cz_4, cz_5, cz_6, cz_7, cz_8, cz_9, cz_10, cz_11, cz_12, cz_13, cz_14, cz_15, cz_16, cz_20, cz_24, cz_30, cz_32, cz_33, cz_38, cz_40, cz_41, cz_42, cz_43, cz_45, cz_48, cz_57, cz_59, cz_60, cz_61, cz_63, cz_64, cz_72, cz_96, cz_97, cz_99, cz_100, cz_122, cz_124, cz_126, cz_160, cz_161, cz_168, cz_200, cz_255, cz_300, cz_960, cz_999, cz_1000, cz_1001, cz_1002, cz_1003, cz_1120, cz_2000, cz_2003, cz_2004, cz_2005, cz_3999, cz_9999, cz_14640, jx_NM_kd, mk_0 hN, jx_NM_ta, jx_NM_21, h2, jx_NW_ts, B, g, m175 (cMF _ _ _ _ _ _ _ _ _), jx_nL.mpr hL]
      exact L
    · rw [if_neg hL]
      have nL : ¬ ji_in (t s) 97 122 := fun q => hL (jx_nL.mp q)
      by_cases hD : jx_D (t s) = true
      · rw [if_pos hD]
        have b := jx_en_b (q := jx_D) (t := t) (n := n) _ s (Nat.le_refl _) a.2
        generalize hE : jx_en jx_D t n s = e at b
        have ee := vi_nn (n := e) (by omega)
        have e4 : (4 : Int32).toInt = 4 := rfl
        have ed : (Int32.ofNat e - Int32.ofNat s).toInt = ((e - s : Nat) : Int) := by rw [vi_sub (by omega) (by omega)]; omega
        have n1 : jx_nk 1001 = -1 := by decide
        have n2 : jx_nk 1002 = 1 := by decide
        refine ⟨jx_n4 t s (e - s), ?_, F _ (fun d => ?_)⟩
        · by_cases h4 : 4 < e - s
          · dsimp only
            rw [if_pos h4]
            exact ⟨fun q => absurd q (by decide), fun q => absurd q (by decide), fun q => absurd q (by decide)⟩
          · dsimp only
            rw [if_neg h4]
            exact ⟨fun _ => jx_n4_v _ (by omega), fun q => absurd q (by decide), fun q => absurd q (by decide)⟩
        · have L := m173D (d := d) (N := N) (tk := tk) (wn := wn) (pn := pn) (on := on) (wf := wf) (pf := pf) (l1 := some (.int (t s))) (l2 := none) (l3 := none) (l4 := none) (o := (none, jx_NM N (Int32.ofNat e) (jx_nk (if 4 < e - s then 1001 else 1002)) (Int32.ofNat s) (jx_n4 t s (e - s)) wn pn on wf pf)) H (n - s) s 0 (Nat.le_refl _) a.2 rfl (by
            rw [hE]
            by_cases h4 : 4 < e - s
            · have g4 : 4 < Int32.ofNat e - Int32.ofNat s := by rw [vi_lt]; omega
              rw [if_pos h4, n1]
              simp only [s173_0, s173_1, s173_2, q173_5, s173_8, s173_10, s173_13, s173_14, s173_15, q173_18, s173_21, s173_23, s173_26, s173_27, s173_27r, s173_28, s173_31, s173_32, s173_33, s173_36, s173_39, s173_40, s173_41, s173_44, s173_47, s173_48, s173_49, q173_52, s173_55, s173_56, s173_57, s173_60, s173_61, s173_64, s173_67, s173_68, s173_69, s173_72, s173_75, s173_76, q173_77, s173_80, s173_83, s173_84, s173_85, s173_86, s173_88, s173_89, s173_90, s173_91, q173_94, q173_97, s173_100, s173_103, s173_105, s173_107, s173_110, s173_113, s173_114, s173_115, s173_116, s173_117, q173_120, s173_123, s173_124, s173_125, s173_128, s173_129, s173_132, s173_135, q173_136, s173_139, s173_140, s173_140r, s173_141, s173_144, s173_145, s173_146, s173_149, s173_152, s173_153, s173_155, s173_157, s173_160, s173_161, s173_164, s173_165, q173_166, s173_169, s173_172, s173_173, s173_174, s173_177, s173_180, s173_181, s173_184, s173_185, s173_188, s173_190, s173_193, s173_194, s173_197, s173_198, s173_201, s173_204, s173_205, q173_206, s173_209, s173_212, s173_213, s173_214, s173_217, s173_218, s173_219, s173_220, q173_223, q173_226, s173_229, s173_232, s173_233, s173_236, s173_237, s173_240, s173_241, s173_242, s173_245, s173_246, s173_248, s173_249, s173_252, s173_253, s173_254, s173_255, q173_258, s173_261, s173_262, s173_264, s173_265, s173_268, s173_269, s173_269r, s173_270, s173_273, s173_274, s173_275, s173_278, s173_281, s173_282, s173_283, s173_286, s173_287, s173_290, s173_291, s173_292, s173_295, s173_296, s173_299, s173_300, s173_303, s173_306, s173_307, s173_309, s173_312, s173_313, s173_315, s173_318, s173_319, s173_321, s173_324, s173_325, s173_327, s173_330, s173_331, s173_333, s173_336, s173_337, s173_339, s173_342, s173_343, s173_345, s173_348, s173_349, s173_351, s173_354, s173_355, s173_358, s173_359, s173_360, s173_361, s173_362, s173_365, s173_366, s173_369, s173_370, s173_373, s173_374, s173_374r, s173_375, s173_378, s173_379, s173_380, s173_383, xIL_1, xIS_1, xQL_2, xQL_3, xAN_1, xAN_2, xAN_3, xCP_1, xC_s, xNC_I, ji_oI1, ji_oIm, kd_sC, gR_sC, gL_sC, ji_rv_s, ji_tl_s, ji_tl_n, ji_s1, ji_s2, ji_kl, List.getD_cons_zero, List.getD_cons_succ, List.set_cons_zero, List.set_cons_succ, List.length_cons, List.length_nil, ji_b_0, ji_b_1, ji_n0, ji_n1, ji_rcb_iff, ji_ok8_0, ji_ok8_1, ji_ok8_2, ji_ok8_3, ji_ok8_4, kd_sI, kd_sL, kd_sR, kd_cp, gR_sI, gR_sL, gR_cp, gL_sI, gL_sR, gL_cp, gI_sL, gI_sR, gI_sI, gL_sL, Nat.reduceEqDiff, false_and, and_false, true_and, and_true, Nat.reduceAdd, Nat.reduceLT, Nat.reduceSub, Int32.reduceLT, Int32.reduceAdd, not_false_eq_true, not_true_eq_false, and_self, ji_b_n, if_true, if_false, ↓reduceIte, cz_m100, cz_m19, cz_m18, cz_m17, cz_m16, cz_m15, cz_m14, cz_m13, cz_m12, cz_m11, cz_m4, cz_m3, cz_m2, cz_m1, cz_1, cz_2, cz_3, cz_4, cz_5, cz_6, cz_7, cz_8, cz_9, cz_10, cz_11, cz_12, cz_13, cz_14, cz_15, cz_16, cz_20, cz_24, cz_30, cz_32, cz_33, cz_38, cz_40, cz_41, cz_42, cz_43, cz_45, cz_48, cz_57, cz_59, cz_60, cz_61, cz_63, cz_64, cz_72, cz_96, cz_97, cz_99, cz_100, cz_122, cz_124, cz_126, cz_160, cz_161, cz_168, cz_200, cz_255, cz_300, cz_960, cz_999, cz_1000, cz_1001, cz_1002, cz_1003, cz_1120, cz_2000, cz_2003, cz_2004, cz_2005, cz_3999, cz_9999, cz_14640, jx_NM_kd, mk_0 hN, jx_NM_ta, jx_NM_ts, g4, jx_NW_tk]
            · have g4 : ¬ 4 < Int32.ofNat e - Int32.ofNat s := by rw [vi_lt]; omega
              rw [if_neg h4, n2]
              simp only [s173_0, s173_1, s173_2, q173_5, s173_8, s173_10, s173_13, s173_14, s173_15, q173_18, s173_21, s173_23, s173_26, s173_27, s173_27r, s173_28, s173_31, s173_32, s173_33, s173_36, s173_39, s173_40, s173_41, s173_44, s173_47, s173_48, s173_49, q173_52, s173_55, s173_56, s173_57, s173_60, s173_61, s173_64, s173_67, s173_68, s173_69, s173_72, s173_75, s173_76, q173_77, s173_80, s173_83, s173_84, s173_85, s173_86, s173_88, s173_89, s173_90, s173_91, q173_94, q173_97, s173_100, s173_103, s173_105, s173_107, s173_110, s173_113, s173_114, s173_115, s173_116, s173_117, q173_120, s173_123, s173_124, s173_125, s173_128, s173_129, s173_132, s173_135, q173_136, s173_139, s173_140, s173_140r, s173_141, s173_144, s173_145, s173_146, s173_149, s173_152, s173_153, s173_155, s173_157, s173_160, s173_161, s173_164, s173_165, q173_166, s173_169, s173_172, s173_173, s173_174, s173_177, s173_180, s173_181, s173_184, s173_185, s173_188, s173_190, s173_193, s173_194, s173_197, s173_198, s173_201, s173_204, s173_205, q173_206, s173_209, s173_212, s173_213, s173_214, s173_217, s173_218, s173_219, s173_220, q173_223, q173_226, s173_229, s173_232, s173_233, s173_236, s173_237, s173_240, s173_241, s173_242, s173_245, s173_246, s173_248, s173_249, s173_252, s173_253, s173_254, s173_255, q173_258, s173_261, s173_262, s173_264, s173_265, s173_268, s173_269, s173_269r, s173_270, s173_273, s173_274, s173_275, s173_278, s173_281, s173_282, s173_283, s173_286, s173_287, s173_290, s173_291, s173_292, s173_295, s173_296, s173_299, s173_300, s173_303, s173_306, s173_307, s173_309, s173_312, s173_313, s173_315, s173_318, s173_319, s173_321, s173_324, s173_325, s173_327, s173_330, s173_331, s173_333, s173_336, s173_337, s173_339, s173_342, s173_343, s173_345, s173_348, s173_349, s173_351, s173_354, s173_355, s173_358, s173_359, s173_360, s173_361, s173_362, s173_365, s173_366, s173_369, s173_370, s173_373, s173_374, s173_374r, s173_375, s173_378, s173_379, s173_380, s173_383, xIL_1, xIS_1, xQL_2, xQL_3, xAN_1, xAN_2, xAN_3, xCP_1, xC_s, xNC_I, ji_oI1, ji_oIm, kd_sC, gR_sC, gL_sC, ji_rv_s, ji_tl_s, ji_tl_n, ji_s1, ji_s2, ji_kl, List.getD_cons_zero, List.getD_cons_succ, List.set_cons_zero, List.set_cons_succ, List.length_cons, List.length_nil, ji_b_0, ji_b_1, ji_n0, ji_n1, ji_rcb_iff, ji_ok8_0, ji_ok8_1, ji_ok8_2, ji_ok8_3, ji_ok8_4, kd_sI, kd_sL, kd_sR, kd_cp, gR_sI, gR_sL, gR_cp, gL_sI, gL_sR, gL_cp, gI_sL, gI_sR, gI_sI, gL_sL, Nat.reduceEqDiff, false_and, and_false, true_and, and_true, Nat.reduceAdd, Nat.reduceLT, Nat.reduceSub, Int32.reduceLT, Int32.reduceAdd, not_false_eq_true, not_true_eq_false, and_self, ji_b_n, if_true, if_false, ↓reduceIte, cz_m100, cz_m19, cz_m18, cz_m17, cz_m16, cz_m15, cz_m14, cz_m13, cz_m12, cz_m11, cz_m4, cz_m3, cz_m2, cz_m1, cz_1, cz_2, cz_3, cz_4, cz_5, cz_6, cz_7, cz_8, cz_9, cz_10, cz_11, cz_12, cz_13, cz_14, cz_15, cz_16, cz_20, cz_24, cz_30, cz_32, cz_33, cz_38, cz_40, cz_41, cz_42, cz_43, cz_45, cz_48, cz_57, cz_59, cz_60, cz_61, cz_63, cz_64, cz_72, cz_96, cz_97, cz_99, cz_100, cz_122, cz_124, cz_126, cz_160, cz_161, cz_168, cz_200, cz_255, cz_300, cz_960, cz_999, cz_1000, cz_1001, cz_1002, cz_1003, cz_1120, cz_2000, cz_2003, cz_2004, cz_2005, cz_3999, cz_9999, cz_14640, jx_NM_kd, mk_0 hN, jx_NM_ta, jx_NM_ts, g4, jx_NW_tk])
          simp only [s173_0, s173_1, s173_2, q173_5, s173_8, s173_10, s173_13, s173_14, s173_15, q173_18, s173_21, s173_23, s173_26, s173_27, s173_27r, s173_28, s173_31, s173_32, s173_33, s173_36, s173_39, s173_40, s173_41, s173_44, s173_47, s173_48, s173_49, q173_52, s173_55, s173_56, s173_57, s173_60, s173_61, s173_64, s173_67, s173_68, s173_69, s173_72, s173_75, s173_76, q173_77, s173_80, s173_83, s173_84, s173_85, s173_86, s173_88, s173_89, s173_90, s173_91, q173_94, q173_97, s173_100, s173_103, s173_105, s173_107, s173_110, s173_113, s173_114, s173_115, s173_116, s173_117, q173_120, s173_123, s173_124, s173_125, s173_128, s173_129, s173_132, s173_135, q173_136, s173_139, s173_140, s173_140r, s173_141, s173_144, s173_145, s173_146, s173_149, s173_152, s173_153, s173_155, s173_157, s173_160, s173_161, s173_164, s173_165, q173_166, s173_169, s173_172, s173_173, s173_174, s173_177, s173_180, s173_181, s173_184, s173_185, s173_188, s173_190, s173_193, s173_194, s173_197, s173_198, s173_201, s173_204, s173_205, q173_206, s173_209, s173_212, s173_213, s173_214, s173_218, s173_219, s173_220, q173_223, q173_226, s173_229, s173_232, s173_233, s173_236, s173_237, s173_240, s173_241, s173_242, s173_245, s173_246, s173_248, s173_249, s173_252, s173_253, s173_254, s173_255, q173_258, s173_261, s173_262, s173_264, s173_265, s173_268, s173_269, s173_269r, s173_270, s173_273, s173_274, s173_275, s173_278, s173_281, s173_282, s173_283, s173_286, s173_287, s173_290, s173_291, s173_292, s173_295, s173_296, s173_299, s173_300, s173_303, s173_306, s173_307, s173_309, s173_312, s173_313, s173_315, s173_318, s173_319, s173_321, s173_324, s173_325, s173_327, s173_330, s173_331, s173_333, s173_336, s173_337, s173_339, s173_342, s173_343, s173_345, s173_348, s173_349, s173_351, s173_354, s173_355, s173_358, s173_359, s173_360, s173_361, s173_362, s173_365, s173_366, s173_369, s173_370, s173_373, s173_374, s173_374r, s173_375, s173_378, s173_379, s173_380, s173_383, xIL_1, xIS_1, xQL_2, xQL_3, xAN_1, xAN_2, xAN_3, xCP_1, xC_s, xNC_I, ji_oI1, ji_oIm, kd_sC, gR_sC, gL_sC, ji_rv_s, ji_tl_s, ji_tl_n, ji_s1, ji_s2, ji_kl, List.getD_cons_zero, List.getD_cons_succ, List.set_cons_zero, List.set_cons_succ, List.length_cons, List.length_nil, ji_b_0, ji_b_1, ji_n0, ji_n1, ji_rcb_iff, ji_ok8_0, ji_ok8_1, ji_ok8_2, ji_ok8_3, ji_ok8_4, kd_sI, kd_sL, kd_sR, kd_cp, gR_sI, gR_sL, gR_cp, gL_sI, gL_sR, gL_cp, gI_sL, gI_sR, gI_sI, gL_sL, Nat.reduceEqDiff, false_and, and_false, true_and, and_true, Nat.reduceAdd, Nat.reduceLT, Nat.reduceSub, Int32.reduceLT, Int32.reduceAdd, not_false_eq_true, not_true_eq_false, and_self, ji_b_n, if_true, if_false, ↓reduceIte, cz_m100, cz_m19, cz_m18, cz_m17, cz_m16, cz_m15, cz_m14, cz_m13, cz_m12, cz_m11, cz_m4, cz_m3, cz_m2, cz_m1, cz_1, cz_2, cz_3, cz_4, cz_5, cz_6, cz_7, cz_8, cz_9, cz_10, cz_11, cz_12, cz_13, cz_14, cz_15, cz_16, cz_20, cz_24, cz_30, cz_32, cz_33, cz_38, cz_40, cz_41, cz_42, cz_43, cz_45, cz_48, cz_57, cz_59, cz_60, cz_61, cz_63, cz_64, cz_72, cz_96, cz_97, cz_99, cz_100, cz_122, cz_124, cz_126, cz_160, cz_161, cz_168, cz_200, cz_255, cz_300, cz_960, cz_999, cz_1000, cz_1001, cz_1002, cz_1003, cz_1120, cz_2000, cz_2003, cz_2004, cz_2005, cz_3999, cz_9999, cz_14640, jx_NM_kd, mk_0 hN, jx_NM_ta, jx_NM_21, h2, jx_NW_ts, B, g, m175 (cMF _ _ _ _ _ _ _ _ _), nL, m177 (cMF _ _ _ _ _ _ _ _ _), jx_nD.mpr hD, jx_NW_vl]
          exact L
      · rw [if_neg hD]
        have nD : ¬ ji_in (t s) 48 57 := fun q => hD (jx_nD.mp q)
        have e1 : Int32.ofNat s + 1 = Int32.ofNat (s + 1) := (Int32.ofNat_add s 1).symm
        have tb := (hb s hs).2
        by_cases hS : jx_S (t s) = true
        · rw [if_pos hS]
          have hS' := hS
          unfold jx_S at hS'
          simp only [Bool.or_eq_true, decide_eq_true_eq] at hS'
          have nk : jx_nk (t s) = t s := by
            have c : ∀ q : Int32, 62 ≤ q.toInt → ¬ t s = q := fun q hq u => by rw [u] at hS'; omega
            unfold jx_nk
            rw [if_neg (c 1000 (by decide)), if_neg (c 1001 (by decide)), if_neg (c 1002 (by decide)), if_neg (c 1003 (by decide)), if_neg (by omega)]
          refine ⟨vl, ⟨fun q => ?_, fun q => ?_, fun q => ?_⟩, F _ (fun d => ?_)⟩
          · have q : t s = 1002 := q
            rw [q] at hS'; exact absurd hS' (by decide)
          · have q : t s = 1003 := q
            rw [q] at hS'; exact absurd hS' (by decide)
          · have q : 2000 ≤ (t s).toInt := q
            omega
          · rw [nk]
            have hc : (t s = 40 ∨ t s = 41 ∨ t s = 59 ∨ t s = 43) ∨ (t s = 45 ∨ t s = 42 ∨ t s = 60 ∨ t s = 61) := by
              have r : ∀ q : Int32, (t s).toInt = q.toInt → t s = q := fun q u => vi_eq.mpr u
              rcases hS' with ((((((h | h) | h) | h) | h) | h) | h) | h
              · exact Or.inl (Or.inl (r 40 h))
              · exact Or.inl (Or.inr (Or.inl (r 41 h)))
              · exact Or.inl (Or.inr (Or.inr (Or.inl (r 59 h))))
              · exact Or.inl (Or.inr (Or.inr (Or.inr (r 43 h))))
              · exact Or.inr (Or.inl (r 45 h))
              · exact Or.inr (Or.inr (Or.inl (r 42 h)))
              · exact Or.inr (Or.inr (Or.inr (Or.inl (r 60 h))))
              · exact Or.inr (Or.inr (Or.inr (Or.inr (r 61 h))))
            generalize t s = c at hc nL nD B
            rcases hc with (hc | hc | hc | hc) | (hc | hc | hc | hc) <;> (subst hc; simp only [s173_0, s173_1, s173_2, q173_5, s173_8, s173_10, s173_13, s173_14, s173_15, q173_18, s173_21, s173_23, s173_26, s173_27, s173_27r, s173_28, s173_31, s173_32, s173_33, s173_36, s173_39, s173_40, s173_41, s173_44, s173_47, s173_48, s173_49, q173_52, s173_55, s173_56, s173_57, s173_60, s173_61, s173_64, s173_67, s173_68, s173_69, s173_72, s173_75, s173_76, q173_77, s173_80, s173_83, s173_84, s173_85, s173_86, s173_88, s173_89, s173_90, s173_91, q173_94, q173_97, s173_100, s173_103, s173_105, s173_107, s173_110, s173_113, s173_114, s173_115, s173_116, s173_117, q173_120, s173_123, s173_124, s173_125, s173_128, s173_129, s173_132, s173_135, q173_136, s173_139, s173_140, s173_140r, s173_141, s173_144, s173_145, s173_146, s173_149, s173_152, s173_153, s173_155, s173_157, s173_160, s173_161, s173_164, s173_165, q173_166, s173_169, s173_172, s173_173, s173_174, s173_177, s173_180, s173_181, s173_184, s173_185, s173_188, s173_190, s173_193, s173_194, s173_197, s173_198, s173_201, s173_204, s173_205, q173_206, s173_209, s173_212, s173_213, s173_214, s173_217, s173_218, s173_219, s173_220, q173_223, q173_226, s173_229, s173_232, s173_233, s173_236, s173_237, s173_240, s173_241, s173_242, s173_245, s173_246, s173_248, s173_249, s173_252, s173_253, s173_254, s173_255, q173_258, s173_261, s173_262, s173_264, s173_265, s173_268, s173_269, s173_269r, s173_270, s173_273, s173_274, s173_275, s173_278, s173_281, s173_282, s173_283, s173_286, s173_287, s173_290, s173_291, s173_292, s173_295, s173_296, s173_299, s173_300, s173_303, s173_306, s173_307, s173_309, s173_312, s173_313, s173_315, s173_318, s173_319, s173_321, s173_324, s173_325, s173_327, s173_330, s173_331, s173_333, s173_336, s173_337, s173_339, s173_342, s173_343, s173_345, s173_348, s173_349, s173_351, s173_354, s173_355, s173_358, s173_359, s173_360, s173_361, s173_362, s173_365, s173_366, s173_369, s173_370, s173_373, s173_374, s173_374r, s173_375, s173_378, s173_379, s173_380, s173_383, xIL_1, xIS_1, xQL_2, xQL_3, xAN_1, xAN_2, xAN_3, xCP_1, xC_s, xNC_I, ji_oI1, ji_oIm, kd_sC, gR_sC, gL_sC, ji_rv_s, ji_tl_s, ji_tl_n, ji_s1, ji_s2, ji_kl, List.getD_cons_zero, List.getD_cons_succ, List.set_cons_zero, List.set_cons_succ, List.length_cons, List.length_nil, ji_b_0, ji_b_1, ji_n0, ji_n1, ji_rcb_iff, ji_ok8_0, ji_ok8_1, ji_ok8_2, ji_ok8_3, ji_ok8_4, kd_sI, kd_sL, kd_sR, kd_cp, gR_sI, gR_sL, gR_cp, gL_sI, gL_sR, gL_cp, gI_sL, gI_sR, gI_sI, gL_sL, Nat.reduceEqDiff, false_and, and_false, true_and, and_true, Nat.reduceAdd, Nat.reduceLT, Nat.reduceSub, Int32.reduceLT, Int32.reduceAdd, not_false_eq_true, not_true_eq_false, and_self, ji_b_n, if_true, if_false, ↓reduceIte, cz_m100, cz_m19, cz_m18, cz_m17, cz_m16, cz_m15, cz_m14, cz_m13, cz_m12, cz_m11, cz_m4, cz_m3, cz_m2, cz_m1, cz_1, cz_2, cz_3, cz_4, cz_5, cz_6, cz_7, cz_8, cz_9, cz_10, cz_11, cz_12, cz_13, cz_14, cz_15, cz_16, cz_20, cz_24, cz_30, cz_32, cz_33, cz_38, cz_40, cz_41, cz_42, cz_43, cz_45, cz_48, cz_57, cz_59, cz_60, cz_61, cz_63, cz_64, cz_72, cz_96, cz_97, cz_99, cz_100, cz_122, cz_124, cz_126, cz_160, cz_161, cz_168, cz_200, cz_255, cz_300, cz_960, cz_999, cz_1000, cz_1001, cz_1002, cz_1003, cz_1120, cz_2000, cz_2003, cz_2004, cz_2005, cz_3999, cz_9999, cz_14640, jx_NM_kd, mk_0 hN, jx_NM_ta, jx_NM_21, h2, jx_NW_ts, B, g, m175 (cMF _ _ _ _ _ _ _ _ _), nL, m177 (cMF _ _ _ _ _ _ _ _ _), nD, cs_40_41, cs_40_59, cs_40_43, cs_40_45, cs_40_42, cs_40_60, cs_40_61, cs_41_40, cs_41_59, cs_41_43, cs_41_45, cs_41_42, cs_41_60, cs_41_61, cs_59_40, cs_59_41, cs_59_43, cs_59_45, cs_59_42, cs_59_60, cs_59_61, cs_43_40, cs_43_41, cs_43_59, cs_43_45, cs_43_42, cs_43_60, cs_43_61, cs_45_40, cs_45_41, cs_45_59, cs_45_43, cs_45_42, cs_45_60, cs_45_61, cs_42_40, cs_42_41, cs_42_59, cs_42_43, cs_42_45, cs_42_60, cs_42_61, cs_60_40, cs_60_41, cs_60_59, cs_60_43, cs_60_45, cs_60_42, cs_60_61, cs_61_40, cs_61_41, cs_61_59, cs_61_43, cs_61_45, cs_61_42, cs_61_60, jx_NW_tk, jx_NW_ta, e1])
        · rw [if_neg hS]
          have n1 : jx_nk 1001 = -1 := by decide
          refine ⟨vl, ⟨fun q => absurd q (by show ¬ ((1001 : Int32) = 1002); decide), fun q => absurd q (by show ¬ ((1001 : Int32) = 1003); decide), fun q => absurd q (by show ¬ (2000 ≤ (1001 : Int32).toInt); decide)⟩, F _ (fun d => ?_)⟩
          unfold jx_S at hS
          have r : ∀ q : Int32, jx_S q = true → ¬ t s = q := fun q hq u => by
            unfold jx_S at hq
            rw [← u] at hq
            exact hS hq
          have k0 := r 40 (by decide)
          have k1 := r 41 (by decide)
          have k2 := r 59 (by decide)
          have k3 := r 43 (by decide)
          have k4 := r 45 (by decide)
          have k5 := r 42 (by decide)
          have k6 := r 60 (by decide)
          have k7 := r 61 (by decide)
          rw [n1]
          simp only [s173_0, s173_1, s173_2, q173_5, s173_8, s173_10, s173_13, s173_14, s173_15, q173_18, s173_21, s173_23, s173_26, s173_27, s173_27r, s173_28, s173_31, s173_32, s173_33, s173_36, s173_39, s173_40, s173_41, s173_44, s173_47, s173_48, s173_49, q173_52, s173_55, s173_56, s173_57, s173_60, s173_61, s173_64, s173_67, s173_68, s173_69, s173_72, s173_75, s173_76, q173_77, s173_80, s173_83, s173_84, s173_85, s173_86, s173_88, s173_89, s173_90, s173_91, q173_94, q173_97, s173_100, s173_103, s173_105, s173_107, s173_110, s173_113, s173_114, s173_115, s173_116, s173_117, q173_120, s173_123, s173_124, s173_125, s173_128, s173_129, s173_132, s173_135, q173_136, s173_139, s173_140, s173_140r, s173_141, s173_144, s173_145, s173_146, s173_149, s173_152, s173_153, s173_155, s173_157, s173_160, s173_161, s173_164, s173_165, q173_166, s173_169, s173_172, s173_173, s173_174, s173_177, s173_180, s173_181, s173_184, s173_185, s173_188, s173_190, s173_193, s173_194, s173_197, s173_198, s173_201, s173_204, s173_205, q173_206, s173_209, s173_212, s173_213, s173_214, s173_217, s173_218, s173_219, s173_220, q173_223, q173_226, s173_229, s173_232, s173_233, s173_236, s173_237, s173_240, s173_241, s173_242, s173_245, s173_246, s173_248, s173_249, s173_252, s173_253, s173_254, s173_255, q173_258, s173_261, s173_262, s173_264, s173_265, s173_268, s173_269, s173_269r, s173_270, s173_273, s173_274, s173_275, s173_278, s173_281, s173_282, s173_283, s173_286, s173_287, s173_290, s173_291, s173_292, s173_295, s173_296, s173_299, s173_300, s173_303, s173_306, s173_307, s173_309, s173_312, s173_313, s173_315, s173_318, s173_319, s173_321, s173_324, s173_325, s173_327, s173_330, s173_331, s173_333, s173_336, s173_337, s173_339, s173_342, s173_343, s173_345, s173_348, s173_349, s173_351, s173_354, s173_355, s173_358, s173_359, s173_360, s173_361, s173_362, s173_365, s173_366, s173_369, s173_370, s173_373, s173_374, s173_374r, s173_375, s173_378, s173_379, s173_380, s173_383, xIL_1, xIS_1, xQL_2, xQL_3, xAN_1, xAN_2, xAN_3, xCP_1, xC_s, xNC_I, ji_oI1, ji_oIm, kd_sC, gR_sC, gL_sC, ji_rv_s, ji_tl_s, ji_tl_n, ji_s1, ji_s2, ji_kl, List.getD_cons_zero, List.getD_cons_succ, List.set_cons_zero, List.set_cons_succ, List.length_cons, List.length_nil, ji_b_0, ji_b_1, ji_n0, ji_n1, ji_rcb_iff, ji_ok8_0, ji_ok8_1, ji_ok8_2, ji_ok8_3, ji_ok8_4, kd_sI, kd_sL, kd_sR, kd_cp, gR_sI, gR_sL, gR_cp, gL_sI, gL_sR, gL_cp, gI_sL, gI_sR, gI_sI, gL_sL, Nat.reduceEqDiff, false_and, and_false, true_and, and_true, Nat.reduceAdd, Nat.reduceLT, Nat.reduceSub, Int32.reduceLT, Int32.reduceAdd, not_false_eq_true, not_true_eq_false, and_self, ji_b_n, if_true, if_false, ↓reduceIte, cz_m100, cz_m19, cz_m18, cz_m17, cz_m16, cz_m15, cz_m14, cz_m13, cz_m12, cz_m11, cz_m4, cz_m3, cz_m2, cz_m1, cz_1, cz_2, cz_3, cz_4, cz_5, cz_6, cz_7, cz_8, cz_9, cz_10, cz_11, cz_12, cz_13, cz_14, cz_15, cz_16, cz_20, cz_24, cz_30, cz_32, cz_33, cz_38, cz_40, cz_41, cz_42, cz_43, cz_45, cz_48, cz_57, cz_59, cz_60, cz_61, cz_63, cz_64, cz_72, cz_96, cz_97, cz_99, cz_100, cz_122, cz_124, cz_126, cz_160, cz_161, cz_168, cz_200, cz_255, cz_300, cz_960, cz_999, cz_1000, cz_1001, cz_1002, cz_1003, cz_1120, cz_2000, cz_2003, cz_2004, cz_2005, cz_3999, cz_9999, cz_14640, jx_NM_kd, mk_0 hN, jx_NM_ta, jx_NM_21, h2, jx_NW_ts, B, g, m175 (cMF _ _ _ _ _ _ _ _ _), nL, m177 (cMF _ _ _ _ _ _ _ _ _), nD, k0, k1, k2, k3, k4, k5, k6, k7, jx_NW_tk, jx_NW_ta, e1]
  · rw [if_neg hs]
    have e : s = n := by omega
    subst e
    have B := fun d ts => m174n (d := d) (ta := Int32.ofNat s) (tk := tk) (ts := ts) (vl := vl) (wn := wn) (pn := pn) (on := on) (wf := wf) (pf := pf) H (i := s) (by omega) (by omega)
    have n0 : jx_nk 1000 = 0 := by decide
    refine ⟨vl, ⟨fun q => absurd q (by show ¬ ((1000 : Int32) = 1002); decide), fun q => absurd q (by show ¬ ((1000 : Int32) = 1003); decide), fun q => absurd q (by show ¬ (2000 ≤ (1000 : Int32).toInt); decide)⟩, F _ (fun d => ?_)⟩
    rw [n0]
    simp only [s173_0, s173_1, s173_2, q173_5, s173_8, s173_10, s173_13, s173_14, s173_15, q173_18, s173_21, s173_23, s173_26, s173_27, s173_27r, s173_28, s173_31, s173_32, s173_33, s173_36, s173_39, s173_40, s173_41, s173_44, s173_47, s173_48, s173_49, q173_52, s173_55, s173_56, s173_57, s173_60, s173_61, s173_64, s173_67, s173_68, s173_69, s173_72, s173_75, s173_76, q173_77, s173_80, s173_83, s173_84, s173_85, s173_86, s173_88, s173_89, s173_90, s173_91, q173_94, q173_97, s173_100, s173_103, s173_105, s173_107, s173_110, s173_113, s173_114, s173_115, s173_116, s173_117, q173_120, s173_123, s173_124, s173_125, s173_128, s173_129, s173_132, s173_135, q173_136, s173_139, s173_140, s173_140r, s173_141, s173_144, s173_145, s173_146, s173_149, s173_152, s173_153, s173_155, s173_157, s173_160, s173_161, s173_164, s173_165, q173_166, s173_169, s173_172, s173_173, s173_174, s173_177, s173_180, s173_181, s173_184, s173_185, s173_188, s173_190, s173_193, s173_194, s173_197, s173_198, s173_201, s173_204, s173_205, q173_206, s173_209, s173_212, s173_213, s173_214, s173_217, s173_218, s173_219, s173_220, q173_223, q173_226, s173_229, s173_232, s173_233, s173_236, s173_237, s173_240, s173_241, s173_242, s173_245, s173_246, s173_248, s173_249, s173_252, s173_253, s173_254, s173_255, q173_258, s173_261, s173_262, s173_264, s173_265, s173_268, s173_269, s173_269r, s173_270, s173_273, s173_274, s173_275, s173_278, s173_281, s173_282, s173_283, s173_286, s173_287, s173_290, s173_291, s173_292, s173_295, s173_296, s173_299, s173_300, s173_303, s173_306, s173_307, s173_309, s173_312, s173_313, s173_315, s173_318, s173_319, s173_321, s173_324, s173_325, s173_327, s173_330, s173_331, s173_333, s173_336, s173_337, s173_339, s173_342, s173_343, s173_345, s173_348, s173_349, s173_351, s173_354, s173_355, s173_358, s173_359, s173_360, s173_361, s173_362, s173_365, s173_366, s173_369, s173_370, s173_373, s173_374, s173_374r, s173_375, s173_378, s173_379, s173_380, s173_383, xIL_1, xIS_1, xQL_2, xQL_3, xAN_1, xAN_2, xAN_3, xCP_1, xC_s, xNC_I, ji_oI1, ji_oIm, kd_sC, gR_sC, gL_sC, ji_rv_s, ji_tl_s, ji_tl_n, ji_s1, ji_s2, ji_kl, List.getD_cons_zero, List.getD_cons_succ, List.set_cons_zero, List.set_cons_succ, List.length_cons, List.length_nil, ji_b_0, ji_b_1, ji_n0, ji_n1, ji_rcb_iff, ji_ok8_0, ji_ok8_1, ji_ok8_2, ji_ok8_3, ji_ok8_4, kd_sI, kd_sL, kd_sR, kd_cp, gR_sI, gR_sL, gR_cp, gL_sI, gL_sR, gL_cp, gI_sL, gI_sR, gI_sI, gL_sL, Nat.reduceEqDiff, false_and, and_false, true_and, and_true, Nat.reduceAdd, Nat.reduceLT, Nat.reduceSub, Int32.reduceLT, Int32.reduceAdd, not_false_eq_true, not_true_eq_false, and_self, ji_b_n, if_true, if_false, ↓reduceIte, cz_m100, cz_m19, cz_m18, cz_m17, cz_m16, cz_m15, cz_m14, cz_m13, cz_m12, cz_m11, cz_m4, cz_m3, cz_m2, cz_m1, cz_1, cz_2, cz_3, cz_4, cz_5, cz_6, cz_7, cz_8, cz_9, cz_10, cz_11, cz_12, cz_13, cz_14, cz_15, cz_16, cz_20, cz_24, cz_30, cz_32, cz_33, cz_38, cz_40, cz_41, cz_42, cz_43, cz_45, cz_48, cz_57, cz_59, cz_60, cz_61, cz_63, cz_64, cz_72, cz_96, cz_97, cz_99, cz_100, cz_122, cz_124, cz_126, cz_160, cz_161, cz_168, cz_200, cz_255, cz_300, cz_960, cz_999, cz_1000, cz_1001, cz_1002, cz_1003, cz_1120, cz_2000, cz_2003, cz_2004, cz_2005, cz_3999, cz_9999, cz_14640, jx_NM_kd, mk_0 hN, jx_NM_ta, jx_NM_21, h2, jx_NW_ts, B, jx_NW_tk]
end JIV
