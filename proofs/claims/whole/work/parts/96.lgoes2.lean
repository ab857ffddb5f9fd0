/-! ===== lots: the model goes by an order, and all is as it was ===== -/
section JIV
variable {X X' X'' Y N N' N0 M M' A : ji_M} {P : ji_P} {x y z x1 x2 x3 : Int32} {f g : ji_F} {Lm : List Nat} {d a b r c m s p n i j k v u t ρ K : Nat} {o : Option Value × ji_M} {σ : List Int32 × List Int32 × List Int32} {l : List Nat} {w w' : Int64}
theorem m204 (R : ji_Rel jx_P X N) (C0 : jx_C X N 1 2 3 ρ σ) (G : jz_G Lm n N) (oN : ji_offN N A) (hO : jz_O Lm (ji_gI A 24) Lm.length v) : 0 ≤ (jz_lv Lm n N σ v).toInt ∧ ∃ A', ji_offN N A' ∧ (ji_gI A' 24 = ji_gI A 24 ∧ ji_gI A' 25 = ji_gI A 25 ∧ ji_gI A' 26 = ji_gI A 26) ∧ ∀ d, ji_CL (d + 10) 204 [.ref 0, .int (Int32.ofNat Lm.length), .int (Int32.ofNat n)] A = some (some (.long (jz_lv Lm n N σ v)), A') := by
  have G' := G
  obtain ⟨G1, G2, G3, G4, G5, G6⟩ := G
  have RA := ji_Rel_offN R oN
  have hA := RA.mf
  have nF := fun a (hs : ∀ k, ji_ns a k = false) => ji_offN_F (a := a) oN hs
  have rr := fun _ : Nat => (rfl : false = false)
  have e4 : ji_gI A 0 4 = ji_gI N 0 4 := oN.2.1 0 4 rfl
  have e0 : ji_gI A 0 0 = ji_gI N 0 0 := oN.2.1 0 0 rfl
  have h4 : ji_bt (ji_gI A 0 4) 0 24 := by rw [e4]; exact G6
  have h41 := h4.1
  have h42 := h4.2
  obtain ⟨A1, c1, s1, E1⟩ := m204A (x1 := Int32.ofNat Lm.length) (x2 := Int32.ofNat n) (x3 := ji_gI A 0 0) (w := ji_gL A 0 5) h4 (ji_gI A 0 4).toInt.toNat 0 A (by omega) hA rfl (fun l hl => absurd hl (by omega))
  have hA1 := jz_ch_MF c1 hA
  have k := fun a (h : a ∉ [20, 21, 22, 23]) => c1.2.1 a h
  have SR1 : jq_SR X A1 1 2 3 := by
    have SR := RA.sr
    unfold jq_SR at SR ⊢
    rw [k 0 (by decide), k 1 (by decide), k 2 (by decide), k 3 (by decide), k 4 (by decide), k 5 (by decide), k 6 (by decide), k 7 (by decide), k 8 (by decide), c1.2.2.1]
    exact SR
  have C1 : jx_C X A1 1 2 3 ρ σ := jz_C_mk C0 C0.2.2.2.1 C0.1 hA1 SR1 (fun _ _ => rfl) (fun _ _ _ => rfl) (by rw [k 0 (by decide)]; exact oN.2.1 0 16 rfl) (by rw [k 10 (by decide)]; exact nF 10 rr) (by rw [k 11 (by decide)]; exact nF 11 rr)
  have q1 : jz_q N A1 := by
    refine ⟨fun a h1 h2 => ?_, fun i hi => ?_, (c1.2.2.1 0 5).trans oN.2.2.1⟩
    · have : a = 1 ∨ a = 2 ∨ a = 3 ∨ a = 4 ∨ a = 5 ∨ a = 6 ∨ a = 7 ∨ a = 8 := by omega
      rcases this with h | h | h | h | h | h | h | h <;> subst h
      · rw [k 1 (by decide)]; exact nF 1 rr
      · rw [k 2 (by decide)]; exact nF 2 rr
      · rw [k 3 (by decide)]; exact nF 3 rr
      · rw [k 4 (by decide)]; exact nF 4 rr
      · rw [k 5 (by decide)]; exact nF 5 rr
      · rw [k 6 (by decide)]; exact nF 6 rr
      · rw [k 7 (by decide)]; exact nF 7 rr
      · rw [k 8 (by decide)]; exact nF 8 rr
    · rw [k 0 (by decide)]
      have : i = 0 ∨ i = 1 ∨ i = 2 ∨ i = 3 ∨ i = 4 := by omega
      rcases this with h | h | h | h | h <;> subst h
      · exact e0
      · exact oN.2.1 0 1 rfl
      · exact oN.2.1 0 2 rfl
      · exact oN.2.1 0 3 rfl
      · exact e4
  have f24 : ji_gI A1 24 = ji_gI A 24 := k 24 (by decide)
  have hf : ∀ t, t < Lm.length → ∃ b : Nat, (b : Int) < (ji_gI A 0 4).toInt ∧ ji_gI A1 24 t = Int32.ofNat b := fun t ht => by
    obtain ⟨b, hb, eb⟩ := jz_O_in _ _ (Nat.le_refl _) hO t ht
    exact ⟨b, by rw [e4]; exact G2 b hb, by rw [f24, eb]⟩
  have h00 : ji_gI A1 0 0 = ji_gI N 0 0 := by rw [k 0 (by decide)]; exact e0
  obtain ⟨M, eM, ⟨X2, C2⟩, E2⟩ := m204C (x3 := ji_gI A 0 0) (w := ji_gL A 0 5) (K := Lm.length) (z := ji_gI A 0 4) (n := n) (f := ji_gI A1 24) G4 hf G3 Lm.length 0 A1 none none (by omega) rfl (by rw [k 0 (by decide)]) ⟨X, C1⟩ (by rw [h00]; exact G5.2) (by rw [h00]; exact G5.1)
  have eM : M = jz_al Lm n A1 Lm.length v := by
    rw [eM, show (fun i => ji_gI A1 24 (0 + i)) = ji_gI A1 24 from funext fun i => by rw [Nat.zero_add]]
    exact jz_af_al (fun b hb => by have := G2 b hb; rw [e4] at h42; omega) _ _ (Nat.le_refl _) (by rw [f24]; exact hO)
  have m4 : ji_gI M 0 4 = ji_gI N 0 4 := by rw [eM, jz_al_f (by decide), k 0 (by decide)]; exact e4
  obtain ⟨X3, N3, w3, -, o3, ew, -, B⟩ := m89 C2
  have ew : w3 = jz_lv Lm n N σ v := by
    rw [ew, m4, eM]
    exact jz_q_la (jz_q_al q1 _ _) _
  have w0 : 0 ≤ w3.toInt := by
    obtain ⟨S, g1, g2, g3, g4, g5, g6⟩ := C2.2.2.1
    have gb := g5.1
    have gb2 := g5.2
    rw [ew, ← ew]
    rw [show w3 = jx_la M σ (ji_gI M 0 4).toInt.toNat by rw [ew, m4, eM]; exact (jz_q_la (jz_q_al q1 _ _) _).symm]
    exact (jz_la_b (M := M) (σ := σ) (ji_gI M 0 4).toInt.toNat (by omega) (fun i hi => (g6 i (by omega)).2.2.2.2.2.2.1.2)).1
  rw [ew] at B w0
  refine ⟨w0, ?_⟩
  have hM := C2.2.1
  have hN3 := jx_oN_MF o3 hM
  obtain ⟨N4, e5⟩ : ∃ N4, N4 = ji_sL (ji_sI N3 0 0 (ji_gI A 0 0)) 0 5 (ji_gL A 0 5) := ⟨_, rfl⟩
  have hN4 : ji_MF N4 := by rw [e5]; exact hN3
  have n44 : ji_gI N4 0 4 = ji_gI A 0 4 := by
    rw [e5, gI_sL, gI_nk (by decide), o3.2.1 0 4 rfl, m4, e4]
  obtain ⟨N5, c5, s5, t5, E3⟩ := m204D (x1 := Int32.ofNat Lm.length) (x2 := Int32.ofNat n) (x3 := ji_gI A 0 0) (w := ji_gL A 0 5) (w' := jz_lv Lm n N σ v) h4 (ji_gI A 0 4).toInt.toNat 0 N4 (by omega) hN4 n44 (fun l hl => absurd hl (by omega))
  -- rows that nobody touches
  have far : ∀ a, a ≠ 0 → a ∉ [5, 6, 7, 8] → ∀ i, jx_nc a i = false → ji_gI N5 a i = ji_gI A1 a i := fun a h0 h5 i hi => by
    rw [c5.2.1 a h5, e5, gI_sL, gI_ne h0, o3.2.1 a i hi, eM, jz_al_a h0 (by rintro rfl; exact h5 (by decide)) (by rintro rfl; exact h5 (by decide)) (by rintro rfl; exact h5 (by decide)) (by rintro rfl; exact h5 (by decide))]
  refine ⟨N5, ⟨?_, fun a i hns => ?_, ?_, fun a i => ?_⟩, ⟨?_, ?_, ?_⟩, fun d => ?_⟩
  · rw [c5.1, e5]
    show N3.1 = N.1
    rw [o3.1, eM, (jz_al_st _ _).1, c1.1, oN.1]
  · have ncf : jx_nc a i = false := by
      cases q : jx_nc a i with
      | false => rfl
      | true => rw [jx_nc_ns q] at hns; cases hns
    by_cases h0 : a = 0
    · subst h0
      rw [c5.2.1 0 (by decide), e5, gI_sL]
      by_cases i0 : i = 0
      · subst i0; rw [gI_eq]; exact e0
      · rw [gI_nk i0, o3.2.1 0 i ncf, eM, jz_al_f i0, k 0 (by decide)]
        exact oN.2.1 0 i hns
    · by_cases h5 : a ∈ [5, 6, 7, 8]
      · have A1N : ji_gI A1 a i = ji_gI N a i := by
          have : a = 5 ∨ a = 6 ∨ a = 7 ∨ a = 8 := by simpa using h5
          rcases this with h | h | h | h <;> subst h
          · exact congrFun (q1.1 5 (by decide) (by decide)) i
          · exact congrFun (q1.1 6 (by decide) (by decide)) i
          · exact congrFun (q1.1 7 (by decide) (by decide)) i
          · exact congrFun (q1.1 8 (by decide) (by decide)) i
        rw [← A1N]
        by_cases hi : (i : Int) < (ji_gI A 0 4).toInt
        · have S := s5 i hi
          have T := s1 i (by omega)
          have w20 : ∀ a, a = 20 ∨ a = 21 ∨ a = 22 ∨ a = 23 → ji_gI N4 a i = ji_gI A1 a i := fun a ha => by
            rw [e5, gI_sL, gI_ne (by omega), o3.2.1 a i (by rcases ha with h | h | h | h <;> subst h <;> rfl), eM, jz_al_a (by omega) (by omega) (by omega) (by omega) (by omega)]
          rw [w20 20 (by omega), w20 21 (by omega), w20 22 (by omega), w20 23 (by omega)] at S
          have : a = 5 ∨ a = 6 ∨ a = 7 ∨ a = 8 := by simpa using h5
          rcases this with h | h | h | h <;> subst h
          · exact S.1.trans T.1
          · exact S.2.1.trans T.2.1
          · exact S.2.2.1.trans T.2.2.1
          · exact S.2.2.2.trans T.2.2.2
        · rw [t5 a i (by omega), e5, gI_sL, gI_ne h0, o3.2.1 a i ncf, eM]
          exact jz_al_hi G' (by rw [k 0 (by decide)]; exact e4) (by rw [← e4]; omega) h0 _ _ (Nat.le_refl _)
      · rw [far a h0 h5 i ncf]
        have hn20 : a ∉ [20, 21, 22, 23] := fun z => by
          have : a = 20 ∨ a = 21 ∨ a = 22 ∨ a = 23 := by simpa using z
          rcases this with h | h | h | h <;> subst h <;> exact absurd hns (by show ¬ true = false; decide)
        rw [k a hn20]
        exact oN.2.1 a i hns
  · rw [c5.2.2.1, e5, gL_sL, if_pos ⟨rfl, rfl⟩]
    exact oN.2.2.1
  · rw [c5.2.2.2, e5]
    show ji_gR N3 a i = _
    rw [o3.2.2.2, eM, (jz_al_st _ _).2, c1.2.2.2, oN.2.2.2]
  · exact funext fun i => (far 24 (by decide) (by decide) i rfl).trans (by rw [k 24 (by decide)])
  · exact funext fun i => (far 25 (by decide) (by decide) i rfl).trans (by rw [k 25 (by decide)])
  · exact funext fun i => (far 26 (by decide) (by decide) i rfl).trans (by rw [k 26 (by decide)])
  · have E3 := E3 (d + 9)
    have E3 : ji_Ev (ji_CL (d + 9)) 204 192 N4 [some (.ref 0), some (.int (Int32.ofNat Lm.length)), some (.int (Int32.ofNat n)), some (.int (ji_gI A 0 0)), some (.long (ji_gL A 0 5)), none, some (.long (jz_lv Lm n N σ v)), none, some (.int 0)] [] _ := E3
    have B := B d
    have E2 := E2 (d + 5) (some (.long (jz_lv Lm n N σ v)), N5) (fun l7 l8 => by
      simp only [s204_0, s204_1, s204_4, s204_5, s204_6, s204_9, s204_11, s204_12, s204_14, s204_16, s204_17, s204_20, s204_23, s204_24, s204_27, s204_29, s204_30, s204_33, q204_35, q204_36, s204_37, s204_38, s204_41, s204_43, s204_44, s204_47, q204_49, q204_50, s204_51, s204_52, s204_55, s204_57, s204_58, s204_61, q204_63, q204_64, s204_65, s204_66, s204_69, s204_71, s204_72, s204_75, q204_77, q204_78, q204_79, s204_82, s204_85, s204_86, s204_88, s204_90, s204_91, s204_94, s204_95, s204_98, q204_100, s204_101, s204_103, s204_104, s204_105, s204_108, q204_110, s204_111, q204_112, s204_115, s204_118, s204_119, s204_121, q204_122, s204_125, s204_128, s204_129, s204_132, s204_134, q204_135, s204_136, s204_137, s204_140, s204_142, s204_143, q204_146, s204_147, s204_148, s204_150, s204_152, s204_153, s204_156, q204_157, q204_160, s204_163, q204_166, s204_169, s204_172, q204_173, s204_176, s204_178, s204_179, s204_180, s204_183, s204_184, s204_186, s204_189, s204_190, s204_194, s204_195, s204_198, s204_201, s204_202, s204_205, s204_207, s204_208, s204_211, q204_213, q204_214, s204_215, s204_216, s204_219, s204_221, s204_222, s204_225, q204_227, q204_228, s204_229, s204_230, s204_233, s204_235, s204_236, s204_239, q204_241, q204_242, s204_243, s204_244, s204_247, s204_249, s204_250, s204_253, q204_255, q204_256, q204_257, s204_263, s204_265, xIL_1, xIS_1, xQL_2, xQL_3, xAN_1, xAN_2, xAN_3, xCP_1, xC_s, xNC_I, ji_oI1, ji_oIm, kd_sC, gR_sC, gL_sC, ji_rv_s, ji_tl_s, ji_tl_n, ji_s1, ji_s2, ji_kl, List.getD_cons_zero, List.getD_cons_succ, List.set_cons_zero, List.set_cons_succ, List.length_cons, List.length_nil, ji_b_0, ji_b_1, ji_n0, ji_n1, ji_rcb_iff, ji_ok8_0, ji_ok8_1, ji_ok8_2, ji_ok8_3, ji_ok8_4, kd_sI, kd_sL, kd_sR, kd_cp, gR_sI, gR_sL, gR_cp, gL_sI, gL_sR, gL_cp, gI_sL, gI_sR, gI_sI, gL_sL, Nat.reduceEqDiff, false_and, and_false, true_and, and_true, Nat.reduceAdd, Nat.reduceLT, Nat.reduceSub, Int32.reduceLT, Int32.reduceAdd, not_false_eq_true, not_true_eq_false, and_self, ji_b_n, if_true, if_false, ↓reduceIte, cz_m100, cz_m19, cz_m18, cz_m17, cz_m16, cz_m15, cz_m14, cz_m13, cz_m12, cz_m11, cz_m4, cz_m3, cz_m2, cz_m1, cz_1, cz_2, cz_3, cz_4, cz_5, cz_6, cz_7, cz_8, cz_9, cz_10, cz_11, cz_12, cz_13, cz_14, cz_15, cz_16, cz_20, cz_24, cz_30, cz_32, cz_33, cz_38, cz_40, cz_41, cz_42, cz_43, cz_45, cz_48, cz_57, cz_59, cz_60, cz_61, cz_63, cz_64, cz_72, cz_96, cz_97, cz_99, cz_100, cz_122, cz_124, cz_126, cz_160, cz_161, cz_168, cz_200, cz_255, cz_300, cz_960, cz_999, cz_1000, cz_1001, cz_1002, cz_1003, cz_1120, cz_2000, cz_2003, cz_2004, cz_2005, cz_3999, cz_9999, cz_14640, -gI_sI, mk_0 hM, B, mk_0 hN3, ← e5]
      exact E3)
    have E2 : ji_Ev (ji_CL (d + 9)) 204 88 A1 [some (.ref 0), some (.int (Int32.ofNat Lm.length)), some (.int (Int32.ofNat n)), some (.int (ji_gI A 0 0)), some (.long (ji_gL A 0 5)), none, some (.int 0), none, none] [] _ := E2
    have E1 := E1 (d + 9) (some (.long (jz_lv Lm n N σ v)), N5) (by
      simp only [s204_85, s204_86, xIL_1, xIS_1, xQL_2, xQL_3, xAN_1, xAN_2, xAN_3, xCP_1, xC_s, xNC_I, ji_oI1, ji_oIm, kd_sC, gR_sC, gL_sC, ji_rv_s, ji_tl_s, ji_tl_n, ji_s1, ji_s2, ji_kl, List.getD_cons_zero, List.getD_cons_succ, List.set_cons_zero, List.set_cons_succ, List.length_cons, List.length_nil, ji_b_0, ji_b_1, ji_n0, ji_n1, ji_rcb_iff, ji_ok8_0, ji_ok8_1, ji_ok8_2, ji_ok8_3, ji_ok8_4, kd_sI, kd_sL, kd_sR, kd_cp, gR_sI, gR_sL, gR_cp, gL_sI, gL_sR, gL_cp, gI_sL, gI_sR, gI_sI, gL_sL, Nat.reduceEqDiff, false_and, and_false, true_and, and_true, Nat.reduceAdd, Nat.reduceLT, Nat.reduceSub, Int32.reduceLT, Int32.reduceAdd, not_false_eq_true, not_true_eq_false, and_self, ji_b_n, if_true, if_false, ↓reduceIte, cz_m100, cz_m19, cz_m18, cz_m17, cz_m16, cz_m15, cz_m14, cz_m13, cz_m12, cz_m11, cz_m4, cz_m3, cz_m2, cz_m1, cz_1, cz_2, cz_3, cz_4, cz_5, cz_6, cz_7, cz_8, cz_9, cz_10, cz_11, cz_12, cz_13, cz_14, cz_15, cz_16, cz_20, cz_24, cz_30, cz_32, cz_33, cz_38, cz_40, cz_41, cz_42, cz_43, cz_45, cz_48, cz_57, cz_59, cz_60, cz_61, cz_63, cz_64, cz_72, cz_96, cz_97, cz_99, cz_100, cz_122, cz_124, cz_126, cz_160, cz_161, cz_168, cz_200, cz_255, cz_300, cz_960, cz_999, cz_1000, cz_1001, cz_1002, cz_1003, cz_1120, cz_2000, cz_2003, cz_2004, cz_2005, cz_3999, cz_9999, cz_14640]
      exact E2)
    have E1 : ji_Ev (ji_CL (d + 9)) 204 14 A [some (.ref 0), some (.int (Int32.ofNat Lm.length)), some (.int (Int32.ofNat n)), some (.int (ji_gI A 0 0)), some (.long (ji_gL A 0 5)), none, some (.int 0), none, none] [] _ := E1
    apply en_204
    simp only [s204_0, s204_1, s204_4, s204_5, s204_6, s204_9, s204_11, s204_12, s204_16, s204_17, s204_20, s204_23, s204_24, s204_27, s204_29, s204_30, s204_33, q204_35, q204_36, s204_37, s204_38, s204_41, s204_43, s204_44, s204_47, q204_49, q204_50, s204_51, s204_52, s204_55, s204_57, s204_58, s204_61, q204_63, q204_64, s204_65, s204_66, s204_69, s204_71, s204_72, s204_75, q204_77, q204_78, q204_79, s204_85, s204_86, s204_88, s204_90, s204_91, s204_94, s204_95, s204_98, q204_100, s204_101, s204_103, s204_104, s204_105, s204_108, q204_110, s204_111, q204_112, s204_115, s204_118, s204_119, s204_121, q204_122, s204_125, s204_128, s204_129, s204_132, s204_134, q204_135, s204_136, s204_137, s204_140, s204_142, s204_143, q204_146, s204_147, s204_148, s204_150, s204_152, s204_153, s204_156, q204_157, q204_160, s204_163, q204_166, s204_169, s204_172, q204_173, s204_176, s204_178, s204_179, s204_180, s204_183, s204_184, s204_186, s204_189, s204_190, s204_192, s204_194, s204_195, s204_198, s204_201, s204_202, s204_205, s204_207, s204_208, s204_211, q204_213, q204_214, s204_215, s204_216, s204_219, s204_221, s204_222, s204_225, q204_227, q204_228, s204_229, s204_230, s204_233, s204_235, s204_236, s204_239, q204_241, q204_242, s204_243, s204_244, s204_247, s204_249, s204_250, s204_253, q204_255, q204_256, q204_257, s204_260, s204_263, s204_265, xIL_1, xIS_1, xQL_2, xQL_3, xAN_1, xAN_2, xAN_3, xCP_1, xC_s, xNC_I, ji_oI1, ji_oIm, kd_sC, gR_sC, gL_sC, ji_rv_s, ji_tl_s, ji_tl_n, ji_s1, ji_s2, ji_kl, List.getD_cons_zero, List.getD_cons_succ, List.set_cons_zero, List.set_cons_succ, List.length_cons, List.length_nil, ji_b_0, ji_b_1, ji_n0, ji_n1, ji_rcb_iff, ji_ok8_0, ji_ok8_1, ji_ok8_2, ji_ok8_3, ji_ok8_4, kd_sI, kd_sL, kd_sR, kd_cp, gR_sI, gR_sL, gR_cp, gL_sI, gL_sR, gL_cp, gI_sL, gI_sR, gI_sI, gL_sL, Nat.reduceEqDiff, false_and, and_false, true_and, and_true, Nat.reduceAdd, Nat.reduceLT, Nat.reduceSub, Int32.reduceLT, Int32.reduceAdd, not_false_eq_true, not_true_eq_false, and_self, ji_b_n, if_true, if_false, ↓reduceIte, cz_m100, cz_m19, cz_m18, cz_m17, cz_m16, cz_m15, cz_m14, cz_m13, cz_m12, cz_m11, cz_m4, cz_m3, cz_m2, cz_m1, cz_1, cz_2, cz_3, cz_4, cz_5, cz_6, cz_7, cz_8, cz_9, cz_10, cz_11, cz_12, cz_13, cz_14, cz_15, cz_16, cz_20, cz_24, cz_30, cz_32, cz_33, cz_38, cz_40, cz_41, cz_42, cz_43, cz_45, cz_48, cz_57, cz_59, cz_60, cz_61, cz_63, cz_64, cz_72, cz_96, cz_97, cz_99, cz_100, cz_122, cz_124, cz_126, cz_160, cz_161, cz_168, cz_200, cz_255, cz_300, cz_960, cz_999, cz_1000, cz_1001, cz_1002, cz_1003, cz_1120, cz_2000, cz_2003, cz_2004, cz_2005, cz_3999, cz_9999, cz_14640, mk_0 hA]
    exact E1
end JIV
