/-! ===== lots: the class, all orders ===== -/
section JIV
variable {X X' X'' Y N N' M M' : ji_M} {P : ji_P} {x y z : Int32} {f g : ji_F} {Lm : List Nat} {d a b r c m s p n i j k v u ρ : Nat} {o : Option Value × ji_M} {σ : List Int32 × List Int32 × List Int32} {q : Option (Int64 × Nat)}
theorem m103 (R : ji_Rel jx_P X N) (C0 : jx_C X N 1 2 3 ρ σ) (G : jz_G Lm n N) (hm : jz_M x Lm) : ∃ X', (∀ d, ji_CL (d + 57) 103 [.ref 26, .ref 1, .ref 4, .int x, .int (Int32.ofNat n)] X = some (none, X')) ∧ jz_IX jx_P Lm n N X' 0 0 (jy_run (jz_st Lm n N σ) 0 (jz_fa Lm.length) none) := by
  have hX := R.xf
  have G3 := G.2.2.1
  obtain ⟨X1, e1⟩ : ∃ X1, X1 = ji_sL (ji_sI (ji_sR X 26 4 (some 4)) 26 5 (Int32.ofNat n)) 26 3 9223372036854775807 := ⟨_, rfl⟩
  have oX1 : ji_offX X X1 := by rw [e1]; exact ji_offX_sL (ji_offX_sI (ji_offX_sR ji_offX_r (by decide)) rfl)
  have R1 := ji_Rel_offX R oX1
  have hX1 := R1.xf
  have C1 : jx_C X1 N 1 2 3 ρ σ := jz_C_mk C0 C0.2.2.2.1 hX1 R.mf R1.sr (fun i hi => oX1.2.1 4 i (jz_xs4 hi)) (fun a h1 h2 => ji_offX_F oX1 (jz_xs9 h1 h2)) rfl rfl rfl
  obtain ⟨T, t27⟩ := jz_bs (j := 0) hX1 (by omega)
  obtain ⟨K1, C2⟩ := m104 (s' := 30 + 3 * 0) (r' := 31 + 3 * 0) (c' := 32 + 3 * 0) C1 T (by omega) ⟨by omega, jz_XIj (j := 0) (by omega)⟩ (by omega)
  obtain ⟨X2, e2⟩ : ∃ X2, X2 = jz_cpy X1 1 2 3 (30 + 3 * 0) (31 + 3 * 0) (32 + 3 * 0) := ⟨_, rfl⟩
  rw [← e2] at K1 C2
  have oX2 : ji_offX X1 X2 := by
    obtain ⟨x1, x2, x3⟩ := jz_xs (j := 0) (by omega)
    refine jz_offX (by rw [e2]; rfl) (fun a i => by rw [e2]; rfl) (fun a b hab => ?_)
    rw [e2]
    by_cases q1 : a = 30 + 3 * 0
    · subst q1; rw [x1] at hab; cases hab
    by_cases q3 : a = 32 + 3 * 0
    · subst q3; rw [x3] at hab; cases hab
    by_cases q2 : a = 31 + 3 * 0
    · subst q2
      rw [jz_cpy_r (by omega) (by omega), if_neg (fun z => by rw [z, x2] at hab; cases hab)]
    · rw [jz_cpy_o q1 q2 q3]
  have I2 : jz_IX jx_P Lm n N X2 0 0 none := by
    refine ⟨ji_Rel_offX R1 oX2, by rw [e2, e1]; rfl, ?_, ?_, trivial⟩
    · rw [e2, jz_cpy_o (by omega) (by omega) (by omega), e1]; rfl
    · show ji_gL X2 26 3 = 9223372036854775807
      rw [e2, e1]; rfl
  obtain ⟨X3, K3, I3, -⟩ := m106 (P := jx_P) (σ := σ) (ρ := ρ) G Lm.length 0 0 (by omega) none X2 x I2 C2 hm
  refine ⟨X3, fun d => ?_, by rw [Nat.zero_mul] at I3; exact I3⟩
  have K3 := K3 (d + (50 - Lm.length))
  rw [show d + (50 - Lm.length) + Lm.length + 6 = d + 56 by omega] at K3
  have K3 : ji_CL (d + 56) 106 [.ref 26, .int 0, .int x] X2 = _ := K3
  have K1 := K1 (d + 54)
  have K1 : ji_CL (d + 56) 104 [.ref 30, .ref 1] X1 = _ := K1
  have t27 : ji_gR X1 27 0 = some 30 := t27
  have v6 : vp_in 0 6 := vu_0
  have hX2 := I2.1.xf
  apply en_103
  simp only [s103_0, s103_1, s103_2, s103_5, s103_6, s103_8, s103_11, s103_12, s103_15, s103_18, s103_19, s103_22, q103_23, s103_24, q103_25, s103_28, s103_29, s103_30, q103_31, s103_34, xIL_1, xIS_1, xQL_2, xQL_3, xAN_1, xAN_2, xAN_3, xCP_1, xC_s, xNC_I, ji_oI1, ji_oIm, kd_sC, gR_sC, gL_sC, ji_rv_s, ji_tl_s, ji_tl_n, ji_s1, ji_s2, ji_kl, List.getD_cons_zero, List.getD_cons_succ, List.set_cons_zero, List.set_cons_succ, List.length_cons, List.length_nil, ji_b_0, ji_b_1, ji_n0, ji_n1, ji_rcb_iff, ji_ok8_0, ji_ok8_1, ji_ok8_2, ji_ok8_3, ji_ok8_4, kd_sI, kd_sL, kd_sR, kd_cp, gR_sI, gR_sL, gR_cp, gL_sI, gL_sR, gL_cp, gI_sL, gI_sR, gI_sI, gL_sL, Nat.reduceEqDiff, false_and, and_false, true_and, and_true, Nat.reduceAdd, Nat.reduceLT, Nat.reduceSub, Int32.reduceLT, Int32.reduceAdd, not_false_eq_true, not_true_eq_false, and_self, ji_b_n, if_true, if_false, ↓reduceIte, cz_m100, cz_m19, cz_m18, cz_m17, cz_m16, cz_m15, cz_m14, cz_m13, cz_m12, cz_m11, cz_m4, cz_m3, cz_m2, cz_m1, cz_1, cz_2, cz_3, cz_4, cz_5, cz_6, cz_7, cz_8, cz_9, cz_10, cz_11, cz_12, cz_13, cz_14, cz_15, cz_16, cz_20, cz_24, cz_30, cz_32, cz_33, cz_38, cz_40, cz_41, cz_42, cz_43, cz_45, cz_48, cz_57, cz_59, cz_60, cz_61, cz_63, cz_64, cz_72, cz_96, cz_97, cz_99, cz_100, cz_122, cz_124, cz_126, cz_160, cz_161, cz_168, cz_200, cz_255, cz_300, cz_960, cz_999, cz_1000, cz_1001, cz_1002, cz_1003, cz_1120, cz_2000, cz_2003, cz_2004, cz_2005, cz_3999, cz_9999, cz_14640, -gI_sI, xk_26 hX, ← e1, xr_26_0 hX1, xk_26 hX1, xk_27 hX1, tn_0, v6, t27, xk_30 hX1, K1, K3]
theorem m109 (hX : ji_XF X) : ji_CL (d + 1) 109 [.ref 26] X = some (some (.int (if ji_gL X 26 3 / 1000 < 2147483647 then ji_gL X 26 3 / 1000 else 2147483647).toInt32), X) := by
  have n0 : ¬ (1000 : Int64) = 0 := by decide
  apply en_109
  simp only [s109_0, s109_3, s109_4, s109_7, s109_10, s109_11, s109_14, s109_15, xIL_1, xIS_1, xQL_2, xQL_3, xAN_1, xAN_2, xAN_3, xCP_1, xC_s, xNC_I, ji_oI1, ji_oIm, kd_sC, gR_sC, gL_sC, ji_rv_s, ji_tl_s, ji_tl_n, ji_s1, ji_s2, ji_kl, List.getD_cons_zero, List.getD_cons_succ, List.set_cons_zero, List.set_cons_succ, List.length_cons, List.length_nil, ji_b_0, ji_b_1, ji_n0, ji_n1, ji_rcb_iff, ji_ok8_0, ji_ok8_1, ji_ok8_2, ji_ok8_3, ji_ok8_4, kd_sI, kd_sL, kd_sR, kd_cp, gR_sI, gR_sL, gR_cp, gL_sI, gL_sR, gL_cp, gI_sL, gI_sR, gI_sI, gL_sL, Nat.reduceEqDiff, false_and, and_false, true_and, and_true, Nat.reduceAdd, Nat.reduceLT, Nat.reduceSub, Int32.reduceLT, Int32.reduceAdd, not_false_eq_true, not_true_eq_false, and_self, ji_b_n, if_true, if_false, ↓reduceIte, cz_m100, cz_m19, cz_m18, cz_m17, cz_m16, cz_m15, cz_m14, cz_m13, cz_m12, cz_m11, cz_m4, cz_m3, cz_m2, cz_m1, cz_1, cz_2, cz_3, cz_4, cz_5, cz_6, cz_7, cz_8, cz_9, cz_10, cz_11, cz_12, cz_13, cz_14, cz_15, cz_16, cz_20, cz_24, cz_30, cz_32, cz_33, cz_38, cz_40, cz_41, cz_42, cz_43, cz_45, cz_48, cz_57, cz_59, cz_60, cz_61, cz_63, cz_64, cz_72, cz_96, cz_97, cz_99, cz_100, cz_122, cz_124, cz_126, cz_160, cz_161, cz_168, cz_200, cz_255, cz_300, cz_960, cz_999, cz_1000, cz_1001, cz_1002, cz_1003, cz_1120, cz_2000, cz_2003, cz_2004, cz_2005, cz_3999, cz_9999, cz_14640, xk_26 hX, n0]
theorem m110 (hX : ji_XF X) (h : i < 5) : ji_CL (d + 1) 110 [.ref 26, .int (Int32.ofNat i)] X = some (some (.int (ji_gI X 29 i)), X) := by
  obtain ⟨k1, k2, k3⟩ := jy_ix (Y := i) (m := 5) (by omega) (by omega)
  have g0 : ¬ Int32.ofNat i < 0 := by rw [vi_lt, k1]; show ¬ (i : Int) < 0; omega
  have g5 : Int32.ofNat i < 5 := by rw [vi_lt, k1]; show (i : Int) < 5; omega
  apply en_110
  simp only [s110_0, s110_1, s110_4, s110_5, s110_6, s110_9, s110_10, s110_13, q110_14, s110_15, s110_18, s110_19, xIL_1, xIS_1, xQL_2, xQL_3, xAN_1, xAN_2, xAN_3, xCP_1, xC_s, xNC_I, ji_oI1, ji_oIm, kd_sC, gR_sC, gL_sC, ji_rv_s, ji_tl_s, ji_tl_n, ji_s1, ji_s2, ji_kl, List.getD_cons_zero, List.getD_cons_succ, List.set_cons_zero, List.set_cons_succ, List.length_cons, List.length_nil, ji_b_0, ji_b_1, ji_n0, ji_n1, ji_rcb_iff, ji_ok8_0, ji_ok8_1, ji_ok8_2, ji_ok8_3, ji_ok8_4, kd_sI, kd_sL, kd_sR, kd_cp, gR_sI, gR_sL, gR_cp, gL_sI, gL_sR, gL_cp, gI_sL, gI_sR, gI_sI, gL_sL, Nat.reduceEqDiff, false_and, and_false, true_and, and_true, Nat.reduceAdd, Nat.reduceLT, Nat.reduceSub, Int32.reduceLT, Int32.reduceAdd, not_false_eq_true, not_true_eq_false, and_self, ji_b_n, if_true, if_false, ↓reduceIte, cz_m100, cz_m19, cz_m18, cz_m17, cz_m16, cz_m15, cz_m14, cz_m13, cz_m12, cz_m11, cz_m4, cz_m3, cz_m2, cz_m1, cz_1, cz_2, cz_3, cz_4, cz_5, cz_6, cz_7, cz_8, cz_9, cz_10, cz_11, cz_12, cz_13, cz_14, cz_15, cz_16, cz_20, cz_24, cz_30, cz_32, cz_33, cz_38, cz_40, cz_41, cz_42, cz_43, cz_45, cz_48, cz_57, cz_59, cz_60, cz_61, cz_63, cz_64, cz_72, cz_96, cz_97, cz_99, cz_100, cz_122, cz_124, cz_126, cz_160, cz_161, cz_168, cz_200, cz_255, cz_300, cz_960, cz_999, cz_1000, cz_1001, cz_1002, cz_1003, cz_1120, cz_2000, cz_2003, cz_2004, cz_2005, cz_3999, cz_9999, cz_14640, xk_26 hX, xr_26_2 hX, xk_29 hX, g0, g5, k2, k3]
end JIV
