/-! ===== text ===== -/
section JIV
variable {X Y N M : ji_M} {P : ji_P} {x y z v : Int32} {f sf t : ji_F} {d a b r c m s p n i j k sc ec q l : Nat} {o : Option Value × ji_M} {σ : jx_T}
theorem jx_cvb {b : Int32} (h : ji_bt b 0 255) : ji_bt b.toInt8.toInt32 (-128) 127 := by
  have e := jx_cv h
  obtain ⟨h1, h2⟩ := h
  unfold ji_bt
  by_cases q : b.toInt < 128
  · rw [if_pos q] at e; omega
  · rw [if_neg q] at e; omega
/-- the copy -/
theorem m197L (hM : ji_MF M) (h1 : ji_gI M 11 6 = Int32.ofNat n) (h2 : ji_gI M 0 15 = Int32.ofNat k) (hk : k ≤ 5) (hn : n ≤ 160) : ∀ (m i : Nat), n - i = m → i ≤ n → ∀ d o, ji_Ev (ji_CL (d + 6)) 197 105 (ji_sC M 10 (jq_fd (ji_gI M 10) (160 * k) (fun j => ji_gI M 10 (960 + j)) n)) [some (.ref 0), some (.int (Int32.ofNat n))] [] o → ji_Ev (ji_CL (d + 6)) 197 63 (ji_sC M 10 (jq_fd (ji_gI M 10) (160 * k) (fun j => ji_gI M 10 (960 + j)) i)) [some (.ref 0), some (.int (Int32.ofNat i))] [] o := by
  intro m
  induction m with
  | zero =>
    intro i hm hi d o G
    obtain rfl : i = n := by omega
    have e := vi_nn (n := i) (by omega)
    have g : ¬ Int32.ofNat i < Int32.ofNat i := Int32.lt_irrefl
    have c11 : ∀ f : ji_F, ji_gI (ji_sC M 10 f) 11 = ji_gI M 11 := fun f => gF_sCn (by decide)
    have mM : ∀ f : ji_F, ji_MF (ji_sC M 10 f) := fun f => hM
    have z3 : vp_in (6 : Int32) 7 := vi_in.mpr ⟨by decide, by decide⟩
    have z4 : (6 : Int32).toNatClampNeg = 6 := rfl
    simp only [s197_0, s197_1, s197_4, s197_6, s197_9, s197_11, s197_12, s197_13, s197_16, s197_18, s197_19, q197_22, s197_23, s197_24, s197_25, s197_28, s197_29, q197_31, s197_34, s197_37, s197_39, s197_40, s197_43, s197_44, s197_45, s197_46, s197_49, s197_50, s197_53, s197_54, s197_57, q197_59, q197_60, s197_61, s197_62, s197_63, s197_64, s197_65, s197_68, q197_70, s197_71, s197_74, s197_75, s197_78, s197_81, s197_82, s197_85, s197_86, s197_87, s197_88, s197_89, s197_92, s197_95, s197_96, q197_97, q197_98, q197_99, s197_106, s197_106r, s197_107, s197_110, s197_111, s197_112, s197_115, s197_116, s197_119, s197_120, s197_121, xIL_1, xIS_1, xQL_2, xQL_3, xAN_1, xAN_2, xAN_3, xCP_1, xC_s, xNC_I, ji_oI1, ji_oIm, kd_sC, gR_sC, gL_sC, ji_rv_s, ji_tl_s, ji_tl_n, ji_s1, ji_s2, ji_kl, List.getD_cons_zero, List.getD_cons_succ, List.set_cons_zero, List.set_cons_succ, List.length_cons, List.length_nil, ji_b_0, ji_b_1, ji_n0, ji_n1, ji_rcb_iff, ji_ok8_0, ji_ok8_1, ji_ok8_2, ji_ok8_3, ji_ok8_4, kd_sI, kd_sL, kd_sR, kd_cp, gR_sI, gR_sL, gR_cp, gL_sI, gL_sR, gL_cp, gI_sL, gI_sR, gI_sI, gL_sL, Nat.reduceEqDiff, false_and, and_false, true_and, and_true, Nat.reduceAdd, Nat.reduceLT, Nat.reduceSub, Int32.reduceLT, Int32.reduceAdd, not_false_eq_true, not_true_eq_false, and_self, ji_b_n, if_true, if_false, ↓reduceIte, cz_m100, cz_m19, cz_m18, cz_m17, cz_m16, cz_m15, cz_m14, cz_m13, cz_m12, cz_m11, cz_m4, cz_m3, cz_m2, cz_m1, cz_1, cz_2, cz_3, cz_4, cz_5, cz_6, cz_7, cz_8, cz_9, cz_10, cz_11, cz_12, cz_13, cz_14, cz_15, cz_16, cz_20, cz_24, cz_30, cz_32, cz_33, cz_38, cz_40, cz_41, cz_42, cz_43, cz_45, cz_48, cz_57, cz_59, cz_60, cz_61, cz_63, cz_64, cz_72, cz_96, cz_97, cz_99, cz_100, cz_122, cz_124, cz_126, cz_160, cz_161, cz_168, cz_200, cz_255, cz_300, cz_960, cz_999, cz_1000, cz_1001, cz_1002, cz_1003, cz_1120, cz_2000, cz_2003, cz_2004, cz_2005, cz_3999, cz_9999, cz_14640, mk_0 (mM _), mk_11 (mM _), mr_19 (mM _), c11, h1, z3, z4, g]
    exact G
  | succ m ih =>
    intro i hm hi d o G
    have I := ih (i + 1) (by omega) (by omega) d o G
    have ei := vi_nn (n := i) (by omega)
    have en := vi_nn (n := n) (by omega)
    have ek := vi_nn (n := k) (by omega)
    have e160 : (160 : Int32).toInt = 160 := rfl
    have e960 : (960 : Int32).toInt = 960 := rfl
    have g : Int32.ofNat i < Int32.ofNat n := by rw [vi_lt]; omega
    have em : (160 * Int32.ofNat k).toInt = 160 * k := by rw [vi_mul (by rw [e160]; omega) (by rw [e160]; omega), e160]; omega
    have es : (160 * Int32.ofNat k + Int32.ofNat i).toInt = (160 * k + i : Nat) := by rw [vi_add (by omega) (by omega)]; omega
    have et : (960 + Int32.ofNat i).toInt = (960 + i : Nat) := by rw [vi_add (by omega) (by omega)]; omega
    have z1 : vp_in (160 * Int32.ofNat k + Int32.ofNat i) 1120 := vi_in.mpr ⟨by omega, by omega⟩
    have z2 : (160 * Int32.ofNat k + Int32.ofNat i).toNatClampNeg = 160 * k + i := by rw [vi_nat, es]; exact Int.toNat_natCast _
    have z5 : vp_in (960 + Int32.ofNat i) 1120 := vi_in.mpr ⟨by omega, by omega⟩
    have z6 : (960 + Int32.ofNat i).toNatClampNeg = 960 + i := by rw [vi_nat, et]; exact Int.toNat_natCast _
    have c11 : ∀ f : ji_F, ji_gI (ji_sC M 10 f) 11 = ji_gI M 11 := fun f => gF_sCn (by decide)
    have c0 : ∀ f : ji_F, ji_gI (ji_sC M 10 f) 0 = ji_gI M 0 := fun f => gF_sCn (by decide)
    have c10 : ∀ f : ji_F, ji_gI (ji_sC M 10 f) 10 = f := fun f => gF_sC
    have cv : jq_fd (ji_gI M 10) (160 * k) (fun j => ji_gI M 10 (960 + j)) i (960 + i) = ji_gI M 10 (960 + i) := by
      have hh : ∀ q, q ≤ i → jq_fd (ji_gI M 10) (160 * k) (fun j => ji_gI M 10 (960 + j)) q (960 + i) = ji_gI M 10 (960 + i) := by
        intro q
        induction q with
        | zero => intro _; rfl
        | succ q ihq =>
          intro hq
          exact (up_ne (by omega)).trans (ihq (by omega))
      exact hh i (Nat.le_refl _)
    have mM : ∀ f : ji_F, ji_MF (ji_sC M 10 f) := fun f => hM
    have z3 : vp_in (6 : Int32) 7 := vi_in.mpr ⟨by decide, by decide⟩
    have z4 : (6 : Int32).toNatClampNeg = 6 := rfl
    have p1 := jx_o1p (k := i) (by omega)
    have p2 : (Int32.ofInt 1) = 1 := rfl
    have fd : ji_up (jq_fd (ji_gI M 10) (160 * k) (fun j => ji_gI M 10 (960 + j)) i) (160 * k + i) (ji_gI M 10 (960 + i)) = jq_fd (ji_gI M 10) (160 * k) (fun j => ji_gI M 10 (960 + j)) (i + 1) := rfl
    simp only [s197_0, s197_1, s197_4, s197_6, s197_9, s197_11, s197_12, s197_13, s197_16, s197_18, s197_19, q197_22, s197_23, s197_24, s197_25, s197_28, s197_29, q197_31, s197_34, s197_37, s197_39, s197_40, s197_43, s197_44, s197_45, s197_46, s197_49, s197_50, s197_53, s197_54, s197_57, q197_59, q197_60, s197_61, s197_62, s197_63, s197_64, s197_65, s197_68, q197_70, s197_71, s197_74, s197_75, s197_78, s197_81, s197_82, s197_85, s197_86, s197_87, s197_88, s197_89, s197_92, s197_95, s197_96, q197_97, q197_98, q197_99, s197_106, s197_106r, s197_107, s197_110, s197_111, s197_112, s197_115, s197_116, s197_119, s197_120, s197_121, xIL_1, xIS_1, xQL_2, xQL_3, xAN_1, xAN_2, xAN_3, xCP_1, xC_s, xNC_I, ji_oI1, ji_oIm, kd_sC, gR_sC, gL_sC, ji_rv_s, ji_tl_s, ji_tl_n, ji_s1, ji_s2, ji_kl, List.getD_cons_zero, List.getD_cons_succ, List.set_cons_zero, List.set_cons_succ, List.length_cons, List.length_nil, ji_b_0, ji_b_1, ji_n0, ji_n1, ji_rcb_iff, ji_ok8_0, ji_ok8_1, ji_ok8_2, ji_ok8_3, ji_ok8_4, kd_sI, kd_sL, kd_sR, kd_cp, gR_sI, gR_sL, gR_cp, gL_sI, gL_sR, gL_cp, gI_sL, gI_sR, gI_sI, gL_sL, Nat.reduceEqDiff, false_and, and_false, true_and, and_true, Nat.reduceAdd, Nat.reduceLT, Nat.reduceSub, Int32.reduceLT, Int32.reduceAdd, not_false_eq_true, not_true_eq_false, and_self, ji_b_n, if_true, if_false, ↓reduceIte, cz_m100, cz_m19, cz_m18, cz_m17, cz_m16, cz_m15, cz_m14, cz_m13, cz_m12, cz_m11, cz_m4, cz_m3, cz_m2, cz_m1, cz_1, cz_2, cz_3, cz_4, cz_5, cz_6, cz_7, cz_8, cz_9, cz_10, cz_11, cz_12, cz_13, cz_14, cz_15, cz_16, cz_20, cz_24, cz_30, cz_32, cz_33, cz_38, cz_40, cz_41, cz_42, cz_43, cz_45, cz_48, cz_57, cz_59, cz_60, cz_61, cz_63, cz_64, cz_72, cz_96, cz_97, cz_99, cz_100, cz_122, cz_124, cz_126, cz_160, cz_161, cz_168, cz_200, cz_255, cz_300, cz_960, cz_999, cz_1000, cz_1001, cz_1002, cz_1003, cz_1120, cz_2000, cz_2003, cz_2004, cz_2005, cz_3999, cz_9999, cz_14640, mk_0 (mM _), mk_10 (mM _), mr_18 (mM _), mk_11 (mM _), mr_19 (mM _), c11, c0, c10, h1, h2, z1, z2, z3, z4, z5, z6, g, cv, sI_sC, fd, p1, p2]
    simp only [s197_102]
    exact I
theorem call_9 (R : ji_Rel jx_P X N) : ji_same jx_P 94 197 [] X N := by
  intro d
  have hX := R.xf
  have hN := R.mf
  obtain ⟨⟨t1, t2⟩, ⟨r1, r2, r3⟩, ⟨s1, s2⟩, tape, T⟩ := R.texts
  have t3 := t2.1
  have t4 := t2.2
  have s3 := s2.1
  have s4 := s2.2
  have e6 : (6 : Int32).toInt = 6 := rfl
  by_cases h6 : ji_gI N 0 15 = 6
  · have g : ¬ (6 : Int32) < 6 := by decide
    refine ji_same_of (v := some (.int (-4))) (X' := X) (N' := N) ?_ ?_ R
    · have B : ji_CL (d + 59) 18 [.ref 4] X = some (some (.int (-4)), X) := by
        apply en_18
        simp only [s18_0, s18_1, s18_4, s18_6, s18_9, s18_11, s18_12, s18_13, s18_16, s18_17, s18_20, s18_21, q18_24, s18_25, s18_26, s18_29, s18_30, q18_33, q18_34, s18_37, s18_38, s18_39, s18_40, s18_43, s18_45, s18_46, s18_47, s18_48, s18_49, s18_49r, s18_50, s18_53, s18_54, s18_55, s18_58, s18_59, s18_62, s18_63, s18_64, xIL_1, xIS_1, xQL_2, xQL_3, xAN_1, xAN_2, xAN_3, xCP_1, xC_s, xNC_I, ji_oI1, ji_oIm, kd_sC, gR_sC, gL_sC, ji_rv_s, ji_tl_s, ji_tl_n, ji_s1, ji_s2, ji_kl, List.getD_cons_zero, List.getD_cons_succ, List.set_cons_zero, List.set_cons_succ, List.length_cons, List.length_nil, ji_b_0, ji_b_1, ji_n0, ji_n1, ji_rcb_iff, ji_ok8_0, ji_ok8_1, ji_ok8_2, ji_ok8_3, ji_ok8_4, kd_sI, kd_sL, kd_sR, kd_cp, gR_sI, gR_sL, gR_cp, gL_sI, gL_sR, gL_cp, gI_sL, gI_sR, gI_sI, gL_sL, Nat.reduceEqDiff, false_and, and_false, true_and, and_true, Nat.reduceAdd, Nat.reduceLT, Nat.reduceSub, Int32.reduceLT, Int32.reduceAdd, not_false_eq_true, not_true_eq_false, and_self, ji_b_n, if_true, if_false, ↓reduceIte, cz_m100, cz_m19, cz_m18, cz_m17, cz_m16, cz_m15, cz_m14, cz_m13, cz_m12, cz_m11, cz_m4, cz_m3, cz_m2, cz_m1, cz_1, cz_2, cz_3, cz_4, cz_5, cz_6, cz_7, cz_8, cz_9, cz_10, cz_11, cz_12, cz_13, cz_14, cz_15, cz_16, cz_20, cz_24, cz_30, cz_32, cz_33, cz_38, cz_40, cz_41, cz_42, cz_43, cz_45, cz_48, cz_57, cz_59, cz_60, cz_61, cz_63, cz_64, cz_72, cz_96, cz_97, cz_99, cz_100, cz_122, cz_124, cz_126, cz_160, cz_161, cz_168, cz_200, cz_255, cz_300, cz_960, cz_999, cz_1000, cz_1001, cz_1002, cz_1003, cz_1120, cz_2000, cz_2003, cz_2004, cz_2005, cz_3999, cz_9999, cz_14640, xk_4 hX, t1, h6, g]
      apply en_94
      simp only [s94_0, s94_1, q94_4, s94_7, xIL_1, xIS_1, xQL_2, xQL_3, xAN_1, xAN_2, xAN_3, xCP_1, xC_s, xNC_I, ji_oI1, ji_oIm, kd_sC, gR_sC, gL_sC, ji_rv_s, ji_tl_s, ji_tl_n, ji_s1, ji_s2, ji_kl, List.getD_cons_zero, List.getD_cons_succ, List.set_cons_zero, List.set_cons_succ, List.length_cons, List.length_nil, ji_b_0, ji_b_1, ji_n0, ji_n1, ji_rcb_iff, ji_ok8_0, ji_ok8_1, ji_ok8_2, ji_ok8_3, ji_ok8_4, kd_sI, kd_sL, kd_sR, kd_cp, gR_sI, gR_sL, gR_cp, gL_sI, gL_sR, gL_cp, gI_sL, gI_sR, gI_sI, gL_sL, Nat.reduceEqDiff, false_and, and_false, true_and, and_true, Nat.reduceAdd, Nat.reduceLT, Nat.reduceSub, Int32.reduceLT, Int32.reduceAdd, not_false_eq_true, not_true_eq_false, and_self, ji_b_n, if_true, if_false, ↓reduceIte, cz_m100, cz_m19, cz_m18, cz_m17, cz_m16, cz_m15, cz_m14, cz_m13, cz_m12, cz_m11, cz_m4, cz_m3, cz_m2, cz_m1, cz_1, cz_2, cz_3, cz_4, cz_5, cz_6, cz_7, cz_8, cz_9, cz_10, cz_11, cz_12, cz_13, cz_14, cz_15, cz_16, cz_20, cz_24, cz_30, cz_32, cz_33, cz_38, cz_40, cz_41, cz_42, cz_43, cz_45, cz_48, cz_57, cz_59, cz_60, cz_61, cz_63, cz_64, cz_72, cz_96, cz_97, cz_99, cz_100, cz_122, cz_124, cz_126, cz_160, cz_161, cz_168, cz_200, cz_255, cz_300, cz_960, cz_999, cz_1000, cz_1001, cz_1002, cz_1003, cz_1120, cz_2000, cz_2003, cz_2004, cz_2005, cz_3999, cz_9999, cz_14640, xk_0 hX, xr_0_1 hX, xk_4 hX, B]
    · apply en_197
      simp only [s197_0, s197_1, s197_4, s197_6, s197_9, s197_11, s197_12, s197_13, s197_16, s197_18, s197_19, q197_22, s197_23, s197_24, s197_25, s197_28, s197_29, q197_31, s197_34, s197_37, s197_39, s197_40, s197_43, s197_44, s197_45, s197_46, s197_49, s197_50, s197_53, s197_54, s197_57, q197_59, q197_60, s197_61, s197_62, s197_63, s197_64, s197_65, s197_68, q197_70, s197_71, s197_74, s197_75, s197_78, s197_81, s197_82, s197_85, s197_86, s197_87, s197_88, s197_89, s197_92, s197_95, s197_96, q197_97, q197_98, q197_99, s197_102, s197_105, s197_106, s197_106r, s197_107, s197_110, s197_111, s197_112, s197_115, s197_116, s197_119, s197_120, s197_121, xIL_1, xIS_1, xQL_2, xQL_3, xAN_1, xAN_2, xAN_3, xCP_1, xC_s, xNC_I, ji_oI1, ji_oIm, kd_sC, gR_sC, gL_sC, ji_rv_s, ji_tl_s, ji_tl_n, ji_s1, ji_s2, ji_kl, List.getD_cons_zero, List.getD_cons_succ, List.set_cons_zero, List.set_cons_succ, List.length_cons, List.length_nil, ji_b_0, ji_b_1, ji_n0, ji_n1, ji_rcb_iff, ji_ok8_0, ji_ok8_1, ji_ok8_2, ji_ok8_3, ji_ok8_4, kd_sI, kd_sL, kd_sR, kd_cp, gR_sI, gR_sL, gR_cp, gL_sI, gL_sR, gL_cp, gI_sL, gI_sR, gI_sI, gL_sL, Nat.reduceEqDiff, false_and, and_false, true_and, and_true, Nat.reduceAdd, Nat.reduceLT, Nat.reduceSub, Int32.reduceLT, Int32.reduceAdd, not_false_eq_true, not_true_eq_false, and_self, ji_b_n, if_true, if_false, ↓reduceIte, cz_m100, cz_m19, cz_m18, cz_m17, cz_m16, cz_m15, cz_m14, cz_m13, cz_m12, cz_m11, cz_m4, cz_m3, cz_m2, cz_m1, cz_1, cz_2, cz_3, cz_4, cz_5, cz_6, cz_7, cz_8, cz_9, cz_10, cz_11, cz_12, cz_13, cz_14, cz_15, cz_16, cz_20, cz_24, cz_30, cz_32, cz_33, cz_38, cz_40, cz_41, cz_42, cz_43, cz_45, cz_48, cz_57, cz_59, cz_60, cz_61, cz_63, cz_64, cz_72, cz_96, cz_97, cz_99, cz_100, cz_122, cz_124, cz_126, cz_160, cz_161, cz_168, cz_200, cz_255, cz_300, cz_960, cz_999, cz_1000, cz_1001, cz_1002, cz_1003, cz_1120, cz_2000, cz_2003, cz_2004, cz_2005, cz_3999, cz_9999, cz_14640, mk_0 hN, eq_true h6]
  obtain ⟨k, hk⟩ : ∃ k : Nat, ji_gI N 0 15 = Int32.ofNat k ∧ 1 ≤ k ∧ k ≤ 5 := by
    refine ⟨(ji_gI N 0 15).toInt.toNat, ?_, ?_, ?_⟩
    · rw [vi_eq, vi_nn (by omega)]; omega
    · omega
    · have : ¬ (ji_gI N 0 15).toInt = 6 := fun q => h6 (vi_eq.mpr (q.trans e6.symm))
      omega
  obtain ⟨hk, hk1, hk5⟩ := hk
  have ek := vi_nn (n := k) (by omega)
  obtain ⟨n, hn⟩ : ∃ n : Nat, ji_gI N 0 17 = Int32.ofNat n ∧ n ≤ 160 := ⟨(ji_gI N 0 17).toInt.toNat, by rw [vi_eq, vi_nn (by omega)]; omega, by omega⟩
  obtain ⟨hn, hn2⟩ := hn
  have en := vi_nn (n := n) (by omega)
  have x1 : ji_gI X 4 6 = Int32.ofNat k := t1.trans hk
  have x2 : ji_gI X 5 1 = Int32.ofNat n := s1.trans hn
  have tb : ∀ j, j < n → ji_bt (ji_gI X 6 j) 0 255 ∧ ji_gI N 10 (960 + j) = jx_tp X j := fun j hj => tape j (by rw [hn, en]; omega)
  have g1 : Int32.ofNat k < 6 := by rw [vi_lt]; omega
  have g2 : ¬ Int32.ofNat k = 6 := by rw [vi_eq]; omega
  have zk6 : vp_in (Int32.ofNat k) 6 := vi_in.mpr ⟨by omega, by omega⟩
  have zk : (Int32.ofNat k).toNatClampNeg = k := by rw [vi_nat, ek]; exact Int.toNat_natCast _
  have zk7 : vp_in (Int32.ofNat k) 7 := vi_in.mpr ⟨by omega, by omega⟩
  have z3 : vp_in (6 : Int32) 7 := vi_in.mpr ⟨by decide, by decide⟩
  have z4 : (6 : Int32).toNatClampNeg = 6 := rfl
  have KR : (k = 1 ∨ k = 2 ∨ k = 3 ∨ k = 4 ∨ k = 5) := by omega
  have y1 : ji_gR X 8 k = some (9 + k) := by
    rcases KR with rfl | rfl | rfl | rfl | rfl
    · exact xr_8_1 hX
    · exact xr_8_2 hX
    · exact xr_8_3 hX
    · exact xr_8_4 hX
    · exact xr_8_5 hX
  have y2 : ji_gR X 15 k = some (16 + k) := by
    rcases KR with rfl | rfl | rfl | rfl | rfl
    · exact xr_15_1 hX
    · exact xr_15_2 hX
    · exact xr_15_3 hX
    · exact xr_15_4 hX
    · exact xr_15_5 hX
  have y3 : ji_kd X (9 + k) = some (1, 160) := by
    rcases KR with rfl | rfl | rfl | rfl | rfl
    · exact xk_10 hX
    · exact xk_11 hX
    · exact xk_12 hX
    · exact xk_13 hX
    · exact xk_14 hX
  have y4 : ji_kd X (16 + k) = some (1, 3) := by
    rcases KR with rfl | rfl | rfl | rfl | rfl
    · exact xk_17 hX
    · exact xk_18 hX
    · exact xk_19 hX
    · exact xk_20 hX
    · exact xk_21 hX
  obtain ⟨X', ⟨c1, c2, c3, c4⟩, A, B⟩ := m19 (n := n) hX (by rw [x2]; exact en) hn2 (fun j hj => (tb j hj).1) y3 (by omega) (by omega) (by omega) (by omega) y4
  have hX' : ji_XF X' := by
    refine ⟨c1.trans hX.1, fun e he => ?_, fun e he => ?_⟩
    · have q : ∀ e ∈ ji_XR, ¬ (e.1 = 5 ∧ e.2.1 = 8) := by decide +kernel
      exact (c3 _ _ (q e he)).trans (hX.2.1 e he)
    · have q : ∀ e ∈ ji_XI, e.1 < 5 ∨ 21 < e.1 := by decide +kernel
      have q := q e he
      exact (c2 _ _ (by omega) (by omega) (by omega)).trans (hX.2.2 e he)
  have x46 : ji_gI X' 4 6 = Int32.ofNat k := (c2 4 6 (by omega) (by omega) (by omega)).trans x1
  have cF : ∀ a, a ≠ 9 + k → a ≠ 16 + k → a ≠ 5 → ji_gI X' a = ji_gI X a := fun a h1 h2 h3 => funext fun b => c2 a b h1 h2 h3
  -- the model
  obtain ⟨M, hM⟩ : ∃ M, M = ji_sI (ji_sI N 11 6 (Int32.ofNat n)) 0 17 0 := ⟨_, rfl⟩
  have mM : ji_MF M := by rw [hM]; exact hN
  have l6 : ji_gI M 11 6 = Int32.ofNat n := by rw [hM, gI_ne (by decide), gI_sI, if_pos ⟨rfl, rfl⟩]
  obtain ⟨G1, G2⟩ := m172 (i := 6) (n := n) (t := jx_tp X) (F := fun x => ji_gI M 14 x.toInt.toNat) mM (Nat.le_refl _) l6 hn2 (fun j hj => ⟨by rw [hM]; exact (tb j hj).2, jx_cvb (tb j hj).1⟩) (fun _ _ _ => rfl)
  have f11 : ∀ j, j ≠ 6 → ji_gI M 11 j = ji_gI N 11 j := fun j hj => by rw [hM, gI_ne (by decide), gI_sI, if_neg (fun q => hj q.2)]
  have f0 : ∀ j, j ≠ 17 → ji_gI M 0 j = ji_gI N 0 j := fun j hj => by rw [hM, gI_sI, if_neg (fun q => hj q.2)]; rfl
  have f17 : ji_gI M 0 17 = 0 := by rw [hM, gI_sI, if_pos ⟨rfl, rfl⟩]
  have fo : ∀ a, a ≠ 0 → a ≠ 11 → ji_gI M a = ji_gI N a := fun a h1 h2 => by rw [hM, gF_sI h1, gF_sI h2]
  have fL : ji_gL M 0 5 = ji_gL N 0 5 := by rw [hM]; rfl
  have rel : ∀ {X2 M2 : ji_M}, ji_XF X2 → ji_MF M2 → (∀ a b, ¬ (a = 4 ∧ b = 6) → ji_gI X2 a b = ji_gI X' a b) → (∀ a b, ji_ns a b = false → a ≠ 10 → a ≠ 11 → ¬ (a = 0 ∧ b = 15) → ji_gI M2 a b = ji_gI M a b) → ji_gL M2 0 5 = ji_gL N 0 5 → ji_RT jx_P (ji_gI X2 4 6) (ji_gI X2 4 7) (ji_gI X2 5 1) (ji_gI X2 6) [ji_gI X2 9, ji_gI X2 10, ji_gI X2 11, ji_gI X2 12, ji_gI X2 13, ji_gI X2 14] [ji_gI X2 16, ji_gI X2 17, ji_gI X2 18, ji_gI X2 19, ji_gI X2 20, ji_gI X2 21] (ji_gI M2 0 15) (ji_gI M2 0 16) (ji_gI M2 0 17) (ji_gI M2 10) (ji_gI M2 11) → ji_Rel jx_P X2 M2 := by
    intro X2 M2 hX2 hM2 a1 a2 a3 a4
    have e : ∀ a b, ¬ (a = 4 ∧ b = 6) → a ≠ 9 + k → a ≠ 16 + k → a ≠ 5 → ji_gI X2 a b = ji_gI X a b := fun a b q1 q2 q3 q4 => (a1 a b q1).trans (c2 a b q2 q3 q4)
    have f : ∀ a, a ≠ 4 → a ≠ 9 + k → a ≠ 16 + k → a ≠ 5 → ji_gI X2 a = ji_gI X a := fun a q1 q2 q3 q4 => funext fun b => e a b (fun q => q1 q.1) q2 q3 q4
    have e2 : ∀ b, ji_ns 0 b = false → b ≠ 15 → b ≠ 17 → ji_gI M2 0 b = ji_gI N 0 b := fun b q1 q2 q3 => (a2 0 b q1 (by decide) (by decide) (fun q => q2 q.2)).trans (f0 b q3)
    have f2 : ∀ a, (∀ b, ji_ns a b = false) → a ≠ 0 → a ≠ 10 → a ≠ 11 → ji_gI M2 a = ji_gI N a := fun a q1 q2 q3 q4 => (funext fun b => a2 a b (q1 b) q3 q4 (fun q => q2 q.1)).trans (fo a q2 q4)
    have r := fun _ : Nat => (rfl : false = false)
    unfold ji_Rel at R ⊢
    rw [e 1 1, e 1 2, e 1 3, e 1 4, e 1 5, e 2 3, e 24 3, e 48 3, e 50 3, e 52 3, e 70 3, e 72 3, e 74 3, e 76 3, f 3, f 25, f 49, f 51, f 53, f 71, f 73, f 75, f 77, f 88, f 89, f 84, f 85, f 86, f 87, e2 0 rfl, e2 1 rfl, e2 2 rfl, e2 3 rfl, e2 4 rfl, e2 33 rfl, e2 46 rfl, e2 50 rfl, e2 51 rfl, e2 57 rfl, e2 58 rfl, e2 59 rfl, e2 71 rfl, a3, f2 1 r, f2 2 r, f2 3 r, f2 4 r, f2 5 r, f2 6 r, f2 7 r, f2 8 r, f2 16 r, f2 17 r, f2 18 r, f2 19 r, f2 28 r, f2 29 r, f2 30 r, f2 31 r, f2 33 r, f2 36 r, f2 37 r, f2 38 r, f2 39 r, f2 40 r, f2 41 r, f2 42 r, f2 43 r, f2 44 r, f2 45 r, f2 46 r, f2 47 r, f2 48 r, f2 52 r, f2 53 r, f2 54 r]
    · exact ⟨hX2, hM2, R.2.2.1, R.2.2.2.1, R.2.2.2.2.1, R.2.2.2.2.2.1, a4, R.2.2.2.2.2.2.2⟩
    all_goals omega
  have tx : ∀ q : Nat, q ≠ k → q ≤ 5 → ([ji_gI X' 9, ji_gI X' 10, ji_gI X' 11, ji_gI X' 12, ji_gI X' 13, ji_gI X' 14].getD q ji_zf = [ji_gI X 9, ji_gI X 10, ji_gI X 11, ji_gI X 12, ji_gI X 13, ji_gI X 14].getD q ji_zf) ∧ ([ji_gI X' 16, ji_gI X' 17, ji_gI X' 18, ji_gI X' 19, ji_gI X' 20, ji_gI X' 21].getD q ji_zf = [ji_gI X 16, ji_gI X 17, ji_gI X 18, ji_gI X 19, ji_gI X 20, ji_gI X 21].getD q ji_zf) := by
    intro q h1 h2
    have hq : q = 0 ∨ q = 1 ∨ q = 2 ∨ q = 3 ∨ q = 4 ∨ q = 5 := by omega
    rcases hq with rfl | rfl | rfl | rfl | rfl | rfl
    · exact ⟨cF 9 (by omega) (by omega) (by omega), cF 16 (by omega) (by omega) (by omega)⟩
    · exact ⟨cF 10 (by omega) (by omega) (by omega), cF 17 (by omega) (by omega) (by omega)⟩
    · exact ⟨cF 11 (by omega) (by omega) (by omega), cF 18 (by omega) (by omega) (by omega)⟩
    · exact ⟨cF 12 (by omega) (by omega) (by omega), cF 19 (by omega) (by omega) (by omega)⟩
    · exact ⟨cF 13 (by omega) (by omega) (by omega), cF 20 (by omega) (by omega) (by omega)⟩
    · exact ⟨cF 14 (by omega) (by omega) (by omega), cF 21 (by omega) (by omega) (by omega)⟩
  have tk : ([ji_gI X' 9, ji_gI X' 10, ji_gI X' 11, ji_gI X' 12, ji_gI X' 13, ji_gI X' 14].getD k ji_zf = ji_gI X' (9 + k)) ∧ ([ji_gI X' 16, ji_gI X' 17, ji_gI X' 18, ji_gI X' 19, ji_gI X' 20, ji_gI X' 21].getD k ji_zf = ji_gI X' (16 + k)) := by
    rcases KR with rfl | rfl | rfl | rfl | rfl <;> exact ⟨rfl, rfl⟩
  have old : ∀ q : Nat, q < k → ∃ s, ji_hld ([ji_gI X' 9, ji_gI X' 10, ji_gI X' 11, ji_gI X' 12, ji_gI X' 13, ji_gI X' 14].getD q ji_zf) ([ji_gI X' 16, ji_gI X' 17, ji_gI X' 18, ji_gI X' 19, ji_gI X' 20, ji_gI X' 21].getD q ji_zf) s ∧ (q = 0 → s = ji_s00) ∧ (q ≠ 0 → ji_bt (ji_gI N 11 q) 0 160 ∧ jx_P ((List.range (ji_gI N 11 q).toInt.toNat).map fun j => ji_gI N 10 (160 * q + j)) = some s) := by
    intro q hq
    rw [(tx q (by omega) (by omega)).1, (tx q (by omega) (by omega)).2]
    exact T q (by rw [hk, ek]; omega)
  cases hrd : jx_rd (jx_tp X) n with
  | inr q =>
    obtain ⟨q1, B⟩ := B q hrd
    obtain ⟨M', o1, o2, C⟩ := G2 q hrd
    have o1 := jx_oN_off o1
    have eq := vi_nn (n := q) (by omega)
    have nq : ¬ Int32.ofNat q = -1 := by
      have : (-1 : Int32).toInt = -1 := rfl
      rw [vi_eq]; omega
    have B18 : ji_CL (d + 59) 18 [.ref 4] X = some (some (.int (-100 - Int32.ofNat q)), X') := by
      have B := cl_le B (e := d + 58) (by omega)
      apply en_18
      simp only [s18_0, s18_1, s18_4, s18_6, s18_9, s18_11, s18_12, s18_13, s18_16, s18_17, s18_20, s18_21, q18_24, s18_25, s18_26, s18_29, s18_30, q18_33, q18_34, s18_37, s18_38, s18_39, s18_40, s18_43, s18_45, s18_46, s18_47, s18_48, s18_49, s18_49r, s18_50, s18_53, s18_54, s18_55, s18_58, s18_59, s18_62, s18_63, s18_64, xIL_1, xIS_1, xQL_2, xQL_3, xAN_1, xAN_2, xAN_3, xCP_1, xC_s, xNC_I, ji_oI1, ji_oIm, kd_sC, gR_sC, gL_sC, ji_rv_s, ji_tl_s, ji_tl_n, ji_s1, ji_s2, ji_kl, List.getD_cons_zero, List.getD_cons_succ, List.set_cons_zero, List.set_cons_succ, List.length_cons, List.length_nil, ji_b_0, ji_b_1, ji_n0, ji_n1, ji_rcb_iff, ji_ok8_0, ji_ok8_1, ji_ok8_2, ji_ok8_3, ji_ok8_4, kd_sI, kd_sL, kd_sR, kd_cp, gR_sI, gR_sL, gR_cp, gL_sI, gL_sR, gL_cp, gI_sL, gI_sR, gI_sI, gL_sL, Nat.reduceEqDiff, false_and, and_false, true_and, and_true, Nat.reduceAdd, Nat.reduceLT, Nat.reduceSub, Int32.reduceLT, Int32.reduceAdd, not_false_eq_true, not_true_eq_false, and_self, ji_b_n, if_true, if_false, ↓reduceIte, cz_m100, cz_m19, cz_m18, cz_m17, cz_m16, cz_m15, cz_m14, cz_m13, cz_m12, cz_m11, cz_m4, cz_m3, cz_m2, cz_m1, cz_1, cz_2, cz_3, cz_4, cz_5, cz_6, cz_7, cz_8, cz_9, cz_10, cz_11, cz_12, cz_13, cz_14, cz_15, cz_16, cz_20, cz_24, cz_30, cz_32, cz_33, cz_38, cz_40, cz_41, cz_42, cz_43, cz_45, cz_48, cz_57, cz_59, cz_60, cz_61, cz_63, cz_64, cz_72, cz_96, cz_97, cz_99, cz_100, cz_122, cz_124, cz_126, cz_160, cz_161, cz_168, cz_200, cz_255, cz_300, cz_960, cz_999, cz_1000, cz_1001, cz_1002, cz_1003, cz_1120, cz_2000, cz_2003, cz_2004, cz_2005, cz_3999, cz_9999, cz_14640, xk_4 hX, xr_4_0 hX, xr_4_1 hX, xr_4_2 hX, xk_5 hX, xk_8 hX, xk_15 hX, x1, g1, zk6, zk, y1, y2, B, nq]
    apply ji_same_of (v := some (.int (-100 - Int32.ofNat q))) (X' := X') (N' := M')
    · apply en_94
      simp only [s94_0, s94_1, q94_4, s94_7, xIL_1, xIS_1, xQL_2, xQL_3, xAN_1, xAN_2, xAN_3, xCP_1, xC_s, xNC_I, ji_oI1, ji_oIm, kd_sC, gR_sC, gL_sC, ji_rv_s, ji_tl_s, ji_tl_n, ji_s1, ji_s2, ji_kl, List.getD_cons_zero, List.getD_cons_succ, List.set_cons_zero, List.set_cons_succ, List.length_cons, List.length_nil, ji_b_0, ji_b_1, ji_n0, ji_n1, ji_rcb_iff, ji_ok8_0, ji_ok8_1, ji_ok8_2, ji_ok8_3, ji_ok8_4, kd_sI, kd_sL, kd_sR, kd_cp, gR_sI, gR_sL, gR_cp, gL_sI, gL_sR, gL_cp, gI_sL, gI_sR, gI_sI, gL_sL, Nat.reduceEqDiff, false_and, and_false, true_and, and_true, Nat.reduceAdd, Nat.reduceLT, Nat.reduceSub, Int32.reduceLT, Int32.reduceAdd, not_false_eq_true, not_true_eq_false, and_self, ji_b_n, if_true, if_false, ↓reduceIte, cz_m100, cz_m19, cz_m18, cz_m17, cz_m16, cz_m15, cz_m14, cz_m13, cz_m12, cz_m11, cz_m4, cz_m3, cz_m2, cz_m1, cz_1, cz_2, cz_3, cz_4, cz_5, cz_6, cz_7, cz_8, cz_9, cz_10, cz_11, cz_12, cz_13, cz_14, cz_15, cz_16, cz_20, cz_24, cz_30, cz_32, cz_33, cz_38, cz_40, cz_41, cz_42, cz_43, cz_45, cz_48, cz_57, cz_59, cz_60, cz_61, cz_63, cz_64, cz_72, cz_96, cz_97, cz_99, cz_100, cz_122, cz_124, cz_126, cz_160, cz_161, cz_168, cz_200, cz_255, cz_300, cz_960, cz_999, cz_1000, cz_1001, cz_1002, cz_1003, cz_1120, cz_2000, cz_2003, cz_2004, cz_2005, cz_3999, cz_9999, cz_14640, xk_0 hX, xr_0_1 hX, xk_4 hX, B18]
    · have C : ji_CL (d + 59) 172 [.ref 0, .int 6] M = _ := cl_le C (e := d + 59) (by omega)
      have n15 : ji_gI N 0 15 = Int32.ofNat k := hk
      have mM' := ji_offN_MF o1 mM
      apply en_197
      simp only [s197_0, s197_1, s197_4, s197_6, s197_9, s197_11, s197_12, s197_13, s197_16, s197_18, s197_19, q197_22, s197_23, s197_24, s197_25, s197_28, s197_29, q197_31, s197_34, s197_37, s197_39, s197_40, s197_43, s197_44, s197_45, s197_46, s197_49, s197_50, s197_53, s197_54, s197_57, q197_59, q197_60, s197_61, s197_62, s197_63, s197_64, s197_65, s197_68, q197_70, s197_71, s197_74, s197_75, s197_78, s197_81, s197_82, s197_85, s197_86, s197_87, s197_88, s197_89, s197_92, s197_95, s197_96, q197_97, q197_98, q197_99, s197_102, s197_105, s197_106, s197_106r, s197_107, s197_110, s197_111, s197_112, s197_115, s197_116, s197_119, s197_120, s197_121, xIL_1, xIS_1, xQL_2, xQL_3, xAN_1, xAN_2, xAN_3, xCP_1, xC_s, xNC_I, ji_oI1, ji_oIm, kd_sC, gR_sC, gL_sC, ji_rv_s, ji_tl_s, ji_tl_n, ji_s1, ji_s2, ji_kl, List.getD_cons_zero, List.getD_cons_succ, List.set_cons_zero, List.set_cons_succ, List.length_cons, List.length_nil, ji_b_0, ji_b_1, ji_n0, ji_n1, ji_rcb_iff, ji_ok8_0, ji_ok8_1, ji_ok8_2, ji_ok8_3, ji_ok8_4, kd_sI, kd_sL, kd_sR, kd_cp, gR_sI, gR_sL, gR_cp, gL_sI, gL_sR, gL_cp, gI_sL, gI_sR, gI_sI, gL_sL, Nat.reduceEqDiff, false_and, and_false, true_and, and_true, Nat.reduceAdd, Nat.reduceLT, Nat.reduceSub, Int32.reduceLT, Int32.reduceAdd, not_false_eq_true, not_true_eq_false, and_self, ji_b_n, if_true, if_false, ↓reduceIte, cz_m100, cz_m19, cz_m18, cz_m17, cz_m16, cz_m15, cz_m14, cz_m13, cz_m12, cz_m11, cz_m4, cz_m3, cz_m2, cz_m1, cz_1, cz_2, cz_3, cz_4, cz_5, cz_6, cz_7, cz_8, cz_9, cz_10, cz_11, cz_12, cz_13, cz_14, cz_15, cz_16, cz_20, cz_24, cz_30, cz_32, cz_33, cz_38, cz_40, cz_41, cz_42, cz_43, cz_45, cz_48, cz_57, cz_59, cz_60, cz_61, cz_63, cz_64, cz_72, cz_96, cz_97, cz_99, cz_100, cz_122, cz_124, cz_126, cz_160, cz_161, cz_168, cz_200, cz_255, cz_300, cz_960, cz_999, cz_1000, cz_1001, cz_1002, cz_1003, cz_1120, cz_2000, cz_2003, cz_2004, cz_2005, cz_3999, cz_9999, cz_14640, -gI_sI, mk_0 hN, mk_11 hN, mr_19 hN, hk, g2, z3, z4, hn, ← hM, C, mk_0 mM, mk_0 mM', o2]
    · refine rel hX' (ji_offN_MF o1 mM) (fun _ _ _ => rfl) (fun a b h _ _ _ => o1.2.1 a b h) (o1.2.2.1.trans fL) ?_
      rw [x46, o1.2.1 0 15 rfl, o1.2.1 0 16 rfl, o1.2.1 0 17 rfl, f0 15 (by decide), f0 16 (by decide), f17, c4, ji_offN_F o1 (a := 10) (fun _ => rfl), ji_offN_F o1 (a := 11) (fun _ => rfl), fo 10 (by decide) (by decide), c2 4 7 (by omega) (by omega) (by omega)]
      refine ⟨⟨hk.symm, t2⟩, ⟨r1, r2, r3⟩, ⟨rfl, by decide, by decide⟩, fun j hj => absurd hj (by show ¬ ((j : Int) < 0); omega), fun q hq => ?_⟩
      rw [hk, ek] at hq
      obtain ⟨s, a1, a2, a3⟩ := old q (by omega)
      refine ⟨s, a1, a2, fun h => ?_⟩
      rw [f11 q (by omega)]
      exact a3 h
  | inl w =>
    obtain ⟨sa, sb, sc⟩ := w
    obtain ⟨q0, q1, q2, q3, q4, B⟩ := A sa sb sc hrd
    obtain ⟨M', o1, _, _, _, C⟩ := G1 sa sb sc hrd
    have o1 := jx_oN_off o1
    have mM' := ji_offN_MF o1 mM
    have k1 := jx_o1p (k := k) (by omega)
    have k2 := jx_o1m (k := k) (by omega)
    have B18 : ji_CL (d + 59) 18 [.ref 4] X = some (some (.int (Int32.ofNat k)), ji_sI X' 4 6 (Int32.ofNat (k + 1))) := by
      have B := cl_le B (e := d + 58) (by omega)
      have x47 : ji_gI (ji_sI X' 4 6 (Int32.ofNat (k + 1))) 4 6 = Int32.ofNat (k + 1) := by rw [gI_sI, if_pos ⟨rfl, rfl⟩]
      apply en_18
      simp only [s18_0, s18_1, s18_4, s18_6, s18_9, s18_11, s18_12, s18_13, s18_16, s18_17, s18_20, s18_21, q18_24, s18_25, s18_26, s18_29, s18_30, q18_33, q18_34, s18_37, s18_38, s18_39, s18_40, s18_43, s18_45, s18_46, s18_47, s18_48, s18_49, s18_49r, s18_50, s18_53, s18_54, s18_55, s18_58, s18_59, s18_62, s18_63, s18_64, xIL_1, xIS_1, xQL_2, xQL_3, xAN_1, xAN_2, xAN_3, xCP_1, xC_s, xNC_I, ji_oI1, ji_oIm, kd_sC, gR_sC, gL_sC, ji_rv_s, ji_tl_s, ji_tl_n, ji_s1, ji_s2, ji_kl, List.getD_cons_zero, List.getD_cons_succ, List.set_cons_zero, List.set_cons_succ, List.length_cons, List.length_nil, ji_b_0, ji_b_1, ji_n0, ji_n1, ji_rcb_iff, ji_ok8_0, ji_ok8_1, ji_ok8_2, ji_ok8_3, ji_ok8_4, kd_sI, kd_sL, kd_sR, kd_cp, gR_sI, gR_sL, gR_cp, gL_sI, gL_sR, gL_cp, gI_sL, gI_sR, gI_sI, gL_sL, Nat.reduceEqDiff, false_and, and_false, true_and, and_true, Nat.reduceAdd, Nat.reduceLT, Nat.reduceSub, Int32.reduceLT, Int32.reduceAdd, not_false_eq_true, not_true_eq_false, and_self, ji_b_n, if_true, if_false, ↓reduceIte, cz_m100, cz_m19, cz_m18, cz_m17, cz_m16, cz_m15, cz_m14, cz_m13, cz_m12, cz_m11, cz_m4, cz_m3, cz_m2, cz_m1, cz_1, cz_2, cz_3, cz_4, cz_5, cz_6, cz_7, cz_8, cz_9, cz_10, cz_11, cz_12, cz_13, cz_14, cz_15, cz_16, cz_20, cz_24, cz_30, cz_32, cz_33, cz_38, cz_40, cz_41, cz_42, cz_43, cz_45, cz_48, cz_57, cz_59, cz_60, cz_61, cz_63, cz_64, cz_72, cz_96, cz_97, cz_99, cz_100, cz_122, cz_124, cz_126, cz_160, cz_161, cz_168, cz_200, cz_255, cz_300, cz_960, cz_999, cz_1000, cz_1001, cz_1002, cz_1003, cz_1120, cz_2000, cz_2003, cz_2004, cz_2005, cz_3999, cz_9999, cz_14640, -gI_sI, xk_4 hX, xk_4 hX', xr_4_0 hX, xr_4_1 hX, xr_4_2 hX, xk_5 hX, xk_8 hX, xk_15 hX, x1, x46, x47, g1, zk6, zk, y1, y2, B, k1, k2]
    obtain ⟨L, hL⟩ : ∃ L, L = ji_sI M' 11 k (Int32.ofNat n) := ⟨_, rfl⟩
    have mL : ji_MF L := by rw [hL]; exact mM'
    have L6 : ji_gI L 11 6 = Int32.ofNat n := by rw [hL, gI_sI, if_neg (by omega), o1.2.1 11 6 rfl]; exact l6
    have L15 : ji_gI L 0 15 = Int32.ofNat k := by rw [hL, gI_ne (by decide), o1.2.1 0 15 rfl, f0 15 (by decide)]; exact hk
    have L10 : ji_gI L 10 = ji_gI N 10 := by rw [hL, gF_sI (by decide), ji_offN_F o1 (a := 10) (fun _ => rfl), fo 10 (by decide) (by decide)]
    have LP := m197L mL L6 L15 hk5 hn2 n 0 rfl (Nat.zero_le _)
    generalize hQ : jq_fd (ji_gI L 10) (160 * k) (fun j => ji_gI L 10 (960 + j)) n = Q at LP
    have Qlo : ∀ j, j < 160 * k → Q j = ji_gI N 10 j := fun j hj => by rw [← hQ, jq_fd_lo hj, L10]
    have Qin : ∀ j, j < n → Q (160 * k + j) = jx_tp X j := fun j hj => by rw [← hQ, jq_fd_in n hj, L10]; exact (tb j hj).2
    apply ji_same_of (v := some (.int (Int32.ofNat k))) (X' := ji_sI X' 4 6 (Int32.ofNat (k + 1))) (N' := ji_sI (ji_sC L 10 Q) 0 15 (Int32.ofNat (k + 1)))
    · apply en_94
      simp only [s94_0, s94_1, q94_4, s94_7, xIL_1, xIS_1, xQL_2, xQL_3, xAN_1, xAN_2, xAN_3, xCP_1, xC_s, xNC_I, ji_oI1, ji_oIm, kd_sC, gR_sC, gL_sC, ji_rv_s, ji_tl_s, ji_tl_n, ji_s1, ji_s2, ji_kl, List.getD_cons_zero, List.getD_cons_succ, List.set_cons_zero, List.set_cons_succ, List.length_cons, List.length_nil, ji_b_0, ji_b_1, ji_n0, ji_n1, ji_rcb_iff, ji_ok8_0, ji_ok8_1, ji_ok8_2, ji_ok8_3, ji_ok8_4, kd_sI, kd_sL, kd_sR, kd_cp, gR_sI, gR_sL, gR_cp, gL_sI, gL_sR, gL_cp, gI_sL, gI_sR, gI_sI, gL_sL, Nat.reduceEqDiff, false_and, and_false, true_and, and_true, Nat.reduceAdd, Nat.reduceLT, Nat.reduceSub, Int32.reduceLT, Int32.reduceAdd, not_false_eq_true, not_true_eq_false, and_self, ji_b_n, if_true, if_false, ↓reduceIte, cz_m100, cz_m19, cz_m18, cz_m17, cz_m16, cz_m15, cz_m14, cz_m13, cz_m12, cz_m11, cz_m4, cz_m3, cz_m2, cz_m1, cz_1, cz_2, cz_3, cz_4, cz_5, cz_6, cz_7, cz_8, cz_9, cz_10, cz_11, cz_12, cz_13, cz_14, cz_15, cz_16, cz_20, cz_24, cz_30, cz_32, cz_33, cz_38, cz_40, cz_41, cz_42, cz_43, cz_45, cz_48, cz_57, cz_59, cz_60, cz_61, cz_63, cz_64, cz_72, cz_96, cz_97, cz_99, cz_100, cz_122, cz_124, cz_126, cz_160, cz_161, cz_168, cz_200, cz_255, cz_300, cz_960, cz_999, cz_1000, cz_1001, cz_1002, cz_1003, cz_1120, cz_2000, cz_2003, cz_2004, cz_2005, cz_3999, cz_9999, cz_14640, xk_0 hX, xr_0_1 hX, xk_4 hX, B18]
    · have C : ji_CL (d + 59) 172 [.ref 0, .int 6] M = _ := cl_le C (e := d + 59) (by omega)
      have LP := LP (d + 53) (some (.int (Int32.ofNat k)), ji_sI (ji_sC L 10 Q) 0 15 (Int32.ofNat (k + 1))) (by
        have mQ : ji_MF (ji_sC L 10 Q) := mL
        have Q15 : ji_gI (ji_sC L 10 Q) 0 15 = Int32.ofNat k := by rw [gI_sCn (by decide)]; exact L15
        have Q16 : ji_gI (ji_sI (ji_sC L 10 Q) 0 15 (Int32.ofNat (k + 1))) 0 15 = Int32.ofNat (k + 1) := by rw [gI_sI, if_pos ⟨rfl, rfl⟩]
        simp only [s197_0, s197_1, s197_4, s197_6, s197_9, s197_11, s197_12, s197_13, s197_16, s197_18, s197_19, q197_22, s197_23, s197_24, s197_25, s197_28, s197_29, q197_31, s197_34, s197_37, s197_39, s197_40, s197_43, s197_44, s197_45, s197_46, s197_49, s197_50, s197_53, s197_54, s197_57, q197_59, q197_60, s197_61, s197_62, s197_63, s197_64, s197_65, s197_68, q197_70, s197_71, s197_74, s197_75, s197_78, s197_81, s197_82, s197_85, s197_86, s197_87, s197_88, s197_89, s197_92, s197_95, s197_96, q197_97, q197_98, q197_99, s197_102, s197_105, s197_106, s197_106r, s197_107, s197_110, s197_111, s197_112, s197_115, s197_116, s197_119, s197_120, s197_121, xIL_1, xIS_1, xQL_2, xQL_3, xAN_1, xAN_2, xAN_3, xCP_1, xC_s, xNC_I, ji_oI1, ji_oIm, kd_sC, gR_sC, gL_sC, ji_rv_s, ji_tl_s, ji_tl_n, ji_s1, ji_s2, ji_kl, List.getD_cons_zero, List.getD_cons_succ, List.set_cons_zero, List.set_cons_succ, List.length_cons, List.length_nil, ji_b_0, ji_b_1, ji_n0, ji_n1, ji_rcb_iff, ji_ok8_0, ji_ok8_1, ji_ok8_2, ji_ok8_3, ji_ok8_4, kd_sI, kd_sL, kd_sR, kd_cp, gR_sI, gR_sL, gR_cp, gL_sI, gL_sR, gL_cp, gI_sL, gI_sR, gI_sI, gL_sL, Nat.reduceEqDiff, false_and, and_false, true_and, and_true, Nat.reduceAdd, Nat.reduceLT, Nat.reduceSub, Int32.reduceLT, Int32.reduceAdd, not_false_eq_true, not_true_eq_false, and_self, ji_b_n, if_true, if_false, ↓reduceIte, cz_m100, cz_m19, cz_m18, cz_m17, cz_m16, cz_m15, cz_m14, cz_m13, cz_m12, cz_m11, cz_m4, cz_m3, cz_m2, cz_m1, cz_1, cz_2, cz_3, cz_4, cz_5, cz_6, cz_7, cz_8, cz_9, cz_10, cz_11, cz_12, cz_13, cz_14, cz_15, cz_16, cz_20, cz_24, cz_30, cz_32, cz_33, cz_38, cz_40, cz_41, cz_42, cz_43, cz_45, cz_48, cz_57, cz_59, cz_60, cz_61, cz_63, cz_64, cz_72, cz_96, cz_97, cz_99, cz_100, cz_122, cz_124, cz_126, cz_160, cz_161, cz_168, cz_200, cz_255, cz_300, cz_960, cz_999, cz_1000, cz_1001, cz_1002, cz_1003, cz_1120, cz_2000, cz_2003, cz_2004, cz_2005, cz_3999, cz_9999, cz_14640, -gI_sI, mk_0 mQ, Q15, Q16, k1, k2])
      have LP : ji_Ev (ji_CL (d + 59)) 197 63 (ji_sC L 10 (ji_gI L 10)) [some (.ref 0), some (.int 0)] [] _ := LP
      rw [sC_self] at LP
      have m15 : ji_gI M' 0 15 = Int32.ofNat k := by rw [o1.2.1 0 15 rfl, f0 15 (by decide)]; exact hk
      have m6 : ji_gI M' 11 6 = Int32.ofNat n := by rw [o1.2.1 11 6 rfl]; exact l6
      have n10 : ¬ (1 : Int32) = 0 := by decide
      apply en_197
      simp only [s197_0, s197_1, s197_4, s197_6, s197_9, s197_11, s197_12, s197_13, s197_16, s197_18, s197_19, q197_22, s197_23, s197_24, s197_25, s197_28, s197_29, q197_31, s197_34, s197_37, s197_39, s197_40, s197_43, s197_44, s197_45, s197_46, s197_49, s197_50, s197_53, s197_54, s197_57, q197_59, q197_60, s197_61, s197_62, s197_64, s197_65, s197_68, q197_70, s197_71, s197_74, s197_75, s197_78, s197_81, s197_82, s197_85, s197_86, s197_87, s197_88, s197_89, s197_92, s197_95, s197_96, q197_97, q197_98, q197_99, s197_102, s197_105, s197_106, s197_106r, s197_107, s197_110, s197_111, s197_112, s197_115, s197_116, s197_119, s197_120, s197_121, xIL_1, xIS_1, xQL_2, xQL_3, xAN_1, xAN_2, xAN_3, xCP_1, xC_s, xNC_I, ji_oI1, ji_oIm, kd_sC, gR_sC, gL_sC, ji_rv_s, ji_tl_s, ji_tl_n, ji_s1, ji_s2, ji_kl, List.getD_cons_zero, List.getD_cons_succ, List.set_cons_zero, List.set_cons_succ, List.length_cons, List.length_nil, ji_b_0, ji_b_1, ji_n0, ji_n1, ji_rcb_iff, ji_ok8_0, ji_ok8_1, ji_ok8_2, ji_ok8_3, ji_ok8_4, kd_sI, kd_sL, kd_sR, kd_cp, gR_sI, gR_sL, gR_cp, gL_sI, gL_sR, gL_cp, gI_sL, gI_sR, gI_sI, gL_sL, Nat.reduceEqDiff, false_and, and_false, true_and, and_true, Nat.reduceAdd, Nat.reduceLT, Nat.reduceSub, Int32.reduceLT, Int32.reduceAdd, not_false_eq_true, not_true_eq_false, and_self, ji_b_n, if_true, if_false, ↓reduceIte, cz_m100, cz_m19, cz_m18, cz_m17, cz_m16, cz_m15, cz_m14, cz_m13, cz_m12, cz_m11, cz_m4, cz_m3, cz_m2, cz_m1, cz_1, cz_2, cz_3, cz_4, cz_5, cz_6, cz_7, cz_8, cz_9, cz_10, cz_11, cz_12, cz_13, cz_14, cz_15, cz_16, cz_20, cz_24, cz_30, cz_32, cz_33, cz_38, cz_40, cz_41, cz_42, cz_43, cz_45, cz_48, cz_57, cz_59, cz_60, cz_61, cz_63, cz_64, cz_72, cz_96, cz_97, cz_99, cz_100, cz_122, cz_124, cz_126, cz_160, cz_161, cz_168, cz_200, cz_255, cz_300, cz_960, cz_999, cz_1000, cz_1001, cz_1002, cz_1003, cz_1120, cz_2000, cz_2003, cz_2004, cz_2005, cz_3999, cz_9999, cz_14640, -gI_sI, mk_0 hN, mk_11 hN, mr_19 hN, hk, g2, z3, z4, hn, ← hM, C, mk_0 mM, mk_0 mM', mk_11 mM', mr_19 mM', m15, m6, n10, zk7, zk, ← hL]
      exact LP
    · refine rel (ji_XF_ar hX' (by decide)) mL (fun a b h => ?_) (fun a b h h1 h2 h3 => ?_) ?_ ?_
      · rw [gI_sI, if_neg h]
      · rw [gI_sI, if_neg h3, gI_sCn h1, hL, gI_ne h2, o1.2.1 a b h]
      · rw [hL]; exact o1.2.2.1.trans fL
      · have u0 : ∀ b, b ≠ 6 → ji_gI (ji_sI X' 4 6 (Int32.ofNat (k + 1))) 4 b = ji_gI X' 4 b := fun b hb => by rw [gI_sI, if_neg (fun q => hb q.2)]
        have u1 : ji_gI (ji_sI X' 4 6 (Int32.ofNat (k + 1))) 4 6 = Int32.ofNat (k + 1) := by rw [gI_sI, if_pos ⟨rfl, rfl⟩]
        have u2 : ∀ a, a ≠ 4 → ji_gI (ji_sI X' 4 6 (Int32.ofNat (k + 1))) a = ji_gI X' a := fun a h => gF_sI h
        have v0 : ∀ b, b ≠ 15 → ji_gI (ji_sI (ji_sC L 10 Q) 0 15 (Int32.ofNat (k + 1))) 0 b = ji_gI L 0 b := fun b hb => by rw [gI_sI, if_neg (fun q => hb q.2), gI_sCn (by decide)]
        have v1 : ji_gI (ji_sI (ji_sC L 10 Q) 0 15 (Int32.ofNat (k + 1))) 0 15 = Int32.ofNat (k + 1) := by rw [gI_sI, if_pos ⟨rfl, rfl⟩]
        have v2 : ji_gI (ji_sI (ji_sC L 10 Q) 0 15 (Int32.ofNat (k + 1))) 10 = Q := by rw [gF_sI (by decide), gF_sC]
        have v3 : ji_gI (ji_sI (ji_sC L 10 Q) 0 15 (Int32.ofNat (k + 1))) 11 = ji_gI L 11 := by rw [gF_sI (by decide), gF_sCn (by decide)]
        have w16 : ji_gI L 0 16 = ji_gI N 0 16 := by rw [hL, gI_ne (by decide), o1.2.1 0 16 rfl, f0 16 (by decide)]
        have w17 : ji_gI L 0 17 = 0 := by rw [hL, gI_ne (by decide), o1.2.1 0 17 rfl, f17]
        have wk : ji_gI L 11 k = Int32.ofNat n := by rw [hL, gI_sI, if_pos ⟨rfl, rfl⟩]
        have wo : ∀ q, q < k → ji_gI L 11 q = ji_gI N 11 q := fun q hq => by rw [hL, gI_sI, if_neg (by omega), o1.2.1 11 q rfl, f11 q (by omega)]
        have ek1 := vi_nn (n := k + 1) (by omega)
        rw [u1, u0 7 (by decide), u2 5 (by decide), u2 6 (by decide), u2 9 (by decide), u2 10 (by decide), u2 11 (by decide), u2 12 (by decide), u2 13 (by decide), u2 14 (by decide), u2 16 (by decide), u2 17 (by decide), u2 18 (by decide), u2 19 (by decide), u2 20 (by decide), u2 21 (by decide), v1, v0 16 (by decide), v0 17 (by decide), v2, v3, w16, w17, c4, c2 4 7 (by omega) (by omega) (by omega)]
        rw [hk, ek] at r3
        refine ⟨⟨rfl, by omega, by omega⟩, ⟨r1, r2, by omega⟩, ⟨rfl, by decide, by decide⟩, fun j hj => absurd hj (by show ¬ ((j : Int) < 0); omega), fun q hq => ?_⟩
        rw [ek1] at hq
        by_cases hqk : q < k
        · obtain ⟨s, a1, a2, a3⟩ := old q hqk
          refine ⟨s, a1, a2, fun h => ?_⟩
          rw [wo q hqk]
          obtain ⟨a4, a5⟩ := a3 h
          refine ⟨a4, ?_⟩
          rw [← a5]
          congr 1
          refine List.map_congr_left (fun j hj => ?_)
          have hj := List.mem_range.mp hj
          obtain ⟨a6, a7⟩ := a4
          exact Qlo _ (by omega)
        · obtain rfl : q = k := by omega
          rw [tk.1, tk.2]
          refine ⟨(sa, sb, sc), ⟨q0, ?_, ?_, ?_, q4⟩, fun h => by omega, fun _ => ?_⟩
          · rw [q1]; exact vi_nn (by omega)
          · rw [q2]; exact vi_nn (by omega)
          · rw [q3]; exact vi_nn (by omega)
          · rw [wk, en]
            refine ⟨⟨by rw [en]; omega, by rw [en]; omega⟩, ?_⟩
            have len : ((List.range ((n : Int)).toNat).map fun j => Q (160 * q + j)).length = n := by simp
            have cg : jx_rd (fun j => ((List.range ((n : Int)).toNat).map fun j => Q (160 * q + j)).getD j 0) n = jx_rd (jx_tp X) n := by
              apply jx_rd_cg
              intro j hj
              rw [← Qin j hj, List.getD_eq_getElem?_getD, List.getElem?_map, List.getElem?_range (by omega)]
              rfl
            have by8 : ∀ c ∈ ((List.range ((n : Int)).toNat).map fun j => Q (160 * q + j)), -128 ≤ c.toInt ∧ c.toInt ≤ 127 := by
              intro c hc
              obtain ⟨j, hj, rfl⟩ := List.mem_map.mp hc
              have hj := List.mem_range.mp hj
              rw [Qin j (by omega)]
              exact jx_cvb (tb j (by omega)).1
            unfold jx_P
            rw [if_pos by8, len, cg, hrd]
end JIV
