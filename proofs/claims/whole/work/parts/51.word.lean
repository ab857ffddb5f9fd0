/-! ===== texts of the class, words ===== -/
section JIV
variable {X N M : ji_M} {P : ji_P} {x y z v t k : Int32} {pl st tk vl op fa le pl' st' tk' vl' op' fa' le' : Int32} {f g sf : ji_F} {d a b r c m s n i j sc k' : Nat} {o : Option Value × ji_M}
theorem en_16 (h : ji_Ev (ji_CL d) 16 0 M [some (.int x), some (.int y), some (.retAddr a)] [] o) : ji_CL (d + 1) 16 [.int x, .int y, .retAddr a] M = some o := en_of rfl rfl rfl rfl h
theorem jx_rc2 : (ji_rcb M 10 (.retAddr 2) = true) ↔ True := ⟨fun _ => trivial, fun _ => rfl⟩
theorem jx_rc3 : (ji_rcb M 10 (.retAddr 3) = true) ↔ True := ⟨fun _ => trivial, fun _ => rfl⟩
theorem jx_nb : (narrow .byte (.int 0) = .int 0) ↔ True := ⟨fun _ => trivial, fun _ => rfl⟩
theorem jx_l5 : (ji_tx 5).length = 72 := by decide +kernel
theorem jx_l6 : (ji_tx 6).length = 8 := by decide +kernel
theorem jx_s72 : (Int32.ofNat 72) >>> ((0 : Int32) &&& 31) = 72 := by decide
theorem jx_s8 : (Int32.ofNat 8) >>> ((0 : Int32) &&& 31) = 8 := by decide
theorem jx_o72 : Int32.ofNat 72 = 72 := rfl
theorem jx_o8 : Int32.ofNat 8 = 8 := rfl
theorem m16 (h : ¬ x < 0) (h2 : x < y) : ji_CL (d + 1) 16 [.int x, .int y, .retAddr a] M = some (some (.int x), M) := by
  apply en_16
  simp only [s16_0, s16_1, s16_4, s16_5, s16_6, s16_9, s16_9x, s16_10, s16_11, s16_16, s16_17, xIL_1, xIS_1, xQL_2, xQL_3, xAN_1, xAN_2, xAN_3, xCP_1, xC_s, xNC_I, ji_oI1, ji_oIm, kd_sC, gR_sC, gL_sC, ji_rv_s, ji_tl_s, ji_tl_n, ji_s1, ji_s2, ji_kl, List.getD_cons_zero, List.getD_cons_succ, List.set_cons_zero, List.set_cons_succ, List.length_cons, List.length_nil, ji_b_0, ji_b_1, ji_n0, ji_n1, ji_rcb_iff, ji_ok8_0, ji_ok8_1, ji_ok8_2, ji_ok8_3, ji_ok8_4, kd_sI, kd_sL, kd_sR, kd_cp, gR_sI, gR_sL, gR_cp, gL_sI, gL_sR, gL_cp, gI_sL, gI_sR, gI_sI, gL_sL, Nat.reduceEqDiff, false_and, and_false, true_and, and_true, Nat.reduceAdd, Nat.reduceLT, Nat.reduceSub, Int32.reduceLT, Int32.reduceAdd, not_false_eq_true, not_true_eq_false, and_self, ji_b_n, if_true, if_false, ↓reduceIte, cz_m100, cz_m19, cz_m18, cz_m17, cz_m16, cz_m15, cz_m14, cz_m13, cz_m12, cz_m11, cz_m4, cz_m3, cz_m2, cz_m1, cz_1, cz_2, cz_3, cz_4, cz_5, cz_6, cz_7, cz_8, cz_9, cz_10, cz_11, cz_12, cz_13, cz_14, cz_15, cz_16, cz_20, cz_24, cz_30, cz_32, cz_33, cz_38, cz_40, cz_41, cz_42, cz_43, cz_45, cz_48, cz_57, cz_59, cz_60, cz_61, cz_63, cz_64, cz_72, cz_96, cz_97, cz_99, cz_100, cz_122, cz_124, cz_126, cz_160, cz_161, cz_168, cz_200, cz_255, cz_300, cz_960, cz_999, cz_1000, cz_1001, cz_1002, cz_1003, cz_1120, cz_2000, cz_2003, cz_2004, cz_2005, cz_3999, cz_9999, cz_14640, h, h2]
theorem m15 (h : ¬ x < 0) (h2 : x < y) : ji_CL (d + 2) 15 [.int x, .int y] M = some (none, M) := by
  apply en_15
  simp only [s15_0, s15_1, s15_2, q15_5, s15_8, s15_8r, s15_9, xIL_1, xIS_1, xQL_2, xQL_3, xAN_1, xAN_2, xAN_3, xCP_1, xC_s, xNC_I, ji_oI1, ji_oIm, kd_sC, gR_sC, gL_sC, ji_rv_s, ji_tl_s, ji_tl_n, ji_s1, ji_s2, ji_kl, List.getD_cons_zero, List.getD_cons_succ, List.set_cons_zero, List.set_cons_succ, List.length_cons, List.length_nil, ji_b_0, ji_b_1, ji_n0, ji_n1, ji_rcb_iff, ji_ok8_0, ji_ok8_1, ji_ok8_2, ji_ok8_3, ji_ok8_4, kd_sI, kd_sL, kd_sR, kd_cp, gR_sI, gR_sL, gR_cp, gL_sI, gL_sR, gL_cp, gI_sL, gI_sR, gI_sI, gL_sL, Nat.reduceEqDiff, false_and, and_false, true_and, and_true, Nat.reduceAdd, Nat.reduceLT, Nat.reduceSub, Int32.reduceLT, Int32.reduceAdd, not_false_eq_true, not_true_eq_false, and_self, ji_b_n, if_true, if_false, ↓reduceIte, cz_m100, cz_m19, cz_m18, cz_m17, cz_m16, cz_m15, cz_m14, cz_m13, cz_m12, cz_m11, cz_m4, cz_m3, cz_m2, cz_m1, cz_1, cz_2, cz_3, cz_4, cz_5, cz_6, cz_7, cz_8, cz_9, cz_10, cz_11, cz_12, cz_13, cz_14, cz_15, cz_16, cz_20, cz_24, cz_30, cz_32, cz_33, cz_38, cz_40, cz_41, cz_42, cz_43, cz_45, cz_48, cz_57, cz_59, cz_60, cz_61, cz_63, cz_64, cz_72, cz_96, cz_97, cz_99, cz_100, cz_122, cz_124, cz_126, cz_160, cz_161, cz_168, cz_200, cz_255, cz_300, cz_960, cz_999, cz_1000, cz_1001, cz_1002, cz_1003, cz_1120, cz_2000, cz_2003, cz_2004, cz_2005, cz_3999, cz_9999, cz_14640, m16 h h2]
theorem m13_2 : ji_CL (d + 1) 13 [.retAddr 2] M = some (some (.int 1), M) := by
  apply en_13
  simp only [s13_0, s13_3, s13_6, s13_6x, s13_7, s13_10, s13_13, s13_14, s13_17, s13_18, xIL_1, xIS_1, xQL_2, xQL_3, xAN_1, xAN_2, xAN_3, xCP_1, xC_s, xNC_I, ji_oI1, ji_oIm, kd_sC, gR_sC, gL_sC, ji_rv_s, ji_tl_s, ji_tl_n, ji_s1, ji_s2, ji_kl, List.getD_cons_zero, List.getD_cons_succ, List.set_cons_zero, List.set_cons_succ, List.length_cons, List.length_nil, ji_b_0, ji_b_1, ji_n0, ji_n1, ji_rcb_iff, ji_ok8_0, ji_ok8_1, ji_ok8_2, ji_ok8_3, ji_ok8_4, kd_sI, kd_sL, kd_sR, kd_cp, gR_sI, gR_sL, gR_cp, gL_sI, gL_sR, gL_cp, gI_sL, gI_sR, gI_sI, gL_sL, Nat.reduceEqDiff, false_and, and_false, true_and, and_true, Nat.reduceAdd, Nat.reduceLT, Nat.reduceSub, Int32.reduceLT, Int32.reduceAdd, not_false_eq_true, not_true_eq_false, and_self, ji_b_n, if_true, if_false, ↓reduceIte, cz_m100, cz_m19, cz_m18, cz_m17, cz_m16, cz_m15, cz_m14, cz_m13, cz_m12, cz_m11, cz_m4, cz_m3, cz_m2, cz_m1, cz_1, cz_2, cz_3, cz_4, cz_5, cz_6, cz_7, cz_8, cz_9, cz_10, cz_11, cz_12, cz_13, cz_14, cz_15, cz_16, cz_20, cz_24, cz_30, cz_32, cz_33, cz_38, cz_40, cz_41, cz_42, cz_43, cz_45, cz_48, cz_57, cz_59, cz_60, cz_61, cz_63, cz_64, cz_72, cz_96, cz_97, cz_99, cz_100, cz_122, cz_124, cz_126, cz_160, cz_161, cz_168, cz_200, cz_255, cz_300, cz_960, cz_999, cz_1000, cz_1001, cz_1002, cz_1003, cz_1120, cz_2000, cz_2003, cz_2004, cz_2005, cz_3999, cz_9999, cz_14640, Nat.reduceLeDiff]
theorem m13_3 : ji_CL (d + 1) 13 [.retAddr 3] M = some (some (.int 1), M) := by
  apply en_13
  simp only [s13_0, s13_3, s13_6, s13_6x, s13_7, s13_10, s13_13, s13_14, s13_17, s13_18, xIL_1, xIS_1, xQL_2, xQL_3, xAN_1, xAN_2, xAN_3, xCP_1, xC_s, xNC_I, ji_oI1, ji_oIm, kd_sC, gR_sC, gL_sC, ji_rv_s, ji_tl_s, ji_tl_n, ji_s1, ji_s2, ji_kl, List.getD_cons_zero, List.getD_cons_succ, List.set_cons_zero, List.set_cons_succ, List.length_cons, List.length_nil, ji_b_0, ji_b_1, ji_n0, ji_n1, ji_rcb_iff, ji_ok8_0, ji_ok8_1, ji_ok8_2, ji_ok8_3, ji_ok8_4, kd_sI, kd_sL, kd_sR, kd_cp, gR_sI, gR_sL, gR_cp, gL_sI, gL_sR, gL_cp, gI_sL, gI_sR, gI_sI, gL_sL, Nat.reduceEqDiff, false_and, and_false, true_and, and_true, Nat.reduceAdd, Nat.reduceLT, Nat.reduceSub, Int32.reduceLT, Int32.reduceAdd, not_false_eq_true, not_true_eq_false, and_self, ji_b_n, if_true, if_false, ↓reduceIte, cz_m100, cz_m19, cz_m18, cz_m17, cz_m16, cz_m15, cz_m14, cz_m13, cz_m12, cz_m11, cz_m4, cz_m3, cz_m2, cz_m1, cz_1, cz_2, cz_3, cz_4, cz_5, cz_6, cz_7, cz_8, cz_9, cz_10, cz_11, cz_12, cz_13, cz_14, cz_15, cz_16, cz_20, cz_24, cz_30, cz_32, cz_33, cz_38, cz_40, cz_41, cz_42, cz_43, cz_45, cz_48, cz_57, cz_59, cz_60, cz_61, cz_63, cz_64, cz_72, cz_96, cz_97, cz_99, cz_100, cz_122, cz_124, cz_126, cz_160, cz_161, cz_168, cz_200, cz_255, cz_300, cz_960, cz_999, cz_1000, cz_1001, cz_1002, cz_1003, cz_1120, cz_2000, cz_2003, cz_2004, cz_2005, cz_3999, cz_9999, cz_14640, Nat.reduceLeDiff]
theorem m11_2 : ji_CL (d + 1) 11 [.retAddr 2] M = some (some (.int 0), M) := by
  apply en_11
  simp only [s11_0, s11_3, s11_6, s11_6x, s11_7, s11_10, s11_13, s11_14, xIL_1, xIS_1, xQL_2, xQL_3, xAN_1, xAN_2, xAN_3, xCP_1, xC_s, xNC_I, ji_oI1, ji_oIm, kd_sC, gR_sC, gL_sC, ji_rv_s, ji_tl_s, ji_tl_n, ji_s1, ji_s2, ji_kl, List.getD_cons_zero, List.getD_cons_succ, List.set_cons_zero, List.set_cons_succ, List.length_cons, List.length_nil, ji_b_0, ji_b_1, ji_n0, ji_n1, ji_rcb_iff, ji_ok8_0, ji_ok8_1, ji_ok8_2, ji_ok8_3, ji_ok8_4, kd_sI, kd_sL, kd_sR, kd_cp, gR_sI, gR_sL, gR_cp, gL_sI, gL_sR, gL_cp, gI_sL, gI_sR, gI_sI, gL_sL, Nat.reduceEqDiff, false_and, and_false, true_and, and_true, Nat.reduceAdd, Nat.reduceLT, Nat.reduceSub, Int32.reduceLT, Int32.reduceAdd, not_false_eq_true, not_true_eq_false, and_self, ji_b_n, if_true, if_false, ↓reduceIte, cz_m100, cz_m19, cz_m18, cz_m17, cz_m16, cz_m15, cz_m14, cz_m13, cz_m12, cz_m11, cz_m4, cz_m3, cz_m2, cz_m1, cz_1, cz_2, cz_3, cz_4, cz_5, cz_6, cz_7, cz_8, cz_9, cz_10, cz_11, cz_12, cz_13, cz_14, cz_15, cz_16, cz_20, cz_24, cz_30, cz_32, cz_33, cz_38, cz_40, cz_41, cz_42, cz_43, cz_45, cz_48, cz_57, cz_59, cz_60, cz_61, cz_63, cz_64, cz_72, cz_96, cz_97, cz_99, cz_100, cz_122, cz_124, cz_126, cz_160, cz_161, cz_168, cz_200, cz_255, cz_300, cz_960, cz_999, cz_1000, cz_1001, cz_1002, cz_1003, cz_1120, cz_2000, cz_2003, cz_2004, cz_2005, cz_3999, cz_9999, cz_14640, Nat.reduceLeDiff, jx_nb]
theorem m11_3 : ji_CL (d + 1) 11 [.retAddr 3] M = some (some (.int 0), M) := by
  apply en_11
  simp only [s11_0, s11_3, s11_6, s11_6x, s11_7, s11_10, s11_13, s11_14, xIL_1, xIS_1, xQL_2, xQL_3, xAN_1, xAN_2, xAN_3, xCP_1, xC_s, xNC_I, ji_oI1, ji_oIm, kd_sC, gR_sC, gL_sC, ji_rv_s, ji_tl_s, ji_tl_n, ji_s1, ji_s2, ji_kl, List.getD_cons_zero, List.getD_cons_succ, List.set_cons_zero, List.set_cons_succ, List.length_cons, List.length_nil, ji_b_0, ji_b_1, ji_n0, ji_n1, ji_rcb_iff, ji_ok8_0, ji_ok8_1, ji_ok8_2, ji_ok8_3, ji_ok8_4, kd_sI, kd_sL, kd_sR, kd_cp, gR_sI, gR_sL, gR_cp, gL_sI, gL_sR, gL_cp, gI_sL, gI_sR, gI_sI, gL_sL, Nat.reduceEqDiff, false_and, and_false, true_and, and_true, Nat.reduceAdd, Nat.reduceLT, Nat.reduceSub, Int32.reduceLT, Int32.reduceAdd, not_false_eq_true, not_true_eq_false, and_self, ji_b_n, if_true, if_false, ↓reduceIte, cz_m100, cz_m19, cz_m18, cz_m17, cz_m16, cz_m15, cz_m14, cz_m13, cz_m12, cz_m11, cz_m4, cz_m3, cz_m2, cz_m1, cz_1, cz_2, cz_3, cz_4, cz_5, cz_6, cz_7, cz_8, cz_9, cz_10, cz_11, cz_12, cz_13, cz_14, cz_15, cz_16, cz_20, cz_24, cz_30, cz_32, cz_33, cz_38, cz_40, cz_41, cz_42, cz_43, cz_45, cz_48, cz_57, cz_59, cz_60, cz_61, cz_63, cz_64, cz_72, cz_96, cz_97, cz_99, cz_100, cz_122, cz_124, cz_126, cz_160, cz_161, cz_168, cz_200, cz_255, cz_300, cz_960, cz_999, cz_1000, cz_1001, cz_1002, cz_1003, cz_1120, cz_2000, cz_2003, cz_2004, cz_2005, cz_3999, cz_9999, cz_14640, Nat.reduceLeDiff, jx_nb]
theorem m10_2 : ji_CL (d + 2) 10 [.retAddr 2] M = some (some (.int 72), M) := by
  apply en_10
  simp only [s10_0, s10_0x, s10_1, q10_4, s10_4_4, s10_4_5, s10_4_6, s10_5, s10_5x, q10_6x, s10_9, s10_10, xIL_1, xIS_1, xQL_2, xQL_3, xAN_1, xAN_2, xAN_3, xCP_1, xC_s, xNC_I, ji_oI1, ji_oIm, kd_sC, gR_sC, gL_sC, ji_rv_s, ji_tl_s, ji_tl_n, ji_s1, ji_s2, ji_kl, List.getD_cons_zero, List.getD_cons_succ, List.set_cons_zero, List.set_cons_succ, List.length_cons, List.length_nil, ji_b_0, ji_b_1, ji_n0, ji_n1, ji_rcb_iff, ji_ok8_0, ji_ok8_1, ji_ok8_2, ji_ok8_3, ji_ok8_4, kd_sI, kd_sL, kd_sR, kd_cp, gR_sI, gR_sL, gR_cp, gL_sI, gL_sR, gL_cp, gI_sL, gI_sR, gI_sI, gL_sL, Nat.reduceEqDiff, false_and, and_false, true_and, and_true, Nat.reduceAdd, Nat.reduceLT, Nat.reduceSub, Int32.reduceLT, Int32.reduceAdd, not_false_eq_true, not_true_eq_false, and_self, ji_b_n, if_true, if_false, ↓reduceIte, cz_m100, cz_m19, cz_m18, cz_m17, cz_m16, cz_m15, cz_m14, cz_m13, cz_m12, cz_m11, cz_m4, cz_m3, cz_m2, cz_m1, cz_1, cz_2, cz_3, cz_4, cz_5, cz_6, cz_7, cz_8, cz_9, cz_10, cz_11, cz_12, cz_13, cz_14, cz_15, cz_16, cz_20, cz_24, cz_30, cz_32, cz_33, cz_38, cz_40, cz_41, cz_42, cz_43, cz_45, cz_48, cz_57, cz_59, cz_60, cz_61, cz_63, cz_64, cz_72, cz_96, cz_97, cz_99, cz_100, cz_122, cz_124, cz_126, cz_160, cz_161, cz_168, cz_200, cz_255, cz_300, cz_960, cz_999, cz_1000, cz_1001, cz_1002, cz_1003, cz_1120, cz_2000, cz_2003, cz_2004, cz_2005, cz_3999, cz_9999, cz_14640, Nat.reduceLeDiff, jx_rc2, m11_2, jx_l5, jx_s72]
theorem m10_3 : ji_CL (d + 2) 10 [.retAddr 3] M = some (some (.int 8), M) := by
  apply en_10
  simp only [s10_0, s10_0x, s10_1, q10_4, s10_4_4, s10_4_5, s10_4_6, s10_5, s10_5x, q10_6x, s10_9, s10_10, xIL_1, xIS_1, xQL_2, xQL_3, xAN_1, xAN_2, xAN_3, xCP_1, xC_s, xNC_I, ji_oI1, ji_oIm, kd_sC, gR_sC, gL_sC, ji_rv_s, ji_tl_s, ji_tl_n, ji_s1, ji_s2, ji_kl, List.getD_cons_zero, List.getD_cons_succ, List.set_cons_zero, List.set_cons_succ, List.length_cons, List.length_nil, ji_b_0, ji_b_1, ji_n0, ji_n1, ji_rcb_iff, ji_ok8_0, ji_ok8_1, ji_ok8_2, ji_ok8_3, ji_ok8_4, kd_sI, kd_sL, kd_sR, kd_cp, gR_sI, gR_sL, gR_cp, gL_sI, gL_sR, gL_cp, gI_sL, gI_sR, gI_sI, gL_sL, Nat.reduceEqDiff, false_and, and_false, true_and, and_true, Nat.reduceAdd, Nat.reduceLT, Nat.reduceSub, Int32.reduceLT, Int32.reduceAdd, not_false_eq_true, not_true_eq_false, and_self, ji_b_n, if_true, if_false, ↓reduceIte, cz_m100, cz_m19, cz_m18, cz_m17, cz_m16, cz_m15, cz_m14, cz_m13, cz_m12, cz_m11, cz_m4, cz_m3, cz_m2, cz_m1, cz_1, cz_2, cz_3, cz_4, cz_5, cz_6, cz_7, cz_8, cz_9, cz_10, cz_11, cz_12, cz_13, cz_14, cz_15, cz_16, cz_20, cz_24, cz_30, cz_32, cz_33, cz_38, cz_40, cz_41, cz_42, cz_43, cz_45, cz_48, cz_57, cz_59, cz_60, cz_61, cz_63, cz_64, cz_72, cz_96, cz_97, cz_99, cz_100, cz_122, cz_124, cz_126, cz_160, cz_161, cz_168, cz_200, cz_255, cz_300, cz_960, cz_999, cz_1000, cz_1001, cz_1002, cz_1003, cz_1120, cz_2000, cz_2003, cz_2004, cz_2005, cz_3999, cz_9999, cz_14640, Nat.reduceLeDiff, jx_rc3, m11_3, jx_l6, jx_s8]
/-- the words of the class -/
def jx_W (i : Nat) : Int32 := (ji_tx 5).getD i 0
theorem jx_W_c (hi : i < 72) : ((jx_W i &&& 255).toUInt32 % 65536).toInt32 = jx_W i ∧ (jx_W i).toUInt32.toUInt16.toUInt32.toInt32 = jx_W i := by
  have h : ∀ k : Fin 72, ((jx_W k.val &&& 255).toUInt32 % 65536).toInt32 = jx_W k.val ∧ (jx_W k.val).toUInt32.toUInt16.toUInt32.toInt32 = jx_W k.val := by decide +kernel
  exact h ⟨i, hi⟩
theorem jx_W_n (hi : i < 72) : (narrow .char (.int (jx_W i)) = .int (jx_W i)) ↔ True := by
  have e : narrow .char (.int (jx_W i)) = .int (jx_W i).toUInt32.toUInt16.toUInt32.toInt32 := rfl
  rw [e, (jx_W_c hi).2]
  exact ⟨fun _ => trivial, fun _ => rfl⟩
theorem m14 (hx : x.toInt = (i : Int)) (hi : i < 72) : ji_CL (d + 3) 14 [.retAddr 5, .int x] M = some (some (.int (jx_W i)), M) := by
  have e0 : (0 : Int32).toInt = 0 := rfl
  have e72 : (72 : Int32).toInt = 72 := rfl
  have h : ¬ x < 0 := by rw [vi_lt]; omega
  have h2 : x < 72 := by rw [vi_lt]; omega
  have h3 : vp_in x 72 := vi_in.mpr ⟨by omega, by omega⟩
  have h4 : x.toNatClampNeg = i := by rw [vi_nat]; omega
  have h5 : (ji_tx 5).getD i 0 = jx_W i := rfl
  apply en_14
  simp only [s14_0, s14_1, s14_1x, q14_2, s14_2_4, s14_2_5, s14_2_6, q14_3, s14_6, s14_6x, s14_7, s14_8_4, s14_8_5, s14_8_6, s14_9, s14_12, s14_13, s14_14, xIL_1, xIS_1, xQL_2, xQL_3, xAN_1, xAN_2, xAN_3, xCP_1, xC_s, xNC_I, ji_oI1, ji_oIm, kd_sC, gR_sC, gL_sC, ji_rv_s, ji_tl_s, ji_tl_n, ji_s1, ji_s2, ji_kl, List.getD_cons_zero, List.getD_cons_succ, List.set_cons_zero, List.set_cons_succ, List.length_cons, List.length_nil, ji_b_0, ji_b_1, ji_n0, ji_n1, ji_rcb_iff, ji_ok8_0, ji_ok8_1, ji_ok8_2, ji_ok8_3, ji_ok8_4, kd_sI, kd_sL, kd_sR, kd_cp, gR_sI, gR_sL, gR_cp, gL_sI, gL_sR, gL_cp, gI_sL, gI_sR, gI_sI, gL_sL, Nat.reduceEqDiff, false_and, and_false, true_and, and_true, Nat.reduceAdd, Nat.reduceLT, Nat.reduceSub, Int32.reduceLT, Int32.reduceAdd, not_false_eq_true, not_true_eq_false, and_self, ji_b_n, if_true, if_false, ↓reduceIte, cz_m100, cz_m19, cz_m18, cz_m17, cz_m16, cz_m15, cz_m14, cz_m13, cz_m12, cz_m11, cz_m4, cz_m3, cz_m2, cz_m1, cz_1, cz_2, cz_3, cz_4, cz_5, cz_6, cz_7, cz_8, cz_9, cz_10, cz_11, cz_12, cz_13, cz_14, cz_15, cz_16, cz_20, cz_24, cz_30, cz_32, cz_33, cz_38, cz_40, cz_41, cz_42, cz_43, cz_45, cz_48, cz_57, cz_59, cz_60, cz_61, cz_63, cz_64, cz_72, cz_96, cz_97, cz_99, cz_100, cz_122, cz_124, cz_126, cz_160, cz_161, cz_168, cz_200, cz_255, cz_300, cz_960, cz_999, cz_1000, cz_1001, cz_1002, cz_1003, cz_1120, cz_2000, cz_2003, cz_2004, cz_2005, cz_3999, cz_9999, cz_14640, jx_l5, jx_o72, m15 h h2, h3, h4, h5, (jx_W_c hi).1, jx_W_n hi]
theorem m12 (hx : x.toInt = (i : Int)) (hi : i < 72) : ji_CL (d + 4) 12 [.retAddr 2, .int x] M = some (some (.int (jx_W i)), M) := by
  apply en_12
  simp only [s12_0, s12_0x, q12_1x, s12_4, s12_7, s12_7x, s12_8, s12_11, q12_12, s12_15, s12_16, s12_16x, s12_17, s12_20, s12_24, xIL_1, xIS_1, xQL_2, xQL_3, xAN_1, xAN_2, xAN_3, xCP_1, xC_s, xNC_I, ji_oI1, ji_oIm, kd_sC, gR_sC, gL_sC, ji_rv_s, ji_tl_s, ji_tl_n, ji_s1, ji_s2, ji_kl, List.getD_cons_zero, List.getD_cons_succ, List.set_cons_zero, List.set_cons_succ, List.length_cons, List.length_nil, ji_b_0, ji_b_1, ji_n0, ji_n1, ji_rcb_iff, ji_ok8_0, ji_ok8_1, ji_ok8_2, ji_ok8_3, ji_ok8_4, kd_sI, kd_sL, kd_sR, kd_cp, gR_sI, gR_sL, gR_cp, gL_sI, gL_sR, gL_cp, gI_sL, gI_sR, gI_sI, gL_sL, Nat.reduceEqDiff, false_and, and_false, true_and, and_true, Nat.reduceAdd, Nat.reduceLT, Nat.reduceSub, Int32.reduceLT, Int32.reduceAdd, not_false_eq_true, not_true_eq_false, and_self, ji_b_n, if_true, if_false, ↓reduceIte, cz_m100, cz_m19, cz_m18, cz_m17, cz_m16, cz_m15, cz_m14, cz_m13, cz_m12, cz_m11, cz_m4, cz_m3, cz_m2, cz_m1, cz_1, cz_2, cz_3, cz_4, cz_5, cz_6, cz_7, cz_8, cz_9, cz_10, cz_11, cz_12, cz_13, cz_14, cz_15, cz_16, cz_20, cz_24, cz_30, cz_32, cz_33, cz_38, cz_40, cz_41, cz_42, cz_43, cz_45, cz_48, cz_57, cz_59, cz_60, cz_61, cz_63, cz_64, cz_72, cz_96, cz_97, cz_99, cz_100, cz_122, cz_124, cz_126, cz_160, cz_161, cz_168, cz_200, cz_255, cz_300, cz_960, cz_999, cz_1000, cz_1001, cz_1002, cz_1003, cz_1120, cz_2000, cz_2003, cz_2004, cz_2005, cz_3999, cz_9999, cz_14640, jx_rc2, m13_2, Nat.reduceLeDiff, m14 hx hi, jx_W_n hi]
/-- a sign's place -/
def jx_fi (c : Int32) : Nat → Nat → Int32
  | 0, _ => -1
  | f + 1, i => if (ji_tx 6).getD i 0 = c then Int32.ofNat i else jx_fi c f (i + 1)
theorem m31L : ∀ (j i : Nat) (w : Int32), i + j = 8 → w.toInt = (i : Int) → ji_Ev (ji_CL d) 31 7 M [some (.retAddr 6), some (.int x), some (.int y), some (.int 8), some (.int t), some (.int w)] [] (some (.int (jx_fi t j i)), M) := by
  have t1 : (1 : Int32).toInt = 1 := rfl
  have t8 : (8 : Int32).toInt = 8 := rfl
  intro j
  induction j with
  | zero =>
    intro i w hi hw
    have h : ¬ w < 8 := by rw [vi_lt]; omega
    simp only [s31_0, s31_1, s31_2, s31_4, s31_5, s31_7, s31_9, s31_10, s31_13, s31_13x, s31_14, s31_16_4, s31_16_5, s31_16_6, s31_17, s31_19, s31_22, s31_24, q31_25, s31_31, s31_32, xIL_1, xIS_1, xQL_2, xQL_3, xAN_1, xAN_2, xAN_3, xCP_1, xC_s, xNC_I, ji_oI1, ji_oIm, kd_sC, gR_sC, gL_sC, ji_rv_s, ji_tl_s, ji_tl_n, ji_s1, ji_s2, ji_kl, List.getD_cons_zero, List.getD_cons_succ, List.set_cons_zero, List.set_cons_succ, List.length_cons, List.length_nil, ji_b_0, ji_b_1, ji_n0, ji_n1, ji_rcb_iff, ji_ok8_0, ji_ok8_1, ji_ok8_2, ji_ok8_3, ji_ok8_4, kd_sI, kd_sL, kd_sR, kd_cp, gR_sI, gR_sL, gR_cp, gL_sI, gL_sR, gL_cp, gI_sL, gI_sR, gI_sI, gL_sL, Nat.reduceEqDiff, false_and, and_false, true_and, and_true, Nat.reduceAdd, Nat.reduceLT, Nat.reduceSub, Int32.reduceLT, Int32.reduceAdd, not_false_eq_true, not_true_eq_false, and_self, ji_b_n, if_true, if_false, ↓reduceIte, cz_m100, cz_m19, cz_m18, cz_m17, cz_m16, cz_m15, cz_m14, cz_m13, cz_m12, cz_m11, cz_m4, cz_m3, cz_m2, cz_m1, cz_1, cz_2, cz_3, cz_4, cz_5, cz_6, cz_7, cz_8, cz_9, cz_10, cz_11, cz_12, cz_13, cz_14, cz_15, cz_16, cz_20, cz_24, cz_30, cz_32, cz_33, cz_38, cz_40, cz_41, cz_42, cz_43, cz_45, cz_48, cz_57, cz_59, cz_60, cz_61, cz_63, cz_64, cz_72, cz_96, cz_97, cz_99, cz_100, cz_122, cz_124, cz_126, cz_160, cz_161, cz_168, cz_200, cz_255, cz_300, cz_960, cz_999, cz_1000, cz_1001, cz_1002, cz_1003, cz_1120, cz_2000, cz_2003, cz_2004, cz_2005, cz_3999, cz_9999, cz_14640, h]
    rfl
  | succ j ih =>
    intro i w hi hw
    have h : w < 8 := by rw [vi_lt]; omega
    have h3 : vp_in w 8 := vi_in.mpr ⟨by omega, by omega⟩
    have h4 : w.toNatClampNeg = i := by rw [vi_nat]; omega
    have I := ih (i + 1) (w + 1) (by omega) (by rw [vi_add (by omega) (by omega), t1]; omega)
    by_cases k : (ji_tx 6).getD i 0 = t
    · have e : jx_fi t (j + 1) i = Int32.ofNat i := if_pos k
      rw [e, ← vi_ofn hw]
      simp only [s31_0, s31_1, s31_2, s31_4, s31_5, s31_7, s31_9, s31_10, s31_13, s31_13x, s31_14, s31_16_4, s31_16_5, s31_16_6, s31_17, s31_19, s31_22, s31_24, q31_25, s31_31, s31_32, xIL_1, xIS_1, xQL_2, xQL_3, xAN_1, xAN_2, xAN_3, xCP_1, xC_s, xNC_I, ji_oI1, ji_oIm, kd_sC, gR_sC, gL_sC, ji_rv_s, ji_tl_s, ji_tl_n, ji_s1, ji_s2, ji_kl, List.getD_cons_zero, List.getD_cons_succ, List.set_cons_zero, List.set_cons_succ, List.length_cons, List.length_nil, ji_b_0, ji_b_1, ji_n0, ji_n1, ji_rcb_iff, ji_ok8_0, ji_ok8_1, ji_ok8_2, ji_ok8_3, ji_ok8_4, kd_sI, kd_sL, kd_sR, kd_cp, gR_sI, gR_sL, gR_cp, gL_sI, gL_sR, gL_cp, gI_sL, gI_sR, gI_sI, gL_sL, Nat.reduceEqDiff, false_and, and_false, true_and, and_true, Nat.reduceAdd, Nat.reduceLT, Nat.reduceSub, Int32.reduceLT, Int32.reduceAdd, not_false_eq_true, not_true_eq_false, and_self, ji_b_n, if_true, if_false, ↓reduceIte, cz_m100, cz_m19, cz_m18, cz_m17, cz_m16, cz_m15, cz_m14, cz_m13, cz_m12, cz_m11, cz_m4, cz_m3, cz_m2, cz_m1, cz_1, cz_2, cz_3, cz_4, cz_5, cz_6, cz_7, cz_8, cz_9, cz_10, cz_11, cz_12, cz_13, cz_14, cz_15, cz_16, cz_20, cz_24, cz_30, cz_32, cz_33, cz_38, cz_40, cz_41, cz_42, cz_43, cz_45, cz_48, cz_57, cz_59, cz_60, cz_61, cz_63, cz_64, cz_72, cz_96, cz_97, cz_99, cz_100, cz_122, cz_124, cz_126, cz_160, cz_161, cz_168, cz_200, cz_255, cz_300, cz_960, cz_999, cz_1000, cz_1001, cz_1002, cz_1003, cz_1120, cz_2000, cz_2003, cz_2004, cz_2005, cz_3999, cz_9999, cz_14640, h, jx_l6, h3, h4, k]
    · have e : jx_fi t (j + 1) i = jx_fi t j (i + 1) := if_neg k
      rw [e]
      simp only [s31_0, s31_1, s31_2, s31_4, s31_5, s31_7, s31_9, s31_10, s31_13, s31_13x, s31_14, s31_16_4, s31_16_5, s31_16_6, s31_17, s31_19, s31_22, s31_24, q31_25, s31_31, s31_32, xIL_1, xIS_1, xQL_2, xQL_3, xAN_1, xAN_2, xAN_3, xCP_1, xC_s, xNC_I, ji_oI1, ji_oIm, kd_sC, gR_sC, gL_sC, ji_rv_s, ji_tl_s, ji_tl_n, ji_s1, ji_s2, ji_kl, List.getD_cons_zero, List.getD_cons_succ, List.set_cons_zero, List.set_cons_succ, List.length_cons, List.length_nil, ji_b_0, ji_b_1, ji_n0, ji_n1, ji_rcb_iff, ji_ok8_0, ji_ok8_1, ji_ok8_2, ji_ok8_3, ji_ok8_4, kd_sI, kd_sL, kd_sR, kd_cp, gR_sI, gR_sL, gR_cp, gL_sI, gL_sR, gL_cp, gI_sL, gI_sR, gI_sI, gL_sL, Nat.reduceEqDiff, false_and, and_false, true_and, and_true, Nat.reduceAdd, Nat.reduceLT, Nat.reduceSub, Int32.reduceLT, Int32.reduceAdd, not_false_eq_true, not_true_eq_false, and_self, ji_b_n, if_true, if_false, ↓reduceIte, cz_m100, cz_m19, cz_m18, cz_m17, cz_m16, cz_m15, cz_m14, cz_m13, cz_m12, cz_m11, cz_m4, cz_m3, cz_m2, cz_m1, cz_1, cz_2, cz_3, cz_4, cz_5, cz_6, cz_7, cz_8, cz_9, cz_10, cz_11, cz_12, cz_13, cz_14, cz_15, cz_16, cz_20, cz_24, cz_30, cz_32, cz_33, cz_38, cz_40, cz_41, cz_42, cz_43, cz_45, cz_48, cz_57, cz_59, cz_60, cz_61, cz_63, cz_64, cz_72, cz_96, cz_97, cz_99, cz_100, cz_122, cz_124, cz_126, cz_160, cz_161, cz_168, cz_200, cz_255, cz_300, cz_960, cz_999, cz_1000, cz_1001, cz_1002, cz_1003, cz_1120, cz_2000, cz_2003, cz_2004, cz_2005, cz_3999, cz_9999, cz_14640, h, jx_l6, h3, h4, k]
      simp only [s31_28]
      exact I
theorem m31 : ji_CL (d + 1) 31 [.retAddr 6, .int x, .int 0, .int 8] M = some (some (.int (jx_fi x.toInt8.toInt32 8 0)), M) := by
  apply en_31
  simp only [s31_0, s31_1, s31_2, s31_4, s31_5, s31_9, s31_10, s31_13, s31_13x, s31_14, s31_16_4, s31_16_5, s31_16_6, s31_17, s31_19, s31_22, s31_24, q31_25, s31_28, s31_31, s31_32, xIL_1, xIS_1, xQL_2, xQL_3, xAN_1, xAN_2, xAN_3, xCP_1, xC_s, xNC_I, ji_oI1, ji_oIm, kd_sC, gR_sC, gL_sC, ji_rv_s, ji_tl_s, ji_tl_n, ji_s1, ji_s2, ji_kl, List.getD_cons_zero, List.getD_cons_succ, List.set_cons_zero, List.set_cons_succ, List.length_cons, List.length_nil, ji_b_0, ji_b_1, ji_n0, ji_n1, ji_rcb_iff, ji_ok8_0, ji_ok8_1, ji_ok8_2, ji_ok8_3, ji_ok8_4, kd_sI, kd_sL, kd_sR, kd_cp, gR_sI, gR_sL, gR_cp, gL_sI, gL_sR, gL_cp, gI_sL, gI_sR, gI_sI, gL_sL, Nat.reduceEqDiff, false_and, and_false, true_and, and_true, Nat.reduceAdd, Nat.reduceLT, Nat.reduceSub, Int32.reduceLT, Int32.reduceAdd, not_false_eq_true, not_true_eq_false, and_self, ji_b_n, if_true, if_false, ↓reduceIte, cz_m100, cz_m19, cz_m18, cz_m17, cz_m16, cz_m15, cz_m14, cz_m13, cz_m12, cz_m11, cz_m4, cz_m3, cz_m2, cz_m1, cz_1, cz_2, cz_3, cz_4, cz_5, cz_6, cz_7, cz_8, cz_9, cz_10, cz_11, cz_12, cz_13, cz_14, cz_15, cz_16, cz_20, cz_24, cz_30, cz_32, cz_33, cz_38, cz_40, cz_41, cz_42, cz_43, cz_45, cz_48, cz_57, cz_59, cz_60, cz_61, cz_63, cz_64, cz_72, cz_96, cz_97, cz_99, cz_100, cz_122, cz_124, cz_126, cz_160, cz_161, cz_168, cz_200, cz_255, cz_300, cz_960, cz_999, cz_1000, cz_1001, cz_1002, cz_1003, cz_1120, cz_2000, cz_2003, cz_2004, cz_2005, cz_3999, cz_9999, cz_14640]
  exact m31L 8 0 0 (by omega) rfl
theorem m30 (h1 : ¬ x < 0) (h2 : ¬ 255 < x) : ji_CL (d + 1) 30 [.int x] M = some (some (.int 1), M) := by
  apply en_30
  simp only [s30_0, s30_1, s30_4, s30_5, s30_8, s30_11, s30_12, s30_15, s30_16, xIL_1, xIS_1, xQL_2, xQL_3, xAN_1, xAN_2, xAN_3, xCP_1, xC_s, xNC_I, ji_oI1, ji_oIm, kd_sC, gR_sC, gL_sC, ji_rv_s, ji_tl_s, ji_tl_n, ji_s1, ji_s2, ji_kl, List.getD_cons_zero, List.getD_cons_succ, List.set_cons_zero, List.set_cons_succ, List.length_cons, List.length_nil, ji_b_0, ji_b_1, ji_n0, ji_n1, ji_rcb_iff, ji_ok8_0, ji_ok8_1, ji_ok8_2, ji_ok8_3, ji_ok8_4, kd_sI, kd_sL, kd_sR, kd_cp, gR_sI, gR_sL, gR_cp, gL_sI, gL_sR, gL_cp, gI_sL, gI_sR, gI_sI, gL_sL, Nat.reduceEqDiff, false_and, and_false, true_and, and_true, Nat.reduceAdd, Nat.reduceLT, Nat.reduceSub, Int32.reduceLT, Int32.reduceAdd, not_false_eq_true, not_true_eq_false, and_self, ji_b_n, if_true, if_false, ↓reduceIte, cz_m100, cz_m19, cz_m18, cz_m17, cz_m16, cz_m15, cz_m14, cz_m13, cz_m12, cz_m11, cz_m4, cz_m3, cz_m2, cz_m1, cz_1, cz_2, cz_3, cz_4, cz_5, cz_6, cz_7, cz_8, cz_9, cz_10, cz_11, cz_12, cz_13, cz_14, cz_15, cz_16, cz_20, cz_24, cz_30, cz_32, cz_33, cz_38, cz_40, cz_41, cz_42, cz_43, cz_45, cz_48, cz_57, cz_59, cz_60, cz_61, cz_63, cz_64, cz_72, cz_96, cz_97, cz_99, cz_100, cz_122, cz_124, cz_126, cz_160, cz_161, cz_168, cz_200, cz_255, cz_300, cz_960, cz_999, cz_1000, cz_1001, cz_1002, cz_1003, cz_1120, cz_2000, cz_2003, cz_2004, cz_2005, cz_3999, cz_9999, cz_14640, h1, h2]
theorem m29 (h1 : ¬ x < 0) (h2 : ¬ 255 < x) : ji_CL (d + 2) 29 [.retAddr 6, .int x, .int 0, .int 8] M = some (some (.int (jx_fi x.toInt8.toInt32 8 0)), M) := by
  have e1 : ¬ (8 : Int32) < 8 := by decide
  apply en_29
  simp only [s29_0, q29_1, s29_4, s29_7, s29_8, s29_9, s29_10, s29_11, s29_14, s29_15, s29_16, s29_16x, q29_17, s29_17_4, s29_17_5, s29_17_6, s29_18, s29_21, s29_22, s29_23, s29_24, s29_27, s29_28, s29_29, s29_29x, s29_30, s29_31, s29_32, q29_33, s29_36, xIL_1, xIS_1, xQL_2, xQL_3, xAN_1, xAN_2, xAN_3, xCP_1, xC_s, xNC_I, ji_oI1, ji_oIm, kd_sC, gR_sC, gL_sC, ji_rv_s, ji_tl_s, ji_tl_n, ji_s1, ji_s2, ji_kl, List.getD_cons_zero, List.getD_cons_succ, List.set_cons_zero, List.set_cons_succ, List.length_cons, List.length_nil, ji_b_0, ji_b_1, ji_n0, ji_n1, ji_rcb_iff, ji_ok8_0, ji_ok8_1, ji_ok8_2, ji_ok8_3, ji_ok8_4, kd_sI, kd_sL, kd_sR, kd_cp, gR_sI, gR_sL, gR_cp, gL_sI, gL_sR, gL_cp, gI_sL, gI_sR, gI_sI, gL_sL, Nat.reduceEqDiff, false_and, and_false, true_and, and_true, Nat.reduceAdd, Nat.reduceLT, Nat.reduceSub, Int32.reduceLT, Int32.reduceAdd, not_false_eq_true, not_true_eq_false, and_self, ji_b_n, if_true, if_false, ↓reduceIte, cz_m100, cz_m19, cz_m18, cz_m17, cz_m16, cz_m15, cz_m14, cz_m13, cz_m12, cz_m11, cz_m4, cz_m3, cz_m2, cz_m1, cz_1, cz_2, cz_3, cz_4, cz_5, cz_6, cz_7, cz_8, cz_9, cz_10, cz_11, cz_12, cz_13, cz_14, cz_15, cz_16, cz_20, cz_24, cz_30, cz_32, cz_33, cz_38, cz_40, cz_41, cz_42, cz_43, cz_45, cz_48, cz_57, cz_59, cz_60, cz_61, cz_63, cz_64, cz_72, cz_96, cz_97, cz_99, cz_100, cz_122, cz_124, cz_126, cz_160, cz_161, cz_168, cz_200, cz_255, cz_300, cz_960, cz_999, cz_1000, cz_1001, cz_1002, cz_1003, cz_1120, cz_2000, cz_2003, cz_2004, cz_2005, cz_3999, cz_9999, cz_14640, m30 h1 h2, jx_l6, jx_o8, e1, Int32.lt_irrefl, m31]
theorem m28 (h1 : ¬ x < 0) (h2 : ¬ 255 < x) : ji_CL (d + 3) 28 [.retAddr 3, .int x, .int 0] M = some (some (.int (jx_fi x.toInt8.toInt32 8 0)), M) := by
  apply en_28
  simp only [s28_0, s28_0x, q28_1x, s28_4, s28_7, s28_7x, s28_8, s28_11, s28_12, s28_13, s28_13x, q28_14x, q28_17, s28_20, s28_23, s28_23x, s28_24, s28_27, s28_28, s28_29, s28_29x, q28_30x, s28_36, xIL_1, xIS_1, xQL_2, xQL_3, xAN_1, xAN_2, xAN_3, xCP_1, xC_s, xNC_I, ji_oI1, ji_oIm, kd_sC, gR_sC, gL_sC, ji_rv_s, ji_tl_s, ji_tl_n, ji_s1, ji_s2, ji_kl, List.getD_cons_zero, List.getD_cons_succ, List.set_cons_zero, List.set_cons_succ, List.length_cons, List.length_nil, ji_b_0, ji_b_1, ji_n0, ji_n1, ji_rcb_iff, ji_ok8_0, ji_ok8_1, ji_ok8_2, ji_ok8_3, ji_ok8_4, kd_sI, kd_sL, kd_sR, kd_cp, gR_sI, gR_sL, gR_cp, gL_sI, gL_sR, gL_cp, gI_sL, gI_sR, gI_sI, gL_sL, Nat.reduceEqDiff, false_and, and_false, true_and, and_true, Nat.reduceAdd, Nat.reduceLT, Nat.reduceSub, Int32.reduceLT, Int32.reduceAdd, not_false_eq_true, not_true_eq_false, and_self, ji_b_n, if_true, if_false, ↓reduceIte, cz_m100, cz_m19, cz_m18, cz_m17, cz_m16, cz_m15, cz_m14, cz_m13, cz_m12, cz_m11, cz_m4, cz_m3, cz_m2, cz_m1, cz_1, cz_2, cz_3, cz_4, cz_5, cz_6, cz_7, cz_8, cz_9, cz_10, cz_11, cz_12, cz_13, cz_14, cz_15, cz_16, cz_20, cz_24, cz_30, cz_32, cz_33, cz_38, cz_40, cz_41, cz_42, cz_43, cz_45, cz_48, cz_57, cz_59, cz_60, cz_61, cz_63, cz_64, cz_72, cz_96, cz_97, cz_99, cz_100, cz_122, cz_124, cz_126, cz_160, cz_161, cz_168, cz_200, cz_255, cz_300, cz_960, cz_999, cz_1000, cz_1001, cz_1002, cz_1003, cz_1120, cz_2000, cz_2003, cz_2004, cz_2005, cz_3999, cz_9999, cz_14640, jx_rc3, m13_3, m10_3, Nat.reduceLeDiff, m29 h1 h2]
theorem m27 (h1 : ¬ x < 0) (h2 : ¬ 255 < x) : ji_CL (d + 4) 27 [.retAddr 3, .int x] M = some (some (.int (jx_fi x.toInt8.toInt32 8 0)), M) := by
  apply en_27
  simp only [s27_0, s27_0x, s27_1, s27_2, q27_3x, s27_6, xIL_1, xIS_1, xQL_2, xQL_3, xAN_1, xAN_2, xAN_3, xCP_1, xC_s, xNC_I, ji_oI1, ji_oIm, kd_sC, gR_sC, gL_sC, ji_rv_s, ji_tl_s, ji_tl_n, ji_s1, ji_s2, ji_kl, List.getD_cons_zero, List.getD_cons_succ, List.set_cons_zero, List.set_cons_succ, List.length_cons, List.length_nil, ji_b_0, ji_b_1, ji_n0, ji_n1, ji_rcb_iff, ji_ok8_0, ji_ok8_1, ji_ok8_2, ji_ok8_3, ji_ok8_4, kd_sI, kd_sL, kd_sR, kd_cp, gR_sI, gR_sL, gR_cp, gL_sI, gL_sR, gL_cp, gI_sL, gI_sR, gI_sI, gL_sL, Nat.reduceEqDiff, false_and, and_false, true_and, and_true, Nat.reduceAdd, Nat.reduceLT, Nat.reduceSub, Int32.reduceLT, Int32.reduceAdd, not_false_eq_true, not_true_eq_false, and_self, ji_b_n, if_true, if_false, ↓reduceIte, cz_m100, cz_m19, cz_m18, cz_m17, cz_m16, cz_m15, cz_m14, cz_m13, cz_m12, cz_m11, cz_m4, cz_m3, cz_m2, cz_m1, cz_1, cz_2, cz_3, cz_4, cz_5, cz_6, cz_7, cz_8, cz_9, cz_10, cz_11, cz_12, cz_13, cz_14, cz_15, cz_16, cz_20, cz_24, cz_30, cz_32, cz_33, cz_38, cz_40, cz_41, cz_42, cz_43, cz_45, cz_48, cz_57, cz_59, cz_60, cz_61, cz_63, cz_64, cz_72, cz_96, cz_97, cz_99, cz_100, cz_122, cz_124, cz_126, cz_160, cz_161, cz_168, cz_200, cz_255, cz_300, cz_960, cz_999, cz_1000, cz_1001, cz_1002, cz_1003, cz_1120, cz_2000, cz_2003, cz_2004, cz_2005, cz_3999, cz_9999, cz_14640, jx_rc3, m28 h1 h2]
theorem jx_fi_S {c : Int32} : ¬ (jx_fi c 8 0 < 0) ↔ jx_S c = true := by
  have g0 : (ji_tx 6).getD 0 0 = 40 := by decide +kernel
  have g1 : (ji_tx 6).getD 1 0 = 41 := by decide +kernel
  have g2 : (ji_tx 6).getD 2 0 = 59 := by decide +kernel
  have g3 : (ji_tx 6).getD 3 0 = 43 := by decide +kernel
  have g4 : (ji_tx 6).getD 4 0 = 45 := by decide +kernel
  have g5 : (ji_tx 6).getD 5 0 = 42 := by decide +kernel
  have g6 : (ji_tx 6).getD 6 0 = 60 := by decide +kernel
  have g7 : (ji_tx 6).getD 7 0 = 61 := by decide +kernel
  simp only [jx_fi, Nat.reduceAdd, g0, g1, g2, g3, g4, g5, g6, g7]
  by_cases k0 : (40 : Int32) = c
  · subst k0; decide
  by_cases k1 : (41 : Int32) = c
  · subst k1; decide
  by_cases k2 : (59 : Int32) = c
  · subst k2; decide
  by_cases k3 : (43 : Int32) = c
  · subst k3; decide
  by_cases k4 : (45 : Int32) = c
  · subst k4; decide
  by_cases k5 : (42 : Int32) = c
  · subst k5; decide
  by_cases k6 : (60 : Int32) = c
  · subst k6; decide
  by_cases k7 : (61 : Int32) = c
  · subst k7; decide
  simp only [k0, k1, k2, k3, k4, k5, k6, k7, if_false]
  have e : ¬ ¬ ((-1 : Int32) < 0) := by decide
  have i40 : ¬ c.toInt = 40 := fun q => k0 (vi_eq.mpr q.symm)
  have i41 : ¬ c.toInt = 41 := fun q => k1 (vi_eq.mpr q.symm)
  have i59 : ¬ c.toInt = 59 := fun q => k2 (vi_eq.mpr q.symm)
  have i43 : ¬ c.toInt = 43 := fun q => k3 (vi_eq.mpr q.symm)
  have i45 : ¬ c.toInt = 45 := fun q => k4 (vi_eq.mpr q.symm)
  have i42 : ¬ c.toInt = 42 := fun q => k5 (vi_eq.mpr q.symm)
  have i60 : ¬ c.toInt = 60 := fun q => k6 (vi_eq.mpr q.symm)
  have i61 : ¬ c.toInt = 61 := fun q => k7 (vi_eq.mpr q.symm)
  unfold jx_S
  simp only [i40, i41, i59, i43, i45, i42, i60, i61, decide_false, Bool.or_false, Bool.false_eq_true, iff_false]
  exact e
/-! words -/
def jx_wl (w : Nat) : Nat := (jx_ws.getD w []).length
theorem jx_ws_W : ∀ w : Fin 12, jx_wl w.val < 6 ∧ jx_W (6 * w.val + jx_wl w.val) = 32 ∧ ∀ j : Fin 6, j.val < jx_wl w.val → jx_W (6 * w.val + j.val) = (jx_ws.getD w.val []).getD j.val 0 ∧ ¬ jx_W (6 * w.val + j.val) = 32 := by decide +kernel
theorem jx_ru_get {t : ji_F} {s k i : Nat} (hi : i < k) : (jx_ru t s k).getD i 0 = t (s + i) := by
  unfold jx_ru
  rw [List.getD_eq_getElem?_getD, List.getElem?_map, List.getElem?_range hi]
  rfl
theorem jx_ru_len {t : ji_F} {s k : Nat} : (jx_ru t s k).length = k := by
  unfold jx_ru
  rw [List.length_map, List.length_range]
theorem jx_ru_eq {t : ji_F} {s k w : Nat} (hw : w < 12) (hk : k < 6) (hl : ∀ i, i < k → ¬ t (s + i) = 32) : (∀ i, i < k → jx_W (6 * w + i) = t (s + i)) ∧ jx_W (6 * w + k) = 32 ↔ jx_ru t s k = jx_ws.getD w [] := by
  obtain ⟨a1, a2, a3⟩ := jx_ws_W ⟨w, hw⟩
  have a1 : jx_wl w < 6 := a1
  have a2 : jx_W (6 * w + jx_wl w) = 32 := a2
  have a3 : ∀ j, j < jx_wl w → jx_W (6 * w + j) = (jx_ws.getD w []).getD j 0 ∧ ¬ jx_W (6 * w + j) = 32 := fun j hj => a3 ⟨j, by omega⟩ hj
  constructor
  · rintro ⟨h1, h2⟩
    have ek : k = jx_wl w := by
      by_cases c1 : k < jx_wl w
      · exact absurd h2 (a3 k c1).2
      · by_cases c2 : jx_wl w < k
        · have := h1 _ c2
          rw [a2] at this
          exact absurd this.symm (hl _ c2)
        · omega
    apply List.ext_getElem?
    intro i
    by_cases hi : i < k
    · have e1 := jx_ru_get (t := t) (s := s) hi
      have e2 := (a3 i (by omega)).1
      rw [h1 i hi, ← e1] at e2
      rw [List.getD_eq_getElem?_getD, List.getD_eq_getElem?_getD] at e2
      have l1 : i < (jx_ru t s k).length := by rw [jx_ru_len]; exact hi
      have l2 : i < (jx_ws.getD w []).length := by show i < jx_wl w; omega
      rw [List.getElem?_eq_getElem l1, List.getElem?_eq_getElem l2] at e2 ⊢
      exact congrArg some e2
    · rw [List.getElem?_eq_none (by rw [jx_ru_len]; omega), List.getElem?_eq_none (by show jx_wl w ≤ i; omega)]
  · intro h
    have ek : k = jx_wl w := by unfold jx_wl; rw [← h, jx_ru_len]
    refine ⟨fun i hi => ?_, by rw [ek]; exact a2⟩
    rw [(a3 i (by omega)).1, ← h, jx_ru_get hi]
theorem m24L (H : jx_OK X n sc) (hst : st.toInt = (s : Int)) {w : Nat} (hw : w < 12) (hsk : s + k' ≤ n) (hk : k' < 6) {y x2 : Int32} (hy : y.toInt = 6 * w) (hx2 : x2.toInt = (k' : Int)) (hq : ∀ i, i < k' → 0 ≤ (jx_tp X (s + i)).toInt) : ∀ (j i : Nat) (v : Int32), i + j = k' → v.toInt = (i : Int) → (∀ q, q < i → jx_W (6 * w + q) = jx_tp X (s + q)) → ji_Ev (ji_CL (d + 4)) 24 42 (jx_XM X pl st tk vl op fa le sc sf) [some (.ref 5), some (.int x), some (.int x2), some (.int y), some (.int v)] [] (some (.int (ji_b ((∀ q, q < k' → jx_W (6 * w + q) = jx_tp X (s + q)) ∧ jx_W (6 * w + k') = 32))), jx_XM X pl st tk vl op fa le sc sf) := by
  have hX := H.1
  have h2 := H.2.2.1
  have hsc := H.2.2.2.2.2.2.1
  have t1 : (1 : Int32).toInt = 1 := rfl
  have e6 : ji_gI (jx_XM X pl st tk vl op fa le sc sf) 6 = ji_gI X 6 := jx_XM_o (by decide) (by omega)
  have o160 : Int32.ofNat 160 = 160 := rfl
  have t160 : (160 : Int32).toInt = 160 := rfl
  intro j
  induction j with
  | zero =>
    intro i v hi hv hF
    obtain rfl : i = k' := by omega
    have g : ¬ v < x2 := by rw [vi_lt]; omega
    have c := fun d => m12 (d := d) (M := jx_XM X pl st tk vl op fa le sc sf) (x := y + x2) (i := 6 * w + i) (by rw [vi_add (by omega) (by omega)]; omega) (by omega)
    by_cases q : jx_W (6 * w + i) = 32
    · rw [ji_b_T ⟨hF, q⟩]
      simp only [s24_0, s24_1, s24_4, s24_5, s24_8, s24_9, s24_10, s24_11, s24_13, s24_14, s24_15, s24_16, s24_18, s24_21, s24_22, s24_25, s24_26, s24_28, s24_29, q24_31x, s24_34, s24_37, s24_38, s24_39, s24_40, s24_42, s24_44, s24_45, s24_48, s24_49, s24_52, s24_54, s24_55, s24_56, q24_59, s24_60, s24_63, s24_65, s24_66, s24_68, q24_69x, s24_72, s24_73, s24_76, s24_77, s24_80, s24_82, q24_83, s24_84, s24_87, s24_88, q24_89, s24_95, s24_97, s24_98, s24_99, q24_100x, s24_103, s24_105, s24_108, s24_109, s24_112, s24_113, xIL_1, xIS_1, xQL_2, xQL_3, xAN_1, xAN_2, xAN_3, xCP_1, xC_s, xNC_I, ji_oI1, ji_oIm, kd_sC, gR_sC, gL_sC, ji_rv_s, ji_tl_s, ji_tl_n, ji_s1, ji_s2, ji_kl, List.getD_cons_zero, List.getD_cons_succ, List.set_cons_zero, List.set_cons_succ, List.length_cons, List.length_nil, ji_b_0, ji_b_1, ji_n0, ji_n1, ji_rcb_iff, ji_ok8_0, ji_ok8_1, ji_ok8_2, ji_ok8_3, ji_ok8_4, kd_sI, kd_sL, kd_sR, kd_cp, gR_sI, gR_sL, gR_cp, gL_sI, gL_sR, gL_cp, gI_sL, gI_sR, gI_sI, gL_sL, Nat.reduceEqDiff, false_and, and_false, true_and, and_true, Nat.reduceAdd, Nat.reduceLT, Nat.reduceSub, Int32.reduceLT, Int32.reduceAdd, not_false_eq_true, not_true_eq_false, and_self, ji_b_n, if_true, if_false, ↓reduceIte, cz_m100, cz_m19, cz_m18, cz_m17, cz_m16, cz_m15, cz_m14, cz_m13, cz_m12, cz_m11, cz_m4, cz_m3, cz_m2, cz_m1, cz_1, cz_2, cz_3, cz_4, cz_5, cz_6, cz_7, cz_8, cz_9, cz_10, cz_11, cz_12, cz_13, cz_14, cz_15, cz_16, cz_20, cz_24, cz_30, cz_32, cz_33, cz_38, cz_40, cz_41, cz_42, cz_43, cz_45, cz_48, cz_57, cz_59, cz_60, cz_61, cz_63, cz_64, cz_72, cz_96, cz_97, cz_99, cz_100, cz_122, cz_124, cz_126, cz_160, cz_161, cz_168, cz_200, cz_255, cz_300, cz_960, cz_999, cz_1000, cz_1001, cz_1002, cz_1003, cz_1120, cz_2000, cz_2003, cz_2004, cz_2005, cz_3999, cz_9999, cz_14640, g, jx_rc2, c, q]
    · rw [ji_b_F (fun u => q u.2)]
      simp only [s24_0, s24_1, s24_4, s24_5, s24_8, s24_9, s24_10, s24_11, s24_13, s24_14, s24_15, s24_16, s24_18, s24_21, s24_22, s24_25, s24_26, s24_28, s24_29, q24_31x, s24_34, s24_37, s24_38, s24_39, s24_40, s24_42, s24_44, s24_45, s24_48, s24_49, s24_52, s24_54, s24_55, s24_56, q24_59, s24_60, s24_63, s24_65, s24_66, s24_68, q24_69x, s24_72, s24_73, s24_76, s24_77, s24_80, s24_82, q24_83, s24_84, s24_87, s24_88, q24_89, s24_95, s24_97, s24_98, s24_99, q24_100x, s24_103, s24_105, s24_108, s24_109, s24_112, s24_113, xIL_1, xIS_1, xQL_2, xQL_3, xAN_1, xAN_2, xAN_3, xCP_1, xC_s, xNC_I, ji_oI1, ji_oIm, kd_sC, gR_sC, gL_sC, ji_rv_s, ji_tl_s, ji_tl_n, ji_s1, ji_s2, ji_kl, List.getD_cons_zero, List.getD_cons_succ, List.set_cons_zero, List.set_cons_succ, List.length_cons, List.length_nil, ji_b_0, ji_b_1, ji_n0, ji_n1, ji_rcb_iff, ji_ok8_0, ji_ok8_1, ji_ok8_2, ji_ok8_3, ji_ok8_4, kd_sI, kd_sL, kd_sR, kd_cp, gR_sI, gR_sL, gR_cp, gL_sI, gL_sR, gL_cp, gI_sL, gI_sR, gI_sI, gL_sL, Nat.reduceEqDiff, false_and, and_false, true_and, and_true, Nat.reduceAdd, Nat.reduceLT, Nat.reduceSub, Int32.reduceLT, Int32.reduceAdd, not_false_eq_true, not_true_eq_false, and_self, ji_b_n, if_true, if_false, ↓reduceIte, cz_m100, cz_m19, cz_m18, cz_m17, cz_m16, cz_m15, cz_m14, cz_m13, cz_m12, cz_m11, cz_m4, cz_m3, cz_m2, cz_m1, cz_1, cz_2, cz_3, cz_4, cz_5, cz_6, cz_7, cz_8, cz_9, cz_10, cz_11, cz_12, cz_13, cz_14, cz_15, cz_16, cz_20, cz_24, cz_30, cz_32, cz_33, cz_38, cz_40, cz_41, cz_42, cz_43, cz_45, cz_48, cz_57, cz_59, cz_60, cz_61, cz_63, cz_64, cz_72, cz_96, cz_97, cz_99, cz_100, cz_122, cz_124, cz_126, cz_160, cz_161, cz_168, cz_200, cz_255, cz_300, cz_960, cz_999, cz_1000, cz_1001, cz_1002, cz_1003, cz_1120, cz_2000, cz_2003, cz_2004, cz_2005, cz_3999, cz_9999, cz_14640, g, jx_rc2, c, q]
  | succ j ih =>
    intro i v hi hv hF
    have g : v < x2 := by rw [vi_lt]; omega
    have c := fun d => m12 (d := d) (M := jx_XM X pl st tk vl op fa le sc sf) (x := y + v) (i := 6 * w + i) (by rw [vi_add (by omega) (by omega)]; omega) (by omega)
    have es : (st + v).toInt = ((s + i : Nat) : Int) := by rw [vi_add (by omega) (by omega)]; omega
    have g2 : st + v < 160 := by rw [vi_lt]; omega
    have g3 : vp_in (st + v) 160 := vi_in.mpr ⟨by omega, by omega⟩
    have g4 : (st + v).toNatClampNeg = s + i := by rw [vi_nat]; omega
    have id := jx_tp_id H (i := s + i) (by omega) (hq i (by omega))
    by_cases q : jx_W (6 * w + i) = jx_tp X (s + i)
    · have I := ih (i + 1) (v + 1) (by omega) (by rw [vi_add (by omega) (by omega), t1]; omega) (fun q' hq' => by
        by_cases e : q' = i
        · rw [e]; exact q
        · exact hF q' (by omega))
      simp only [s24_0, s24_1, s24_4, s24_5, s24_8, s24_9, s24_10, s24_11, s24_13, s24_14, s24_15, s24_16, s24_18, s24_21, s24_22, s24_25, s24_26, s24_28, s24_29, q24_31x, s24_34, s24_37, s24_38, s24_39, s24_40, s24_42, s24_44, s24_45, s24_48, s24_49, s24_52, s24_54, s24_55, s24_56, q24_59, s24_60, s24_63, s24_65, s24_66, s24_68, q24_69x, s24_72, s24_73, s24_76, s24_77, s24_80, s24_82, q24_83, s24_84, s24_87, s24_88, q24_89, s24_95, s24_97, s24_98, s24_99, q24_100x, s24_103, s24_105, s24_108, s24_109, s24_112, s24_113, xIL_1, xIS_1, xQL_2, xQL_3, xAN_1, xAN_2, xAN_3, xCP_1, xC_s, xNC_I, ji_oI1, ji_oIm, kd_sC, gR_sC, gL_sC, ji_rv_s, ji_tl_s, ji_tl_n, ji_s1, ji_s2, ji_kl, List.getD_cons_zero, List.getD_cons_succ, List.set_cons_zero, List.set_cons_succ, List.length_cons, List.length_nil, ji_b_0, ji_b_1, ji_n0, ji_n1, ji_rcb_iff, ji_ok8_0, ji_ok8_1, ji_ok8_2, ji_ok8_3, ji_ok8_4, kd_sI, kd_sL, kd_sR, kd_cp, gR_sI, gR_sL, gR_cp, gL_sI, gL_sR, gL_cp, gI_sL, gI_sR, gI_sI, gL_sL, Nat.reduceEqDiff, false_and, and_false, true_and, and_true, Nat.reduceAdd, Nat.reduceLT, Nat.reduceSub, Int32.reduceLT, Int32.reduceAdd, not_false_eq_true, not_true_eq_false, and_self, ji_b_n, if_true, if_false, ↓reduceIte, cz_m100, cz_m19, cz_m18, cz_m17, cz_m16, cz_m15, cz_m14, cz_m13, cz_m12, cz_m11, cz_m4, cz_m3, cz_m2, cz_m1, cz_1, cz_2, cz_3, cz_4, cz_5, cz_6, cz_7, cz_8, cz_9, cz_10, cz_11, cz_12, cz_13, cz_14, cz_15, cz_16, cz_20, cz_24, cz_30, cz_32, cz_33, cz_38, cz_40, cz_41, cz_42, cz_43, cz_45, cz_48, cz_57, cz_59, cz_60, cz_61, cz_63, cz_64, cz_72, cz_96, cz_97, cz_99, cz_100, cz_122, cz_124, cz_126, cz_160, cz_161, cz_168, cz_200, cz_255, cz_300, cz_960, cz_999, cz_1000, cz_1001, cz_1002, cz_1003, cz_1120, cz_2000, cz_2003, cz_2004, cz_2005, cz_3999, cz_9999, cz_14640, jx_XM_kd, jx_XM_gR, xk_5 hX, xr_5_0 hX, xk_6 hX, jx_XM_st, o160, g, g2, g3, g4, jx_rc2, c, e6, ← id, q]
      simp only [s24_92]
      exact I
    · rw [ji_b_F (fun u => q (u.1 i (by omega)))]
      simp only [s24_0, s24_1, s24_4, s24_5, s24_8, s24_9, s24_10, s24_11, s24_13, s24_14, s24_15, s24_16, s24_18, s24_21, s24_22, s24_25, s24_26, s24_28, s24_29, q24_31x, s24_34, s24_37, s24_38, s24_39, s24_40, s24_42, s24_44, s24_45, s24_48, s24_49, s24_52, s24_54, s24_55, s24_56, q24_59, s24_60, s24_63, s24_65, s24_66, s24_68, q24_69x, s24_72, s24_73, s24_76, s24_77, s24_80, s24_82, q24_83, s24_84, s24_87, s24_88, q24_89, s24_95, s24_97, s24_98, s24_99, q24_100x, s24_103, s24_105, s24_108, s24_109, s24_112, s24_113, xIL_1, xIS_1, xQL_2, xQL_3, xAN_1, xAN_2, xAN_3, xCP_1, xC_s, xNC_I, ji_oI1, ji_oIm, kd_sC, gR_sC, gL_sC, ji_rv_s, ji_tl_s, ji_tl_n, ji_s1, ji_s2, ji_kl, List.getD_cons_zero, List.getD_cons_succ, List.set_cons_zero, List.set_cons_succ, List.length_cons, List.length_nil, ji_b_0, ji_b_1, ji_n0, ji_n1, ji_rcb_iff, ji_ok8_0, ji_ok8_1, ji_ok8_2, ji_ok8_3, ji_ok8_4, kd_sI, kd_sL, kd_sR, kd_cp, gR_sI, gR_sL, gR_cp, gL_sI, gL_sR, gL_cp, gI_sL, gI_sR, gI_sI, gL_sL, Nat.reduceEqDiff, false_and, and_false, true_and, and_true, Nat.reduceAdd, Nat.reduceLT, Nat.reduceSub, Int32.reduceLT, Int32.reduceAdd, not_false_eq_true, not_true_eq_false, and_self, ji_b_n, if_true, if_false, ↓reduceIte, cz_m100, cz_m19, cz_m18, cz_m17, cz_m16, cz_m15, cz_m14, cz_m13, cz_m12, cz_m11, cz_m4, cz_m3, cz_m2, cz_m1, cz_1, cz_2, cz_3, cz_4, cz_5, cz_6, cz_7, cz_8, cz_9, cz_10, cz_11, cz_12, cz_13, cz_14, cz_15, cz_16, cz_20, cz_24, cz_30, cz_32, cz_33, cz_38, cz_40, cz_41, cz_42, cz_43, cz_45, cz_48, cz_57, cz_59, cz_60, cz_61, cz_63, cz_64, cz_72, cz_96, cz_97, cz_99, cz_100, cz_122, cz_124, cz_126, cz_160, cz_161, cz_168, cz_200, cz_255, cz_300, cz_960, cz_999, cz_1000, cz_1001, cz_1002, cz_1003, cz_1120, cz_2000, cz_2003, cz_2004, cz_2005, cz_3999, cz_9999, cz_14640, jx_XM_kd, jx_XM_gR, xk_5 hX, xr_5_0 hX, xk_6 hX, jx_XM_st, o160, g, g2, g3, g4, jx_rc2, c, e6, ← id, q]
end JIV
