/-! ===== what a part comes to: both ===== -/
def jx_fx (mo ink pa wo age si k : Int32) : Int32 := if k = 0 then mo else if k = 1 then ink else if k = 2 then pa else if k = 3 then wo else if k = 4 then age else si
/-- of the model's book -/
def jx_fN (N : ji_M) (b : Nat) : Int32 → Int32 := jx_fx (ji_gI N 5 b) (ji_gI N 2 b) (ji_gI N 1 b) (ji_gI N 4 b) (ji_gI N 0 0 - ji_gI N 8 b) (ji_gI N 3 b)
section JIV
variable {X Y N M : ji_M} {P : ji_P} {x y z v k : Int32} {f g sf t : ji_F} {d a b r c m s p n i j sc ec q l en ρ : Nat} {o : Option Value × ji_M} {F : Int32 → Int32} {σ : List Int32 × List Int32 × List Int32}
theorem m77 (S : ji_Stk M s r c) : ji_CL (d + 2) 77 [.ref s, .int x, .int k] M = some (some (.int (jx_fx (ji_at M r c 8 x 5) (ji_at M r c 8 x 2) (ji_at M r c 8 x 1) (ji_at M r c 8 x 4) (ji_gI M s 1 - ji_at M r c 8 x 7) (ji_at M r c 8 x 3) k)), M) := by
  apply en_77
  unfold jx_fx
  by_cases k0 : k = 0
  · simp only [s77_0, s77_1, s77_36, s77_37, s77_40, s77_41, q77_42, s77_45, s77_46, s77_47, s77_50, s77_51, q77_52, s77_55, s77_56, s77_57, s77_60, s77_61, q77_62, s77_65, s77_66, s77_67, s77_70, s77_71, q77_72, s77_75, s77_76, s77_77, s77_80, s77_81, s77_84, s77_85, q77_87, s77_90, s77_91, s77_92, s77_93, s77_96, s77_97, q77_98, s77_101, xIL_1, xIS_1, xQL_2, xQL_3, xAN_1, xAN_2, xAN_3, xCP_1, xC_s, xNC_I, ji_oI1, ji_oIm, kd_sC, gR_sC, gL_sC, ji_rv_s, ji_tl_s, ji_tl_n, ji_s1, ji_s2, ji_kl, List.getD_cons_zero, List.getD_cons_succ, List.set_cons_zero, List.set_cons_succ, List.length_cons, List.length_nil, ji_b_0, ji_b_1, ji_n0, ji_n1, ji_rcb_iff, ji_ok8_0, ji_ok8_1, ji_ok8_2, ji_ok8_3, ji_ok8_4, kd_sI, kd_sL, kd_sR, kd_cp, gR_sI, gR_sL, gR_cp, gL_sI, gL_sR, gL_cp, gI_sL, gI_sR, gI_sI, gL_sL, Nat.reduceEqDiff, false_and, and_false, true_and, and_true, Nat.reduceAdd, Nat.reduceLT, Nat.reduceSub, Int32.reduceLT, Int32.reduceAdd, not_false_eq_true, not_true_eq_false, and_self, ji_b_n, if_true, if_false, ↓reduceIte, cz_m100, cz_m19, cz_m18, cz_m17, cz_m16, cz_m15, cz_m14, cz_m13, cz_m12, cz_m11, cz_m4, cz_m3, cz_m2, cz_m1, cz_1, cz_2, cz_3, cz_4, cz_5, cz_6, cz_7, cz_8, cz_9, cz_10, cz_11, cz_12, cz_13, cz_14, cz_15, cz_16, cz_20, cz_24, cz_30, cz_32, cz_33, cz_38, cz_40, cz_41, cz_42, cz_43, cz_45, cz_48, cz_57, cz_59, cz_60, cz_61, cz_63, cz_64, cz_72, cz_96, cz_97, cz_99, cz_100, cz_122, cz_124, cz_126, cz_160, cz_161, cz_168, cz_200, cz_255, cz_300, cz_960, cz_999, cz_1000, cz_1001, cz_1002, cz_1003, cz_1120, cz_2000, cz_2003, cz_2004, cz_2005, cz_3999, cz_9999, cz_14640, S.1, S.2.1, S.2.2.1, m49 S.2.2, eq_true k0]
  by_cases k1 : k = 1
  · simp only [s77_0, s77_1, s77_36, s77_37, s77_40, s77_41, q77_42, s77_45, s77_46, s77_47, s77_50, s77_51, q77_52, s77_55, s77_56, s77_57, s77_60, s77_61, q77_62, s77_65, s77_66, s77_67, s77_70, s77_71, q77_72, s77_75, s77_76, s77_77, s77_80, s77_81, s77_84, s77_85, q77_87, s77_90, s77_91, s77_92, s77_93, s77_96, s77_97, q77_98, s77_101, xIL_1, xIS_1, xQL_2, xQL_3, xAN_1, xAN_2, xAN_3, xCP_1, xC_s, xNC_I, ji_oI1, ji_oIm, kd_sC, gR_sC, gL_sC, ji_rv_s, ji_tl_s, ji_tl_n, ji_s1, ji_s2, ji_kl, List.getD_cons_zero, List.getD_cons_succ, List.set_cons_zero, List.set_cons_succ, List.length_cons, List.length_nil, ji_b_0, ji_b_1, ji_n0, ji_n1, ji_rcb_iff, ji_ok8_0, ji_ok8_1, ji_ok8_2, ji_ok8_3, ji_ok8_4, kd_sI, kd_sL, kd_sR, kd_cp, gR_sI, gR_sL, gR_cp, gL_sI, gL_sR, gL_cp, gI_sL, gI_sR, gI_sI, gL_sL, Nat.reduceEqDiff, false_and, and_false, true_and, and_true, Nat.reduceAdd, Nat.reduceLT, Nat.reduceSub, Int32.reduceLT, Int32.reduceAdd, not_false_eq_true, not_true_eq_false, and_self, ji_b_n, if_true, if_false, ↓reduceIte, cz_m100, cz_m19, cz_m18, cz_m17, cz_m16, cz_m15, cz_m14, cz_m13, cz_m12, cz_m11, cz_m4, cz_m3, cz_m2, cz_m1, cz_1, cz_2, cz_3, cz_4, cz_5, cz_6, cz_7, cz_8, cz_9, cz_10, cz_11, cz_12, cz_13, cz_14, cz_15, cz_16, cz_20, cz_24, cz_30, cz_32, cz_33, cz_38, cz_40, cz_41, cz_42, cz_43, cz_45, cz_48, cz_57, cz_59, cz_60, cz_61, cz_63, cz_64, cz_72, cz_96, cz_97, cz_99, cz_100, cz_122, cz_124, cz_126, cz_160, cz_161, cz_168, cz_200, cz_255, cz_300, cz_960, cz_999, cz_1000, cz_1001, cz_1002, cz_1003, cz_1120, cz_2000, cz_2003, cz_2004, cz_2005, cz_3999, cz_9999, cz_14640, S.1, S.2.1, S.2.2.1, m49 S.2.2, k0, eq_true k1]
  by_cases k2 : k = 2
  · simp only [s77_0, s77_1, s77_36, s77_37, s77_40, s77_41, q77_42, s77_45, s77_46, s77_47, s77_50, s77_51, q77_52, s77_55, s77_56, s77_57, s77_60, s77_61, q77_62, s77_65, s77_66, s77_67, s77_70, s77_71, q77_72, s77_75, s77_76, s77_77, s77_80, s77_81, s77_84, s77_85, q77_87, s77_90, s77_91, s77_92, s77_93, s77_96, s77_97, q77_98, s77_101, xIL_1, xIS_1, xQL_2, xQL_3, xAN_1, xAN_2, xAN_3, xCP_1, xC_s, xNC_I, ji_oI1, ji_oIm, kd_sC, gR_sC, gL_sC, ji_rv_s, ji_tl_s, ji_tl_n, ji_s1, ji_s2, ji_kl, List.getD_cons_zero, List.getD_cons_succ, List.set_cons_zero, List.set_cons_succ, List.length_cons, List.length_nil, ji_b_0, ji_b_1, ji_n0, ji_n1, ji_rcb_iff, ji_ok8_0, ji_ok8_1, ji_ok8_2, ji_ok8_3, ji_ok8_4, kd_sI, kd_sL, kd_sR, kd_cp, gR_sI, gR_sL, gR_cp, gL_sI, gL_sR, gL_cp, gI_sL, gI_sR, gI_sI, gL_sL, Nat.reduceEqDiff, false_and, and_false, true_and, and_true, Nat.reduceAdd, Nat.reduceLT, Nat.reduceSub, Int32.reduceLT, Int32.reduceAdd, not_false_eq_true, not_true_eq_false, and_self, ji_b_n, if_true, if_false, ↓reduceIte, cz_m100, cz_m19, cz_m18, cz_m17, cz_m16, cz_m15, cz_m14, cz_m13, cz_m12, cz_m11, cz_m4, cz_m3, cz_m2, cz_m1, cz_1, cz_2, cz_3, cz_4, cz_5, cz_6, cz_7, cz_8, cz_9, cz_10, cz_11, cz_12, cz_13, cz_14, cz_15, cz_16, cz_20, cz_24, cz_30, cz_32, cz_33, cz_38, cz_40, cz_41, cz_42, cz_43, cz_45, cz_48, cz_57, cz_59, cz_60, cz_61, cz_63, cz_64, cz_72, cz_96, cz_97, cz_99, cz_100, cz_122, cz_124, cz_126, cz_160, cz_161, cz_168, cz_200, cz_255, cz_300, cz_960, cz_999, cz_1000, cz_1001, cz_1002, cz_1003, cz_1120, cz_2000, cz_2003, cz_2004, cz_2005, cz_3999, cz_9999, cz_14640, S.1, S.2.1, S.2.2.1, m49 S.2.2, k0, k1, eq_true k2]
  by_cases k3 : k = 3
  · simp only [s77_0, s77_1, s77_36, s77_37, s77_40, s77_41, q77_42, s77_45, s77_46, s77_47, s77_50, s77_51, q77_52, s77_55, s77_56, s77_57, s77_60, s77_61, q77_62, s77_65, s77_66, s77_67, s77_70, s77_71, q77_72, s77_75, s77_76, s77_77, s77_80, s77_81, s77_84, s77_85, q77_87, s77_90, s77_91, s77_92, s77_93, s77_96, s77_97, q77_98, s77_101, xIL_1, xIS_1, xQL_2, xQL_3, xAN_1, xAN_2, xAN_3, xCP_1, xC_s, xNC_I, ji_oI1, ji_oIm, kd_sC, gR_sC, gL_sC, ji_rv_s, ji_tl_s, ji_tl_n, ji_s1, ji_s2, ji_kl, List.getD_cons_zero, List.getD_cons_succ, List.set_cons_zero, List.set_cons_succ, List.length_cons, List.length_nil, ji_b_0, ji_b_1, ji_n0, ji_n1, ji_rcb_iff, ji_ok8_0, ji_ok8_1, ji_ok8_2, ji_ok8_3, ji_ok8_4, kd_sI, kd_sL, kd_sR, kd_cp, gR_sI, gR_sL, gR_cp, gL_sI, gL_sR, gL_cp, gI_sL, gI_sR, gI_sI, gL_sL, Nat.reduceEqDiff, false_and, and_false, true_and, and_true, Nat.reduceAdd, Nat.reduceLT, Nat.reduceSub, Int32.reduceLT, Int32.reduceAdd, not_false_eq_true, not_true_eq_false, and_self, ji_b_n, if_true, if_false, ↓reduceIte, cz_m100, cz_m19, cz_m18, cz_m17, cz_m16, cz_m15, cz_m14, cz_m13, cz_m12, cz_m11, cz_m4, cz_m3, cz_m2, cz_m1, cz_1, cz_2, cz_3, cz_4, cz_5, cz_6, cz_7, cz_8, cz_9, cz_10, cz_11, cz_12, cz_13, cz_14, cz_15, cz_16, cz_20, cz_24, cz_30, cz_32, cz_33, cz_38, cz_40, cz_41, cz_42, cz_43, cz_45, cz_48, cz_57, cz_59, cz_60, cz_61, cz_63, cz_64, cz_72, cz_96, cz_97, cz_99, cz_100, cz_122, cz_124, cz_126, cz_160, cz_161, cz_168, cz_200, cz_255, cz_300, cz_960, cz_999, cz_1000, cz_1001, cz_1002, cz_1003, cz_1120, cz_2000, cz_2003, cz_2004, cz_2005, cz_3999, cz_9999, cz_14640, S.1, S.2.1, S.2.2.1, m49 S.2.2, k0, k1, k2, eq_true k3]
  by_cases k4 : k = 4
  · simp only [s77_0, s77_1, s77_36, s77_37, s77_40, s77_41, q77_42, s77_45, s77_46, s77_47, s77_50, s77_51, q77_52, s77_55, s77_56, s77_57, s77_60, s77_61, q77_62, s77_65, s77_66, s77_67, s77_70, s77_71, q77_72, s77_75, s77_76, s77_77, s77_80, s77_81, s77_84, s77_85, q77_87, s77_90, s77_91, s77_92, s77_93, s77_96, s77_97, q77_98, s77_101, xIL_1, xIS_1, xQL_2, xQL_3, xAN_1, xAN_2, xAN_3, xCP_1, xC_s, xNC_I, ji_oI1, ji_oIm, kd_sC, gR_sC, gL_sC, ji_rv_s, ji_tl_s, ji_tl_n, ji_s1, ji_s2, ji_kl, List.getD_cons_zero, List.getD_cons_succ, List.set_cons_zero, List.set_cons_succ, List.length_cons, List.length_nil, ji_b_0, ji_b_1, ji_n0, ji_n1, ji_rcb_iff, ji_ok8_0, ji_ok8_1, ji_ok8_2, ji_ok8_3, ji_ok8_4, kd_sI, kd_sL, kd_sR, kd_cp, gR_sI, gR_sL, gR_cp, gL_sI, gL_sR, gL_cp, gI_sL, gI_sR, gI_sI, gL_sL, Nat.reduceEqDiff, false_and, and_false, true_and, and_true, Nat.reduceAdd, Nat.reduceLT, Nat.reduceSub, Int32.reduceLT, Int32.reduceAdd, not_false_eq_true, not_true_eq_false, and_self, ji_b_n, if_true, if_false, ↓reduceIte, cz_m100, cz_m19, cz_m18, cz_m17, cz_m16, cz_m15, cz_m14, cz_m13, cz_m12, cz_m11, cz_m4, cz_m3, cz_m2, cz_m1, cz_1, cz_2, cz_3, cz_4, cz_5, cz_6, cz_7, cz_8, cz_9, cz_10, cz_11, cz_12, cz_13, cz_14, cz_15, cz_16, cz_20, cz_24, cz_30, cz_32, cz_33, cz_38, cz_40, cz_41, cz_42, cz_43, cz_45, cz_48, cz_57, cz_59, cz_60, cz_61, cz_63, cz_64, cz_72, cz_96, cz_97, cz_99, cz_100, cz_122, cz_124, cz_126, cz_160, cz_161, cz_168, cz_200, cz_255, cz_300, cz_960, cz_999, cz_1000, cz_1001, cz_1002, cz_1003, cz_1120, cz_2000, cz_2003, cz_2004, cz_2005, cz_3999, cz_9999, cz_14640, S.1, S.2.1, S.2.2.1, m49 S.2.2, k0, k1, k2, k3, eq_true k4]
  simp only [s77_0, s77_1, s77_36, s77_37, s77_40, s77_41, q77_42, s77_45, s77_46, s77_47, s77_50, s77_51, q77_52, s77_55, s77_56, s77_57, s77_60, s77_61, q77_62, s77_65, s77_66, s77_67, s77_70, s77_71, q77_72, s77_75, s77_76, s77_77, s77_80, s77_81, s77_84, s77_85, q77_87, s77_90, s77_91, s77_92, s77_93, s77_96, s77_97, q77_98, s77_101, xIL_1, xIS_1, xQL_2, xQL_3, xAN_1, xAN_2, xAN_3, xCP_1, xC_s, xNC_I, ji_oI1, ji_oIm, kd_sC, gR_sC, gL_sC, ji_rv_s, ji_tl_s, ji_tl_n, ji_s1, ji_s2, ji_kl, List.getD_cons_zero, List.getD_cons_succ, List.set_cons_zero, List.set_cons_succ, List.length_cons, List.length_nil, ji_b_0, ji_b_1, ji_n0, ji_n1, ji_rcb_iff, ji_ok8_0, ji_ok8_1, ji_ok8_2, ji_ok8_3, ji_ok8_4, kd_sI, kd_sL, kd_sR, kd_cp, gR_sI, gR_sL, gR_cp, gL_sI, gL_sR, gL_cp, gI_sL, gI_sR, gI_sI, gL_sL, Nat.reduceEqDiff, false_and, and_false, true_and, and_true, Nat.reduceAdd, Nat.reduceLT, Nat.reduceSub, Int32.reduceLT, Int32.reduceAdd, not_false_eq_true, not_true_eq_false, and_self, ji_b_n, if_true, if_false, ↓reduceIte, cz_m100, cz_m19, cz_m18, cz_m17, cz_m16, cz_m15, cz_m14, cz_m13, cz_m12, cz_m11, cz_m4, cz_m3, cz_m2, cz_m1, cz_1, cz_2, cz_3, cz_4, cz_5, cz_6, cz_7, cz_8, cz_9, cz_10, cz_11, cz_12, cz_13, cz_14, cz_15, cz_16, cz_20, cz_24, cz_30, cz_32, cz_33, cz_38, cz_40, cz_41, cz_42, cz_43, cz_45, cz_48, cz_57, cz_59, cz_60, cz_61, cz_63, cz_64, cz_72, cz_96, cz_97, cz_99, cz_100, cz_122, cz_124, cz_126, cz_160, cz_161, cz_168, cz_200, cz_255, cz_300, cz_960, cz_999, cz_1000, cz_1001, cz_1002, cz_1003, cz_1120, cz_2000, cz_2003, cz_2004, cz_2005, cz_3999, cz_9999, cz_14640, S.1, S.2.1, S.2.2.1, m49 S.2.2, k0, k1, k2, k3, k4]
theorem xs_stk (S : ji_Stk X s r c) (hs : s ≠ 4 ∧ s ≠ 22) (hr : r ≠ 4 ∧ r ≠ 22) (hc : c ≠ 4 ∧ c ≠ 22) : ji_Stk (jx_XS X f n) s r c ∧ (∀ x y, ji_at (jx_XS X f n) r c 8 x y = ji_at X r c 8 x y) ∧ ji_gI (jx_XS X f n) s 1 = ji_gI X s 1 := by
  have er := xs_a (X := X) (f := f) (n := n) hr.1 hr.2
  have ec := xs_a (X := X) (f := f) (n := n) hc.1 hc.2
  have es := xs_a (X := X) (f := f) (n := n) hs.1 hs.2
  refine ⟨⟨S.1, S.2.1, ?_⟩, fun x y => ?_, by rw [es]⟩
  · have := S.2.2
    unfold ji_Rw at this ⊢
    rw [er]
    exact this
  · unfold ji_at
    rw [er, ec]
theorem xs_0 : jx_XS X (ji_gI X 22) 0 = ji_sI X 4 5 0 := by
  unfold jx_XS
  rw [sC_self]
  rfl
/-- what the class holds of rule ρ -/
def jx_hl (X : ji_M) (ρ : Nat) (σ : List Int32 × List Int32 × List Int32) : Prop := ji_gR X 8 ρ = some (9 + ρ) ∧ ji_gR X 15 ρ = some (16 + ρ) ∧ ji_kd X (9 + ρ) = some (1, 160) ∧ ji_kd X (16 + ρ) = some (1, 3) ∧ ji_hld (ji_gI X (9 + ρ)) (ji_gI X (16 + ρ)) σ
theorem m74 (hX : ji_XF X) (S : ji_Stk X s r c) (hs : s ≠ 4 ∧ s ≠ 22) (hr : r ≠ 4 ∧ r ≠ 22) (hc : c ≠ 4 ∧ c ≠ 22) (hρ : ρ ≤ 5) (h7 : ji_gI X 4 7 = Int32.ofNat ρ) (h6 : Int32.ofNat ρ < ji_gI X 4 6) (H : jx_hl X ρ σ) (hp : p ≤ 2) : ∃ f' n', ∀ d, ji_CL (d + 3) 74 [.ref 4, .ref s, .int x, .int (Int32.ofNat p)] X = some (some (.int (jx_v (jx_fx (ji_at X r c 8 x 5) (ji_at X r c 8 x 2) (ji_at X r c 8 x 1) (ji_at X r c 8 x 4) (ji_gI X s 1 - ji_at X r c 8 x 7) (ji_at X r c 8 x 3)) (jx_pt σ p))), jx_XS X f' n') := by
  obtain ⟨sa, sb, sd⟩ := σ
  obtain ⟨g1, g2, g3, g4, g5, g6, g7, g8, g9⟩ := H
  dsimp only at g5 g6 g7 g8 g9
  have eρ := vi_nn (n := ρ) (by omega)
  have nρ : ¬ Int32.ofNat ρ < 0 := by
    have : (0 : Int32).toInt = 0 := rfl
    rw [vi_lt]; omega
  have zρ : vp_in (Int32.ofNat ρ) 6 := vi_in.mpr ⟨by omega, by omega⟩
  have zρ2 : (Int32.ofNat ρ).toNatClampNeg = ρ := by rw [vi_nat, eρ]; exact Int.toNat_natCast _
  have ep := vi_nn (n := p) (by omega)
  have zp : vp_in (Int32.ofNat p) 3 := vi_in.mpr ⟨by omega, by omega⟩
  have zp2 : (Int32.ofNat p).toNatClampNeg = p := by rw [vi_nat, ep]; exact Int.toNat_natCast _
  have ip : ji_in (Int32.ofNat p) 0 2 := by
    have h0 : (0 : Int32).toInt = 0 := rfl
    have h2 : (2 : Int32).toInt = 2 := rfl
    rw [vi_inb]; omega
  have e160 := vi_nn (n := 160) (by omega)
  have h0 : (0 : Int32).toInt = 0 := rfl
  obtain ⟨e, e1, e2⟩ : ∃ e, ji_gI X (16 + ρ) p = Int32.ofNat e ∧ e = (if p = 0 then sa.length else if p = 1 then sa.length + sb.length else sa.length + sb.length + sd.length) := by
    refine ⟨_, ?_, rfl⟩
    have hp3 : p = 0 ∨ p = 1 ∨ p = 2 := by omega
    rcases hp3 with rfl | rfl | rfl
    · rw [if_pos rfl, vi_eq, vi_nn (by omega)]; exact g6
    · rw [if_neg (by omega), if_pos rfl, vi_eq, vi_nn (by omega)]; exact g7
    · rw [if_neg (by omega), if_neg (by omega), vi_eq, vi_nn (by omega)]; exact g8
  have ebb : e ≤ 160 := by
    rw [e2]
    by_cases p0 : p = 0
    · rw [if_pos p0]; omega
    · rw [if_neg p0]
      by_cases p1 : p = 1
      · rw [if_pos p1]; omega
      · rw [if_neg p1]; omega
  have ee := vi_nn (n := e) (by omega)
  have hmin : (if Int32.ofNat e < Int32.ofNat 160 then Int32.ofNat e else Int32.ofNat 160) = Int32.ofNat e := by
    by_cases q : Int32.ofNat e < Int32.ofNat 160
    · rw [if_pos q]
    · rw [if_neg q]
      rw [vi_lt] at q
      have : e = 160 := by omega
      rw [this]
  have hF : ∀ (k : Int32) (f : ji_F) (n d : Nat), ji_CL (d + 2) 77 [.ref s, .int x, .int k] (jx_XS X f n) = some (some (.int (jx_fx (ji_at X r c 8 x 5) (ji_at X r c 8 x 2) (ji_at X r c 8 x 1) (ji_at X r c 8 x 4) (ji_gI X s 1 - ji_at X r c 8 x 7) (ji_at X r c 8 x 3) k)), jx_XS X f n) := by
    intro k f n d
    obtain ⟨S', a', h'⟩ := xs_stk (f := f) (n := n) S hs hr hc
    have := m77 (d := d) (x := x) (k := k) S'
    simp only [a', h'] at this
    exact this
  have x16 : ∀ b, ji_gI (ji_sI X 4 5 0) (16 + ρ) b = ji_gI X (16 + ρ) b := fun b => congrFun (gF_sI (by omega)) b
  have x47 : ji_gI (ji_sI X 4 5 0) 4 7 = Int32.ofNat ρ := by rw [gI_sI, if_neg (by decide)]; exact h7
  have goal : ∀ i : Nat, i ≤ e → jx_sl (ji_gI X (9 + ρ)) i (e - i) = jx_pt (sa, sb, sd) p → (∀ d o, ji_Ev (ji_CL (d + 2)) 74 84 (ji_sI X 4 5 0) [some (.ref 4), some (.ref s), some (.int x), some (.int (Int32.ofNat p)), some (.ref (9 + ρ)), some (.int (Int32.ofNat e)), some (.int (Int32.ofNat i)), none, none] [] o → ji_CL (d + 3) 74 [.ref 4, .ref s, .int x, .int (Int32.ofNat p)] X = some o) → ∃ f' n', ∀ d, ji_CL (d + 3) 74 [.ref 4, .ref s, .int x, .int (Int32.ofNat p)] X = some (some (.int (jx_v (jx_fx (ji_at X r c 8 x 5) (ji_at X r c 8 x 2) (ji_at X r c 8 x 1) (ji_at X r c 8 x 4) (ji_gI X s 1 - ji_at X r c 8 x 7) (ji_at X r c 8 x 3)) (jx_pt (sa, sb, sd) p))), jx_XS X f' n') := by
    intro i hi hl G
    obtain ⟨f', n', L⟩ := m74L (y := Int32.ofNat p) (en := e) (sc := 9 + ρ) hX S.1 g3 (by omega) (by omega) (by omega) hF (e - i) i [] (ji_gI X 22) none none rfl hi trivial (Nat.zero_le _)
    refine ⟨f', n', fun d => G d _ ?_⟩
    have L := L d
    rw [hl] at L
    have L : ji_Ev (ji_CL (d + 2)) 74 84 (jx_XS X (ji_gI X 22) 0) _ [] _ := L
    rw [xs_0] at L
    exact L
  by_cases hp0 : p = 0
  · subst hp0
    have e2 : e = sa.length := e2
    refine goal 0 (Nat.zero_le _) ?_ (fun d o L => ?_)
    · rw [Nat.sub_zero, e2]
      exact jx_sl_l sa 0 (fun j hj => by
        rw [Nat.zero_add, g9 j (by omega), List.getD_eq_getElem?_getD, List.getD_eq_getElem?_getD, List.append_assoc, List.getElem?_append_left hj])
    · have e1 : ji_gI X (16 + ρ) 0 = Int32.ofNat e := e1
      have zp : vp_in (0 : Int32) 3 := zp
      have zp2 : (0 : Int32).toNatClampNeg = 0 := rfl
      have ip : ji_in 0 0 2 := ip
      have L : ji_Ev (ji_CL (d + 2)) 74 84 (ji_sI X 4 5 0) [some (.ref 4), some (.ref s), some (.int x), some (.int 0), some (.ref (9 + ρ)), some (.int (Int32.ofNat e)), some (.int 0), none, none] [] o := L
      have H75 : ji_CL (d + 2) 75 [.ref 4, .int (Int32.ofNat ρ)] X = some (some (.int 1), X) := by
        apply en_75
        simp only [s75_0, s75_1, s75_4, s75_5, s75_6, s75_9, s75_12, s75_13, s75_16, s75_17, xIL_1, xIS_1, xQL_2, xQL_3, xAN_1, xAN_2, xAN_3, xCP_1, xC_s, xNC_I, ji_oI1, ji_oIm, kd_sC, gR_sC, gL_sC, ji_rv_s, ji_tl_s, ji_tl_n, ji_s1, ji_s2, ji_kl, List.getD_cons_zero, List.getD_cons_succ, List.set_cons_zero, List.set_cons_succ, List.length_cons, List.length_nil, ji_b_0, ji_b_1, ji_n0, ji_n1, ji_rcb_iff, ji_ok8_0, ji_ok8_1, ji_ok8_2, ji_ok8_3, ji_ok8_4, kd_sI, kd_sL, kd_sR, kd_cp, gR_sI, gR_sL, gR_cp, gL_sI, gL_sR, gL_cp, gI_sL, gI_sR, gI_sI, gL_sL, Nat.reduceEqDiff, false_and, and_false, true_and, and_true, Nat.reduceAdd, Nat.reduceLT, Nat.reduceSub, Int32.reduceLT, Int32.reduceAdd, not_false_eq_true, not_true_eq_false, and_self, ji_b_n, if_true, if_false, ↓reduceIte, cz_m100, cz_m19, cz_m18, cz_m17, cz_m16, cz_m15, cz_m14, cz_m13, cz_m12, cz_m11, cz_m4, cz_m3, cz_m2, cz_m1, cz_1, cz_2, cz_3, cz_4, cz_5, cz_6, cz_7, cz_8, cz_9, cz_10, cz_11, cz_12, cz_13, cz_14, cz_15, cz_16, cz_20, cz_24, cz_30, cz_32, cz_33, cz_38, cz_40, cz_41, cz_42, cz_43, cz_45, cz_48, cz_57, cz_59, cz_60, cz_61, cz_63, cz_64, cz_72, cz_96, cz_97, cz_99, cz_100, cz_122, cz_124, cz_126, cz_160, cz_161, cz_168, cz_200, cz_255, cz_300, cz_960, cz_999, cz_1000, cz_1001, cz_1002, cz_1003, cz_1120, cz_2000, cz_2003, cz_2004, cz_2005, cz_3999, cz_9999, cz_14640, xk_4 hX, nρ, eq_true h6]
      have H43 : ∀ M : ji_M, ji_CL (d + 2) 43 [.int 0, .int 0, .int 2] M = _ := fun M => m43 (d := d + 1)
      show ji_CL (d + 3) 74 [.ref 4, .ref s, .int x, .int 0] X = some o
      apply en_74
      simp only [s74_0, s74_1, s74_2, q74_5, s74_8, s74_11, s74_12, s74_13, q74_14, s74_17, s74_20, s74_21, s74_22, s74_23, s74_26, s74_27, q74_30, s74_31, s74_33, q74_35, s74_36, s74_37, s74_40, s74_41, q74_44, s74_45, q74_46, s74_47, s74_50, s74_52, s74_53, s74_54, s74_57, s74_58, s74_61, s74_62, s74_65, s74_66, s74_67, s74_70, s74_71, q74_74, s74_75, s74_76, s74_77, q74_78, s74_79, s74_82, s74_86, s74_88, s74_91, s74_93, q74_95, s74_96, s74_98, s74_100, s74_103, s74_104, q74_106, s74_109, s74_112, s74_114, s74_116, s74_119, s74_120, s74_121, s74_122, s74_123, s74_125, q74_126, q74_129, s74_132, s74_135, s74_137, s74_139, s74_142, s74_143, q74_144, s74_147, s74_150, s74_151, s74_154, q74_155, s74_158, s74_161, s74_163, s74_165, s74_168, s74_169, q74_170, s74_173, q74_174, s74_177, s74_180, q74_181, s74_184, s74_186, s74_187, s74_189, q74_190, s74_193, q74_195, q74_198, q74_201, s74_204, s74_207, q74_208, s74_211, xIL_1, xIS_1, xQL_2, xQL_3, xAN_1, xAN_2, xAN_3, xCP_1, xC_s, xNC_I, ji_oI1, ji_oIm, kd_sC, gR_sC, gL_sC, ji_rv_s, ji_tl_s, ji_tl_n, ji_s1, ji_s2, ji_kl, List.getD_cons_zero, List.getD_cons_succ, List.set_cons_zero, List.set_cons_succ, List.length_cons, List.length_nil, ji_b_0, ji_b_1, ji_n0, ji_n1, ji_rcb_iff, ji_ok8_0, ji_ok8_1, ji_ok8_2, ji_ok8_3, ji_ok8_4, kd_sI, kd_sL, kd_sR, kd_cp, gR_sI, gR_sL, gR_cp, gL_sI, gL_sR, gL_cp, gI_sL, gI_sR, gI_sI, gL_sL, Nat.reduceEqDiff, false_and, and_false, true_and, and_true, Nat.reduceAdd, Nat.reduceLT, Nat.reduceSub, Int32.reduceLT, Int32.reduceAdd, not_false_eq_true, not_true_eq_false, and_self, ji_b_n, if_true, if_false, ↓reduceIte, cz_m100, cz_m19, cz_m18, cz_m17, cz_m16, cz_m15, cz_m14, cz_m13, cz_m12, cz_m11, cz_m4, cz_m3, cz_m2, cz_m1, cz_1, cz_2, cz_3, cz_4, cz_5, cz_6, cz_7, cz_8, cz_9, cz_10, cz_11, cz_12, cz_13, cz_14, cz_15, cz_16, cz_20, cz_24, cz_30, cz_32, cz_33, cz_38, cz_40, cz_41, cz_42, cz_43, cz_45, cz_48, cz_57, cz_59, cz_60, cz_61, cz_63, cz_64, cz_72, cz_96, cz_97, cz_99, cz_100, cz_122, cz_124, cz_126, cz_160, cz_161, cz_168, cz_200, cz_255, cz_300, cz_960, cz_999, cz_1000, cz_1001, cz_1002, cz_1003, cz_1120, cz_2000, cz_2003, cz_2004, cz_2005, cz_3999, cz_9999, cz_14640, -gI_sI, xk_4 hX, h7, H75, H43, ip, xr_4_1 hX, xr_4_2 hX, xk_8 hX, xk_15 hX, zρ, zρ2, g1, g2, g3, g4, zp, zp2, e1, hmin]
      exact L
  · obtain ⟨i, i1, i2⟩ : ∃ i, ji_gI X (16 + ρ) (p - 1) = Int32.ofNat i ∧ i = (if p = 1 then sa.length else sa.length + sb.length) := by
      refine ⟨_, ?_, rfl⟩
      have hp3 : p = 1 ∨ p = 2 := by omega
      rcases hp3 with rfl | rfl
      · rw [if_pos rfl, vi_eq, vi_nn (by omega)]; exact g6
      · rw [if_neg (by omega), vi_eq, vi_nn (by omega)]; exact g7
    rw [if_neg hp0] at e2
    have hie : i ≤ e := by
      rw [i2, e2]
      by_cases p1 : p = 1
      · rw [if_pos p1, if_pos p1]; omega
      · rw [if_neg p1, if_neg p1]; omega
    have ei := vi_nn (n := i) (by omega)
    have hmax : (if 0 < Int32.ofNat i then Int32.ofNat i else 0) = Int32.ofNat i := by
      by_cases q : 0 < Int32.ofNat i
      · rw [if_pos q]
      · rw [if_neg q]
        rw [vi_lt] at q
        have : i = 0 := by omega
        rw [this]; rfl
    refine goal i hie ?_ (fun d o L => ?_)
    · by_cases p1 : p = 1
      · subst p1
        have i2 : i = sa.length := i2
        have e2 : e = sa.length + sb.length := e2
        rw [show e - i = sb.length by omega]
        exact jx_sl_l sb i (fun j hj => by
          rw [g9 (i + j) (by omega), List.getD_eq_getElem?_getD, List.getD_eq_getElem?_getD, List.append_assoc, List.getElem?_append_right (by omega), List.getElem?_append_left (by omega), show i + j - sa.length = j by omega])
      · obtain rfl : p = 2 := by omega
        have i2 : i = sa.length + sb.length := i2
        have e2 : e = sa.length + sb.length + sd.length := e2
        rw [show e - i = sd.length by omega]
        exact jx_sl_l sd i (fun j hj => by
          rw [g9 (i + j) (by omega), List.getD_eq_getElem?_getD, List.getD_eq_getElem?_getD, List.getElem?_append_right (by rw [List.length_append]; omega), List.length_append, show i + j - (sa.length + sb.length) = j by omega])
    · have np : ¬ Int32.ofNat p = 0 := by rw [vi_eq]; omega
      have pm : Int32.ofNat p - 1 = Int32.ofNat (p - 1) := by
        have := jx_o1m (k := p - 1) (by omega)
        rw [show p - 1 + 1 = p by omega] at this
        exact this
      have epm := vi_nn (n := p - 1) (by omega)
      have zm : vp_in (Int32.ofNat (p - 1)) 3 := vi_in.mpr ⟨by omega, by omega⟩
      have zm2 : (Int32.ofNat (p - 1)).toNatClampNeg = p - 1 := by rw [vi_nat, epm]; exact Int.toNat_natCast _
      have H75 : ji_CL (d + 2) 75 [.ref 4, .int (Int32.ofNat ρ)] X = some (some (.int 1), X) := by
        apply en_75
        simp only [s75_0, s75_1, s75_4, s75_5, s75_6, s75_9, s75_12, s75_13, s75_16, s75_17, xIL_1, xIS_1, xQL_2, xQL_3, xAN_1, xAN_2, xAN_3, xCP_1, xC_s, xNC_I, ji_oI1, ji_oIm, kd_sC, gR_sC, gL_sC, ji_rv_s, ji_tl_s, ji_tl_n, ji_s1, ji_s2, ji_kl, List.getD_cons_zero, List.getD_cons_succ, List.set_cons_zero, List.set_cons_succ, List.length_cons, List.length_nil, ji_b_0, ji_b_1, ji_n0, ji_n1, ji_rcb_iff, ji_ok8_0, ji_ok8_1, ji_ok8_2, ji_ok8_3, ji_ok8_4, kd_sI, kd_sL, kd_sR, kd_cp, gR_sI, gR_sL, gR_cp, gL_sI, gL_sR, gL_cp, gI_sL, gI_sR, gI_sI, gL_sL, Nat.reduceEqDiff, false_and, and_false, true_and, and_true, Nat.reduceAdd, Nat.reduceLT, Nat.reduceSub, Int32.reduceLT, Int32.reduceAdd, not_false_eq_true, not_true_eq_false, and_self, ji_b_n, if_true, if_false, ↓reduceIte, cz_m100, cz_m19, cz_m18, cz_m17, cz_m16, cz_m15, cz_m14, cz_m13, cz_m12, cz_m11, cz_m4, cz_m3, cz_m2, cz_m1, cz_1, cz_2, cz_3, cz_4, cz_5, cz_6, cz_7, cz_8, cz_9, cz_10, cz_11, cz_12, cz_13, cz_14, cz_15, cz_16, cz_20, cz_24, cz_30, cz_32, cz_33, cz_38, cz_40, cz_41, cz_42, cz_43, cz_45, cz_48, cz_57, cz_59, cz_60, cz_61, cz_63, cz_64, cz_72, cz_96, cz_97, cz_99, cz_100, cz_122, cz_124, cz_126, cz_160, cz_161, cz_168, cz_200, cz_255, cz_300, cz_960, cz_999, cz_1000, cz_1001, cz_1002, cz_1003, cz_1120, cz_2000, cz_2003, cz_2004, cz_2005, cz_3999, cz_9999, cz_14640, xk_4 hX, nρ, eq_true h6]
      have H43 : ∀ M : ji_M, ji_CL (d + 2) 43 [.int (Int32.ofNat p), .int 0, .int 2] M = _ := fun M => m43 (d := d + 1)
      apply en_74
      simp only [s74_0, s74_1, s74_2, q74_5, s74_8, s74_11, s74_12, s74_13, q74_14, s74_17, s74_20, s74_21, s74_22, s74_23, s74_26, s74_27, q74_30, s74_31, s74_33, q74_35, s74_36, s74_37, s74_40, s74_41, q74_44, s74_45, q74_46, s74_47, s74_50, s74_52, s74_53, s74_54, s74_57, s74_58, s74_61, s74_62, s74_65, s74_66, s74_67, s74_70, s74_71, q74_74, s74_75, s74_76, s74_77, q74_78, s74_79, s74_82, s74_86, s74_88, s74_91, s74_93, q74_95, s74_96, s74_98, s74_100, s74_103, s74_104, q74_106, s74_109, s74_112, s74_114, s74_116, s74_119, s74_120, s74_121, s74_122, s74_123, s74_125, q74_126, q74_129, s74_132, s74_135, s74_137, s74_139, s74_142, s74_143, q74_144, s74_147, s74_150, s74_151, s74_154, q74_155, s74_158, s74_161, s74_163, s74_165, s74_168, s74_169, q74_170, s74_173, q74_174, s74_177, s74_180, q74_181, s74_184, s74_186, s74_187, s74_189, q74_190, s74_193, q74_195, q74_198, q74_201, s74_204, s74_207, q74_208, s74_211, xIL_1, xIS_1, xQL_2, xQL_3, xAN_1, xAN_2, xAN_3, xCP_1, xC_s, xNC_I, ji_oI1, ji_oIm, kd_sC, gR_sC, gL_sC, ji_rv_s, ji_tl_s, ji_tl_n, ji_s1, ji_s2, ji_kl, List.getD_cons_zero, List.getD_cons_succ, List.set_cons_zero, List.set_cons_succ, List.length_cons, List.length_nil, ji_b_0, ji_b_1, ji_n0, ji_n1, ji_rcb_iff, ji_ok8_0, ji_ok8_1, ji_ok8_2, ji_ok8_3, ji_ok8_4, kd_sI, kd_sL, kd_sR, kd_cp, gR_sI, gR_sL, gR_cp, gL_sI, gL_sR, gL_cp, gI_sL, gI_sR, gI_sI, gL_sL, Nat.reduceEqDiff, false_and, and_false, true_and, and_true, Nat.reduceAdd, Nat.reduceLT, Nat.reduceSub, Int32.reduceLT, Int32.reduceAdd, not_false_eq_true, not_true_eq_false, and_self, ji_b_n, if_true, if_false, ↓reduceIte, cz_m100, cz_m19, cz_m18, cz_m17, cz_m16, cz_m15, cz_m14, cz_m13, cz_m12, cz_m11, cz_m4, cz_m3, cz_m2, cz_m1, cz_1, cz_2, cz_3, cz_4, cz_5, cz_6, cz_7, cz_8, cz_9, cz_10, cz_11, cz_12, cz_13, cz_14, cz_15, cz_16, cz_20, cz_24, cz_30, cz_32, cz_33, cz_38, cz_40, cz_41, cz_42, cz_43, cz_45, cz_48, cz_57, cz_59, cz_60, cz_61, cz_63, cz_64, cz_72, cz_96, cz_97, cz_99, cz_100, cz_122, cz_124, cz_126, cz_160, cz_161, cz_168, cz_200, cz_255, cz_300, cz_960, cz_999, cz_1000, cz_1001, cz_1002, cz_1003, cz_1120, cz_2000, cz_2003, cz_2004, cz_2005, cz_3999, cz_9999, cz_14640, -gI_sI, xk_4 hX, h7, H75, H43, ip, xr_4_1 hX, xr_4_2 hX, xk_8 hX, xk_15 hX, zρ, zρ2, g1, g2, g3, g4, zp, zp2, e1, hmin, np, x47, pm, zm, zm2, x16, i1, hmax]
      exact L
end JIV
