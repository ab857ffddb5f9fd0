/-! ===== next ===== -/
noncomputable def jx_gb (g : ji_F) (st : ji_F) (i j : Nat) : Int32 := @ite _ (¬ st j = 0 ∧ (g i < g j ∨ (g j = g i ∧ j < i))) (Classical.propDecidable _) 1 0
noncomputable def jx_ga (g st : ji_F) (i : Nat) : Nat → Int32
  | 0 => 0
  | j + 1 => jx_ga g st i j + jx_gb g st i j
section JIV
variable {X Y N N' M : ji_M} {P : ji_P} {x y z v k : Int32} {f g sf t : ji_F} {d a b r c m s p n i j : Nat} {o : Option Value × ji_M}
theorem jx_in_n (R : ji_Rel P X N) (hi : (i : Int) < (ji_gI N 0 4).toInt) : ji_in (Int32.ofNat i) 0 (ji_gI N 0 4 - 1) ∧ (Int32.ofNat i).toInt = i ∧ i < 24 ∧ (Int32.ofNat i).toNatClampNeg = i ∧ vp_in (Int32.ofNat i) 24 := by
  have hb := R.books.2.1.2
  have e := vi_nn (n := i) (by omega)
  have h0 : (0 : Int32).toInt = 0 := rfl
  refine ⟨(ji_has (ji_bt_le R.books.2.1 (by omega) (by omega))).mp ?_, e, by omega, by rw [vi_nat, e]; exact Int.toNat_natCast _, vi_in.mpr ⟨by omega, by omega⟩⟩
  rw [vi_lt, vi_lt]
  omega
/-- what comes first, of each book -/
theorem m86A : ∀ (m i : Nat) (X N : ji_M), ji_Rel jx_P X N → ((i + m : Nat) : Int) = (ji_gI N 0 4).toInt → (∀ j, j < i → ji_gI X 23 j = ji_gI N 9 j) → ∃ X' N', ji_Rel jx_P X' N' ∧ ji_offX X X' ∧ ji_gI N' 0 4 = ji_gI N 0 4 ∧ (∀ j, j < i + m → ji_gI X' 23 j = ji_gI N' 9 j) ∧ (∀ d o, ji_Ev (ji_CL (d + 3)) 86 46 X' [some (.ref 4), some (.ref 1), some (.int k), some (.int (ji_gI N 0 4)), some (.int (ji_gI N 0 4))] [] o → ji_Ev (ji_CL (d + 3)) 86 19 X [some (.ref 4), some (.ref 1), some (.int k), some (.int (ji_gI N 0 4)), some (.int (Int32.ofNat i))] [] o) ∧ ∀ d o, ji_Ev (ji_CL (d + 7)) 192 38 N' [some (.ref 0), some (.int k), some (.int (ji_gI N 0 4)), none, none] [] o → ji_Ev (ji_CL (d + 7)) 192 8 N [some (.ref 0), some (.int k), some (.int (Int32.ofNat i)), none, none] [] o := by
  intro m
  induction m with
  | zero =>
    intro i X N R hi hF
    have hN := R.mf
    have hb := R.books.2.1.2
    have e : Int32.ofNat i = ji_gI N 0 4 := by rw [vi_eq, vi_nn (by omega)]; omega
    rw [e]
    have g : ¬ ji_gI N 0 4 < ji_gI N 0 4 := Int32.lt_irrefl
    refine ⟨X, N, R, ji_offX_r, rfl, hF, fun d o G => ?_, fun d o G => ?_⟩
    · simp only [s86_0, s86_1, q86_4, s86_5, s86_6, q86_9, s86_12, s86_15, s86_16, s86_17, s86_19, s86_21, s86_22, s86_25, s86_26, s86_29, s86_31, s86_32, s86_33, s86_35, q86_36, q86_39, q86_40, s86_47, s86_49, s86_51, s86_52, s86_55, s86_56, q86_58, s86_61, s86_64, s86_65, s86_66, s86_68, q86_69, s86_72, s86_73, s86_76, s86_78, q86_79, s86_82, s86_85, s86_86, xIL_1, xIS_1, xQL_2, xQL_3, xAN_1, xAN_2, xAN_3, xCP_1, xC_s, xNC_I, ji_oI1, ji_oIm, kd_sC, gR_sC, gL_sC, ji_rv_s, ji_tl_s, ji_tl_n, ji_s1, ji_s2, ji_kl, List.getD_cons_zero, List.getD_cons_succ, List.set_cons_zero, List.set_cons_succ, List.length_cons, List.length_nil, ji_b_0, ji_b_1, ji_n0, ji_n1, ji_rcb_iff, ji_ok8_0, ji_ok8_1, ji_ok8_2, ji_ok8_3, ji_ok8_4, kd_sI, kd_sL, kd_sR, kd_cp, gR_sI, gR_sL, gR_cp, gL_sI, gL_sR, gL_cp, gI_sL, gI_sR, gI_sI, gL_sL, Nat.reduceEqDiff, false_and, and_false, true_and, and_true, Nat.reduceAdd, Nat.reduceLT, Nat.reduceSub, Int32.reduceLT, Int32.reduceAdd, not_false_eq_true, not_true_eq_false, and_self, ji_b_n, if_true, if_false, ↓reduceIte, cz_m100, cz_m19, cz_m18, cz_m17, cz_m16, cz_m15, cz_m14, cz_m13, cz_m12, cz_m11, cz_m4, cz_m3, cz_m2, cz_m1, cz_1, cz_2, cz_3, cz_4, cz_5, cz_6, cz_7, cz_8, cz_9, cz_10, cz_11, cz_12, cz_13, cz_14, cz_15, cz_16, cz_20, cz_24, cz_30, cz_32, cz_33, cz_38, cz_40, cz_41, cz_42, cz_43, cz_45, cz_48, cz_57, cz_59, cz_60, cz_61, cz_63, cz_64, cz_72, cz_96, cz_97, cz_99, cz_100, cz_122, cz_124, cz_126, cz_160, cz_161, cz_168, cz_200, cz_255, cz_300, cz_960, cz_999, cz_1000, cz_1001, cz_1002, cz_1003, cz_1120, cz_2000, cz_2003, cz_2004, cz_2005, cz_3999, cz_9999, cz_14640, g]
      exact G
    · simp only [s192_0, s192_1, s192_4, s192_5, s192_6, s192_7, s192_8, s192_9, s192_10, s192_13, s192_16, s192_17, s192_20, s192_21, s192_22, s192_23, s192_26, s192_27, q192_28, q192_31, q192_32, s192_39, s192_40, s192_41, s192_42, s192_45, s192_48, s192_49, s192_52, q192_53, s192_54, s192_57, s192_60, s192_61, s192_62, s192_63, s192_65, s192_67, s192_68, s192_71, s192_74, s192_75, s192_76, s192_79, q192_81, s192_82, s192_85, s192_86, s192_89, q192_91, s192_92, s192_93, s192_96, q192_97, s192_98, s192_101, s192_102, s192_105, q192_107, s192_108, s192_109, s192_112, q192_113, s192_114, s192_117, s192_119, s192_120, s192_123, s192_124, s192_127, s192_128, s192_129, q192_130, s192_133, s192_136, s192_137, s192_138, s192_141, s192_142, q192_143, s192_146, s192_149, s192_150, xIL_1, xIS_1, xQL_2, xQL_3, xAN_1, xAN_2, xAN_3, xCP_1, xC_s, xNC_I, ji_oI1, ji_oIm, kd_sC, gR_sC, gL_sC, ji_rv_s, ji_tl_s, ji_tl_n, ji_s1, ji_s2, ji_kl, List.getD_cons_zero, List.getD_cons_succ, List.set_cons_zero, List.set_cons_succ, List.length_cons, List.length_nil, ji_b_0, ji_b_1, ji_n0, ji_n1, ji_rcb_iff, ji_ok8_0, ji_ok8_1, ji_ok8_2, ji_ok8_3, ji_ok8_4, kd_sI, kd_sL, kd_sR, kd_cp, gR_sI, gR_sL, gR_cp, gL_sI, gL_sR, gL_cp, gI_sL, gI_sR, gI_sI, gL_sL, Nat.reduceEqDiff, false_and, and_false, true_and, and_true, Nat.reduceAdd, Nat.reduceLT, Nat.reduceSub, Int32.reduceLT, Int32.reduceAdd, not_false_eq_true, not_true_eq_false, and_self, ji_b_n, if_true, if_false, ↓reduceIte, cz_m100, cz_m19, cz_m18, cz_m17, cz_m16, cz_m15, cz_m14, cz_m13, cz_m12, cz_m11, cz_m4, cz_m3, cz_m2, cz_m1, cz_1, cz_2, cz_3, cz_4, cz_5, cz_6, cz_7, cz_8, cz_9, cz_10, cz_11, cz_12, cz_13, cz_14, cz_15, cz_16, cz_20, cz_24, cz_30, cz_32, cz_33, cz_38, cz_40, cz_41, cz_42, cz_43, cz_45, cz_48, cz_57, cz_59, cz_60, cz_61, cz_63, cz_64, cz_72, cz_96, cz_97, cz_99, cz_100, cz_122, cz_124, cz_126, cz_160, cz_161, cz_168, cz_200, cz_255, cz_300, cz_960, cz_999, cz_1000, cz_1001, cz_1002, cz_1003, cz_1120, cz_2000, cz_2003, cz_2004, cz_2005, cz_3999, cz_9999, cz_14640, mk_0 hN, g]
      exact G
  | succ m ih =>
    intro i X N R hi hF
    have hX := R.xf
    have hN := R.mf
    have hb := R.books.2.1.2
    obtain ⟨i1, i2, i3, i4, i5⟩ := jx_in_n (i := i) R (by omega)
    obtain ⟨v, f, n, N1, o1, A, B⟩ := jx_both (p := 0) R i1 (by omega)
    have A : ∀ d, ji_CL (d + 3) 74 [.ref 4, .ref 1, .int (Int32.ofNat i), .int 0] X = _ := A
    have B : ∀ d, ji_CL (d + 7) 171 [.ref 0, .int (ji_gI N 0 16), .int (Int32.ofNat i), .int 0] N = _ := B
    have R1 : ji_Rel jx_P (jx_XS X f n) N1 := ji_Rel_off R xs_off (jx_oN_off o1)
    have hX1 := R1.xf
    have hN1 := R1.mf
    have R2 : ji_Rel jx_P (ji_sI (jx_XS X f n) 23 i v) (ji_sI N1 9 i v) := ji_Rel_off R1 (ji_offX_sI ji_offX_r rfl) (ji_offN_sI ji_offN_r rfl)
    have g : Int32.ofNat i < ji_gI N 0 4 := by rw [vi_lt]; omega
    have n4 : ji_gI (ji_sI N1 9 i v) 0 4 = ji_gI N 0 4 := o1.2.1 0 4 rfl
    obtain ⟨X', N', R', oX, e4, F', I1, I2⟩ := ih (i + 1) _ _ R2 (by rw [n4]; omega) (fun j hj => by
      by_cases q : j = i
      · subst q
        rw [gI_sI, if_pos ⟨rfl, rfl⟩, gI_sI, if_pos ⟨rfl, rfl⟩]
      · rw [gI_sI, if_neg (fun z => q z.2), gI_sI, if_neg (fun z => q z.2), xs_a (by decide) (by decide), o1.2.1 9 j rfl]
        exact hF j (by omega))
    rw [n4] at e4 I1 I2
    have p1 := jx_o1p (k := i) (by omega)
    have p2 : (Int32.ofInt 1) = 1 := rfl
    refine ⟨X', N', R', ji_offX_t (ji_offX_sI xs_off rfl) oX, e4, fun j hj => F' j (by omega), fun d o G => ?_, fun d o G => ?_⟩
    · have I1 := I1 d o G
      simp only [s86_0, s86_1, q86_4, s86_5, s86_6, q86_9, s86_12, s86_15, s86_16, s86_17, s86_19, s86_21, s86_22, s86_25, s86_26, s86_29, s86_31, s86_32, s86_33, s86_35, q86_36, q86_39, q86_40, s86_47, s86_49, s86_51, s86_52, s86_55, s86_56, q86_58, s86_61, s86_64, s86_65, s86_66, s86_68, q86_69, s86_72, s86_73, s86_76, s86_78, q86_79, s86_82, s86_85, s86_86, xIL_1, xIS_1, xQL_2, xQL_3, xAN_1, xAN_2, xAN_3, xCP_1, xC_s, xNC_I, ji_oI1, ji_oIm, kd_sC, gR_sC, gL_sC, ji_rv_s, ji_tl_s, ji_tl_n, ji_s1, ji_s2, ji_kl, List.getD_cons_zero, List.getD_cons_succ, List.set_cons_zero, List.set_cons_succ, List.length_cons, List.length_nil, ji_b_0, ji_b_1, ji_n0, ji_n1, ji_rcb_iff, ji_ok8_0, ji_ok8_1, ji_ok8_2, ji_ok8_3, ji_ok8_4, kd_sI, kd_sL, kd_sR, kd_cp, gR_sI, gR_sL, gR_cp, gL_sI, gL_sR, gL_cp, gI_sL, gI_sR, gI_sI, gL_sL, Nat.reduceEqDiff, false_and, and_false, true_and, and_true, Nat.reduceAdd, Nat.reduceLT, Nat.reduceSub, Int32.reduceLT, Int32.reduceAdd, not_false_eq_true, not_true_eq_false, and_self, ji_b_n, if_true, if_false, ↓reduceIte, cz_m100, cz_m19, cz_m18, cz_m17, cz_m16, cz_m15, cz_m14, cz_m13, cz_m12, cz_m11, cz_m4, cz_m3, cz_m2, cz_m1, cz_1, cz_2, cz_3, cz_4, cz_5, cz_6, cz_7, cz_8, cz_9, cz_10, cz_11, cz_12, cz_13, cz_14, cz_15, cz_16, cz_20, cz_24, cz_30, cz_32, cz_33, cz_38, cz_40, cz_41, cz_42, cz_43, cz_45, cz_48, cz_57, cz_59, cz_60, cz_61, cz_63, cz_64, cz_72, cz_96, cz_97, cz_99, cz_100, cz_122, cz_124, cz_126, cz_160, cz_161, cz_168, cz_200, cz_255, cz_300, cz_960, cz_999, cz_1000, cz_1001, cz_1002, cz_1003, cz_1120, cz_2000, cz_2003, cz_2004, cz_2005, cz_3999, cz_9999, cz_14640, -gI_sI, xk_4 hX, xr_4_4 hX, xk_23 hX1, g, A, i4, i5, p1, p2]
      simp only [s86_43]
      exact I1
    · have I2 := I2 d o G
      simp only [s192_0, s192_1, s192_4, s192_5, s192_6, s192_7, s192_8, s192_9, s192_10, s192_13, s192_16, s192_17, s192_20, s192_21, s192_22, s192_23, s192_26, s192_27, q192_28, q192_31, q192_32, s192_39, s192_40, s192_41, s192_42, s192_45, s192_48, s192_49, s192_52, q192_53, s192_54, s192_57, s192_60, s192_61, s192_62, s192_63, s192_65, s192_67, s192_68, s192_71, s192_74, s192_75, s192_76, s192_79, q192_81, s192_82, s192_85, s192_86, s192_89, q192_91, s192_92, s192_93, s192_96, q192_97, s192_98, s192_101, s192_102, s192_105, q192_107, s192_108, s192_109, s192_112, q192_113, s192_114, s192_117, s192_119, s192_120, s192_123, s192_124, s192_127, s192_128, s192_129, q192_130, s192_133, s192_136, s192_137, s192_138, s192_141, s192_142, q192_143, s192_146, s192_149, s192_150, xIL_1, xIS_1, xQL_2, xQL_3, xAN_1, xAN_2, xAN_3, xCP_1, xC_s, xNC_I, ji_oI1, ji_oIm, kd_sC, gR_sC, gL_sC, ji_rv_s, ji_tl_s, ji_tl_n, ji_s1, ji_s2, ji_kl, List.getD_cons_zero, List.getD_cons_succ, List.set_cons_zero, List.set_cons_succ, List.length_cons, List.length_nil, ji_b_0, ji_b_1, ji_n0, ji_n1, ji_rcb_iff, ji_ok8_0, ji_ok8_1, ji_ok8_2, ji_ok8_3, ji_ok8_4, kd_sI, kd_sL, kd_sR, kd_cp, gR_sI, gR_sL, gR_cp, gL_sI, gL_sR, gL_cp, gI_sL, gI_sR, gI_sI, gL_sL, Nat.reduceEqDiff, false_and, and_false, true_and, and_true, Nat.reduceAdd, Nat.reduceLT, Nat.reduceSub, Int32.reduceLT, Int32.reduceAdd, not_false_eq_true, not_true_eq_false, and_self, ji_b_n, if_true, if_false, ↓reduceIte, cz_m100, cz_m19, cz_m18, cz_m17, cz_m16, cz_m15, cz_m14, cz_m13, cz_m12, cz_m11, cz_m4, cz_m3, cz_m2, cz_m1, cz_1, cz_2, cz_3, cz_4, cz_5, cz_6, cz_7, cz_8, cz_9, cz_10, cz_11, cz_12, cz_13, cz_14, cz_15, cz_16, cz_20, cz_24, cz_30, cz_32, cz_33, cz_38, cz_40, cz_41, cz_42, cz_43, cz_45, cz_48, cz_57, cz_59, cz_60, cz_61, cz_63, cz_64, cz_72, cz_96, cz_97, cz_99, cz_100, cz_122, cz_124, cz_126, cz_160, cz_161, cz_168, cz_200, cz_255, cz_300, cz_960, cz_999, cz_1000, cz_1001, cz_1002, cz_1003, cz_1120, cz_2000, cz_2003, cz_2004, cz_2005, cz_3999, cz_9999, cz_14640, -gI_sI, mk_0 hN, mr_14 hN, mk_9 hN1, g, B, i4, i5, p1, p2]
      simp only [s192_35]
      exact I2
end JIV
