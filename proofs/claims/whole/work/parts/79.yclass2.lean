/-! ===== years: the class, its choosing ===== -/
section JIV
variable {X Y N N' M : ji_M} {P : ji_P} {x y z w a b : Int32} {d r m s n i j k v : Nat} {c : Int} {q : Int × Int × Nat} {o : Option Value × ji_M}
theorem m139 (I : jy_IX P N X n c j v q) (hn : n ≤ 4) (hc : 0 ≤ c ∧ c ≤ 9999) (hj : j < jy_K N) (hi : i < n) (ok : jy_ok n c (jy_si n (jy_p N) j v)) : ji_CL (d + 1) 139 [.ref 78, .int (ji_gI N 47 j), .int (Int32.ofNat i)] X = some (some (.int (ji_b (jy_ok n c (jy_si n (jy_p N) (j + 1) (v * (n + 1) + i))))), X) := by
  have pb := jy_pc I.1 j hj
  have e0 : (0 : Int32).toInt = 0 := rfl
  have L := m139L (d := d) I hn hc hj hi n 0 (-(ji_gI N 47 j)) (by omega) (by
    have e : -(ji_gI N 47 j) = 0 - ji_gI N 47 j := by rw [Int32.zero_sub]
    unfold jy_p at pb ⊢
    rw [e, vi_sub (by omega) (by omega), e0]
    show _ = (0 : Int) - _
    rfl)
  have t : ji_b (∀ Z, Z ≤ n → 0 < Z → i < Z → 0 ≤ jy_cu c (jy_si n (jy_p N) j v) Z - jy_p N j) = ji_b (jy_ok n c (jy_si n (jy_p N) (j + 1) (v * (n + 1) + i))) := by
    congr 1
    refine propext (Iff.trans ?_ (jy_ok_s (by omega) ok).symm)
    exact ⟨fun z Z h1 h2 => z Z h1 (by omega) h2, fun z Z h1 _ h2 => z Z h1 h2⟩
  rw [t] at L
  have L : ji_Ev (ji_CL d) 139 6 X [some (.ref 78), some (.int (ji_gI N 47 j)), some (.int (Int32.ofNat i)), some (.int (-(ji_gI N 47 j))), some (.int 0)] [] _ := L
  apply en_139
  simp only [s139_0, s139_1, s139_2, s139_3, s139_4, xIL_1, xIS_1, xQL_2, xQL_3, xAN_1, xAN_2, xAN_3, xCP_1, xC_s, xNC_I, ji_oI1, ji_oIm, kd_sC, gR_sC, gL_sC, ji_rv_s, ji_tl_s, ji_tl_n, ji_s1, ji_s2, ji_kl, List.getD_cons_zero, List.getD_cons_succ, List.set_cons_zero, List.set_cons_succ, List.length_cons, List.length_nil, ji_b_0, ji_b_1, ji_n0, ji_n1, ji_rcb_iff, ji_ok8_0, ji_ok8_1, ji_ok8_2, ji_ok8_3, ji_ok8_4, kd_sI, kd_sL, kd_sR, kd_cp, gR_sI, gR_sL, gR_cp, gL_sI, gL_sR, gL_cp, gI_sL, gI_sR, gI_sI, gL_sL, Nat.reduceEqDiff, false_and, and_false, true_and, and_true, Nat.reduceAdd, Nat.reduceLT, Nat.reduceSub, Int32.reduceLT, Int32.reduceAdd, not_false_eq_true, not_true_eq_false, and_self, ji_b_n, if_true, if_false, ↓reduceIte, cz_m100, cz_m19, cz_m18, cz_m17, cz_m16, cz_m15, cz_m14, cz_m13, cz_m12, cz_m11, cz_m4, cz_m3, cz_m2, cz_m1, cz_1, cz_2, cz_3, cz_4, cz_5, cz_6, cz_7, cz_8, cz_9, cz_10, cz_11, cz_12, cz_13, cz_14, cz_15, cz_16, cz_20, cz_24, cz_30, cz_32, cz_33, cz_38, cz_40, cz_41, cz_42, cz_43, cz_45, cz_48, cz_57, cz_59, cz_60, cz_61, cz_63, cz_64, cz_72, cz_96, cz_97, cz_99, cz_100, cz_122, cz_124, cz_126, cz_160, cz_161, cz_168, cz_200, cz_255, cz_300, cz_960, cz_999, cz_1000, cz_1001, cz_1002, cz_1003, cz_1120, cz_2000, cz_2003, cz_2004, cz_2005, cz_3999, cz_9999, cz_14640]
  exact L
/-- a whole plan -/
theorem m138 (I : jy_IX P N X n c (jy_K N) v q) (hn : n ≤ 4) (ok : jy_ok n c (jy_si n (jy_p N) (jy_K N) v)) (ha : a.toInt = jy_rd n (jy_r N) (jy_K N) v) (hb : b.toInt = jy_sp n (jy_p N) (jy_K N) v) : ∃ X', (∀ d, ji_CL (d + 1) 138 [.ref 78, .int a, .int b] X = some (none, X')) ∧ jy_IX P N X' n c (jy_K N) v (jy_st n c (jy_p N) (jy_r N) (jy_K N) q v) := by
  have I0 := I
  obtain ⟨R, g3, g4, g5, g6, g7, gs, g80, g81⟩ := I
  have hX := R.xf
  have Kb := jy_Kb R
  have c1 : ji_gI X 78 6 < a ↔ q.1 < jy_rd n (jy_r N) (jy_K N) v := by rw [vi_lt, g6, ha]
  have c2 : a = ji_gI X 78 6 ↔ jy_rd n (jy_r N) (jy_K N) v = q.1 := by rw [vi_eq, g6, ha]
  have c3 : b < ji_gI X 78 7 ↔ jy_sp n (jy_p N) (jy_K N) v < q.2.1 := by rw [vi_lt, g7, hb]
  by_cases h : q.1 < jy_rd n (jy_r N) (jy_K N) v ∨ jy_rd n (jy_r N) (jy_K N) v = q.1 ∧ jy_sp n (jy_p N) (jy_K N) v < q.2.1
  · rw [jy_st_1 ⟨ok, h⟩]
    have R' : ji_Rel P (ji_cp (ji_sI (ji_sI X 78 6 a) 78 7 b) 80 0 81 0 6) N := ji_Rel_offX R (ji_offX_cp (ji_offX_sI (ji_offX_sI ji_offX_r rfl) rfl) (fun _ => rfl))
    refine ⟨ji_cp (ji_sI (ji_sI X 78 6 a) 78 7 b) 80 0 81 0 6, fun d => ?_, R', g3, g4, g5, ha, hb, gs, g80, fun _ => ?_⟩
    · apply en_138
      have w1 : 0 + 6 ≤ 6 := by omega
      have w2 : ¬ (6 : Int32) < 0 := by decide
      have w3 : ¬ (0 : Int32) < 0 := by decide
      rcases h with h | h
      · have c1 := c1.mpr h
        simp only [s138_0, s138_1, s138_2, s138_5, s138_8, s138_9, s138_10, s138_13, s138_16, s138_17, s138_18, s138_21, s138_24, s138_25, s138_26, s138_29, s138_30, s138_31, s138_34, s138_35, s138_38, s138_39, s138_40, s138_43, s138_44, q138_46, s138_49, xIL_1, xIS_1, xQL_2, xQL_3, xAN_1, xAN_2, xAN_3, xCP_1, xC_s, xNC_I, ji_oI1, ji_oIm, kd_sC, gR_sC, gL_sC, ji_rv_s, ji_tl_s, ji_tl_n, ji_s1, ji_s2, ji_kl, List.getD_cons_zero, List.getD_cons_succ, List.set_cons_zero, List.set_cons_succ, List.length_cons, List.length_nil, ji_b_0, ji_b_1, ji_n0, ji_n1, ji_rcb_iff, ji_ok8_0, ji_ok8_1, ji_ok8_2, ji_ok8_3, ji_ok8_4, kd_sI, kd_sL, kd_sR, kd_cp, gR_sI, gR_sL, gR_cp, gL_sI, gL_sR, gL_cp, gI_sL, gI_sR, gI_sI, gL_sL, Nat.reduceEqDiff, false_and, and_false, true_and, and_true, Nat.reduceAdd, Nat.reduceLT, Nat.reduceSub, Int32.reduceLT, Int32.reduceAdd, not_false_eq_true, not_true_eq_false, and_self, ji_b_n, if_true, if_false, ↓reduceIte, cz_m100, cz_m19, cz_m18, cz_m17, cz_m16, cz_m15, cz_m14, cz_m13, cz_m12, cz_m11, cz_m4, cz_m3, cz_m2, cz_m1, cz_1, cz_2, cz_3, cz_4, cz_5, cz_6, cz_7, cz_8, cz_9, cz_10, cz_11, cz_12, cz_13, cz_14, cz_15, cz_16, cz_20, cz_24, cz_30, cz_32, cz_33, cz_38, cz_40, cz_41, cz_42, cz_43, cz_45, cz_48, cz_57, cz_59, cz_60, cz_61, cz_63, cz_64, cz_72, cz_96, cz_97, cz_99, cz_100, cz_122, cz_124, cz_126, cz_160, cz_161, cz_168, cz_200, cz_255, cz_300, cz_960, cz_999, cz_1000, cz_1001, cz_1002, cz_1003, cz_1120, cz_2000, cz_2003, cz_2004, cz_2005, cz_3999, cz_9999, cz_14640, xk_78 hX, xr_78_1 hX, xr_78_2 hX, xk_80 hX, xk_81 hX, c1, tn_0, tn_6, w1, w2, w3]
      · have c1' : ¬ ji_gI X 78 6 < a := fun z => by have := c1.mp z; omega
        have c2' := c2.mpr h.1
        have c3' := c3.mpr h.2
        rw [← c2'] at c1'
        simp only [s138_0, s138_1, s138_2, s138_5, s138_8, s138_9, s138_10, s138_13, s138_16, s138_17, s138_18, s138_21, s138_24, s138_25, s138_26, s138_29, s138_30, s138_31, s138_34, s138_35, s138_38, s138_39, s138_40, s138_43, s138_44, q138_46, s138_49, xIL_1, xIS_1, xQL_2, xQL_3, xAN_1, xAN_2, xAN_3, xCP_1, xC_s, xNC_I, ji_oI1, ji_oIm, kd_sC, gR_sC, gL_sC, ji_rv_s, ji_tl_s, ji_tl_n, ji_s1, ji_s2, ji_kl, List.getD_cons_zero, List.getD_cons_succ, List.set_cons_zero, List.set_cons_succ, List.length_cons, List.length_nil, ji_b_0, ji_b_1, ji_n0, ji_n1, ji_rcb_iff, ji_ok8_0, ji_ok8_1, ji_ok8_2, ji_ok8_3, ji_ok8_4, kd_sI, kd_sL, kd_sR, kd_cp, gR_sI, gR_sL, gR_cp, gL_sI, gL_sR, gL_cp, gI_sL, gI_sR, gI_sI, gL_sL, Nat.reduceEqDiff, false_and, and_false, true_and, and_true, Nat.reduceAdd, Nat.reduceLT, Nat.reduceSub, Int32.reduceLT, Int32.reduceAdd, not_false_eq_true, not_true_eq_false, and_self, ji_b_n, if_true, if_false, ↓reduceIte, cz_m100, cz_m19, cz_m18, cz_m17, cz_m16, cz_m15, cz_m14, cz_m13, cz_m12, cz_m11, cz_m4, cz_m3, cz_m2, cz_m1, cz_1, cz_2, cz_3, cz_4, cz_5, cz_6, cz_7, cz_8, cz_9, cz_10, cz_11, cz_12, cz_13, cz_14, cz_15, cz_16, cz_20, cz_24, cz_30, cz_32, cz_33, cz_38, cz_40, cz_41, cz_42, cz_43, cz_45, cz_48, cz_57, cz_59, cz_60, cz_61, cz_63, cz_64, cz_72, cz_96, cz_97, cz_99, cz_100, cz_122, cz_124, cz_126, cz_160, cz_161, cz_168, cz_200, cz_255, cz_300, cz_960, cz_999, cz_1000, cz_1001, cz_1002, cz_1003, cz_1120, cz_2000, cz_2003, cz_2004, cz_2005, cz_3999, cz_9999, cz_14640, xk_78 hX, xr_78_1 hX, xr_78_2 hX, xk_80 hX, xk_81 hX, c1', c2'.symm, c3', tn_0, tn_6, w1, w2, w3]
    · refine jy_E_eq _ _ (fun l hl => ?_) g80
      have : l < 6 := by omega
      show ji_gI X 80 l = ji_gI (ji_cp (ji_sI (ji_sI X 78 6 a) 78 7 b) 80 0 81 0 6) 81 l
      rw [gI_cp, if_pos ⟨rfl, by omega, by omega⟩, show 0 + (l - 0) = l by omega, gI_ne (by decide), gI_ne (by decide)]
  · rw [jy_st_0 (fun z => h z.2)]
    refine ⟨X, fun d => ?_, I0⟩
    apply en_138
    have c1' : ¬ ji_gI X 78 6 < a := fun z => h (Or.inl (c1.mp z))
    by_cases h2 : a = ji_gI X 78 6
    · have c3' : ¬ b < ji_gI X 78 7 := fun z => h (Or.inr ⟨c2.mp h2, c3.mp z⟩)
      rw [← h2] at c1'
      simp only [s138_0, s138_1, s138_2, s138_5, s138_8, s138_9, s138_10, s138_13, s138_16, s138_17, s138_18, s138_21, s138_24, s138_25, s138_26, s138_29, s138_30, s138_31, s138_34, s138_35, s138_38, s138_39, s138_40, s138_43, s138_44, q138_46, s138_49, xIL_1, xIS_1, xQL_2, xQL_3, xAN_1, xAN_2, xAN_3, xCP_1, xC_s, xNC_I, ji_oI1, ji_oIm, kd_sC, gR_sC, gL_sC, ji_rv_s, ji_tl_s, ji_tl_n, ji_s1, ji_s2, ji_kl, List.getD_cons_zero, List.getD_cons_succ, List.set_cons_zero, List.set_cons_succ, List.length_cons, List.length_nil, ji_b_0, ji_b_1, ji_n0, ji_n1, ji_rcb_iff, ji_ok8_0, ji_ok8_1, ji_ok8_2, ji_ok8_3, ji_ok8_4, kd_sI, kd_sL, kd_sR, kd_cp, gR_sI, gR_sL, gR_cp, gL_sI, gL_sR, gL_cp, gI_sL, gI_sR, gI_sI, gL_sL, Nat.reduceEqDiff, false_and, and_false, true_and, and_true, Nat.reduceAdd, Nat.reduceLT, Nat.reduceSub, Int32.reduceLT, Int32.reduceAdd, not_false_eq_true, not_true_eq_false, and_self, ji_b_n, if_true, if_false, ↓reduceIte, cz_m100, cz_m19, cz_m18, cz_m17, cz_m16, cz_m15, cz_m14, cz_m13, cz_m12, cz_m11, cz_m4, cz_m3, cz_m2, cz_m1, cz_1, cz_2, cz_3, cz_4, cz_5, cz_6, cz_7, cz_8, cz_9, cz_10, cz_11, cz_12, cz_13, cz_14, cz_15, cz_16, cz_20, cz_24, cz_30, cz_32, cz_33, cz_38, cz_40, cz_41, cz_42, cz_43, cz_45, cz_48, cz_57, cz_59, cz_60, cz_61, cz_63, cz_64, cz_72, cz_96, cz_97, cz_99, cz_100, cz_122, cz_124, cz_126, cz_160, cz_161, cz_168, cz_200, cz_255, cz_300, cz_960, cz_999, cz_1000, cz_1001, cz_1002, cz_1003, cz_1120, cz_2000, cz_2003, cz_2004, cz_2005, cz_3999, cz_9999, cz_14640, xk_78 hX, c1', h2.symm, c3']
    · simp only [s138_0, s138_1, s138_2, s138_5, s138_8, s138_9, s138_10, s138_13, s138_16, s138_17, s138_18, s138_21, s138_24, s138_25, s138_26, s138_29, s138_30, s138_31, s138_34, s138_35, s138_38, s138_39, s138_40, s138_43, s138_44, q138_46, s138_49, xIL_1, xIS_1, xQL_2, xQL_3, xAN_1, xAN_2, xAN_3, xCP_1, xC_s, xNC_I, ji_oI1, ji_oIm, kd_sC, gR_sC, gL_sC, ji_rv_s, ji_tl_s, ji_tl_n, ji_s1, ji_s2, ji_kl, List.getD_cons_zero, List.getD_cons_succ, List.set_cons_zero, List.set_cons_succ, List.length_cons, List.length_nil, ji_b_0, ji_b_1, ji_n0, ji_n1, ji_rcb_iff, ji_ok8_0, ji_ok8_1, ji_ok8_2, ji_ok8_3, ji_ok8_4, kd_sI, kd_sL, kd_sR, kd_cp, gR_sI, gR_sL, gR_cp, gL_sI, gL_sR, gL_cp, gI_sL, gI_sR, gI_sI, gL_sL, Nat.reduceEqDiff, false_and, and_false, true_and, and_true, Nat.reduceAdd, Nat.reduceLT, Nat.reduceSub, Int32.reduceLT, Int32.reduceAdd, not_false_eq_true, not_true_eq_false, and_self, ji_b_n, if_true, if_false, ↓reduceIte, cz_m100, cz_m19, cz_m18, cz_m17, cz_m16, cz_m15, cz_m14, cz_m13, cz_m12, cz_m11, cz_m4, cz_m3, cz_m2, cz_m1, cz_1, cz_2, cz_3, cz_4, cz_5, cz_6, cz_7, cz_8, cz_9, cz_10, cz_11, cz_12, cz_13, cz_14, cz_15, cz_16, cz_20, cz_24, cz_30, cz_32, cz_33, cz_38, cz_40, cz_41, cz_42, cz_43, cz_45, cz_48, cz_57, cz_59, cz_60, cz_61, cz_63, cz_64, cz_72, cz_96, cz_97, cz_99, cz_100, cz_122, cz_124, cz_126, cz_160, cz_161, cz_168, cz_200, cz_255, cz_300, cz_960, cz_999, cz_1000, cz_1001, cz_1002, cz_1003, cz_1120, cz_2000, cz_2003, cz_2004, cz_2005, cz_3999, cz_9999, cz_14640, xk_78 hX, c1', h2]
/-- what choosing on does: for the codes below v -/
def jy_H (P : ji_P) (N : ji_M) (n : Nat) (c : Int) (k j v : Nat) : Prop := ∀ (q : Int × Int × Nat) (X : ji_M) (a b : Int32), jy_IX P N X n c j v q → jy_ok n c (jy_si n (jy_p N) j v) → a.toInt = jy_rd n (jy_r N) j v → b.toInt = jy_sp n (jy_p N) j v → ∃ X', (∀ d, ji_CL (d + k + 2) 137 [.ref 78, .int (Int32.ofNat j), .int a, .int b] X = some (none, X')) ∧ jy_IX P N X' n c j v (jy_go N n c k v q)
theorem m137L (hn : n ≤ 4) (hc : 0 ≤ c ∧ c ≤ 9999) (hj : j + (k + 1) = jy_K N) (H : ∀ y, y < n + 1 → jy_H P N n c k (j + 1) (v * (n + 1) + y)) (ok : jy_ok n c (jy_si n (jy_p N) j v)) (ha : a.toInt = jy_rd n (jy_r N) j v) (hb : b.toInt = jy_sp n (jy_p N) j v) : ∀ (m y : Nat) (q : Int × Int × Nat) (X : ji_M), y + m = n → jy_IX P N X n c j v q → ∃ X', jy_IX P N X' n c j v (jy_run (fun q y => jy_go N n c k (v * (n + 1) + y) q) y m q) ∧ ∀ d o, ji_Ev (ji_CL (d + k + 2)) 137 130 X' [some (.ref 78), some (.int (Int32.ofNat j)), some (.int a), some (.int b), some (.int (ji_gI N 47 j)), some (.int (ji_gI N 48 j)), some (.int (Int32.ofNat n))] [] o → ji_Ev (ji_CL (d + k + 2)) 137 49 X [some (.ref 78), some (.int (Int32.ofNat j)), some (.int a), some (.int b), some (.int (ji_gI N 47 j)), some (.int (ji_gI N 48 j)), some (.int (Int32.ofNat y))] [] o := by
  intro m
  induction m with
  | zero =>
    intro y q X hy I
    have hX := I.1.xf
    have g : ¬ Int32.ofNat y < ji_gI X 78 4 := by rw [vi_lt, vi_nn (by omega), I.2.2.1]; omega
    refine ⟨X, I, fun d o G => ?_⟩
    have e : y = n := by omega
    subst e
    simp only [s137_0, s137_1, s137_2, q137_5, s137_8, s137_11, s137_12, s137_14, s137_17, s137_18, s137_19, q137_20, s137_23, s137_24, s137_25, s137_28, s137_29, q137_30, s137_33, s137_35, s137_36, s137_39, s137_40, q137_41, s137_44, s137_46, s137_47, s137_49, s137_51, s137_52, s137_55, s137_58, s137_59, s137_61, q137_63, s137_66, s137_69, s137_70, s137_73, s137_75, q137_76, s137_77, s137_79, q137_80, s137_81, s137_82, s137_85, s137_86, q137_88, s137_89, s137_90, s137_91, s137_92, s137_93, s137_94, s137_96, s137_97, s137_100, s137_102, s137_103, s137_104, s137_105, s137_106, s137_108, q137_109, s137_112, s137_113, s137_116, s137_118, q137_119, s137_120, s137_122, q137_123, q137_124, s137_131, s137_134, s137_135, q137_136, s137_137, s137_138, s137_139, s137_140, s137_141, s137_142, q137_143, s137_146, xIL_1, xIS_1, xQL_2, xQL_3, xAN_1, xAN_2, xAN_3, xCP_1, xC_s, xNC_I, ji_oI1, ji_oIm, kd_sC, gR_sC, gL_sC, ji_rv_s, ji_tl_s, ji_tl_n, ji_s1, ji_s2, ji_kl, List.getD_cons_zero, List.getD_cons_succ, List.set_cons_zero, List.set_cons_succ, List.length_cons, List.length_nil, ji_b_0, ji_b_1, ji_n0, ji_n1, ji_rcb_iff, ji_ok8_0, ji_ok8_1, ji_ok8_2, ji_ok8_3, ji_ok8_4, kd_sI, kd_sL, kd_sR, kd_cp, gR_sI, gR_sL, gR_cp, gL_sI, gL_sR, gL_cp, gI_sL, gI_sR, gI_sI, gL_sL, Nat.reduceEqDiff, false_and, and_false, true_and, and_true, Nat.reduceAdd, Nat.reduceLT, Nat.reduceSub, Int32.reduceLT, Int32.reduceAdd, not_false_eq_true, not_true_eq_false, and_self, ji_b_n, if_true, if_false, ↓reduceIte, cz_m100, cz_m19, cz_m18, cz_m17, cz_m16, cz_m15, cz_m14, cz_m13, cz_m12, cz_m11, cz_m4, cz_m3, cz_m2, cz_m1, cz_1, cz_2, cz_3, cz_4, cz_5, cz_6, cz_7, cz_8, cz_9, cz_10, cz_11, cz_12, cz_13, cz_14, cz_15, cz_16, cz_20, cz_24, cz_30, cz_32, cz_33, cz_38, cz_40, cz_41, cz_42, cz_43, cz_45, cz_48, cz_57, cz_59, cz_60, cz_61, cz_63, cz_64, cz_72, cz_96, cz_97, cz_99, cz_100, cz_122, cz_124, cz_126, cz_160, cz_161, cz_168, cz_200, cz_255, cz_300, cz_960, cz_999, cz_1000, cz_1001, cz_1002, cz_1003, cz_1120, cz_2000, cz_2003, cz_2004, cz_2005, cz_3999, cz_9999, cz_14640, xk_78 hX, g]
    exact G
  | succ m ih =>
    intro y q X hy I
    have I0 := I
    obtain ⟨R, g3, g4, g5, g6, g7, gs, g80, g81⟩ := I
    have hX := R.xf
    have Kb := jy_Kb R
    obtain ⟨i1, i2, i3⟩ := jy_ix (Y := y) (m := 4) (by omega) (by omega)
    obtain ⟨k1, k2, k3⟩ := jy_ix (Y := j) (m := 6) (by omega) (by omega)
    have g : Int32.ofNat y < ji_gI X 78 4 := by rw [vi_lt, vi_nn (by omega)]; omega
    have p1 := jx_o1p (k := y) (by omega)
    have p1' := jx_o1p (k := j) (by omega)
    have p2 : (Int32.ofInt 1) = 1 := rfl
    have C := fun d => m139 (d := d) I0 hn hc (by omega) (i := y) (by omega) ok
    have pb := jy_pc R j (by omega)
    have rb := jy_pr R j (by omega)
    by_cases t : jy_ok n c (jy_si n (jy_p N) (j + 1) (v * (n + 1) + y))
    · rw [ji_b_T t] at C
      have C : ∀ d, ji_CL (d + k + 2) 139 [.ref 78, .int (ji_gI N 47 j), .int (Int32.ofNat y)] X = _ := fun d => C (d + k + 1)
      have sb := jy_si_b (n := n) (jy_pc R) j v y (by omega)
      have spb := jy_sp_b (n := n) (jy_pc R) j v (by omega)
      have rdb := jy_rd_b (n := n) hn (jy_pr R) j v (by omega)
      -- the memory in which the plan goes on
      have ew : (ji_gI X 79 y + ji_gI N 47 j).toInt = jy_si n (jy_p N) j v y + jy_p N j := by
        have := gs y (by omega)
        unfold jy_p at pb ⊢
        unfold jy_p at this sb
        rw [vi_add (by omega) (by omega), this]
      obtain ⟨X1, eX1⟩ : ∃ X1, X1 = ji_sI (ji_sI X 79 y (ji_gI X 79 y + ji_gI N 47 j)) 80 j (Int32.ofNat y) := ⟨_, rfl⟩
      have R1 : ji_Rel P X1 N := by rw [eX1]; exact ji_Rel_offX R (ji_offX_sI (ji_offX_sI ji_offX_r rfl) rfl)
      have f78 : ∀ l, ji_gI X1 78 l = ji_gI X 78 l := fun l => by rw [eX1, gI_ne (by decide), gI_ne (by decide)]
      have I1 : jy_IX P N X1 n c (j + 1) (v * (n + 1) + y) q := by
        refine ⟨R1, by rw [eX1]; exact g3, by rw [f78]; exact g4, by rw [f78]; exact g5, by rw [f78]; exact g6, by rw [f78]; exact g7, fun y' hy' => ?_, (jy_E_s (by omega)).mpr ⟨?_, ?_⟩, fun h => ?_⟩
        · rw [jy_si_s (by omega), eX1, gI_ne (by decide), gI_sI]
          by_cases h : y = y'
          · subst h
            rw [if_pos ⟨rfl, rfl⟩, if_pos rfl, ew]
          · rw [if_neg (fun z => h z.2.symm), if_neg h, gs y' hy', Int.add_zero]
        · refine jy_E_eq _ _ (fun l hl => ?_) g80
          rw [eX1, gI_sI, if_neg (fun z => by omega), gI_ne (by decide)]
        · rw [eX1, gI_sI, if_pos ⟨rfl, rfl⟩]
          show (Int32.ofNat y).toInt = _
          rw [if_neg (by omega), i1]
        · refine jy_E_eq _ _ (fun l hl => ?_) (g81 h)
          rw [eX1, gI_ne (by decide), gI_ne (by decide)]
      have em : (ji_gI X 78 4 - Int32.ofNat y).toInt = (n : Int) - (y : Int) := by
        rw [vi_sub (by omega) (by omega), g4, i1]
      have mb := jy_mulb rb (b := (n : Int) - (y : Int)) (by omega)
      have em2 : (ji_gI N 48 j * (ji_gI X 78 4 - Int32.ofNat y)).toInt = jy_r N j * ((n : Int) - (y : Int)) := by
        have e : (ji_gI N 48 j).toInt = jy_r N j := rfl
        rw [vi_mul (by rw [e, em]; omega) (by rw [e, em]; omega), e, em]
      obtain ⟨X2, C2, I2⟩ := H y (by omega) q X1 (a + ji_gI N 48 j * (ji_gI X 78 4 - Int32.ofNat y)) (b + ji_gI N 47 j) I1 t (by
        rw [jy_rd_s (by omega), vi_add (by omega) (by omega), em2, ha]) (by
        have e : (ji_gI N 47 j).toInt = jy_p N j := rfl
        rw [jy_sp_s (by omega), if_pos (by omega), vi_add (by omega) (by omega), hb, e])
      have R2 := I2.1
      have hX2 := R2.xf
      obtain ⟨-, h3, h4, h5, h6, h7, hs, h80, h81⟩ := I2
      have es := hs y (by omega)
      rw [jy_si_s (by omega), if_pos rfl] at es
      have ew2 : (ji_gI X2 79 y - ji_gI N 47 j).toInt = jy_si n (jy_p N) j v y := by
        have e : (ji_gI N 47 j).toInt = jy_p N j := rfl
        rw [vi_sub (by omega) (by omega), es, e]
        omega
      have R3 : ji_Rel P (ji_sI X2 79 y (ji_gI X2 79 y - ji_gI N 47 j)) N := ji_Rel_offX R2 (ji_offX_sI ji_offX_r rfl)
      have I3 : jy_IX P N (ji_sI X2 79 y (ji_gI X2 79 y - ji_gI N 47 j)) n c j v (jy_go N n c k (v * (n + 1) + y) q) := by
        refine ⟨R3, h3, h4, h5, h6, h7, fun y' hy' => ?_, ?_, fun h => ?_⟩
        · rw [gI_sI]
          by_cases h : y' = y
          · subst h
            rw [if_pos ⟨rfl, rfl⟩, ew2]
          · rw [if_neg (fun z => h z.2), hs y' hy', jy_si_s (by omega), if_neg (fun z => h z.symm), Int.add_zero]
        · refine jy_E_eq _ _ (fun l hl => ?_) ((jy_E_s (by omega)).mp h80).1
          rw [gI_ne (by decide)]
        · refine jy_E_eq _ _ (fun l hl => ?_) (h81 h)
          rw [gI_ne (by decide)]
      obtain ⟨X', I', E'⟩ := ih (y + 1) _ _ (by omega) I3
      refine ⟨X', I', fun d o G => ?_⟩
      have E' := E' d o G
      have C2 := C2 d
      simp only [s137_0, s137_1, s137_2, q137_5, s137_8, s137_11, s137_12, s137_14, s137_17, s137_18, s137_19, q137_20, s137_23, s137_24, s137_25, s137_28, s137_29, q137_30, s137_33, s137_35, s137_36, s137_39, s137_40, q137_41, s137_44, s137_46, s137_47, s137_49, s137_51, s137_52, s137_55, s137_58, s137_59, s137_61, q137_63, s137_66, s137_69, s137_70, s137_73, s137_75, q137_76, s137_77, s137_79, q137_80, s137_81, s137_82, s137_85, s137_86, q137_88, s137_89, s137_90, s137_91, s137_92, s137_93, s137_94, s137_96, s137_97, s137_100, s137_102, s137_103, s137_104, s137_105, s137_106, s137_108, q137_109, s137_112, s137_113, s137_116, s137_118, q137_119, s137_120, s137_122, q137_123, q137_124, s137_131, s137_134, s137_135, q137_136, s137_137, s137_138, s137_139, s137_140, s137_141, s137_142, q137_143, s137_146, xIL_1, xIS_1, xQL_2, xQL_3, xAN_1, xAN_2, xAN_3, xCP_1, xC_s, xNC_I, ji_oI1, ji_oIm, kd_sC, gR_sC, gL_sC, ji_rv_s, ji_tl_s, ji_tl_n, ji_s1, ji_s2, ji_kl, List.getD_cons_zero, List.getD_cons_succ, List.set_cons_zero, List.set_cons_succ, List.length_cons, List.length_nil, ji_b_0, ji_b_1, ji_n0, ji_n1, ji_rcb_iff, ji_ok8_0, ji_ok8_1, ji_ok8_2, ji_ok8_3, ji_ok8_4, kd_sI, kd_sL, kd_sR, kd_cp, gR_sI, gR_sL, gR_cp, gL_sI, gL_sR, gL_cp, gI_sL, gI_sR, gI_sI, gL_sL, Nat.reduceEqDiff, false_and, and_false, true_and, and_true, Nat.reduceAdd, Nat.reduceLT, Nat.reduceSub, Int32.reduceLT, Int32.reduceAdd, not_false_eq_true, not_true_eq_false, and_self, ji_b_n, if_true, if_false, ↓reduceIte, cz_m100, cz_m19, cz_m18, cz_m17, cz_m16, cz_m15, cz_m14, cz_m13, cz_m12, cz_m11, cz_m4, cz_m3, cz_m2, cz_m1, cz_1, cz_2, cz_3, cz_4, cz_5, cz_6, cz_7, cz_8, cz_9, cz_10, cz_11, cz_12, cz_13, cz_14, cz_15, cz_16, cz_20, cz_24, cz_30, cz_32, cz_33, cz_38, cz_40, cz_41, cz_42, cz_43, cz_45, cz_48, cz_57, cz_59, cz_60, cz_61, cz_63, cz_64, cz_72, cz_96, cz_97, cz_99, cz_100, cz_122, cz_124, cz_126, cz_160, cz_161, cz_168, cz_200, cz_255, cz_300, cz_960, cz_999, cz_1000, cz_1001, cz_1002, cz_1003, cz_1120, cz_2000, cz_2003, cz_2004, cz_2005, cz_3999, cz_9999, cz_14640, -gI_sI, xk_78 hX, xr_78_0 hX, xr_78_1 hX, xk_79 hX, xk_80 hX, g, C, i2, i3, k2, k3, p1', ← eX1, f78]
      simp only [s137_0, s137_1, s137_2, q137_5, s137_8, s137_11, s137_12, s137_14, s137_17, s137_18, s137_19, q137_20, s137_23, s137_24, s137_25, s137_28, s137_29, q137_30, s137_33, s137_35, s137_36, s137_39, s137_40, q137_41, s137_44, s137_46, s137_47, s137_49, s137_51, s137_52, s137_55, s137_58, s137_59, s137_61, q137_63, s137_66, s137_69, s137_70, s137_73, s137_75, q137_76, s137_77, s137_79, q137_80, s137_81, s137_82, s137_85, s137_86, q137_88, s137_89, s137_90, s137_91, s137_92, s137_93, s137_94, s137_96, s137_97, s137_100, s137_102, s137_103, s137_104, s137_105, s137_106, s137_108, q137_109, s137_112, s137_113, s137_116, s137_118, q137_119, s137_120, s137_122, q137_123, q137_124, s137_131, s137_134, s137_135, q137_136, s137_137, s137_138, s137_139, s137_140, s137_141, s137_142, q137_143, s137_146, xIL_1, xIS_1, xQL_2, xQL_3, xAN_1, xAN_2, xAN_3, xCP_1, xC_s, xNC_I, ji_oI1, ji_oIm, kd_sC, gR_sC, gL_sC, ji_rv_s, ji_tl_s, ji_tl_n, ji_s1, ji_s2, ji_kl, List.getD_cons_zero, List.getD_cons_succ, List.set_cons_zero, List.set_cons_succ, List.length_cons, List.length_nil, ji_b_0, ji_b_1, ji_n0, ji_n1, ji_rcb_iff, ji_ok8_0, ji_ok8_1, ji_ok8_2, ji_ok8_3, ji_ok8_4, kd_sI, kd_sL, kd_sR, kd_cp, gR_sI, gR_sL, gR_cp, gL_sI, gL_sR, gL_cp, gI_sL, gI_sR, gI_sI, gL_sL, Nat.reduceEqDiff, false_and, and_false, true_and, and_true, Nat.reduceAdd, Nat.reduceLT, Nat.reduceSub, Int32.reduceLT, Int32.reduceAdd, not_false_eq_true, not_true_eq_false, and_self, ji_b_n, if_true, if_false, ↓reduceIte, cz_m100, cz_m19, cz_m18, cz_m17, cz_m16, cz_m15, cz_m14, cz_m13, cz_m12, cz_m11, cz_m4, cz_m3, cz_m2, cz_m1, cz_1, cz_2, cz_3, cz_4, cz_5, cz_6, cz_7, cz_8, cz_9, cz_10, cz_11, cz_12, cz_13, cz_14, cz_15, cz_16, cz_20, cz_24, cz_30, cz_32, cz_33, cz_38, cz_40, cz_41, cz_42, cz_43, cz_45, cz_48, cz_57, cz_59, cz_60, cz_61, cz_63, cz_64, cz_72, cz_96, cz_97, cz_99, cz_100, cz_122, cz_124, cz_126, cz_160, cz_161, cz_168, cz_200, cz_255, cz_300, cz_960, cz_999, cz_1000, cz_1001, cz_1002, cz_1003, cz_1120, cz_2000, cz_2003, cz_2004, cz_2005, cz_3999, cz_9999, cz_14640, -gI_sI, xk_78 hX2, xk_78 R1.xf, xr_78_0 hX2, xk_79 hX2, C2, i2, i3, p1, p2, p1', ← eX1, f78]
      simp only [s137_127]
      exact E'
    · rw [ji_b_F t] at C
      have C : ∀ d, ji_CL (d + k + 2) 139 [.ref 78, .int (ji_gI N 47 j), .int (Int32.ofNat y)] X = _ := fun d => C (d + k + 1)
      have e : jy_go N n c k (v * (n + 1) + y) q = q := jy_prune (fun l hl => (jy_pc R l hl).1) k (j + 1) _ q (by omega) t
      obtain ⟨X', I', E'⟩ := ih (y + 1) _ _ (by omega) I0
      refine ⟨X', ?_, fun d o G => ?_⟩
      · show jy_IX P N X' n c j v (jy_run _ (y + 1) m (jy_go N n c k (v * (n + 1) + y) q))
        rw [e]
        exact I'
      have E' := E' d o G
      simp only [s137_0, s137_1, s137_2, q137_5, s137_8, s137_11, s137_12, s137_14, s137_17, s137_18, s137_19, q137_20, s137_23, s137_24, s137_25, s137_28, s137_29, q137_30, s137_33, s137_35, s137_36, s137_39, s137_40, q137_41, s137_44, s137_46, s137_47, s137_49, s137_51, s137_52, s137_55, s137_58, s137_59, s137_61, q137_63, s137_66, s137_69, s137_70, s137_73, s137_75, q137_76, s137_77, s137_79, q137_80, s137_81, s137_82, s137_85, s137_86, q137_88, s137_89, s137_90, s137_91, s137_92, s137_93, s137_94, s137_96, s137_97, s137_100, s137_102, s137_103, s137_104, s137_105, s137_106, s137_108, q137_109, s137_112, s137_113, s137_116, s137_118, q137_119, s137_120, s137_122, q137_123, q137_124, s137_131, s137_134, s137_135, q137_136, s137_137, s137_138, s137_139, s137_140, s137_141, s137_142, q137_143, s137_146, xIL_1, xIS_1, xQL_2, xQL_3, xAN_1, xAN_2, xAN_3, xCP_1, xC_s, xNC_I, ji_oI1, ji_oIm, kd_sC, gR_sC, gL_sC, ji_rv_s, ji_tl_s, ji_tl_n, ji_s1, ji_s2, ji_kl, List.getD_cons_zero, List.getD_cons_succ, List.set_cons_zero, List.set_cons_succ, List.length_cons, List.length_nil, ji_b_0, ji_b_1, ji_n0, ji_n1, ji_rcb_iff, ji_ok8_0, ji_ok8_1, ji_ok8_2, ji_ok8_3, ji_ok8_4, kd_sI, kd_sL, kd_sR, kd_cp, gR_sI, gR_sL, gR_cp, gL_sI, gL_sR, gL_cp, gI_sL, gI_sR, gI_sI, gL_sL, Nat.reduceEqDiff, false_and, and_false, true_and, and_true, Nat.reduceAdd, Nat.reduceLT, Nat.reduceSub, Int32.reduceLT, Int32.reduceAdd, not_false_eq_true, not_true_eq_false, and_self, ji_b_n, if_true, if_false, ↓reduceIte, cz_m100, cz_m19, cz_m18, cz_m17, cz_m16, cz_m15, cz_m14, cz_m13, cz_m12, cz_m11, cz_m4, cz_m3, cz_m2, cz_m1, cz_1, cz_2, cz_3, cz_4, cz_5, cz_6, cz_7, cz_8, cz_9, cz_10, cz_11, cz_12, cz_13, cz_14, cz_15, cz_16, cz_20, cz_24, cz_30, cz_32, cz_33, cz_38, cz_40, cz_41, cz_42, cz_43, cz_45, cz_48, cz_57, cz_59, cz_60, cz_61, cz_63, cz_64, cz_72, cz_96, cz_97, cz_99, cz_100, cz_122, cz_124, cz_126, cz_160, cz_161, cz_168, cz_200, cz_255, cz_300, cz_960, cz_999, cz_1000, cz_1001, cz_1002, cz_1003, cz_1120, cz_2000, cz_2003, cz_2004, cz_2005, cz_3999, cz_9999, cz_14640, -gI_sI, xk_78 hX, g, C, p1, p2]
      simp only [s137_127]
      exact E'
end JIV
