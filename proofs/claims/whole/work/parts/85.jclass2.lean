/-! ===== joined: the class, all leaves ===== -/
def jj_IX (P : ji_P) (X N : ji_M) (l : Nat) : Prop := ji_Rel P X N ∧ ji_gI X 54 2 = ji_gI N 0 51 ∧ (∀ i, l ≤ i → i < jj_K N → jj_AG X N i) ∧ ∀ i, l ≤ i → i ≤ jj_K N → jj_MB X N i
noncomputable def jj_en (N : ji_M) (y : Nat) : Int32 := if y = jj_G N then -1 else Int32.ofNat y
section JIV
variable {X Y N N' M : ji_M} {P : ji_P} {x y z w a b : Int32} {d r m n i j k v l g s : Nat} {o : Option Value × ji_M}
/-- agreements of a leaf -/
theorem m119A (hl : l < jj_K N) : ∀ (m g : Nat) (X : ji_M), g + m = jj_G N → ji_Rel P X N → ji_gI X 54 2 = ji_gI N 0 51 → (∀ g', g' < g → (ji_gI X (56 + l) g').toInt = jj_ag N l g') → ∃ X', ji_Rel P X' N ∧ jj_AG X' N l ∧ (∀ a, a ≠ 56 + l → ji_gI X' a = ji_gI X a) ∧ ∀ d o, ji_Ev (ji_CL (d + 1)) 119 88 X' [some (.ref 54), some (.ref 50), some (.ref 52), some (.int x), some (.int (Int32.ofNat l)), some (.int (Int32.ofNat (jj_G N)))] [] o → ji_Ev (ji_CL (d + 1)) 119 46 X [some (.ref 54), some (.ref 50), some (.ref 52), some (.int x), some (.int (Int32.ofNat l)), some (.int (Int32.ofNat g))] [] o := by
  intro m
  induction m with
  | zero =>
    intro g X hg R h54 H
    have hX := R.xf
    have Kb := jj_Kb R
    have e : g = jj_G N := by omega
    rw [e] at H ⊢
    have g' : ¬ Int32.ofNat (jj_G N) < ji_gI N 0 51 := by rw [vi_lt, vi_nn (by omega)]; omega
    refine ⟨X, R, H, fun _ _ => rfl, fun d o G => ?_⟩
    simp only [s119_0, s119_2, q119_3, s119_6, s119_9, s119_10, s119_11, s119_13, q119_14, s119_17, s119_20, s119_23, s119_24, s119_27, q119_28, s119_29, q119_30, s119_33, s119_34, s119_35, s119_36, s119_38, s119_40, s119_43, s119_44, s119_46, s119_48, s119_49, s119_52, s119_55, s119_56, s119_59, q119_61, s119_62, s119_64, s119_65, s119_67, q119_68, s119_71, s119_72, s119_74, q119_75, q119_78, q119_81, q119_82, s119_89, s119_91, s119_93, s119_95, s119_98, s119_99, s119_102, q119_104, s119_105, s119_107, s119_108, s119_110, q119_112, q119_115, q119_116, s119_119, q119_122, s119_125, s119_128, xIL_1, xIS_1, xQL_2, xQL_3, xAN_1, xAN_2, xAN_3, xCP_1, xC_s, xNC_I, ji_oI1, ji_oIm, kd_sC, gR_sC, gL_sC, ji_rv_s, ji_tl_s, ji_tl_n, ji_s1, ji_s2, ji_kl, List.getD_cons_zero, List.getD_cons_succ, List.set_cons_zero, List.set_cons_succ, List.length_cons, List.length_nil, ji_b_0, ji_b_1, ji_n0, ji_n1, ji_rcb_iff, ji_ok8_0, ji_ok8_1, ji_ok8_2, ji_ok8_3, ji_ok8_4, kd_sI, kd_sL, kd_sR, kd_cp, gR_sI, gR_sL, gR_cp, gL_sI, gL_sR, gL_cp, gI_sL, gI_sR, gI_sI, gL_sL, Nat.reduceEqDiff, false_and, and_false, true_and, and_true, Nat.reduceAdd, Nat.reduceLT, Nat.reduceSub, Int32.reduceLT, Int32.reduceAdd, not_false_eq_true, not_true_eq_false, and_self, ji_b_n, if_true, if_false, ↓reduceIte, cz_m100, cz_m19, cz_m18, cz_m17, cz_m16, cz_m15, cz_m14, cz_m13, cz_m12, cz_m11, cz_m4, cz_m3, cz_m2, cz_m1, cz_1, cz_2, cz_3, cz_4, cz_5, cz_6, cz_7, cz_8, cz_9, cz_10, cz_11, cz_12, cz_13, cz_14, cz_15, cz_16, cz_20, cz_24, cz_30, cz_32, cz_33, cz_38, cz_40, cz_41, cz_42, cz_43, cz_45, cz_48, cz_57, cz_59, cz_60, cz_61, cz_63, cz_64, cz_72, cz_96, cz_97, cz_99, cz_100, cz_122, cz_124, cz_126, cz_160, cz_161, cz_168, cz_200, cz_255, cz_300, cz_960, cz_999, cz_1000, cz_1001, cz_1002, cz_1003, cz_1120, cz_2000, cz_2003, cz_2004, cz_2005, cz_3999, cz_9999, cz_14640, xk_54 hX, h54, g']
    exact G
  | succ m ih =>
    intro g X hg R h54 H
    have hX := R.xf
    have Kb := jj_Kb R
    have g' : Int32.ofNat g < ji_gI N 0 51 := by rw [vi_lt, vi_nn (by omega)]; omega
    have p1 := jx_o1p (k := g) (by omega)
    have p2 : (Int32.ofInt 1) = 1 := rfl
    have r5 := jj_r55 (l := l) hX (by omega)
    obtain ⟨i1, i2, i3⟩ := jy_ix (Y := l) (m := 6) (by omega) (by omega)
    obtain ⟨k1, k2, k3⟩ := jy_ix (Y := g) (m := 6) (by omega) (by omega)
    have A := R.leaves.2.2 l (by omega)
    have B := R.gaps.2.2 g (by omega)
    have c1 : ji_at X 50 51 4 (Int32.ofNat l) 0 = ji_gI X 51 (l * 4) := by
      have := ji_at_in (M := X) (r := 50) (c := 51) (w := 4) (x := Int32.ofNat l) (y := 0) (j := 0) (by rw [R.leaves.1]; omega) rfl (by omega) (by omega)
      rw [this, i1]; rfl
    have c2 : ji_at X 52 53 4 (Int32.ofNat g) 0 = ji_gI X 53 (g * 4) := by
      have := ji_at_in (M := X) (r := 52) (c := 53) (w := 4) (x := Int32.ofNat g) (y := 0) (j := 0) (by rw [R.gaps.1]; omega) rfl (by omega) (by omega)
      rw [this, k1]; rfl
    have C := fun d => m117 (d := d) (M := X) A.1.1 B.1.1
    rw [ji_ag_same R (l := l) (g := g) (by omega) (by omega)] at C
    obtain ⟨X', R', A', o', E⟩ := ih (g + 1) (ji_sI X (56 + l) g (ji_ag4 (fun k => ji_gI N 31 (4 * l + k)) (fun k => ji_gI N 33 (4 * g + k)))) (by omega) (ji_Rel_offX R (ji_offX_sI ji_offX_r (jj_xs1 (by omega)))) (by rw [gI_ne (by omega)]; exact h54) (fun g1 hg1 => by
      rw [gI_sI]
      by_cases q : g1 = g
      · rw [if_pos ⟨rfl, q⟩, q]; rfl
      · rw [if_neg (fun z => q z.2)]; exact H g1 (by omega))
    refine ⟨X', R', A', fun a ha => (o' a ha).trans (gF_sI ha), fun d o G => ?_⟩
    have E := E d o G
    have ma := fun x y => m49 (d := d) (x := x) (y := y) (rw_50 R)
    have mb := fun x y => m49 (d := d) (x := x) (y := y) (rw_52 R)
    simp only [s119_0, s119_2, q119_3, s119_6, s119_9, s119_10, s119_11, s119_13, q119_14, s119_17, s119_20, s119_23, s119_24, s119_27, q119_28, s119_29, q119_30, s119_33, s119_34, s119_35, s119_36, s119_38, s119_40, s119_43, s119_44, s119_46, s119_48, s119_49, s119_52, s119_55, s119_56, s119_59, q119_61, s119_62, s119_64, s119_65, s119_67, q119_68, s119_71, s119_72, s119_74, q119_75, q119_78, q119_81, q119_82, s119_89, s119_91, s119_93, s119_95, s119_98, s119_99, s119_102, q119_104, s119_105, s119_107, s119_108, s119_110, q119_112, q119_115, q119_116, s119_119, q119_122, s119_125, s119_128, xIL_1, xIS_1, xQL_2, xQL_3, xAN_1, xAN_2, xAN_3, xCP_1, xC_s, xNC_I, ji_oI1, ji_oIm, kd_sC, gR_sC, gL_sC, ji_rv_s, ji_tl_s, ji_tl_n, ji_s1, ji_s2, ji_kl, List.getD_cons_zero, List.getD_cons_succ, List.set_cons_zero, List.set_cons_succ, List.length_cons, List.length_nil, ji_b_0, ji_b_1, ji_n0, ji_n1, ji_rcb_iff, ji_ok8_0, ji_ok8_1, ji_ok8_2, ji_ok8_3, ji_ok8_4, kd_sI, kd_sL, kd_sR, kd_cp, gR_sI, gR_sL, gR_cp, gL_sI, gL_sR, gL_cp, gI_sL, gI_sR, gI_sI, gL_sL, Nat.reduceEqDiff, false_and, and_false, true_and, and_true, Nat.reduceAdd, Nat.reduceLT, Nat.reduceSub, Int32.reduceLT, Int32.reduceAdd, not_false_eq_true, not_true_eq_false, and_self, ji_b_n, if_true, if_false, ↓reduceIte, cz_m100, cz_m19, cz_m18, cz_m17, cz_m16, cz_m15, cz_m14, cz_m13, cz_m12, cz_m11, cz_m4, cz_m3, cz_m2, cz_m1, cz_1, cz_2, cz_3, cz_4, cz_5, cz_6, cz_7, cz_8, cz_9, cz_10, cz_11, cz_12, cz_13, cz_14, cz_15, cz_16, cz_20, cz_24, cz_30, cz_32, cz_33, cz_38, cz_40, cz_41, cz_42, cz_43, cz_45, cz_48, cz_57, cz_59, cz_60, cz_61, cz_63, cz_64, cz_72, cz_96, cz_97, cz_99, cz_100, cz_122, cz_124, cz_126, cz_160, cz_161, cz_168, cz_200, cz_255, cz_300, cz_960, cz_999, cz_1000, cz_1001, cz_1002, cz_1003, cz_1120, cz_2000, cz_2003, cz_2004, cz_2005, cz_3999, cz_9999, cz_14640, -gI_sI, xk_54 hX, xr_54_0 hX, xk_55 hX, h54, g', i2, i3, r5.1, r5.2, k2, k3, xk_50 hX, xk_52 hX, ma, mb, c1, c2, C, p1, p2]
    simp only [s119_85]
    exact E
/-- the most behind a leaf -/
theorem m119B (hl : l < jj_K N) : ∀ (m s : Nat) (X : ji_M), s + m = 64 → ji_Rel P X N → ji_gI X 54 2 = ji_gI N 0 51 → jj_AG X N l → jj_MB X N (l + 1) → (∀ s', s' < s → (ji_gI X (63 + l) s').toInt = jj_mb (jj_K N) (jj_G N) (jj_ag N) (jj_K N - l) s') → ∃ X', ji_Rel P X' N ∧ jj_MB X' N l ∧ (∀ a, a ≠ 63 + l → ji_gI X' a = ji_gI X a) ∧ ∀ d o, ji_Ev (ji_CL (d + 2)) 119 122 X' [some (.ref 54), some (.ref 50), some (.ref 52), some (.int x), some (.int (Int32.ofNat l)), some (.int (Int32.ofNat 64))] [] o → ji_Ev (ji_CL (d + 2)) 119 91 X [some (.ref 54), some (.ref 50), some (.ref 52), some (.int x), some (.int (Int32.ofNat l)), some (.int (Int32.ofNat s))] [] o := by
  intro m
  induction m with
  | zero =>
    intro s X hs R h54 A B H
    have hX := R.xf
    have e : s = 64 := by omega
    rw [e] at H ⊢
    have g' : ¬ Int32.ofNat 64 < 64 := by decide
    refine ⟨X, R, H, fun _ _ => rfl, fun d o G => ?_⟩
    simp only [s119_0, s119_2, q119_3, s119_6, s119_9, s119_10, s119_11, s119_13, q119_14, s119_17, s119_20, s119_23, s119_24, s119_27, q119_28, s119_29, q119_30, s119_33, s119_34, s119_35, s119_36, s119_38, s119_40, s119_43, s119_44, s119_46, s119_48, s119_49, s119_52, s119_55, s119_56, s119_59, q119_61, s119_62, s119_64, s119_65, s119_67, q119_68, s119_71, s119_72, s119_74, q119_75, q119_78, q119_81, q119_82, s119_85, s119_88, s119_89, s119_91, s119_93, s119_95, s119_98, s119_99, s119_102, q119_104, s119_105, s119_107, s119_108, s119_110, q119_112, q119_115, q119_116, s119_125, s119_128, xIL_1, xIS_1, xQL_2, xQL_3, xAN_1, xAN_2, xAN_3, xCP_1, xC_s, xNC_I, ji_oI1, ji_oIm, kd_sC, gR_sC, gL_sC, ji_rv_s, ji_tl_s, ji_tl_n, ji_s1, ji_s2, ji_kl, List.getD_cons_zero, List.getD_cons_succ, List.set_cons_zero, List.set_cons_succ, List.length_cons, List.length_nil, ji_b_0, ji_b_1, ji_n0, ji_n1, ji_rcb_iff, ji_ok8_0, ji_ok8_1, ji_ok8_2, ji_ok8_3, ji_ok8_4, kd_sI, kd_sL, kd_sR, kd_cp, gR_sI, gR_sL, gR_cp, gL_sI, gL_sR, gL_cp, gI_sL, gI_sR, gI_sI, gL_sL, Nat.reduceEqDiff, false_and, and_false, true_and, and_true, Nat.reduceAdd, Nat.reduceLT, Nat.reduceSub, Int32.reduceLT, Int32.reduceAdd, not_false_eq_true, not_true_eq_false, and_self, ji_b_n, if_true, if_false, ↓reduceIte, cz_m100, cz_m19, cz_m18, cz_m17, cz_m16, cz_m15, cz_m14, cz_m13, cz_m12, cz_m11, cz_m4, cz_m3, cz_m2, cz_m1, cz_1, cz_2, cz_3, cz_4, cz_5, cz_6, cz_7, cz_8, cz_9, cz_10, cz_11, cz_12, cz_13, cz_14, cz_15, cz_16, cz_20, cz_24, cz_30, cz_32, cz_33, cz_38, cz_40, cz_41, cz_42, cz_43, cz_45, cz_48, cz_57, cz_59, cz_60, cz_61, cz_63, cz_64, cz_72, cz_96, cz_97, cz_99, cz_100, cz_122, cz_124, cz_126, cz_160, cz_161, cz_168, cz_200, cz_255, cz_300, cz_960, cz_999, cz_1000, cz_1001, cz_1002, cz_1003, cz_1120, cz_2000, cz_2003, cz_2004, cz_2005, cz_3999, cz_9999, cz_14640, g']
    exact G
  | succ m ih =>
    intro s X hs R h54 A B H
    have hX := R.xf
    have Kb := jj_Kb R
    have g' : Int32.ofNat s < 64 := by rw [vi_lt, vi_nn (by omega)]; show (s : Int) < 64; omega
    have p1 := jx_o1p (k := s) (by omega)
    have p2 : (Int32.ofInt 1) = 1 := rfl
    have r6 := jj_r62 (l := l) hX (by omega)
    obtain ⟨i1, i2, i3⟩ := jy_ix (Y := l) (m := 7) (by omega) (by omega)
    obtain ⟨k1, k2, k3⟩ := jy_ix (Y := s) (m := 64) (by omega) (by omega)
    obtain ⟨w, hw, C⟩ := m121 R h54 A B hl (s := s) (by omega)
    obtain ⟨X', R', B', o', E⟩ := ih (s + 1) (ji_sI X (63 + l) s w) (by omega) (ji_Rel_offX R (ji_offX_sI ji_offX_r (jj_xs2 (by omega)))) (by rw [gI_ne (by omega)]; exact h54) (fun g hg => by rw [gI_ne (by omega)]; exact A g hg) (fun s1 hs1 => by rw [gI_ne (by omega)]; exact B s1 hs1) (fun s1 hs1 => by
      rw [gI_sI]
      by_cases q : s1 = s
      · rw [if_pos ⟨rfl, q⟩, q]; exact hw
      · rw [if_neg (fun z => q z.2)]; exact H s1 (by omega))
    refine ⟨X', R', B', fun a ha => (o' a ha).trans (gF_sI ha), fun d o G => ?_⟩
    have E := E d o G
    simp only [s119_0, s119_2, q119_3, s119_6, s119_9, s119_10, s119_11, s119_13, q119_14, s119_17, s119_20, s119_23, s119_24, s119_27, q119_28, s119_29, q119_30, s119_33, s119_34, s119_35, s119_36, s119_38, s119_40, s119_43, s119_44, s119_46, s119_48, s119_49, s119_52, s119_55, s119_56, s119_59, q119_61, s119_62, s119_64, s119_65, s119_67, q119_68, s119_71, s119_72, s119_74, q119_75, q119_78, q119_81, q119_82, s119_85, s119_88, s119_89, s119_91, s119_93, s119_95, s119_98, s119_99, s119_102, q119_104, s119_105, s119_107, s119_108, s119_110, q119_112, q119_115, q119_116, s119_125, s119_128, xIL_1, xIS_1, xQL_2, xQL_3, xAN_1, xAN_2, xAN_3, xCP_1, xC_s, xNC_I, ji_oI1, ji_oIm, kd_sC, gR_sC, gL_sC, ji_rv_s, ji_tl_s, ji_tl_n, ji_s1, ji_s2, ji_kl, List.getD_cons_zero, List.getD_cons_succ, List.set_cons_zero, List.set_cons_succ, List.length_cons, List.length_nil, ji_b_0, ji_b_1, ji_n0, ji_n1, ji_rcb_iff, ji_ok8_0, ji_ok8_1, ji_ok8_2, ji_ok8_3, ji_ok8_4, kd_sI, kd_sL, kd_sR, kd_cp, gR_sI, gR_sL, gR_cp, gL_sI, gL_sR, gL_cp, gI_sL, gI_sR, gI_sI, gL_sL, Nat.reduceEqDiff, false_and, and_false, true_and, and_true, Nat.reduceAdd, Nat.reduceLT, Nat.reduceSub, Int32.reduceLT, Int32.reduceAdd, not_false_eq_true, not_true_eq_false, and_self, ji_b_n, if_true, if_false, ↓reduceIte, cz_m100, cz_m19, cz_m18, cz_m17, cz_m16, cz_m15, cz_m14, cz_m13, cz_m12, cz_m11, cz_m4, cz_m3, cz_m2, cz_m1, cz_1, cz_2, cz_3, cz_4, cz_5, cz_6, cz_7, cz_8, cz_9, cz_10, cz_11, cz_12, cz_13, cz_14, cz_15, cz_16, cz_20, cz_24, cz_30, cz_32, cz_33, cz_38, cz_40, cz_41, cz_42, cz_43, cz_45, cz_48, cz_57, cz_59, cz_60, cz_61, cz_63, cz_64, cz_72, cz_96, cz_97, cz_99, cz_100, cz_122, cz_124, cz_126, cz_160, cz_161, cz_168, cz_200, cz_255, cz_300, cz_960, cz_999, cz_1000, cz_1001, cz_1002, cz_1003, cz_1120, cz_2000, cz_2003, cz_2004, cz_2005, cz_3999, cz_9999, cz_14640, -gI_sI, xk_54 hX, xr_54_1 hX, xk_62 hX, g', i2, i3, r6.1, r6.2, k2, k3, C, p1, p2]
    simp only [s119_119]
    exact E
theorem m119L : ∀ (l : Nat) (X : ji_M) (l5 : Option Value), l ≤ jj_K N → jj_IX P X N l → ∃ X', jj_IX P X' N 0 ∧ ∃ k5, ∀ d o, ji_Ev (ji_CL (d + 2)) 119 128 X' [some (.ref 54), some (.ref 50), some (.ref 52), some (.int x), some (.int (-1)), k5] [] o → ji_Ev (ji_CL (d + 2)) 119 38 X [some (.ref 54), some (.ref 50), some (.ref 52), some (.int x), some (.int (Int32.ofNat l + (-1))), l5] [] o := by
  intro l
  induction l with
  | zero =>
    intro X l5 hl I
    have e : Int32.ofNat 0 + (-1) = -1 := rfl
    have g : ((-1 : Int32) < 0) := by decide
    rw [e]
    refine ⟨X, I, l5, fun d o G => ?_⟩
    simp only [s119_0, s119_2, q119_3, s119_6, s119_9, s119_10, s119_11, s119_13, q119_14, s119_17, s119_20, s119_23, s119_24, s119_27, q119_28, s119_29, q119_30, s119_33, s119_34, s119_35, s119_36, s119_38, s119_40, s119_43, s119_44, s119_46, s119_48, s119_49, s119_52, s119_55, s119_56, s119_59, q119_61, s119_62, s119_64, s119_65, s119_67, q119_68, s119_71, s119_72, s119_74, q119_75, q119_78, q119_81, q119_82, s119_85, s119_88, s119_89, s119_91, s119_93, s119_95, s119_98, s119_99, s119_102, q119_104, s119_105, s119_107, s119_108, s119_110, q119_112, q119_115, q119_116, s119_119, q119_122, xIL_1, xIS_1, xQL_2, xQL_3, xAN_1, xAN_2, xAN_3, xCP_1, xC_s, xNC_I, ji_oI1, ji_oIm, kd_sC, gR_sC, gL_sC, ji_rv_s, ji_tl_s, ji_tl_n, ji_s1, ji_s2, ji_kl, List.getD_cons_zero, List.getD_cons_succ, List.set_cons_zero, List.set_cons_succ, List.length_cons, List.length_nil, ji_b_0, ji_b_1, ji_n0, ji_n1, ji_rcb_iff, ji_ok8_0, ji_ok8_1, ji_ok8_2, ji_ok8_3, ji_ok8_4, kd_sI, kd_sL, kd_sR, kd_cp, gR_sI, gR_sL, gR_cp, gL_sI, gL_sR, gL_cp, gI_sL, gI_sR, gI_sI, gL_sL, Nat.reduceEqDiff, false_and, and_false, true_and, and_true, Nat.reduceAdd, Nat.reduceLT, Nat.reduceSub, Int32.reduceLT, Int32.reduceAdd, not_false_eq_true, not_true_eq_false, and_self, ji_b_n, if_true, if_false, ↓reduceIte, cz_m100, cz_m19, cz_m18, cz_m17, cz_m16, cz_m15, cz_m14, cz_m13, cz_m12, cz_m11, cz_m4, cz_m3, cz_m2, cz_m1, cz_1, cz_2, cz_3, cz_4, cz_5, cz_6, cz_7, cz_8, cz_9, cz_10, cz_11, cz_12, cz_13, cz_14, cz_15, cz_16, cz_20, cz_24, cz_30, cz_32, cz_33, cz_38, cz_40, cz_41, cz_42, cz_43, cz_45, cz_48, cz_57, cz_59, cz_60, cz_61, cz_63, cz_64, cz_72, cz_96, cz_97, cz_99, cz_100, cz_122, cz_124, cz_126, cz_160, cz_161, cz_168, cz_200, cz_255, cz_300, cz_960, cz_999, cz_1000, cz_1001, cz_1002, cz_1003, cz_1120, cz_2000, cz_2003, cz_2004, cz_2005, cz_3999, cz_9999, cz_14640, g]
    exact G
  | succ l ih =>
    intro X l5 hl I
    obtain ⟨R, h54, hA, hB⟩ := I
    have Kb := jj_Kb R
    obtain ⟨X1, R1, A1, o1, E1⟩ := m119A (x := x) (l := l) (by omega) (jj_G N) 0 X (by omega) R h54 (fun g' hg' => absurd hg' (by omega))
    have h541 : ji_gI X1 54 2 = ji_gI N 0 51 := by rw [o1 54 (by omega)]; exact h54
    have B1 : ∀ i, l + 1 ≤ i → i ≤ jj_K N → jj_MB X1 N i := fun i h1 h2 s hs => by rw [o1 (63 + i) (by omega)]; exact hB i h1 h2 s hs
    have A1' : ∀ i, l ≤ i → i < jj_K N → jj_AG X1 N i := fun i h1 h2 => by
      by_cases q : i = l
      · subst q; exact A1
      · intro g hg
        rw [o1 (56 + i) (by omega)]
        exact hA i (by omega) h2 g hg
    obtain ⟨X2, R2, B2, o2, E2⟩ := m119B (x := x) (l := l) (by omega) 64 0 X1 (by omega) R1 h541 A1 (B1 (l + 1) (by omega) (by omega)) (fun s' hs' => absurd hs' (by omega))
    have I2 : jj_IX P X2 N l := by
      refine ⟨R2, by rw [o2 54 (by omega)]; exact h541, fun i h1 h2 g hg => ?_, fun i h1 h2 => ?_⟩
      · rw [o2 (56 + i) (by omega)]
        exact A1' i h1 h2 g hg
      · by_cases q : i = l
        · subst q; exact B2
        · intro s hs
          rw [o2 (63 + i) (by omega)]
          exact B1 i (by omega) h2 s hs
    obtain ⟨X', I', k5, E⟩ := ih X2 (some (.int (Int32.ofNat 64))) (by omega) I2
    refine ⟨X', I', k5, fun d o G => ?_⟩
    have E := E d o G
    have g : ¬ Int32.ofNat l < 0 := by rw [vi_lt, vi_nn (by omega)]; show ¬ (l : Int) < 0; omega
    have E2 := E2 d o (by
      simp only [q119_122, s119_122, s119_125, xIL_1, xIS_1, xQL_2, xQL_3, xAN_1, xAN_2, xAN_3, xCP_1, xC_s, xNC_I, ji_oI1, ji_oIm, kd_sC, gR_sC, gL_sC, ji_rv_s, ji_tl_s, ji_tl_n, ji_s1, ji_s2, ji_kl, List.getD_cons_zero, List.getD_cons_succ, List.set_cons_zero, List.set_cons_succ, List.length_cons, List.length_nil, ji_b_0, ji_b_1, ji_n0, ji_n1, ji_rcb_iff, ji_ok8_0, ji_ok8_1, ji_ok8_2, ji_ok8_3, ji_ok8_4, kd_sI, kd_sL, kd_sR, kd_cp, gR_sI, gR_sL, gR_cp, gL_sI, gL_sR, gL_cp, gI_sL, gI_sR, gI_sI, gL_sL, Nat.reduceEqDiff, false_and, and_false, true_and, and_true, Nat.reduceAdd, Nat.reduceLT, Nat.reduceSub, Int32.reduceLT, Int32.reduceAdd, not_false_eq_true, not_true_eq_false, and_self, ji_b_n, if_true, if_false, ↓reduceIte, cz_m100, cz_m19, cz_m18, cz_m17, cz_m16, cz_m15, cz_m14, cz_m13, cz_m12, cz_m11, cz_m4, cz_m3, cz_m2, cz_m1, cz_1, cz_2, cz_3, cz_4, cz_5, cz_6, cz_7, cz_8, cz_9, cz_10, cz_11, cz_12, cz_13, cz_14, cz_15, cz_16, cz_20, cz_24, cz_30, cz_32, cz_33, cz_38, cz_40, cz_41, cz_42, cz_43, cz_45, cz_48, cz_57, cz_59, cz_60, cz_61, cz_63, cz_64, cz_72, cz_96, cz_97, cz_99, cz_100, cz_122, cz_124, cz_126, cz_160, cz_161, cz_168, cz_200, cz_255, cz_300, cz_960, cz_999, cz_1000, cz_1001, cz_1002, cz_1003, cz_1120, cz_2000, cz_2003, cz_2004, cz_2005, cz_3999, cz_9999, cz_14640]
      exact E)
    have E2 : ji_Ev (ji_CL (d + 2)) 119 91 X1 [some (.ref 54), some (.ref 50), some (.ref 52), some (.int x), some (.int (Int32.ofNat l)), some (.int 0)] [] o := E2
    have E1 := E1 (d + 1) o (by
      simp only [s119_88, s119_89, xIL_1, xIS_1, xQL_2, xQL_3, xAN_1, xAN_2, xAN_3, xCP_1, xC_s, xNC_I, ji_oI1, ji_oIm, kd_sC, gR_sC, gL_sC, ji_rv_s, ji_tl_s, ji_tl_n, ji_s1, ji_s2, ji_kl, List.getD_cons_zero, List.getD_cons_succ, List.set_cons_zero, List.set_cons_succ, List.length_cons, List.length_nil, ji_b_0, ji_b_1, ji_n0, ji_n1, ji_rcb_iff, ji_ok8_0, ji_ok8_1, ji_ok8_2, ji_ok8_3, ji_ok8_4, kd_sI, kd_sL, kd_sR, kd_cp, gR_sI, gR_sL, gR_cp, gL_sI, gL_sR, gL_cp, gI_sL, gI_sR, gI_sI, gL_sL, Nat.reduceEqDiff, false_and, and_false, true_and, and_true, Nat.reduceAdd, Nat.reduceLT, Nat.reduceSub, Int32.reduceLT, Int32.reduceAdd, not_false_eq_true, not_true_eq_false, and_self, ji_b_n, if_true, if_false, ↓reduceIte, cz_m100, cz_m19, cz_m18, cz_m17, cz_m16, cz_m15, cz_m14, cz_m13, cz_m12, cz_m11, cz_m4, cz_m3, cz_m2, cz_m1, cz_1, cz_2, cz_3, cz_4, cz_5, cz_6, cz_7, cz_8, cz_9, cz_10, cz_11, cz_12, cz_13, cz_14, cz_15, cz_16, cz_20, cz_24, cz_30, cz_32, cz_33, cz_38, cz_40, cz_41, cz_42, cz_43, cz_45, cz_48, cz_57, cz_59, cz_60, cz_61, cz_63, cz_64, cz_72, cz_96, cz_97, cz_99, cz_100, cz_122, cz_124, cz_126, cz_160, cz_161, cz_168, cz_200, cz_255, cz_300, cz_960, cz_999, cz_1000, cz_1001, cz_1002, cz_1003, cz_1120, cz_2000, cz_2003, cz_2004, cz_2005, cz_3999, cz_9999, cz_14640]
      exact E2)
    have E1 : ji_Ev (ji_CL (d + 2)) 119 46 X [some (.ref 54), some (.ref 50), some (.ref 52), some (.int x), some (.int (Int32.ofNat l)), some (.int 0)] [] o := E1
    rw [jy_pm1 (by omega)]
    simp only [s119_38, s119_40, s119_43, s119_44, xIL_1, xIS_1, xQL_2, xQL_3, xAN_1, xAN_2, xAN_3, xCP_1, xC_s, xNC_I, ji_oI1, ji_oIm, kd_sC, gR_sC, gL_sC, ji_rv_s, ji_tl_s, ji_tl_n, ji_s1, ji_s2, ji_kl, List.getD_cons_zero, List.getD_cons_succ, List.set_cons_zero, List.set_cons_succ, List.length_cons, List.length_nil, ji_b_0, ji_b_1, ji_n0, ji_n1, ji_rcb_iff, ji_ok8_0, ji_ok8_1, ji_ok8_2, ji_ok8_3, ji_ok8_4, kd_sI, kd_sL, kd_sR, kd_cp, gR_sI, gR_sL, gR_cp, gL_sI, gL_sR, gL_cp, gI_sL, gI_sR, gI_sI, gL_sL, Nat.reduceEqDiff, false_and, and_false, true_and, and_true, Nat.reduceAdd, Nat.reduceLT, Nat.reduceSub, Int32.reduceLT, Int32.reduceAdd, not_false_eq_true, not_true_eq_false, and_self, ji_b_n, if_true, if_false, ↓reduceIte, cz_m100, cz_m19, cz_m18, cz_m17, cz_m16, cz_m15, cz_m14, cz_m13, cz_m12, cz_m11, cz_m4, cz_m3, cz_m2, cz_m1, cz_1, cz_2, cz_3, cz_4, cz_5, cz_6, cz_7, cz_8, cz_9, cz_10, cz_11, cz_12, cz_13, cz_14, cz_15, cz_16, cz_20, cz_24, cz_30, cz_32, cz_33, cz_38, cz_40, cz_41, cz_42, cz_43, cz_45, cz_48, cz_57, cz_59, cz_60, cz_61, cz_63, cz_64, cz_72, cz_96, cz_97, cz_99, cz_100, cz_122, cz_124, cz_126, cz_160, cz_161, cz_168, cz_200, cz_255, cz_300, cz_960, cz_999, cz_1000, cz_1001, cz_1002, cz_1003, cz_1120, cz_2000, cz_2003, cz_2004, cz_2005, cz_3999, cz_9999, cz_14640, g]
    exact E1
theorem m119 (R : ji_Rel P X N) : ∃ X', jj_IX P X' N 0 ∧ ∀ d, ji_CL (d + 3) 119 [.ref 54, .ref 50, .ref 52] X = some (none, X') := by
  have hX := R.xf
  have Kb := jj_Kb R
  have e1 := R.leaves.1
  have e2 := R.gaps.1
  have r6 := jj_r62 (l := jj_K N) hX (by omega)
  obtain ⟨i1, i2, i3⟩ := jy_ix (Y := jj_K N) (m := 7) (by omega) (by omega)
  have hK := vi_ofn Kb.1.2
  have hG := vi_ofn Kb.2.2
  have h6 : (6 : Int32).toInt = 6 := rfl
  have hm : ∀ v : Int32, v.toInt ≤ 6 → (if v < (6 : Int32) then v else 6) = v := by
    intro v hv
    by_cases q : v < 6
    · rw [if_pos q]
    · rw [if_neg q]
      rw [vi_lt] at q
      rw [vi_eq]; omega
  have hm2 : ∀ v : Int32, v.toInt ≤ 6 → (if (6 : Int32) < v then 6 else v) = v := by
    intro v hv
    rw [if_neg]
    rw [vi_lt]; omega
  have hmK := hm (ji_gI N 0 50) (by omega)
  have hmK2 := hm2 (ji_gI N 0 50) (by omega)
  have hmG := hm (ji_gI N 0 51) (by omega)
  have hmG2 := hm2 (ji_gI N 0 51) (by omega)
  rw [hK] at hmK hmK2
  have R1 : ji_Rel P (ji_sI X 54 2 (ji_gI N 0 51)) N := ji_Rel_offX R (ji_offX_sI ji_offX_r rfl)
  have hX1 := R1.xf
  have r61 := jj_r62 (l := jj_K N) hX1 (by omega)
  have F := fun d => m120 (d := d) (v := 0) r61.2 (by omega)
  obtain ⟨X2, e3⟩ : ∃ X2, X2 = ji_sC (ji_sI X 54 2 (ji_gI N 0 51)) (63 + jj_K N) (fun i => if i < 64 then 0 else ji_gI (ji_sI X 54 2 (ji_gI N 0 51)) (63 + jj_K N) i) := ⟨_, rfl⟩
  rw [← e3] at F
  have R2 : ji_Rel P X2 N := by
    rw [e3]
    exact ji_Rel_offX R1 (ji_offX_sC ji_offX_r (fun k => jj_xs2 (by omega)))
  have I : jj_IX P X2 N (jj_K N) := by
    refine ⟨R2, ?_, fun i h1 h2 => absurd h2 (by omega), fun i h1 h2 s hs => ?_⟩
    · rw [e3, gI_sCn (by omega), gI_sI, if_pos ⟨rfl, rfl⟩]
    · have e : i = jj_K N := by omega
      rw [e, Nat.sub_self, e3, gI_sC, if_pos hs]
      rfl
  obtain ⟨X', I', k5, E⟩ := m119L (x := Int32.ofNat (jj_K N)) (jj_K N) X2 none (Nat.le_refl _) I
  refine ⟨X', I', fun d => ?_⟩
  have F := F (d + 1)
  have F : ji_CL (d + 2) 120 _ _ = _ := F
  have E := E d (none, X') (by simp only [s119_128, xIL_1, xIS_1, xQL_2, xQL_3, xAN_1, xAN_2, xAN_3, xCP_1, xC_s, xNC_I, ji_oI1, ji_oIm, kd_sC, gR_sC, gL_sC, ji_rv_s, ji_tl_s, ji_tl_n, ji_s1, ji_s2, ji_kl, List.getD_cons_zero, List.getD_cons_succ, List.set_cons_zero, List.set_cons_succ, List.length_cons, List.length_nil, ji_b_0, ji_b_1, ji_n0, ji_n1, ji_rcb_iff, ji_ok8_0, ji_ok8_1, ji_ok8_2, ji_ok8_3, ji_ok8_4, kd_sI, kd_sL, kd_sR, kd_cp, gR_sI, gR_sL, gR_cp, gL_sI, gL_sR, gL_cp, gI_sL, gI_sR, gI_sI, gL_sL, Nat.reduceEqDiff, false_and, and_false, true_and, and_true, Nat.reduceAdd, Nat.reduceLT, Nat.reduceSub, Int32.reduceLT, Int32.reduceAdd, not_false_eq_true, not_true_eq_false, and_self, ji_b_n, if_true, if_false, ↓reduceIte, cz_m100, cz_m19, cz_m18, cz_m17, cz_m16, cz_m15, cz_m14, cz_m13, cz_m12, cz_m11, cz_m4, cz_m3, cz_m2, cz_m1, cz_1, cz_2, cz_3, cz_4, cz_5, cz_6, cz_7, cz_8, cz_9, cz_10, cz_11, cz_12, cz_13, cz_14, cz_15, cz_16, cz_20, cz_24, cz_30, cz_32, cz_33, cz_38, cz_40, cz_41, cz_42, cz_43, cz_45, cz_48, cz_57, cz_59, cz_60, cz_61, cz_63, cz_64, cz_72, cz_96, cz_97, cz_99, cz_100, cz_122, cz_124, cz_126, cz_160, cz_161, cz_168, cz_200, cz_255, cz_300, cz_960, cz_999, cz_1000, cz_1001, cz_1002, cz_1003, cz_1120, cz_2000, cz_2003, cz_2004, cz_2005, cz_3999, cz_9999, cz_14640])
  rw [Int32.add_comm] at E
  have es : Int32.ofNat (jj_K N) - 1 = -1 + Int32.ofNat (jj_K N) := by rw [Int32.sub_eq_add_neg, Int32.add_comm]
  have mk1 := m47 (d := d + 1) (xk_50 hX)
  have mk2 := m47 (d := d + 1) (xk_52 hX)
  rw [hK] at e1
  apply en_119
  simp only [s119_0, s119_2, q119_3, s119_6, s119_9, s119_10, s119_11, s119_13, q119_14, s119_17, s119_20, s119_23, s119_24, s119_27, q119_28, s119_29, q119_30, s119_33, s119_34, s119_35, s119_36, s119_40, s119_43, s119_44, s119_46, s119_48, s119_49, s119_52, s119_55, s119_56, s119_59, q119_61, s119_62, s119_64, s119_65, s119_67, q119_68, s119_71, s119_72, s119_74, q119_75, q119_78, q119_81, q119_82, s119_85, s119_88, s119_89, s119_91, s119_93, s119_95, s119_98, s119_99, s119_102, q119_104, s119_105, s119_107, s119_108, s119_110, q119_112, q119_115, q119_116, s119_119, q119_122, s119_125, s119_128, xIL_1, xIS_1, xQL_2, xQL_3, xAN_1, xAN_2, xAN_3, xCP_1, xC_s, xNC_I, ji_oI1, ji_oIm, kd_sC, gR_sC, gL_sC, ji_rv_s, ji_tl_s, ji_tl_n, ji_s1, ji_s2, ji_kl, List.getD_cons_zero, List.getD_cons_succ, List.set_cons_zero, List.set_cons_succ, List.length_cons, List.length_nil, ji_b_0, ji_b_1, ji_n0, ji_n1, ji_rcb_iff, ji_ok8_0, ji_ok8_1, ji_ok8_2, ji_ok8_3, ji_ok8_4, kd_sI, kd_sL, kd_sR, kd_cp, gR_sI, gR_sL, gR_cp, gL_sI, gL_sR, gL_cp, gI_sL, gI_sR, gI_sI, gL_sL, Nat.reduceEqDiff, false_and, and_false, true_and, and_true, Nat.reduceAdd, Nat.reduceLT, Nat.reduceSub, Int32.reduceLT, Int32.reduceAdd, not_false_eq_true, not_true_eq_false, and_self, ji_b_n, if_true, if_false, ↓reduceIte, cz_m100, cz_m19, cz_m18, cz_m17, cz_m16, cz_m15, cz_m14, cz_m13, cz_m12, cz_m11, cz_m4, cz_m3, cz_m2, cz_m1, cz_1, cz_2, cz_3, cz_4, cz_5, cz_6, cz_7, cz_8, cz_9, cz_10, cz_11, cz_12, cz_13, cz_14, cz_15, cz_16, cz_20, cz_24, cz_30, cz_32, cz_33, cz_38, cz_40, cz_41, cz_42, cz_43, cz_45, cz_48, cz_57, cz_59, cz_60, cz_61, cz_63, cz_64, cz_72, cz_96, cz_97, cz_99, cz_100, cz_122, cz_124, cz_126, cz_160, cz_161, cz_168, cz_200, cz_255, cz_300, cz_960, cz_999, cz_1000, cz_1001, cz_1002, cz_1003, cz_1120, cz_2000, cz_2003, cz_2004, cz_2005, cz_3999, cz_9999, cz_14640, -gI_sI, xk_50 hX, xk_52 hX, xk_54 hX, mk1, mk2, e1, e2, hmK, hmK2, hmG, hmG2, xr_54_1 hX1, xk_54 hX1, xk_62 hX1, i2, i3, r61.1, F, es]
  exact E
theorem m124 (I : jj_IX P X N 0) : ∃ w : Int32, w.toInt = jj_mb (jj_K N) (jj_G N) (jj_ag N) (jj_K N) 0 ∧ ∀ d, ji_CL (d + 1) 124 [.ref 54] X = some (some (.int w), X) := by
  have hX := I.1.xf
  have r6 := jj_r62 (l := 0) hX (by omega)
  obtain ⟨i1, i2, i3⟩ := jy_ix (Y := 0) (m := 7) (by omega) (by omega)
  obtain ⟨k1, k2, k3⟩ := jy_ix (Y := 0) (m := 64) (by omega) (by omega)
  refine ⟨ji_gI X 63 0, I.2.2.2 0 (by omega) (by omega) 0 (by omega), fun d => ?_⟩
  have i2 : (0 : Int32).toNatClampNeg = 0 := i2
  have i3 : vp_in 0 7 := i3
  have k3 : vp_in 0 64 := k3
  apply en_124
  simp only [s124_0, s124_1, s124_4, q124_5, s124_6, q124_7, s124_8, xIL_1, xIS_1, xQL_2, xQL_3, xAN_1, xAN_2, xAN_3, xCP_1, xC_s, xNC_I, ji_oI1, ji_oIm, kd_sC, gR_sC, gL_sC, ji_rv_s, ji_tl_s, ji_tl_n, ji_s1, ji_s2, ji_kl, List.getD_cons_zero, List.getD_cons_succ, List.set_cons_zero, List.set_cons_succ, List.length_cons, List.length_nil, ji_b_0, ji_b_1, ji_n0, ji_n1, ji_rcb_iff, ji_ok8_0, ji_ok8_1, ji_ok8_2, ji_ok8_3, ji_ok8_4, kd_sI, kd_sL, kd_sR, kd_cp, gR_sI, gR_sL, gR_cp, gL_sI, gL_sR, gL_cp, gI_sL, gI_sR, gI_sI, gL_sL, Nat.reduceEqDiff, false_and, and_false, true_and, and_true, Nat.reduceAdd, Nat.reduceLT, Nat.reduceSub, Int32.reduceLT, Int32.reduceAdd, not_false_eq_true, not_true_eq_false, and_self, ji_b_n, if_true, if_false, ↓reduceIte, cz_m100, cz_m19, cz_m18, cz_m17, cz_m16, cz_m15, cz_m14, cz_m13, cz_m12, cz_m11, cz_m4, cz_m3, cz_m2, cz_m1, cz_1, cz_2, cz_3, cz_4, cz_5, cz_6, cz_7, cz_8, cz_9, cz_10, cz_11, cz_12, cz_13, cz_14, cz_15, cz_16, cz_20, cz_24, cz_30, cz_32, cz_33, cz_38, cz_40, cz_41, cz_42, cz_43, cz_45, cz_48, cz_57, cz_59, cz_60, cz_61, cz_63, cz_64, cz_72, cz_96, cz_97, cz_99, cz_100, cz_122, cz_124, cz_126, cz_160, cz_161, cz_168, cz_200, cz_255, cz_300, cz_960, cz_999, cz_1000, cz_1001, cz_1002, cz_1003, cz_1120, cz_2000, cz_2003, cz_2004, cz_2005, cz_3999, cz_9999, cz_14640, xk_54 hX, xr_54_1 hX, xk_62 hX, i2, i3, xr_62_0 hX, xk_63 hX, k3]
/-- the least gap with which the most come -/
theorem m126L (I : jj_IX P X N 0) (hk : l + (k + 1) = jj_K N) (hs : s < 64) : ∀ (m g : Nat), g + m = jj_G N → ∀ d, ji_Ev (ji_CL (d + 1)) 126 2 X [some (.ref 54), some (.int (Int32.ofNat l)), some (.int (Int32.ofNat s)), some (.int (Int32.ofNat g))] [] (some (.int (jj_en N (jj_ff (fun g => jj_can (jj_ag N) l g s ∧ jj_ag N l g + jj_mb (jj_K N) (jj_G N) (jj_ag N) k (s ||| 2 ^ g) = jj_mb (jj_K N) (jj_G N) (jj_ag N) (k + 1) s) m g))), X) := by
  obtain ⟨R, h54, hA, hB⟩ := I
  have hX := R.xf
  have Kb := jj_Kb R
  have ek : jj_K N - (l + 1) = k := by omega
  have ek2 : jj_K N - l = k + 1 := by omega
  have r6 := jj_r62 (l := l) hX (by omega)
  obtain ⟨i1, i2, i3⟩ := jy_ix (Y := l) (m := 7) (by omega) (by omega)
  obtain ⟨k1, k2, k3⟩ := jy_ix (Y := s) (m := 64) (by omega) (by omega)
  have eB := hB l (by omega) (by omega) s hs
  rw [ek2] at eB
  intro m
  induction m with
  | zero =>
    intro g hg d
    have e : g = jj_G N := by omega
    rw [e]
    have g' : ¬ Int32.ofNat (jj_G N) < ji_gI N 0 51 := by rw [vi_lt, vi_nn (by omega)]; omega
    have t : jj_en N (jj_ff (fun g => jj_can (jj_ag N) l g s ∧ jj_ag N l g + jj_mb (jj_K N) (jj_G N) (jj_ag N) k (s ||| 2 ^ g) = jj_mb (jj_K N) (jj_G N) (jj_ag N) (k + 1) s) 0 (jj_G N)) = -1 := if_pos rfl
    rw [t]
    simp only [s126_0, s126_1, s126_2, s126_3, s126_4, s126_7, s126_10, s126_11, s126_12, s126_13, q126_14, s126_17, s126_20, s126_21, s126_22, s126_23, q126_24, s126_27, s126_28, s126_31, q126_32, s126_33, q126_34, s126_35, s126_38, s126_39, q126_40, s126_46, s126_47, xIL_1, xIS_1, xQL_2, xQL_3, xAN_1, xAN_2, xAN_3, xCP_1, xC_s, xNC_I, ji_oI1, ji_oIm, kd_sC, gR_sC, gL_sC, ji_rv_s, ji_tl_s, ji_tl_n, ji_s1, ji_s2, ji_kl, List.getD_cons_zero, List.getD_cons_succ, List.set_cons_zero, List.set_cons_succ, List.length_cons, List.length_nil, ji_b_0, ji_b_1, ji_n0, ji_n1, ji_rcb_iff, ji_ok8_0, ji_ok8_1, ji_ok8_2, ji_ok8_3, ji_ok8_4, kd_sI, kd_sL, kd_sR, kd_cp, gR_sI, gR_sL, gR_cp, gL_sI, gL_sR, gL_cp, gI_sL, gI_sR, gI_sI, gL_sL, Nat.reduceEqDiff, false_and, and_false, true_and, and_true, Nat.reduceAdd, Nat.reduceLT, Nat.reduceSub, Int32.reduceLT, Int32.reduceAdd, not_false_eq_true, not_true_eq_false, and_self, ji_b_n, if_true, if_false, ↓reduceIte, cz_m100, cz_m19, cz_m18, cz_m17, cz_m16, cz_m15, cz_m14, cz_m13, cz_m12, cz_m11, cz_m4, cz_m3, cz_m2, cz_m1, cz_1, cz_2, cz_3, cz_4, cz_5, cz_6, cz_7, cz_8, cz_9, cz_10, cz_11, cz_12, cz_13, cz_14, cz_15, cz_16, cz_20, cz_24, cz_30, cz_32, cz_33, cz_38, cz_40, cz_41, cz_42, cz_43, cz_45, cz_48, cz_57, cz_59, cz_60, cz_61, cz_63, cz_64, cz_72, cz_96, cz_97, cz_99, cz_100, cz_122, cz_124, cz_126, cz_160, cz_161, cz_168, cz_200, cz_255, cz_300, cz_960, cz_999, cz_1000, cz_1001, cz_1002, cz_1003, cz_1120, cz_2000, cz_2003, cz_2004, cz_2005, cz_3999, cz_9999, cz_14640, xk_54 hX, h54, g']
  | succ m ih =>
    intro g hg d
    have g' : Int32.ofNat g < ji_gI N 0 51 := by rw [vi_lt, vi_nn (by omega)]; omega
    have p1 := jx_o1p (k := g) (by omega)
    have p2 : (Int32.ofInt 1) = 1 := rfl
    have n1 : ¬ (1 : Int32) = 0 := by decide
    have C := fun d => m122 (d := d) R (hA l (by omega) (by omega)) (by omega) (g := g) (by omega) hs
    by_cases q : jj_can (jj_ag N) l g s
    · rw [ji_b_T q] at C
      obtain ⟨w1, e1, D⟩ := m123 R (hA l (by omega) (by omega)) (hB (l + 1) (by omega) (by omega)) (by omega) (g := g) (by omega) hs
      rw [ek] at e1
      by_cases q2 : w1 = ji_gI X (63 + l) s
      · have t := jj_ff_1 (p := fun g => jj_can (jj_ag N) l g s ∧ jj_ag N l g + jj_mb (jj_K N) (jj_G N) (jj_ag N) k (s ||| 2 ^ g) = jj_mb (jj_K N) (jj_G N) (jj_ag N) (k + 1) s) (m := m) (g := g) ⟨q, by rw [← e1, ← eB, q2]⟩
        rw [t, show jj_en N g = Int32.ofNat g from if_neg (by omega)]
        simp only [s126_0, s126_1, s126_2, s126_3, s126_4, s126_7, s126_10, s126_11, s126_12, s126_13, q126_14, s126_17, s126_20, s126_21, s126_22, s126_23, q126_24, s126_27, s126_28, s126_31, q126_32, s126_33, q126_34, s126_35, s126_38, s126_39, q126_40, s126_46, s126_47, xIL_1, xIS_1, xQL_2, xQL_3, xAN_1, xAN_2, xAN_3, xCP_1, xC_s, xNC_I, ji_oI1, ji_oIm, kd_sC, gR_sC, gL_sC, ji_rv_s, ji_tl_s, ji_tl_n, ji_s1, ji_s2, ji_kl, List.getD_cons_zero, List.getD_cons_succ, List.set_cons_zero, List.set_cons_succ, List.length_cons, List.length_nil, ji_b_0, ji_b_1, ji_n0, ji_n1, ji_rcb_iff, ji_ok8_0, ji_ok8_1, ji_ok8_2, ji_ok8_3, ji_ok8_4, kd_sI, kd_sL, kd_sR, kd_cp, gR_sI, gR_sL, gR_cp, gL_sI, gL_sR, gL_cp, gI_sL, gI_sR, gI_sI, gL_sL, Nat.reduceEqDiff, false_and, and_false, true_and, and_true, Nat.reduceAdd, Nat.reduceLT, Nat.reduceSub, Int32.reduceLT, Int32.reduceAdd, not_false_eq_true, not_true_eq_false, and_self, ji_b_n, if_true, if_false, ↓reduceIte, cz_m100, cz_m19, cz_m18, cz_m17, cz_m16, cz_m15, cz_m14, cz_m13, cz_m12, cz_m11, cz_m4, cz_m3, cz_m2, cz_m1, cz_1, cz_2, cz_3, cz_4, cz_5, cz_6, cz_7, cz_8, cz_9, cz_10, cz_11, cz_12, cz_13, cz_14, cz_15, cz_16, cz_20, cz_24, cz_30, cz_32, cz_33, cz_38, cz_40, cz_41, cz_42, cz_43, cz_45, cz_48, cz_57, cz_59, cz_60, cz_61, cz_63, cz_64, cz_72, cz_96, cz_97, cz_99, cz_100, cz_122, cz_124, cz_126, cz_160, cz_161, cz_168, cz_200, cz_255, cz_300, cz_960, cz_999, cz_1000, cz_1001, cz_1002, cz_1003, cz_1120, cz_2000, cz_2003, cz_2004, cz_2005, cz_3999, cz_9999, cz_14640, xk_54 hX, h54, g', C, D, n1, xr_54_1 hX, xk_62 hX, i2, i3, r6.1, r6.2, k2, k3, q2]
      · have t := jj_ff_0 (p := fun g => jj_can (jj_ag N) l g s ∧ jj_ag N l g + jj_mb (jj_K N) (jj_G N) (jj_ag N) k (s ||| 2 ^ g) = jj_mb (jj_K N) (jj_G N) (jj_ag N) (k + 1) s) (m := m) (g := g) (fun z => q2 (by rw [vi_eq, e1, eB]; exact z.2))
        have E := ih (g + 1) (by omega) d
        rw [t]
        simp only [s126_0, s126_1, s126_2, s126_3, s126_4, s126_7, s126_10, s126_11, s126_12, s126_13, q126_14, s126_17, s126_20, s126_21, s126_22, s126_23, q126_24, s126_27, s126_28, s126_31, q126_32, s126_33, q126_34, s126_35, s126_38, s126_39, q126_40, s126_46, s126_47, xIL_1, xIS_1, xQL_2, xQL_3, xAN_1, xAN_2, xAN_3, xCP_1, xC_s, xNC_I, ji_oI1, ji_oIm, kd_sC, gR_sC, gL_sC, ji_rv_s, ji_tl_s, ji_tl_n, ji_s1, ji_s2, ji_kl, List.getD_cons_zero, List.getD_cons_succ, List.set_cons_zero, List.set_cons_succ, List.length_cons, List.length_nil, ji_b_0, ji_b_1, ji_n0, ji_n1, ji_rcb_iff, ji_ok8_0, ji_ok8_1, ji_ok8_2, ji_ok8_3, ji_ok8_4, kd_sI, kd_sL, kd_sR, kd_cp, gR_sI, gR_sL, gR_cp, gL_sI, gL_sR, gL_cp, gI_sL, gI_sR, gI_sI, gL_sL, Nat.reduceEqDiff, false_and, and_false, true_and, and_true, Nat.reduceAdd, Nat.reduceLT, Nat.reduceSub, Int32.reduceLT, Int32.reduceAdd, not_false_eq_true, not_true_eq_false, and_self, ji_b_n, if_true, if_false, ↓reduceIte, cz_m100, cz_m19, cz_m18, cz_m17, cz_m16, cz_m15, cz_m14, cz_m13, cz_m12, cz_m11, cz_m4, cz_m3, cz_m2, cz_m1, cz_1, cz_2, cz_3, cz_4, cz_5, cz_6, cz_7, cz_8, cz_9, cz_10, cz_11, cz_12, cz_13, cz_14, cz_15, cz_16, cz_20, cz_24, cz_30, cz_32, cz_33, cz_38, cz_40, cz_41, cz_42, cz_43, cz_45, cz_48, cz_57, cz_59, cz_60, cz_61, cz_63, cz_64, cz_72, cz_96, cz_97, cz_99, cz_100, cz_122, cz_124, cz_126, cz_160, cz_161, cz_168, cz_200, cz_255, cz_300, cz_960, cz_999, cz_1000, cz_1001, cz_1002, cz_1003, cz_1120, cz_2000, cz_2003, cz_2004, cz_2005, cz_3999, cz_9999, cz_14640, xk_54 hX, h54, g', C, D, n1, xr_54_1 hX, xk_62 hX, i2, i3, r6.1, r6.2, k2, k3, q2, p1, p2]
        simp only [s126_43]
        exact E
    · rw [ji_b_F q] at C
      have t := jj_ff_0 (p := fun g => jj_can (jj_ag N) l g s ∧ jj_ag N l g + jj_mb (jj_K N) (jj_G N) (jj_ag N) k (s ||| 2 ^ g) = jj_mb (jj_K N) (jj_G N) (jj_ag N) (k + 1) s) (m := m) (g := g) (fun z => q z.1)
      have E := ih (g + 1) (by omega) d
      rw [t]
      simp only [s126_0, s126_1, s126_2, s126_3, s126_4, s126_7, s126_10, s126_11, s126_12, s126_13, q126_14, s126_17, s126_20, s126_21, s126_22, s126_23, q126_24, s126_27, s126_28, s126_31, q126_32, s126_33, q126_34, s126_35, s126_38, s126_39, q126_40, s126_46, s126_47, xIL_1, xIS_1, xQL_2, xQL_3, xAN_1, xAN_2, xAN_3, xCP_1, xC_s, xNC_I, ji_oI1, ji_oIm, kd_sC, gR_sC, gL_sC, ji_rv_s, ji_tl_s, ji_tl_n, ji_s1, ji_s2, ji_kl, List.getD_cons_zero, List.getD_cons_succ, List.set_cons_zero, List.set_cons_succ, List.length_cons, List.length_nil, ji_b_0, ji_b_1, ji_n0, ji_n1, ji_rcb_iff, ji_ok8_0, ji_ok8_1, ji_ok8_2, ji_ok8_3, ji_ok8_4, kd_sI, kd_sL, kd_sR, kd_cp, gR_sI, gR_sL, gR_cp, gL_sI, gL_sR, gL_cp, gI_sL, gI_sR, gI_sI, gL_sL, Nat.reduceEqDiff, false_and, and_false, true_and, and_true, Nat.reduceAdd, Nat.reduceLT, Nat.reduceSub, Int32.reduceLT, Int32.reduceAdd, not_false_eq_true, not_true_eq_false, and_self, ji_b_n, if_true, if_false, ↓reduceIte, cz_m100, cz_m19, cz_m18, cz_m17, cz_m16, cz_m15, cz_m14, cz_m13, cz_m12, cz_m11, cz_m4, cz_m3, cz_m2, cz_m1, cz_1, cz_2, cz_3, cz_4, cz_5, cz_6, cz_7, cz_8, cz_9, cz_10, cz_11, cz_12, cz_13, cz_14, cz_15, cz_16, cz_20, cz_24, cz_30, cz_32, cz_33, cz_38, cz_40, cz_41, cz_42, cz_43, cz_45, cz_48, cz_57, cz_59, cz_60, cz_61, cz_63, cz_64, cz_72, cz_96, cz_97, cz_99, cz_100, cz_122, cz_124, cz_126, cz_160, cz_161, cz_168, cz_200, cz_255, cz_300, cz_960, cz_999, cz_1000, cz_1001, cz_1002, cz_1003, cz_1120, cz_2000, cz_2003, cz_2004, cz_2005, cz_3999, cz_9999, cz_14640, xk_54 hX, h54, g', C, p1, p2]
      simp only [s126_43]
      exact E
theorem m126 (I : jj_IX P X N 0) (hl : l < jj_K N) (hs : s < 64) : ji_CL (d + 2) 126 [.ref 54, .int (Int32.ofNat l), .int (Int32.ofNat s)] X = some (some (.int (jj_en N (jj_yy (jj_K N) (jj_G N) (jj_ag N) (jj_K N - (l + 1)) s))), X) := by
  obtain ⟨k, hk⟩ : ∃ k, l + (k + 1) = jj_K N := ⟨jj_K N - (l + 1), by omega⟩
  have ek : jj_K N - (l + 1) = k := by omega
  have ek3 : jj_K N - (k + 1) = l := by omega
  have L := m126L I hk hs (jj_G N) 0 (by omega) d
  rw [ek]
  unfold jj_yy
  rw [ek3]
  apply en_126
  simp only [s126_0, s126_1, xIL_1, xIS_1, xQL_2, xQL_3, xAN_1, xAN_2, xAN_3, xCP_1, xC_s, xNC_I, ji_oI1, ji_oIm, kd_sC, gR_sC, gL_sC, ji_rv_s, ji_tl_s, ji_tl_n, ji_s1, ji_s2, ji_kl, List.getD_cons_zero, List.getD_cons_succ, List.set_cons_zero, List.set_cons_succ, List.length_cons, List.length_nil, ji_b_0, ji_b_1, ji_n0, ji_n1, ji_rcb_iff, ji_ok8_0, ji_ok8_1, ji_ok8_2, ji_ok8_3, ji_ok8_4, kd_sI, kd_sL, kd_sR, kd_cp, gR_sI, gR_sL, gR_cp, gL_sI, gL_sR, gL_cp, gI_sL, gI_sR, gI_sI, gL_sL, Nat.reduceEqDiff, false_and, and_false, true_and, and_true, Nat.reduceAdd, Nat.reduceLT, Nat.reduceSub, Int32.reduceLT, Int32.reduceAdd, not_false_eq_true, not_true_eq_false, and_self, ji_b_n, if_true, if_false, ↓reduceIte, cz_m100, cz_m19, cz_m18, cz_m17, cz_m16, cz_m15, cz_m14, cz_m13, cz_m12, cz_m11, cz_m4, cz_m3, cz_m2, cz_m1, cz_1, cz_2, cz_3, cz_4, cz_5, cz_6, cz_7, cz_8, cz_9, cz_10, cz_11, cz_12, cz_13, cz_14, cz_15, cz_16, cz_20, cz_24, cz_30, cz_32, cz_33, cz_38, cz_40, cz_41, cz_42, cz_43, cz_45, cz_48, cz_57, cz_59, cz_60, cz_61, cz_63, cz_64, cz_72, cz_96, cz_97, cz_99, cz_100, cz_122, cz_124, cz_126, cz_160, cz_161, cz_168, cz_200, cz_255, cz_300, cz_960, cz_999, cz_1000, cz_1001, cz_1002, cz_1003, cz_1120, cz_2000, cz_2003, cz_2004, cz_2005, cz_3999, cz_9999, cz_14640]
  exact L
theorem jj_yy_b {K G : Nat} {ag : Nat → Nat → Int} : jj_yy K G ag k s ≤ G := by
  have := (jj_ff_s (p := fun g => jj_can ag (K - (k + 1)) g s ∧ ag (K - (k + 1)) g + jj_mb K G ag k (s ||| 2 ^ g) = jj_mb K G ag (k + 1) s) G 0).2.1
  unfold jj_yy
  omega
theorem jj_pu_b {K G : Nat} {ag : Nat → Nat → Int} (hG : G ≤ 6) : ∀ t, jj_pu K G ag t < 64 := by
  intro t
  induction t with
  | zero => exact (by omega : (0 : Nat) < 64)
  | succ t ih =>
    show jj_nu K G ag (K - (t + 1)) (jj_pu K G ag t) < 64
    unfold jj_nu
    split
    · exact ih
    · have := jj_yy_b (K := K) (G := G) (ag := ag) (k := K - (t + 1)) (s := jj_pu K G ag t)
      exact (jj_orn ih (by omega)).2
theorem m125 (I : jj_IX P X N 0) (hi : i < jj_K N) : ji_CL (d + 3) 125 [.ref 54, .int (Int32.ofNat i)] X = some (some (.int (jj_en N (jj_yy (jj_K N) (jj_G N) (jj_ag N) (jj_K N - (i + 1)) (jj_pu (jj_K N) (jj_G N) (jj_ag N) i)))), X) := by
  have Kb := jj_Kb I.1
  have hX := I.1.xf
  have L : ∀ (m t : Nat) (h : Int32), t + m = i + 1 → (m = 0 → h = jj_en N (jj_yy (jj_K N) (jj_G N) (jj_ag N) (jj_K N - (i + 1)) (jj_pu (jj_K N) (jj_G N) (jj_ag N) i))) → ji_Ev (ji_CL (d + 2)) 125 7 X [some (.ref 54), some (.int (Int32.ofNat i)), some (.int (Int32.ofNat (jj_pu (jj_K N) (jj_G N) (jj_ag N) t))), some (.int h), some (.int (Int32.ofNat t))] [] (some (.int (jj_en N (jj_yy (jj_K N) (jj_G N) (jj_ag N) (jj_K N - (i + 1)) (jj_pu (jj_K N) (jj_G N) (jj_ag N) i)))), X) := by
    intro m
    induction m with
    | zero =>
      intro t h ht hh
      have e : t = i + 1 := by omega
      rw [e]
      have g' : Int32.ofNat i < Int32.ofNat (i + 1) := by rw [vi_lt, vi_nn (by omega), vi_nn (by omega)]; omega
      rw [← hh rfl]
      simp only [s125_0, s125_1, s125_2, s125_3, s125_4, s125_5, s125_7, s125_9, s125_10, s125_13, s125_15, s125_17, s125_20, s125_21, s125_23, q125_24, s125_27, s125_28, s125_29, s125_30, s125_31, s125_34, s125_35, s125_38, s125_39, s125_40, s125_41, s125_42, q125_43, s125_49, s125_50, xIL_1, xIS_1, xQL_2, xQL_3, xAN_1, xAN_2, xAN_3, xCP_1, xC_s, xNC_I, ji_oI1, ji_oIm, kd_sC, gR_sC, gL_sC, ji_rv_s, ji_tl_s, ji_tl_n, ji_s1, ji_s2, ji_kl, List.getD_cons_zero, List.getD_cons_succ, List.set_cons_zero, List.set_cons_succ, List.length_cons, List.length_nil, ji_b_0, ji_b_1, ji_n0, ji_n1, ji_rcb_iff, ji_ok8_0, ji_ok8_1, ji_ok8_2, ji_ok8_3, ji_ok8_4, kd_sI, kd_sL, kd_sR, kd_cp, gR_sI, gR_sL, gR_cp, gL_sI, gL_sR, gL_cp, gI_sL, gI_sR, gI_sI, gL_sL, Nat.reduceEqDiff, false_and, and_false, true_and, and_true, Nat.reduceAdd, Nat.reduceLT, Nat.reduceSub, Int32.reduceLT, Int32.reduceAdd, not_false_eq_true, not_true_eq_false, and_self, ji_b_n, if_true, if_false, ↓reduceIte, cz_m100, cz_m19, cz_m18, cz_m17, cz_m16, cz_m15, cz_m14, cz_m13, cz_m12, cz_m11, cz_m4, cz_m3, cz_m2, cz_m1, cz_1, cz_2, cz_3, cz_4, cz_5, cz_6, cz_7, cz_8, cz_9, cz_10, cz_11, cz_12, cz_13, cz_14, cz_15, cz_16, cz_20, cz_24, cz_30, cz_32, cz_33, cz_38, cz_40, cz_41, cz_42, cz_43, cz_45, cz_48, cz_57, cz_59, cz_60, cz_61, cz_63, cz_64, cz_72, cz_96, cz_97, cz_99, cz_100, cz_122, cz_124, cz_126, cz_160, cz_161, cz_168, cz_200, cz_255, cz_300, cz_960, cz_999, cz_1000, cz_1001, cz_1002, cz_1003, cz_1120, cz_2000, cz_2003, cz_2004, cz_2005, cz_3999, cz_9999, cz_14640, g']
    | succ m ih =>
      intro t h ht hh
      have g1 : ¬ Int32.ofNat i < Int32.ofNat t := by rw [vi_lt, vi_nn (by omega), vi_nn (by omega)]; omega
      have g2 : Int32.ofNat t < 6 := by rw [vi_lt, vi_nn (by omega)]; show (t : Int) < 6; omega
      have p1 := jx_o1p (k := t) (by omega)
      have p2 : (Int32.ofInt 1) = 1 := rfl
      have ub := jj_pu_b (K := jj_K N) (G := jj_G N) (ag := jj_ag N) Kb.2.1 t
      have C := m126 (d := d) I (l := t) (by omega) ub
      have yb := jj_yy_b (K := jj_K N) (G := jj_G N) (ag := jj_ag N) (k := jj_K N - (t + 1)) (s := jj_pu (jj_K N) (jj_G N) (jj_ag N) t)
      have E := ih (t + 1) (jj_en N (jj_yy (jj_K N) (jj_G N) (jj_ag N) (jj_K N - (t + 1)) (jj_pu (jj_K N) (jj_G N) (jj_ag N) t))) (by omega) (fun hm => by
        have e : t = i := by omega
        rw [e])
      have eu : jj_pu (jj_K N) (jj_G N) (jj_ag N) (t + 1) = jj_nu (jj_K N) (jj_G N) (jj_ag N) (jj_K N - (t + 1)) (jj_pu (jj_K N) (jj_G N) (jj_ag N) t) := rfl
      unfold jj_nu at eu
      generalize jj_yy (jj_K N) (jj_G N) (jj_ag N) (jj_K N - (t + 1)) (jj_pu (jj_K N) (jj_G N) (jj_ag N) t) = yy at C E eu yb
      by_cases q : yy = jj_G N
      · rw [if_pos q] at eu
        have en : jj_en N yy = -1 := if_pos q
        rw [en] at C E
        rw [eu] at E
        have o0 := jj_or0 ⟨_, ub⟩
        dsimp only at o0
        simp only [s125_0, s125_1, s125_2, s125_3, s125_4, s125_5, s125_7, s125_9, s125_10, s125_13, s125_15, s125_17, s125_20, s125_21, s125_23, q125_24, s125_27, s125_28, s125_29, s125_30, s125_31, s125_34, s125_35, s125_38, s125_39, s125_40, s125_41, s125_42, q125_43, s125_49, s125_50, xIL_1, xIS_1, xQL_2, xQL_3, xAN_1, xAN_2, xAN_3, xCP_1, xC_s, xNC_I, ji_oI1, ji_oIm, kd_sC, gR_sC, gL_sC, ji_rv_s, ji_tl_s, ji_tl_n, ji_s1, ji_s2, ji_kl, List.getD_cons_zero, List.getD_cons_succ, List.set_cons_zero, List.set_cons_succ, List.length_cons, List.length_nil, ji_b_0, ji_b_1, ji_n0, ji_n1, ji_rcb_iff, ji_ok8_0, ji_ok8_1, ji_ok8_2, ji_ok8_3, ji_ok8_4, kd_sI, kd_sL, kd_sR, kd_cp, gR_sI, gR_sL, gR_cp, gL_sI, gL_sR, gL_cp, gI_sL, gI_sR, gI_sI, gL_sL, Nat.reduceEqDiff, false_and, and_false, true_and, and_true, Nat.reduceAdd, Nat.reduceLT, Nat.reduceSub, Int32.reduceLT, Int32.reduceAdd, not_false_eq_true, not_true_eq_false, and_self, ji_b_n, if_true, if_false, ↓reduceIte, cz_m100, cz_m19, cz_m18, cz_m17, cz_m16, cz_m15, cz_m14, cz_m13, cz_m12, cz_m11, cz_m4, cz_m3, cz_m2, cz_m1, cz_1, cz_2, cz_3, cz_4, cz_5, cz_6, cz_7, cz_8, cz_9, cz_10, cz_11, cz_12, cz_13, cz_14, cz_15, cz_16, cz_20, cz_24, cz_30, cz_32, cz_33, cz_38, cz_40, cz_41, cz_42, cz_43, cz_45, cz_48, cz_57, cz_59, cz_60, cz_61, cz_63, cz_64, cz_72, cz_96, cz_97, cz_99, cz_100, cz_122, cz_124, cz_126, cz_160, cz_161, cz_168, cz_200, cz_255, cz_300, cz_960, cz_999, cz_1000, cz_1001, cz_1002, cz_1003, cz_1120, cz_2000, cz_2003, cz_2004, cz_2005, cz_3999, cz_9999, cz_14640, xk_54 hX, g1, g2, C, o0, p1, p2]
        simp only [s125_46]
        exact E
      · rw [if_neg q] at eu
        have en : jj_en N yy = Int32.ofNat yy := if_neg q
        rw [en] at C E
        have o1 := (jj_orn (g := yy) ub (by omega)).1
        have n1 : ¬ Int32.ofNat yy = -1 := by
          rw [vi_eq, vi_nn (by omega)]
          show ¬ (yy : Int) = -1
          omega
        rw [eu] at E
        simp only [s125_0, s125_1, s125_2, s125_3, s125_4, s125_5, s125_7, s125_9, s125_10, s125_13, s125_15, s125_17, s125_20, s125_21, s125_23, q125_24, s125_27, s125_28, s125_29, s125_30, s125_31, s125_34, s125_35, s125_38, s125_39, s125_40, s125_41, s125_42, q125_43, s125_49, s125_50, xIL_1, xIS_1, xQL_2, xQL_3, xAN_1, xAN_2, xAN_3, xCP_1, xC_s, xNC_I, ji_oI1, ji_oIm, kd_sC, gR_sC, gL_sC, ji_rv_s, ji_tl_s, ji_tl_n, ji_s1, ji_s2, ji_kl, List.getD_cons_zero, List.getD_cons_succ, List.set_cons_zero, List.set_cons_succ, List.length_cons, List.length_nil, ji_b_0, ji_b_1, ji_n0, ji_n1, ji_rcb_iff, ji_ok8_0, ji_ok8_1, ji_ok8_2, ji_ok8_3, ji_ok8_4, kd_sI, kd_sL, kd_sR, kd_cp, gR_sI, gR_sL, gR_cp, gL_sI, gL_sR, gL_cp, gI_sL, gI_sR, gI_sI, gL_sL, Nat.reduceEqDiff, false_and, and_false, true_and, and_true, Nat.reduceAdd, Nat.reduceLT, Nat.reduceSub, Int32.reduceLT, Int32.reduceAdd, not_false_eq_true, not_true_eq_false, and_self, ji_b_n, if_true, if_false, ↓reduceIte, cz_m100, cz_m19, cz_m18, cz_m17, cz_m16, cz_m15, cz_m14, cz_m13, cz_m12, cz_m11, cz_m4, cz_m3, cz_m2, cz_m1, cz_1, cz_2, cz_3, cz_4, cz_5, cz_6, cz_7, cz_8, cz_9, cz_10, cz_11, cz_12, cz_13, cz_14, cz_15, cz_16, cz_20, cz_24, cz_30, cz_32, cz_33, cz_38, cz_40, cz_41, cz_42, cz_43, cz_45, cz_48, cz_57, cz_59, cz_60, cz_61, cz_63, cz_64, cz_72, cz_96, cz_97, cz_99, cz_100, cz_122, cz_124, cz_126, cz_160, cz_161, cz_168, cz_200, cz_255, cz_300, cz_960, cz_999, cz_1000, cz_1001, cz_1002, cz_1003, cz_1120, cz_2000, cz_2003, cz_2004, cz_2005, cz_3999, cz_9999, cz_14640, xk_54 hX, g1, g2, C, n1, o1, p1, p2]
        simp only [s125_46]
        exact E
  have L0 := L (i + 1) 0 (-1) (by omega) (fun h => absurd h (by omega))
  have L0 : ji_Ev (ji_CL (d + 2)) 125 7 X [some (.ref 54), some (.int (Int32.ofNat i)), some (.int 0), some (.int (-1)), some (.int 0)] [] _ := L0
  apply en_125
  simp only [s125_0, s125_1, s125_2, s125_3, s125_4, s125_5, xIL_1, xIS_1, xQL_2, xQL_3, xAN_1, xAN_2, xAN_3, xCP_1, xC_s, xNC_I, ji_oI1, ji_oIm, kd_sC, gR_sC, gL_sC, ji_rv_s, ji_tl_s, ji_tl_n, ji_s1, ji_s2, ji_kl, List.getD_cons_zero, List.getD_cons_succ, List.set_cons_zero, List.set_cons_succ, List.length_cons, List.length_nil, ji_b_0, ji_b_1, ji_n0, ji_n1, ji_rcb_iff, ji_ok8_0, ji_ok8_1, ji_ok8_2, ji_ok8_3, ji_ok8_4, kd_sI, kd_sL, kd_sR, kd_cp, gR_sI, gR_sL, gR_cp, gL_sI, gL_sR, gL_cp, gI_sL, gI_sR, gI_sI, gL_sL, Nat.reduceEqDiff, false_and, and_false, true_and, and_true, Nat.reduceAdd, Nat.reduceLT, Nat.reduceSub, Int32.reduceLT, Int32.reduceAdd, not_false_eq_true, not_true_eq_false, and_self, ji_b_n, if_true, if_false, ↓reduceIte, cz_m100, cz_m19, cz_m18, cz_m17, cz_m16, cz_m15, cz_m14, cz_m13, cz_m12, cz_m11, cz_m4, cz_m3, cz_m2, cz_m1, cz_1, cz_2, cz_3, cz_4, cz_5, cz_6, cz_7, cz_8, cz_9, cz_10, cz_11, cz_12, cz_13, cz_14, cz_15, cz_16, cz_20, cz_24, cz_30, cz_32, cz_33, cz_38, cz_40, cz_41, cz_42, cz_43, cz_45, cz_48, cz_57, cz_59, cz_60, cz_61, cz_63, cz_64, cz_72, cz_96, cz_97, cz_99, cz_100, cz_122, cz_124, cz_126, cz_160, cz_161, cz_168, cz_200, cz_255, cz_300, cz_960, cz_999, cz_1000, cz_1001, cz_1002, cz_1003, cz_1120, cz_2000, cz_2003, cz_2004, cz_2005, cz_3999, cz_9999, cz_14640]
  exact L0
end JIV
