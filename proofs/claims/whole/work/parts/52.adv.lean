/-! ===== the class's reader goes on by a token ===== -/
def jx_v2 (r : Int32 × Int32) (v : Int32) : Int32 := if r.1 = 1001 then v else r.2
theorem jx_wt_n (l : List Int32) : ∀ w : Nat, w ≤ 12 → (jx_wt l w).1 = 1001 ∨ (jx_wt l w).1 = 1003 ∨ ∃ k : Nat, 6 ≤ k ∧ k < 12 ∧ (jx_wt l w).1 = 2000 + Int32.ofNat k - 6 := by
  intro w
  induction w with
  | zero => intro _; exact Or.inl rfl
  | succ w ih =>
    intro hw
    by_cases h : l = jx_ws.getD w []
    · have e : jx_wt l (w + 1) = (if w < 6 then 1003 else 2000 + Int32.ofNat w - 6, Int32.ofNat w) := if_pos h
      rw [e]
      by_cases g : w < 6
      · right; left; exact if_pos g
      · right; right; exact ⟨w, by omega, by omega, if_neg g⟩
    · have e : jx_wt l (w + 1) = jx_wt l w := if_neg h
      rw [e]
      exact ih (by omega)
section JIV
variable {X N M : ji_M} {P : ji_P} {x y z v t k : Int32} {pl st tk vl op fa le pl' st' tk' vl' op' fa' le' : Int32} {f g sf : ji_F} {d a b r c m s p n i j sc : Nat} {o : Option Value × ji_M}
theorem vi_nn {n : Nat} (h : n ≤ 1000000) : (Int32.ofNat n).toInt = n := vi_ofN (by omega)
theorem m24 (H : jx_OK X n sc) (hp : p ≤ n) (hsp : s < p) (hq : ∀ i, s ≤ i → i < p → jx_L (jx_tp X i) = true) {w : Nat} (hw : w < 12) : ji_CL (d + 5) 24 [.ref 5, .int (Int32.ofNat w)] (jx_XM X (Int32.ofNat p) (Int32.ofNat s) tk vl op fa le sc sf) = some (some (.int (ji_b (jx_ru (jx_tp X) s (p - s) = jx_ws.getD w []))), jx_XM X (Int32.ofNat p) (Int32.ofNat s) tk vl op fa le sc sf) := by
  have hX := H.1
  have h2 := H.2.2.1
  have e0 : (0 : Int32).toInt = 0 := rfl
  have e6 : (6 : Int32).toInt = 6 := rfl
  have e72 : (72 : Int32).toInt = 72 := rfl
  have ep := vi_nn (n := p) (by omega)
  have es := vi_nn (n := s) (by omega)
  have ew := vi_nn (n := w) (by omega)
  have ed : (Int32.ofNat p - Int32.ofNat s).toInt = ((p - s : Nat) : Int) := by rw [vi_sub (by omega) (by omega)]; omega
  have e6w : (Int32.ofNat w * 6).toInt = 6 * w := by rw [vi_mul (by rw [e6]; omega) (by rw [e6]; omega), e6, ew]; omega
  have g2 : ¬ Int32.ofNat w * 6 < 0 := by rw [vi_lt]; omega
  have e7 : (Int32.ofNat w * 6 + 6).toInt = 6 * w + 6 := by rw [vi_add (by omega) (by omega), e6w, e6]
  have g3 : ¬ 72 < Int32.ofNat w * 6 + 6 := by rw [vi_lt]; omega
  have nn : ∀ i, i < p - s → 97 ≤ (jx_tp X (s + i)).toInt := by
    intro i hi
    have := hq (s + i) (by omega) (by omega)
    unfold jx_L at this
    rw [Bool.and_eq_true, decide_eq_true_eq] at this
    exact this.1
  apply en_24
  by_cases hk : p - s < 6
  · have g1 : Int32.ofNat p - Int32.ofNat s < 6 := by rw [vi_lt]; omega
    have L := m24L (d := d) (pl := Int32.ofNat p) (tk := tk) (vl := vl) (op := op) (fa := fa) (le := le) (sf := sf) (x := Int32.ofNat w) H es hw (k' := p - s) (by omega) hk e6w ed (fun i hi => by have := nn i hi; omega) (p - s) 0 0 (by omega) rfl (fun q hq => by omega)
    have ei := jx_ru_eq (t := jx_tp X) (s := s) (k := p - s) hw hk (fun i hi u => by
      have := nn i hi
      rw [u] at this
      exact absurd this (by decide))
    rw [show ji_b ((∀ q, q < p - s → jx_W (6 * w + q) = jx_tp X (s + q)) ∧ jx_W (6 * w + (p - s)) = 32) = ji_b (jx_ru (jx_tp X) s (p - s) = jx_ws.getD w []) by rw [propext ei]] at L
    simp only [s24_0, s24_1, s24_4, s24_5, s24_8, s24_9, s24_10, s24_11, s24_13, s24_14, s24_15, s24_16, s24_18, s24_21, s24_22, s24_25, s24_26, s24_28, s24_29, q24_31x, s24_34, s24_37, s24_38, s24_39, s24_40, s24_44, s24_45, s24_48, s24_49, s24_52, s24_54, s24_55, s24_56, q24_59, s24_60, s24_63, s24_65, s24_66, s24_68, q24_69x, s24_72, s24_73, s24_76, s24_77, s24_80, s24_82, q24_83, s24_84, s24_87, s24_88, q24_89, s24_92, s24_95, s24_97, s24_98, s24_99, q24_100x, s24_103, s24_105, s24_108, s24_109, s24_112, s24_113, xIL_1, xIS_1, xQL_2, xQL_3, xAN_1, xAN_2, xAN_3, xCP_1, xC_s, xNC_I, ji_oI1, ji_oIm, kd_sC, gR_sC, gL_sC, ji_rv_s, ji_tl_s, ji_tl_n, ji_s1, ji_s2, ji_kl, List.getD_cons_zero, List.getD_cons_succ, List.set_cons_zero, List.set_cons_succ, List.length_cons, List.length_nil, ji_b_0, ji_b_1, ji_n0, ji_n1, ji_rcb_iff, ji_ok8_0, ji_ok8_1, ji_ok8_2, ji_ok8_3, ji_ok8_4, kd_sI, kd_sL, kd_sR, kd_cp, gR_sI, gR_sL, gR_cp, gL_sI, gL_sR, gL_cp, gI_sL, gI_sR, gI_sI, gL_sL, Nat.reduceEqDiff, false_and, and_false, true_and, and_true, Nat.reduceAdd, Nat.reduceLT, Nat.reduceSub, Int32.reduceLT, Int32.reduceAdd, not_false_eq_true, not_true_eq_false, and_self, ji_b_n, if_true, if_false, ↓reduceIte, cz_m100, cz_m19, cz_m18, cz_m17, cz_m16, cz_m15, cz_m14, cz_m13, cz_m12, cz_m11, cz_m4, cz_m3, cz_m2, cz_m1, cz_1, cz_2, cz_3, cz_4, cz_5, cz_6, cz_7, cz_8, cz_9, cz_10, cz_11, cz_12, cz_13, cz_14, cz_15, cz_16, cz_20, cz_24, cz_30, cz_32, cz_33, cz_38, cz_40, cz_41, cz_42, cz_43, cz_45, cz_48, cz_57, cz_59, cz_60, cz_61, cz_63, cz_64, cz_72, cz_96, cz_97, cz_99, cz_100, cz_122, cz_124, cz_126, cz_160, cz_161, cz_168, cz_200, cz_255, cz_300, cz_960, cz_999, cz_1000, cz_1001, cz_1002, cz_1003, cz_1120, cz_2000, cz_2003, cz_2004, cz_2005, cz_3999, cz_9999, cz_14640, jx_XM_kd, xk_5 hX, jx_XM_pl, jx_XM_st, g1, g2, g3, jx_rc2, m10_2]
    exact L
  · have g1 : ¬ Int32.ofNat p - Int32.ofNat s < 6 := by rw [vi_lt]; omega
    have n : ¬ jx_ru (jx_tp X) s (p - s) = jx_ws.getD w [] := by
      intro u
      have l := congrArg List.length u
      rw [jx_ru_len] at l
      have := (jx_ws_W ⟨w, hw⟩).1
      have : (jx_ws.getD w []).length < 6 := this
      omega
    rw [ji_b_F n]
    simp only [s24_0, s24_1, s24_4, s24_5, s24_8, s24_9, s24_10, s24_11, s24_13, s24_14, s24_15, s24_16, s24_18, s24_21, s24_22, s24_25, s24_26, s24_28, s24_29, q24_31x, s24_34, s24_37, s24_38, s24_39, s24_40, s24_44, s24_45, s24_48, s24_49, s24_52, s24_54, s24_55, s24_56, q24_59, s24_60, s24_63, s24_65, s24_66, s24_68, q24_69x, s24_72, s24_73, s24_76, s24_77, s24_80, s24_82, q24_83, s24_84, s24_87, s24_88, q24_89, s24_92, s24_95, s24_97, s24_98, s24_99, q24_100x, s24_103, s24_105, s24_108, s24_109, s24_112, s24_113, xIL_1, xIS_1, xQL_2, xQL_3, xAN_1, xAN_2, xAN_3, xCP_1, xC_s, xNC_I, ji_oI1, ji_oIm, kd_sC, gR_sC, gL_sC, ji_rv_s, ji_tl_s, ji_tl_n, ji_s1, ji_s2, ji_kl, List.getD_cons_zero, List.getD_cons_succ, List.set_cons_zero, List.set_cons_succ, List.length_cons, List.length_nil, ji_b_0, ji_b_1, ji_n0, ji_n1, ji_rcb_iff, ji_ok8_0, ji_ok8_1, ji_ok8_2, ji_ok8_3, ji_ok8_4, kd_sI, kd_sL, kd_sR, kd_cp, gR_sI, gR_sL, gR_cp, gL_sI, gL_sR, gL_cp, gI_sL, gI_sR, gI_sI, gL_sL, Nat.reduceEqDiff, false_and, and_false, true_and, and_true, Nat.reduceAdd, Nat.reduceLT, Nat.reduceSub, Int32.reduceLT, Int32.reduceAdd, not_false_eq_true, not_true_eq_false, and_self, ji_b_n, if_true, if_false, ↓reduceIte, cz_m100, cz_m19, cz_m18, cz_m17, cz_m16, cz_m15, cz_m14, cz_m13, cz_m12, cz_m11, cz_m4, cz_m3, cz_m2, cz_m1, cz_1, cz_2, cz_3, cz_4, cz_5, cz_6, cz_7, cz_8, cz_9, cz_10, cz_11, cz_12, cz_13, cz_14, cz_15, cz_16, cz_20, cz_24, cz_30, cz_32, cz_33, cz_38, cz_40, cz_41, cz_42, cz_43, cz_45, cz_48, cz_57, cz_59, cz_60, cz_61, cz_63, cz_64, cz_72, cz_96, cz_97, cz_99, cz_100, cz_122, cz_124, cz_126, cz_160, cz_161, cz_168, cz_200, cz_255, cz_300, cz_960, cz_999, cz_1000, cz_1001, cz_1002, cz_1003, cz_1120, cz_2000, cz_2003, cz_2004, cz_2005, cz_3999, cz_9999, cz_14640, jx_XM_kd, xk_5 hX, jx_XM_pl, jx_XM_st, g1]
theorem m23B (H : jx_OK X n sc) (hp : p ≤ n) (hsp : s < p) (hq : ∀ i, s ≤ i → i < p → jx_L (jx_tp X i) = true) : ∀ (j w : Nat), w + j = 12 → ji_Ev (ji_CL (d + 5)) 23 47 (jx_XM X (Int32.ofNat p) (Int32.ofNat s) (jx_wt (jx_ru (jx_tp X) s (p - s)) w).1 (jx_v2 (jx_wt (jx_ru (jx_tp X) s (p - s)) w) vl) op fa le sc sf) [some (.ref 5), some (.int (Int32.ofNat w))] [] (none, jx_XM X (Int32.ofNat p) (Int32.ofNat s) (jx_wt (jx_ru (jx_tp X) s (p - s)) 12).1 (jx_v2 (jx_wt (jx_ru (jx_tp X) s (p - s)) 12) vl) op fa le sc sf) := by
  have hX := H.1
  have e12 : (12 : Int32).toInt = 12 := rfl
  have e6 : (6 : Int32).toInt = 6 := rfl
  intro j
  induction j with
  | zero =>
    intro w hw
    obtain rfl : w = 12 := by omega
    have g : ¬ Int32.ofNat 12 < 12 := by decide
    simp only [s23_0, s23_1, s23_4, s23_5, s23_8, s23_11, s23_12, s23_13, q23_16, q23_19, s23_22, s23_25, s23_26, s23_26r, s23_27, s23_30, s23_31, s23_32, s23_35, s23_38, s23_39, s23_42, s23_45, s23_46, s23_47, s23_48, s23_50, s23_53, s23_54, q23_55, s23_58, s23_61, s23_62, s23_63, s23_65, s23_68, s23_71, s23_74, s23_77, s23_78, s23_79, s23_81, s23_82, s23_85, s23_86, s23_87, q23_90, s23_96, xIL_1, xIS_1, xQL_2, xQL_3, xAN_1, xAN_2, xAN_3, xCP_1, xC_s, xNC_I, ji_oI1, ji_oIm, kd_sC, gR_sC, gL_sC, ji_rv_s, ji_tl_s, ji_tl_n, ji_s1, ji_s2, ji_kl, List.getD_cons_zero, List.getD_cons_succ, List.set_cons_zero, List.set_cons_succ, List.length_cons, List.length_nil, ji_b_0, ji_b_1, ji_n0, ji_n1, ji_rcb_iff, ji_ok8_0, ji_ok8_1, ji_ok8_2, ji_ok8_3, ji_ok8_4, kd_sI, kd_sL, kd_sR, kd_cp, gR_sI, gR_sL, gR_cp, gL_sI, gL_sR, gL_cp, gI_sL, gI_sR, gI_sI, gL_sL, Nat.reduceEqDiff, false_and, and_false, true_and, and_true, Nat.reduceAdd, Nat.reduceLT, Nat.reduceSub, Int32.reduceLT, Int32.reduceAdd, not_false_eq_true, not_true_eq_false, and_self, ji_b_n, if_true, if_false, ↓reduceIte, cz_m100, cz_m19, cz_m18, cz_m17, cz_m16, cz_m15, cz_m14, cz_m13, cz_m12, cz_m11, cz_m4, cz_m3, cz_m2, cz_m1, cz_1, cz_2, cz_3, cz_4, cz_5, cz_6, cz_7, cz_8, cz_9, cz_10, cz_11, cz_12, cz_13, cz_14, cz_15, cz_16, cz_20, cz_24, cz_30, cz_32, cz_33, cz_38, cz_40, cz_41, cz_42, cz_43, cz_45, cz_48, cz_57, cz_59, cz_60, cz_61, cz_63, cz_64, cz_72, cz_96, cz_97, cz_99, cz_100, cz_122, cz_124, cz_126, cz_160, cz_161, cz_168, cz_200, cz_255, cz_300, cz_960, cz_999, cz_1000, cz_1001, cz_1002, cz_1003, cz_1120, cz_2000, cz_2003, cz_2004, cz_2005, cz_3999, cz_9999, cz_14640, g]
  | succ j ih =>
    intro w hw
    have ew := vi_nn (n := w) (by omega)
    have g : Int32.ofNat w < 12 := by rw [vi_lt]; omega
    have I := ih (w + 1) (by omega)
    have e1 : Int32.ofNat (w + 1) = Int32.ofNat w + 1 := Int32.ofNat_add w 1
    rw [e1] at I
    have W := fun tk vl => m24 (d := d) (tk := tk) (vl := vl) (op := op) (fa := fa) (le := le) (sf := sf) H hp hsp hq (w := w) (by omega)
    by_cases h : jx_ru (jx_tp X) s (p - s) = jx_ws.getD w []
    · have e : jx_wt (jx_ru (jx_tp X) s (p - s)) (w + 1) = (if w < 6 then 1003 else 2000 + Int32.ofNat w - 6, Int32.ofNat w) := if_pos h
      rw [e] at I
      by_cases g6 : w < 6
      · have g6' : Int32.ofNat w < 6 := by rw [vi_lt]; omega
        rw [if_pos g6] at I
        have e2 : jx_v2 ((1003 : Int32), Int32.ofNat w) vl = Int32.ofNat w := if_neg (by show ¬ ((1003 : Int32) = 1001); decide)
        rw [e2] at I
        simp only [s23_0, s23_1, s23_4, s23_5, s23_8, s23_11, s23_12, s23_13, q23_16, q23_19, s23_22, s23_25, s23_26, s23_26r, s23_27, s23_30, s23_31, s23_32, s23_35, s23_38, s23_39, s23_42, s23_45, s23_46, s23_47, s23_48, s23_50, s23_53, s23_54, q23_55, s23_58, s23_61, s23_62, s23_63, s23_65, s23_68, s23_71, s23_74, s23_77, s23_78, s23_79, s23_81, s23_82, s23_85, s23_86, s23_87, q23_90, s23_96, xIL_1, xIS_1, xQL_2, xQL_3, xAN_1, xAN_2, xAN_3, xCP_1, xC_s, xNC_I, ji_oI1, ji_oIm, kd_sC, gR_sC, gL_sC, ji_rv_s, ji_tl_s, ji_tl_n, ji_s1, ji_s2, ji_kl, List.getD_cons_zero, List.getD_cons_succ, List.set_cons_zero, List.set_cons_succ, List.length_cons, List.length_nil, ji_b_0, ji_b_1, ji_n0, ji_n1, ji_rcb_iff, ji_ok8_0, ji_ok8_1, ji_ok8_2, ji_ok8_3, ji_ok8_4, kd_sI, kd_sL, kd_sR, kd_cp, gR_sI, gR_sL, gR_cp, gL_sI, gL_sR, gL_cp, gI_sL, gI_sR, gI_sI, gL_sL, Nat.reduceEqDiff, false_and, and_false, true_and, and_true, Nat.reduceAdd, Nat.reduceLT, Nat.reduceSub, Int32.reduceLT, Int32.reduceAdd, not_false_eq_true, not_true_eq_false, and_self, ji_b_n, if_true, if_false, ↓reduceIte, cz_m100, cz_m19, cz_m18, cz_m17, cz_m16, cz_m15, cz_m14, cz_m13, cz_m12, cz_m11, cz_m4, cz_m3, cz_m2, cz_m1, cz_1, cz_2, cz_3, cz_4, cz_5, cz_6, cz_7, cz_8, cz_9, cz_10, cz_11, cz_12, cz_13, cz_14, cz_15, cz_16, cz_20, cz_24, cz_30, cz_32, cz_33, cz_38, cz_40, cz_41, cz_42, cz_43, cz_45, cz_48, cz_57, cz_59, cz_60, cz_61, cz_63, cz_64, cz_72, cz_96, cz_97, cz_99, cz_100, cz_122, cz_124, cz_126, cz_160, cz_161, cz_168, cz_200, cz_255, cz_300, cz_960, cz_999, cz_1000, cz_1001, cz_1002, cz_1003, cz_1120, cz_2000, cz_2003, cz_2004, cz_2005, cz_3999, cz_9999, cz_14640, jx_XM_kd, xk_5 hX, g, W, eq_true h, ji_b_T, g6', jx_XW_tk, jx_XW_vl]
        simp only [s23_93]
        exact I
      · have g6' : ¬ Int32.ofNat w < 6 := by rw [vi_lt]; omega
        rw [if_neg g6] at I
        have e2 : jx_v2 (2000 + Int32.ofNat w - 6, Int32.ofNat w) vl = Int32.ofNat w := if_neg (by
          show ¬ (2000 + Int32.ofNat w - 6 = 1001)
          have e2000 : (2000 : Int32).toInt = 2000 := rfl
          have e1001 : (1001 : Int32).toInt = 1001 := rfl
          have e3 : (2000 + Int32.ofNat w).toInt = 2000 + w := by rw [vi_add (by omega) (by omega), e2000, ew]
          rw [vi_eq, vi_sub (by omega) (by omega), e3, e6, e1001]
          omega)
        rw [e2] at I
        simp only [s23_0, s23_1, s23_4, s23_5, s23_8, s23_11, s23_12, s23_13, q23_16, q23_19, s23_22, s23_25, s23_26, s23_26r, s23_27, s23_30, s23_31, s23_32, s23_35, s23_38, s23_39, s23_42, s23_45, s23_46, s23_47, s23_48, s23_50, s23_53, s23_54, q23_55, s23_58, s23_61, s23_62, s23_63, s23_65, s23_68, s23_71, s23_74, s23_77, s23_78, s23_79, s23_81, s23_82, s23_85, s23_86, s23_87, q23_90, s23_96, xIL_1, xIS_1, xQL_2, xQL_3, xAN_1, xAN_2, xAN_3, xCP_1, xC_s, xNC_I, ji_oI1, ji_oIm, kd_sC, gR_sC, gL_sC, ji_rv_s, ji_tl_s, ji_tl_n, ji_s1, ji_s2, ji_kl, List.getD_cons_zero, List.getD_cons_succ, List.set_cons_zero, List.set_cons_succ, List.length_cons, List.length_nil, ji_b_0, ji_b_1, ji_n0, ji_n1, ji_rcb_iff, ji_ok8_0, ji_ok8_1, ji_ok8_2, ji_ok8_3, ji_ok8_4, kd_sI, kd_sL, kd_sR, kd_cp, gR_sI, gR_sL, gR_cp, gL_sI, gL_sR, gL_cp, gI_sL, gI_sR, gI_sI, gL_sL, Nat.reduceEqDiff, false_and, and_false, true_and, and_true, Nat.reduceAdd, Nat.reduceLT, Nat.reduceSub, Int32.reduceLT, Int32.reduceAdd, not_false_eq_true, not_true_eq_false, and_self, ji_b_n, if_true, if_false, ↓reduceIte, cz_m100, cz_m19, cz_m18, cz_m17, cz_m16, cz_m15, cz_m14, cz_m13, cz_m12, cz_m11, cz_m4, cz_m3, cz_m2, cz_m1, cz_1, cz_2, cz_3, cz_4, cz_5, cz_6, cz_7, cz_8, cz_9, cz_10, cz_11, cz_12, cz_13, cz_14, cz_15, cz_16, cz_20, cz_24, cz_30, cz_32, cz_33, cz_38, cz_40, cz_41, cz_42, cz_43, cz_45, cz_48, cz_57, cz_59, cz_60, cz_61, cz_63, cz_64, cz_72, cz_96, cz_97, cz_99, cz_100, cz_122, cz_124, cz_126, cz_160, cz_161, cz_168, cz_200, cz_255, cz_300, cz_960, cz_999, cz_1000, cz_1001, cz_1002, cz_1003, cz_1120, cz_2000, cz_2003, cz_2004, cz_2005, cz_3999, cz_9999, cz_14640, jx_XM_kd, xk_5 hX, g, W, eq_true h, ji_b_T, g6', jx_XW_tk, jx_XW_vl]
        simp only [s23_93]
        exact I
    · have e : jx_wt (jx_ru (jx_tp X) s (p - s)) (w + 1) = jx_wt (jx_ru (jx_tp X) s (p - s)) w := if_neg h
      rw [e] at I
      simp only [s23_0, s23_1, s23_4, s23_5, s23_8, s23_11, s23_12, s23_13, q23_16, q23_19, s23_22, s23_25, s23_26, s23_26r, s23_27, s23_30, s23_31, s23_32, s23_35, s23_38, s23_39, s23_42, s23_45, s23_46, s23_47, s23_48, s23_50, s23_53, s23_54, q23_55, s23_58, s23_61, s23_62, s23_63, s23_65, s23_68, s23_71, s23_74, s23_77, s23_78, s23_79, s23_81, s23_82, s23_85, s23_86, s23_87, q23_90, s23_96, xIL_1, xIS_1, xQL_2, xQL_3, xAN_1, xAN_2, xAN_3, xCP_1, xC_s, xNC_I, ji_oI1, ji_oIm, kd_sC, gR_sC, gL_sC, ji_rv_s, ji_tl_s, ji_tl_n, ji_s1, ji_s2, ji_kl, List.getD_cons_zero, List.getD_cons_succ, List.set_cons_zero, List.set_cons_succ, List.length_cons, List.length_nil, ji_b_0, ji_b_1, ji_n0, ji_n1, ji_rcb_iff, ji_ok8_0, ji_ok8_1, ji_ok8_2, ji_ok8_3, ji_ok8_4, kd_sI, kd_sL, kd_sR, kd_cp, gR_sI, gR_sL, gR_cp, gL_sI, gL_sR, gL_cp, gI_sL, gI_sR, gI_sI, gL_sL, Nat.reduceEqDiff, false_and, and_false, true_and, and_true, Nat.reduceAdd, Nat.reduceLT, Nat.reduceSub, Int32.reduceLT, Int32.reduceAdd, not_false_eq_true, not_true_eq_false, and_self, ji_b_n, if_true, if_false, ↓reduceIte, cz_m100, cz_m19, cz_m18, cz_m17, cz_m16, cz_m15, cz_m14, cz_m13, cz_m12, cz_m11, cz_m4, cz_m3, cz_m2, cz_m1, cz_1, cz_2, cz_3, cz_4, cz_5, cz_6, cz_7, cz_8, cz_9, cz_10, cz_11, cz_12, cz_13, cz_14, cz_15, cz_16, cz_20, cz_24, cz_30, cz_32, cz_33, cz_38, cz_40, cz_41, cz_42, cz_43, cz_45, cz_48, cz_57, cz_59, cz_60, cz_61, cz_63, cz_64, cz_72, cz_96, cz_97, cz_99, cz_100, cz_122, cz_124, cz_126, cz_160, cz_161, cz_168, cz_200, cz_255, cz_300, cz_960, cz_999, cz_1000, cz_1001, cz_1002, cz_1003, cz_1120, cz_2000, cz_2003, cz_2004, cz_2005, cz_3999, cz_9999, cz_14640, jx_XM_kd, xk_5 hX, g, W, eq_false h]
      simp only [s23_93]
      exact I
theorem m23 (H : jx_OK X n sc) (hs : s < n) (hL : jx_L (jx_tp X s) = true) : ji_CL (d + 6) 23 [.ref 5] (jx_XM X (Int32.ofNat s) (Int32.ofNat s) tk vl op fa le sc sf) = some (none, jx_XM X (Int32.ofNat (jx_en jx_L (jx_tp X) n s)) (Int32.ofNat s) (jx_wt (jx_ru (jx_tp X) s (jx_en jx_L (jx_tp X) n s - s)) 12).1 (jx_v2 (jx_wt (jx_ru (jx_tp X) s (jx_en jx_L (jx_tp X) n s - s)) 12) vl) op fa le sc sf) := by
  have hX := H.1
  have h2 := H.2.2.1
  have a := jx_en_b (q := jx_L) (t := jx_tp X) (n := n) _ (s + 1) (Nat.le_refl _) (by omega)
  rw [← jx_en_s hs hL] at a
  have q := jx_en_q (q := jx_L) (t := jx_tp X) (n := n) _ s (Nat.le_refl _)
  have B := m23B (d := d) (vl := vl) (op := op) (fa := fa) (le := le) (sf := sf) H (p := jx_en jx_L (jx_tp X) n s) (s := s) a.2 (by omega) q 12 0 (by omega)
  have e2 : jx_v2 (jx_wt (jx_ru (jx_tp X) s (jx_en jx_L (jx_tp X) n s - s)) 0) vl = vl := if_pos rfl
  rw [e2] at B
  apply en_23
  refine m23A (d := d + 4) H (n - s) s (Int32.ofNat s) (Nat.le_refl _) (by omega) (vi_nn (by omega)) (fun q' hq' => ?_)
  rw [vi_ofn hq']
  simp only [s23_0, s23_1, s23_4, s23_5, s23_8, s23_11, s23_12, s23_13, q23_16, q23_19, s23_22, s23_25, s23_26, s23_26r, s23_27, s23_30, s23_31, s23_32, s23_35, s23_38, s23_39, s23_42, s23_45, s23_46, s23_48, s23_50, s23_53, s23_54, q23_55, s23_58, s23_61, s23_62, s23_63, s23_65, s23_68, s23_71, s23_74, s23_77, s23_78, s23_79, s23_81, s23_82, s23_85, s23_86, s23_87, q23_90, s23_93, s23_96, xIL_1, xIS_1, xQL_2, xQL_3, xAN_1, xAN_2, xAN_3, xCP_1, xC_s, xNC_I, ji_oI1, ji_oIm, kd_sC, gR_sC, gL_sC, ji_rv_s, ji_tl_s, ji_tl_n, ji_s1, ji_s2, ji_kl, List.getD_cons_zero, List.getD_cons_succ, List.set_cons_zero, List.set_cons_succ, List.length_cons, List.length_nil, ji_b_0, ji_b_1, ji_n0, ji_n1, ji_rcb_iff, ji_ok8_0, ji_ok8_1, ji_ok8_2, ji_ok8_3, ji_ok8_4, kd_sI, kd_sL, kd_sR, kd_cp, gR_sI, gR_sL, gR_cp, gL_sI, gL_sR, gL_cp, gI_sL, gI_sR, gI_sI, gL_sL, Nat.reduceEqDiff, false_and, and_false, true_and, and_true, Nat.reduceAdd, Nat.reduceLT, Nat.reduceSub, Int32.reduceLT, Int32.reduceAdd, not_false_eq_true, not_true_eq_false, and_self, ji_b_n, if_true, if_false, ↓reduceIte, cz_m100, cz_m19, cz_m18, cz_m17, cz_m16, cz_m15, cz_m14, cz_m13, cz_m12, cz_m11, cz_m4, cz_m3, cz_m2, cz_m1, cz_1, cz_2, cz_3, cz_4, cz_5, cz_6, cz_7, cz_8, cz_9, cz_10, cz_11, cz_12, cz_13, cz_14, cz_15, cz_16, cz_20, cz_24, cz_30, cz_32, cz_33, cz_38, cz_40, cz_41, cz_42, cz_43, cz_45, cz_48, cz_57, cz_59, cz_60, cz_61, cz_63, cz_64, cz_72, cz_96, cz_97, cz_99, cz_100, cz_122, cz_124, cz_126, cz_160, cz_161, cz_168, cz_200, cz_255, cz_300, cz_960, cz_999, cz_1000, cz_1001, cz_1002, cz_1003, cz_1120, cz_2000, cz_2003, cz_2004, cz_2005, cz_3999, cz_9999, cz_14640, jx_XM_kd, xk_5 hX, jx_XW_tk]
  exact B
theorem m26 (H : jx_OK X n sc) (hs : s < n) : ji_CL (d + 2) 26 [.ref 5] (jx_XM X (Int32.ofNat s) (Int32.ofNat s) tk vl op fa le sc sf) = some (none, jx_XM X (Int32.ofNat (jx_en jx_D (jx_tp X) n s)) (Int32.ofNat s) (if 4 < jx_en jx_D (jx_tp X) n s - s then 1001 else 1002) (jx_nv (jx_tp X) s (jx_en jx_D (jx_tp X) n s - s)) op fa le sc sf) := by
  have hX := H.1
  have h2 := H.2.2.1
  have e4 : (4 : Int32).toInt = 4 := rfl
  have a := jx_en_b (q := jx_D) (t := jx_tp X) (n := n) _ s (Nat.le_refl _) (by omega)
  apply en_26
  simp only [s26_0, s26_1, s26_2, s26_6, s26_9, s26_10, s26_13, s26_16, s26_17, s26_18, q26_21, q26_24, s26_27, s26_30, s26_31, s26_32, s26_35, s26_37, s26_38, s26_39, s26_40, q26_43, s26_46, s26_47, s26_49, s26_50, s26_53, s26_54, s26_54r, s26_55, s26_58, s26_59, s26_60, s26_63, s26_66, s26_67, s26_68, s26_71, s26_72, s26_75, s26_76, s26_77, s26_80, s26_83, s26_86, s26_89, s26_92, xIL_1, xIS_1, xQL_2, xQL_3, xAN_1, xAN_2, xAN_3, xCP_1, xC_s, xNC_I, ji_oI1, ji_oIm, kd_sC, gR_sC, gL_sC, ji_rv_s, ji_tl_s, ji_tl_n, ji_s1, ji_s2, ji_kl, List.getD_cons_zero, List.getD_cons_succ, List.set_cons_zero, List.set_cons_succ, List.length_cons, List.length_nil, ji_b_0, ji_b_1, ji_n0, ji_n1, ji_rcb_iff, ji_ok8_0, ji_ok8_1, ji_ok8_2, ji_ok8_3, ji_ok8_4, kd_sI, kd_sL, kd_sR, kd_cp, gR_sI, gR_sL, gR_cp, gL_sI, gL_sR, gL_cp, gI_sL, gI_sR, gI_sI, gL_sL, Nat.reduceEqDiff, false_and, and_false, true_and, and_true, Nat.reduceAdd, Nat.reduceLT, Nat.reduceSub, Int32.reduceLT, Int32.reduceAdd, not_false_eq_true, not_true_eq_false, and_self, ji_b_n, if_true, if_false, ↓reduceIte, cz_m100, cz_m19, cz_m18, cz_m17, cz_m16, cz_m15, cz_m14, cz_m13, cz_m12, cz_m11, cz_m4, cz_m3, cz_m2, cz_m1, cz_1, cz_2, cz_3, cz_4, cz_5, cz_6, cz_7, cz_8, cz_9, cz_10, cz_11, cz_12, cz_13, cz_14, cz_15, cz_16, cz_20, cz_24, cz_30, cz_32, cz_33, cz_38, cz_40, cz_41, cz_42, cz_43, cz_45, cz_48, cz_57, cz_59, cz_60, cz_61, cz_63, cz_64, cz_72, cz_96, cz_97, cz_99, cz_100, cz_122, cz_124, cz_126, cz_160, cz_161, cz_168, cz_200, cz_255, cz_300, cz_960, cz_999, cz_1000, cz_1001, cz_1002, cz_1003, cz_1120, cz_2000, cz_2003, cz_2004, cz_2005, cz_3999, cz_9999, cz_14640, jx_XM_kd, xk_5 hX, jx_XW_vl]
  refine m26L (d := d) H (s0 := s) (n - s) s (Int32.ofNat s) 0 (Nat.le_refl _) (by omega) (vi_nn (by omega)) rfl (fun q' hq' => ?_)
  rw [vi_ofn hq']
  have ep := vi_nn (n := jx_en jx_D (jx_tp X) n s) (by omega)
  have es := vi_nn (n := s) (by omega)
  have ed : (Int32.ofNat (jx_en jx_D (jx_tp X) n s) - Int32.ofNat s).toInt = ((jx_en jx_D (jx_tp X) n s - s : Nat) : Int) := by rw [vi_sub (by omega) (by omega)]; omega
  by_cases h : 4 < jx_en jx_D (jx_tp X) n s - s
  · have g : 4 < Int32.ofNat (jx_en jx_D (jx_tp X) n s) - Int32.ofNat s := by rw [vi_lt]; omega
    rw [if_pos h]
    simp only [s26_0, s26_1, s26_2, s26_5, s26_6, s26_9, s26_10, s26_13, s26_16, s26_17, s26_18, q26_21, q26_24, s26_27, s26_30, s26_31, s26_32, s26_35, s26_37, s26_38, s26_39, s26_40, q26_43, s26_46, s26_47, s26_49, s26_50, s26_53, s26_54, s26_54r, s26_55, s26_58, s26_59, s26_60, s26_63, s26_66, s26_67, s26_68, s26_71, s26_72, s26_75, s26_76, s26_77, s26_80, s26_83, s26_86, s26_89, s26_92, xIL_1, xIS_1, xQL_2, xQL_3, xAN_1, xAN_2, xAN_3, xCP_1, xC_s, xNC_I, ji_oI1, ji_oIm, kd_sC, gR_sC, gL_sC, ji_rv_s, ji_tl_s, ji_tl_n, ji_s1, ji_s2, ji_kl, List.getD_cons_zero, List.getD_cons_succ, List.set_cons_zero, List.set_cons_succ, List.length_cons, List.length_nil, ji_b_0, ji_b_1, ji_n0, ji_n1, ji_rcb_iff, ji_ok8_0, ji_ok8_1, ji_ok8_2, ji_ok8_3, ji_ok8_4, kd_sI, kd_sL, kd_sR, kd_cp, gR_sI, gR_sL, gR_cp, gL_sI, gL_sR, gL_cp, gI_sL, gI_sR, gI_sI, gL_sL, Nat.reduceEqDiff, false_and, and_false, true_and, and_true, Nat.reduceAdd, Nat.reduceLT, Nat.reduceSub, Int32.reduceLT, Int32.reduceAdd, not_false_eq_true, not_true_eq_false, and_self, ji_b_n, if_true, if_false, ↓reduceIte, cz_m100, cz_m19, cz_m18, cz_m17, cz_m16, cz_m15, cz_m14, cz_m13, cz_m12, cz_m11, cz_m4, cz_m3, cz_m2, cz_m1, cz_1, cz_2, cz_3, cz_4, cz_5, cz_6, cz_7, cz_8, cz_9, cz_10, cz_11, cz_12, cz_13, cz_14, cz_15, cz_16, cz_20, cz_24, cz_30, cz_32, cz_33, cz_38, cz_40, cz_41, cz_42, cz_43, cz_45, cz_48, cz_57, cz_59, cz_60, cz_61, cz_63, cz_64, cz_72, cz_96, cz_97, cz_99, cz_100, cz_122, cz_124, cz_126, cz_160, cz_161, cz_168, cz_200, cz_255, cz_300, cz_960, cz_999, cz_1000, cz_1001, cz_1002, cz_1003, cz_1120, cz_2000, cz_2003, cz_2004, cz_2005, cz_3999, cz_9999, cz_14640, jx_XM_kd, xk_5 hX, jx_XM_pl, jx_XM_st, g, jx_XW_tk]
  · have g : ¬ 4 < Int32.ofNat (jx_en jx_D (jx_tp X) n s) - Int32.ofNat s := by rw [vi_lt]; omega
    rw [if_neg h]
    simp only [s26_0, s26_1, s26_2, s26_5, s26_6, s26_9, s26_10, s26_13, s26_16, s26_17, s26_18, q26_21, q26_24, s26_27, s26_30, s26_31, s26_32, s26_35, s26_37, s26_38, s26_39, s26_40, q26_43, s26_46, s26_47, s26_49, s26_50, s26_53, s26_54, s26_54r, s26_55, s26_58, s26_59, s26_60, s26_63, s26_66, s26_67, s26_68, s26_71, s26_72, s26_75, s26_76, s26_77, s26_80, s26_83, s26_86, s26_89, s26_92, xIL_1, xIS_1, xQL_2, xQL_3, xAN_1, xAN_2, xAN_3, xCP_1, xC_s, xNC_I, ji_oI1, ji_oIm, kd_sC, gR_sC, gL_sC, ji_rv_s, ji_tl_s, ji_tl_n, ji_s1, ji_s2, ji_kl, List.getD_cons_zero, List.getD_cons_succ, List.set_cons_zero, List.set_cons_succ, List.length_cons, List.length_nil, ji_b_0, ji_b_1, ji_n0, ji_n1, ji_rcb_iff, ji_ok8_0, ji_ok8_1, ji_ok8_2, ji_ok8_3, ji_ok8_4, kd_sI, kd_sL, kd_sR, kd_cp, gR_sI, gR_sL, gR_cp, gL_sI, gL_sR, gL_cp, gI_sL, gI_sR, gI_sI, gL_sL, Nat.reduceEqDiff, false_and, and_false, true_and, and_true, Nat.reduceAdd, Nat.reduceLT, Nat.reduceSub, Int32.reduceLT, Int32.reduceAdd, not_false_eq_true, not_true_eq_false, and_self, ji_b_n, if_true, if_false, ↓reduceIte, cz_m100, cz_m19, cz_m18, cz_m17, cz_m16, cz_m15, cz_m14, cz_m13, cz_m12, cz_m11, cz_m4, cz_m3, cz_m2, cz_m1, cz_1, cz_2, cz_3, cz_4, cz_5, cz_6, cz_7, cz_8, cz_9, cz_10, cz_11, cz_12, cz_13, cz_14, cz_15, cz_16, cz_20, cz_24, cz_30, cz_32, cz_33, cz_38, cz_40, cz_41, cz_42, cz_43, cz_45, cz_48, cz_57, cz_59, cz_60, cz_61, cz_63, cz_64, cz_72, cz_96, cz_97, cz_99, cz_100, cz_122, cz_124, cz_126, cz_160, cz_161, cz_168, cz_200, cz_255, cz_300, cz_960, cz_999, cz_1000, cz_1001, cz_1002, cz_1003, cz_1120, cz_2000, cz_2003, cz_2004, cz_2005, cz_3999, cz_9999, cz_14640, jx_XM_kd, xk_5 hX, jx_XM_pl, jx_XM_st, g, jx_XW_tk]
/-- the value that goes with a token -/
def jx_vok (tk vl v : Int32) : Prop := (tk = 1002 ∨ tk = 1003) → v = vl
theorem m20 (H : jx_OK X n sc) (hp : p ≤ n) : ∃ v, jx_vok (jx_tok (jx_tp X) n p).1 (jx_tok (jx_tp X) n p).2.1 v ∧ ∀ d, ji_CL (d + 7) 20 [.ref 5] (jx_XM X (Int32.ofNat p) st tk vl op fa le sc sf) = some (none, jx_XM X (Int32.ofNat (jx_tok (jx_tp X) n p).2.2.2) (Int32.ofNat (jx_tok (jx_tp X) n p).2.2.1) (jx_tok (jx_tp X) n p).1 v op fa le sc sf) := by
  have hX := H.1
  have h1 := H.2.1
  have h2 := H.2.2.1
  have hb := H.2.2.2.1
  have a := jx_en_b (q := jx_B) (t := jx_tp X) (n := n) _ p (Nat.le_refl _) hp
  have F : ∀ (v : Int32) (M' : ji_M), (∀ d q', q' = Int32.ofNat (jx_en jx_B (jx_tp X) n p) → ji_Ev (ji_CL (d + 6)) 20 50 (jx_XM X q' st tk vl op fa le sc sf) [some (.ref 5), none] [] (none, M')) → ∀ d, ji_CL (d + 7) 20 [.ref 5] (jx_XM X (Int32.ofNat p) st tk vl op fa le sc sf) = some (none, M') := by
    intro v M' G d
    apply en_20
    exact m20B (d := d + 5) H (n - p) p (Int32.ofNat p) (Nat.le_refl _) hp (vi_nn (by omega)) (fun q' hq' => G d q' (vi_ofn hq'))
  unfold jx_tok
  generalize jx_en jx_B (jx_tp X) n p = s at a F
  have es := vi_nn (n := s) (by omega)
  by_cases hs : s < n
  · rw [if_pos hs]
    have g : Int32.ofNat s < ji_gI X 5 1 := by rw [vi_lt]; omega
    have B := fun d st => m21 (d := d) (pl := Int32.ofNat s) (st := st) (tk := tk) (vl := vl) (op := op) (fa := fa) (le := le) (sf := sf) H es hs
    have iL := jx_iL H hs
    have iD := jx_iD H hs
    by_cases hL : jx_L (jx_tp X s) = true
    · rw [if_pos hL]
      have w := fun d => m23 (d := d) (tk := tk) (vl := vl) (op := op) (fa := fa) (le := le) (sf := sf) H hs hL
      refine ⟨jx_v2 (jx_wt (jx_ru (jx_tp X) s (jx_en jx_L (jx_tp X) n s - s)) 12) vl, ?_, F 0 _ (fun d q' hq' => ?_)⟩
      · intro hv
        refine if_neg (fun u => ?_)
        dsimp only at hv
        rw [u] at hv
        exact absurd hv (by decide)
      · subst hq'
        simp only [s20_0, s20_1, s20_4, s20_5, s20_8, s20_11, s20_12, s20_13, q20_16, s20_19, s20_21, s20_24, s20_25, s20_26, q20_29, s20_32, s20_34, s20_37, s20_38, s20_38r, s20_39, s20_42, s20_43, s20_44, s20_47, s20_50, s20_51, s20_52, s20_55, s20_58, s20_59, s20_60, q20_63, s20_66, s20_67, s20_68, s20_71, s20_72, s20_75, s20_78, s20_79, s20_82, s20_85, s20_88, q20_89, s20_92, s20_95, q20_96, s20_99, s20_102, q20_103, s20_106, s20_109, q20_110, s20_113, s20_116, s20_117, s20_119, s20_120, q20_121x, s20_124, s20_127, s20_128, s20_131, s20_134, s20_137, s20_138, s20_138r, s20_139, s20_142, s20_143, s20_144, s20_147, xIL_1, xIS_1, xQL_2, xQL_3, xAN_1, xAN_2, xAN_3, xCP_1, xC_s, xNC_I, ji_oI1, ji_oIm, kd_sC, gR_sC, gL_sC, ji_rv_s, ji_tl_s, ji_tl_n, ji_s1, ji_s2, ji_kl, List.getD_cons_zero, List.getD_cons_succ, List.set_cons_zero, List.set_cons_succ, List.length_cons, List.length_nil, ji_b_0, ji_b_1, ji_n0, ji_n1, ji_rcb_iff, ji_ok8_0, ji_ok8_1, ji_ok8_2, ji_ok8_3, ji_ok8_4, kd_sI, kd_sL, kd_sR, kd_cp, gR_sI, gR_sL, gR_cp, gL_sI, gL_sR, gL_cp, gI_sL, gI_sR, gI_sI, gL_sL, Nat.reduceEqDiff, false_and, and_false, true_and, and_true, Nat.reduceAdd, Nat.reduceLT, Nat.reduceSub, Int32.reduceLT, Int32.reduceAdd, not_false_eq_true, not_true_eq_false, and_self, ji_b_n, if_true, if_false, ↓reduceIte, cz_m100, cz_m19, cz_m18, cz_m17, cz_m16, cz_m15, cz_m14, cz_m13, cz_m12, cz_m11, cz_m4, cz_m3, cz_m2, cz_m1, cz_1, cz_2, cz_3, cz_4, cz_5, cz_6, cz_7, cz_8, cz_9, cz_10, cz_11, cz_12, cz_13, cz_14, cz_15, cz_16, cz_20, cz_24, cz_30, cz_32, cz_33, cz_38, cz_40, cz_41, cz_42, cz_43, cz_45, cz_48, cz_57, cz_59, cz_60, cz_61, cz_63, cz_64, cz_72, cz_96, cz_97, cz_99, cz_100, cz_122, cz_124, cz_126, cz_160, cz_161, cz_168, cz_200, cz_255, cz_300, cz_960, cz_999, cz_1000, cz_1001, cz_1002, cz_1003, cz_1120, cz_2000, cz_2003, cz_2004, cz_2005, cz_3999, cz_9999, cz_14640, jx_XM_kd, xk_5 hX, jx_XM_pl, jx_XM_sz, jx_XW_st, g, B, m22, iL.mpr hL, w]
    · rw [if_neg hL]
      have nL := fun q => hL (iL.mp q)
      have nL : ¬ ji_in (ji_gI X 6 s) 97 122 := nL
      by_cases hD : jx_D (jx_tp X s) = true
      · rw [if_pos hD]
        have w := fun d => m26 (d := d) (tk := tk) (vl := vl) (op := op) (fa := fa) (le := le) (sf := sf) H hs
        refine ⟨jx_nv (jx_tp X) s (jx_en jx_D (jx_tp X) n s - s), fun _ => rfl, F 0 _ (fun d q' hq' => ?_)⟩
        subst hq'
        simp only [s20_0, s20_1, s20_4, s20_5, s20_8, s20_11, s20_12, s20_13, q20_16, s20_19, s20_21, s20_24, s20_25, s20_26, q20_29, s20_32, s20_34, s20_37, s20_38, s20_38r, s20_39, s20_42, s20_43, s20_44, s20_47, s20_50, s20_51, s20_52, s20_55, s20_58, s20_59, s20_60, q20_63, s20_66, s20_67, s20_68, s20_71, s20_72, s20_75, s20_78, s20_79, s20_82, s20_85, s20_88, q20_89, s20_92, s20_95, q20_96, s20_99, s20_102, q20_103, s20_106, s20_109, q20_110, s20_113, s20_116, s20_117, s20_119, s20_120, q20_121x, s20_124, s20_127, s20_128, s20_131, s20_134, s20_137, s20_138, s20_138r, s20_139, s20_142, s20_143, s20_144, s20_147, xIL_1, xIS_1, xQL_2, xQL_3, xAN_1, xAN_2, xAN_3, xCP_1, xC_s, xNC_I, ji_oI1, ji_oIm, kd_sC, gR_sC, gL_sC, ji_rv_s, ji_tl_s, ji_tl_n, ji_s1, ji_s2, ji_kl, List.getD_cons_zero, List.getD_cons_succ, List.set_cons_zero, List.set_cons_succ, List.length_cons, List.length_nil, ji_b_0, ji_b_1, ji_n0, ji_n1, ji_rcb_iff, ji_ok8_0, ji_ok8_1, ji_ok8_2, ji_ok8_3, ji_ok8_4, kd_sI, kd_sL, kd_sR, kd_cp, gR_sI, gR_sL, gR_cp, gL_sI, gL_sR, gL_cp, gI_sL, gI_sR, gI_sI, gL_sL, Nat.reduceEqDiff, false_and, and_false, true_and, and_true, Nat.reduceAdd, Nat.reduceLT, Nat.reduceSub, Int32.reduceLT, Int32.reduceAdd, not_false_eq_true, not_true_eq_false, and_self, ji_b_n, if_true, if_false, ↓reduceIte, cz_m100, cz_m19, cz_m18, cz_m17, cz_m16, cz_m15, cz_m14, cz_m13, cz_m12, cz_m11, cz_m4, cz_m3, cz_m2, cz_m1, cz_1, cz_2, cz_3, cz_4, cz_5, cz_6, cz_7, cz_8, cz_9, cz_10, cz_11, cz_12, cz_13, cz_14, cz_15, cz_16, cz_20, cz_24, cz_30, cz_32, cz_33, cz_38, cz_40, cz_41, cz_42, cz_43, cz_45, cz_48, cz_57, cz_59, cz_60, cz_61, cz_63, cz_64, cz_72, cz_96, cz_97, cz_99, cz_100, cz_122, cz_124, cz_126, cz_160, cz_161, cz_168, cz_200, cz_255, cz_300, cz_960, cz_999, cz_1000, cz_1001, cz_1002, cz_1003, cz_1120, cz_2000, cz_2003, cz_2004, cz_2005, cz_3999, cz_9999, cz_14640, jx_XM_kd, xk_5 hX, jx_XM_pl, jx_XM_sz, jx_XW_st, g, B, m22, m25, nL, iD.mpr hD, w]
      · rw [if_neg hD]
        have nD : ¬ ji_in (ji_gI X 6 s) 48 57 := fun q => hD (iD.mp q)
        have bb := hb s hs
        have e0 : (0 : Int32).toInt = 0 := rfl
        have e255 : (255 : Int32).toInt = 255 := rfl
        have hc : ((ji_gI X 6 s).toUInt32 % 65536).toInt32 = ji_gI X 6 s := by
          have h : ∀ k : Fin 256, ((Int32.ofNat k.val).toUInt32 % 65536).toInt32 = Int32.ofNat k.val := by decide +kernel
          have := h ⟨(ji_gI X 6 s).toInt.toNat, by have := bb.1; have := bb.2; omega⟩
          rw [← vi_ofn (v := ji_gI X 6 s) (n := (ji_gI X 6 s).toInt.toNat) (by have := bb.1; omega)] at this
          exact this
        have c27 := fun d M => m27 (d := d) (M := M) (x := ji_gI X 6 s) (by rw [vi_lt]; have := bb.1; omega) (by rw [vi_lt]; have := bb.2; omega)
        have fs := jx_fi_S (c := jx_tp X s)
        have e1 : Int32.ofNat s + 1 = Int32.ofNat (s + 1) := (Int32.ofNat_add s 1).symm
        refine ⟨vl, fun hv => ?_, F 0 _ (fun d q' hq' => ?_)⟩
        · exfalso
          dsimp only at hv
          split at hv
          · rename_i q
            unfold jx_S at q
            have e1002 : (1002 : Int32).toInt = 1002 := rfl
            have e1003 : (1003 : Int32).toInt = 1003 := rfl
            have tv := jx_tp_v H hs
            have := bb.2
            have := bb.1
            rcases hv with hv | hv
            · have := congrArg Int32.toInt hv
              rw [e1002, tv] at this
              split at this <;> omega
            · have := congrArg Int32.toInt hv
              rw [e1003, tv] at this
              split at this <;> omega
          · exact absurd hv (by decide)
        · subst hq'
          by_cases hS : jx_S (jx_tp X s) = true
          · have q := fs.mpr hS
            have q : ¬ jx_fi (ji_gI X 6 s).toInt8.toInt32 8 0 < 0 := q
            rw [if_pos hS]
            have id : jx_tp X s = ji_gI X 6 s := by
              refine jx_tp_id H hs ?_
              unfold jx_S at hS
              simp only [Bool.or_eq_true, decide_eq_true_eq] at hS
              omega
            rw [id]
            simp only [s20_0, s20_1, s20_4, s20_5, s20_8, s20_11, s20_12, s20_13, q20_16, s20_19, s20_21, s20_24, s20_25, s20_26, q20_29, s20_32, s20_34, s20_37, s20_38, s20_38r, s20_39, s20_42, s20_43, s20_44, s20_47, s20_50, s20_51, s20_52, s20_55, s20_58, s20_59, s20_60, q20_63, s20_66, s20_67, s20_68, s20_71, s20_72, s20_75, s20_78, s20_79, s20_82, s20_85, s20_88, q20_89, s20_92, s20_95, q20_96, s20_99, s20_102, q20_103, s20_106, s20_109, q20_110, s20_113, s20_116, s20_117, s20_119, s20_120, q20_121x, s20_124, s20_127, s20_128, s20_131, s20_134, s20_137, s20_138, s20_138r, s20_139, s20_142, s20_143, s20_144, s20_147, xIL_1, xIS_1, xQL_2, xQL_3, xAN_1, xAN_2, xAN_3, xCP_1, xC_s, xNC_I, ji_oI1, ji_oIm, kd_sC, gR_sC, gL_sC, ji_rv_s, ji_tl_s, ji_tl_n, ji_s1, ji_s2, ji_kl, List.getD_cons_zero, List.getD_cons_succ, List.set_cons_zero, List.set_cons_succ, List.length_cons, List.length_nil, ji_b_0, ji_b_1, ji_n0, ji_n1, ji_rcb_iff, ji_ok8_0, ji_ok8_1, ji_ok8_2, ji_ok8_3, ji_ok8_4, kd_sI, kd_sL, kd_sR, kd_cp, gR_sI, gR_sL, gR_cp, gL_sI, gL_sR, gL_cp, gI_sL, gI_sR, gI_sI, gL_sL, Nat.reduceEqDiff, false_and, and_false, true_and, and_true, Nat.reduceAdd, Nat.reduceLT, Nat.reduceSub, Int32.reduceLT, Int32.reduceAdd, not_false_eq_true, not_true_eq_false, and_self, ji_b_n, if_true, if_false, ↓reduceIte, cz_m100, cz_m19, cz_m18, cz_m17, cz_m16, cz_m15, cz_m14, cz_m13, cz_m12, cz_m11, cz_m4, cz_m3, cz_m2, cz_m1, cz_1, cz_2, cz_3, cz_4, cz_5, cz_6, cz_7, cz_8, cz_9, cz_10, cz_11, cz_12, cz_13, cz_14, cz_15, cz_16, cz_20, cz_24, cz_30, cz_32, cz_33, cz_38, cz_40, cz_41, cz_42, cz_43, cz_45, cz_48, cz_57, cz_59, cz_60, cz_61, cz_63, cz_64, cz_72, cz_96, cz_97, cz_99, cz_100, cz_122, cz_124, cz_126, cz_160, cz_161, cz_168, cz_200, cz_255, cz_300, cz_960, cz_999, cz_1000, cz_1001, cz_1002, cz_1003, cz_1120, cz_2000, cz_2003, cz_2004, cz_2005, cz_3999, cz_9999, cz_14640, jx_XM_kd, xk_5 hX, jx_XM_pl, jx_XM_sz, jx_XW_st, g, B, m22, m25, nL, nD, hc, jx_rc3, c27, q, jx_XW_tk, jx_XW_pl, e1]
          · have q : jx_fi (ji_gI X 6 s).toInt8.toInt32 8 0 < 0 := Classical.byContradiction (fun u => hS (fs.mp u))
            rw [if_neg hS]
            simp only [s20_0, s20_1, s20_4, s20_5, s20_8, s20_11, s20_12, s20_13, q20_16, s20_19, s20_21, s20_24, s20_25, s20_26, q20_29, s20_32, s20_34, s20_37, s20_38, s20_38r, s20_39, s20_42, s20_43, s20_44, s20_47, s20_50, s20_51, s20_52, s20_55, s20_58, s20_59, s20_60, q20_63, s20_66, s20_67, s20_68, s20_71, s20_72, s20_75, s20_78, s20_79, s20_82, s20_85, s20_88, q20_89, s20_92, s20_95, q20_96, s20_99, s20_102, q20_103, s20_106, s20_109, q20_110, s20_113, s20_116, s20_117, s20_119, s20_120, q20_121x, s20_124, s20_127, s20_128, s20_131, s20_134, s20_137, s20_138, s20_138r, s20_139, s20_142, s20_143, s20_144, s20_147, xIL_1, xIS_1, xQL_2, xQL_3, xAN_1, xAN_2, xAN_3, xCP_1, xC_s, xNC_I, ji_oI1, ji_oIm, kd_sC, gR_sC, gL_sC, ji_rv_s, ji_tl_s, ji_tl_n, ji_s1, ji_s2, ji_kl, List.getD_cons_zero, List.getD_cons_succ, List.set_cons_zero, List.set_cons_succ, List.length_cons, List.length_nil, ji_b_0, ji_b_1, ji_n0, ji_n1, ji_rcb_iff, ji_ok8_0, ji_ok8_1, ji_ok8_2, ji_ok8_3, ji_ok8_4, kd_sI, kd_sL, kd_sR, kd_cp, gR_sI, gR_sL, gR_cp, gL_sI, gL_sR, gL_cp, gI_sL, gI_sR, gI_sI, gL_sL, Nat.reduceEqDiff, false_and, and_false, true_and, and_true, Nat.reduceAdd, Nat.reduceLT, Nat.reduceSub, Int32.reduceLT, Int32.reduceAdd, not_false_eq_true, not_true_eq_false, and_self, ji_b_n, if_true, if_false, ↓reduceIte, cz_m100, cz_m19, cz_m18, cz_m17, cz_m16, cz_m15, cz_m14, cz_m13, cz_m12, cz_m11, cz_m4, cz_m3, cz_m2, cz_m1, cz_1, cz_2, cz_3, cz_4, cz_5, cz_6, cz_7, cz_8, cz_9, cz_10, cz_11, cz_12, cz_13, cz_14, cz_15, cz_16, cz_20, cz_24, cz_30, cz_32, cz_33, cz_38, cz_40, cz_41, cz_42, cz_43, cz_45, cz_48, cz_57, cz_59, cz_60, cz_61, cz_63, cz_64, cz_72, cz_96, cz_97, cz_99, cz_100, cz_122, cz_124, cz_126, cz_160, cz_161, cz_168, cz_200, cz_255, cz_300, cz_960, cz_999, cz_1000, cz_1001, cz_1002, cz_1003, cz_1120, cz_2000, cz_2003, cz_2004, cz_2005, cz_3999, cz_9999, cz_14640, jx_XM_kd, xk_5 hX, jx_XM_pl, jx_XM_sz, jx_XW_st, g, B, m22, m25, nL, nD, hc, jx_rc3, c27, q, jx_XW_tk, jx_XW_pl, e1]
  · rw [if_neg hs]
    have g : ¬ Int32.ofNat s < ji_gI X 5 1 := by rw [vi_lt]; omega
    have B := fun d st => m21n (d := d) (v := Int32.ofNat s) (pl := Int32.ofNat s) (st := st) (tk := tk) (vl := vl) (op := op) (fa := fa) (le := le) (sf := sf) H (by omega)
    refine ⟨vl, fun hv => absurd hv (by show ¬ ((1000 : Int32) = 1002 ∨ (1000 : Int32) = 1003); decide), F 0 _ (fun d q' hq' => ?_)⟩
    subst hq'
    simp only [s20_0, s20_1, s20_4, s20_5, s20_8, s20_11, s20_12, s20_13, q20_16, s20_19, s20_21, s20_24, s20_25, s20_26, q20_29, s20_32, s20_34, s20_37, s20_38, s20_38r, s20_39, s20_42, s20_43, s20_44, s20_47, s20_50, s20_51, s20_52, s20_55, s20_58, s20_59, s20_60, q20_63, s20_66, s20_67, s20_68, s20_71, s20_72, s20_75, s20_78, s20_79, s20_82, s20_85, s20_88, q20_89, s20_92, s20_95, q20_96, s20_99, s20_102, q20_103, s20_106, s20_109, q20_110, s20_113, s20_116, s20_117, s20_119, s20_120, q20_121x, s20_124, s20_127, s20_128, s20_131, s20_134, s20_137, s20_138, s20_138r, s20_139, s20_142, s20_143, s20_144, s20_147, xIL_1, xIS_1, xQL_2, xQL_3, xAN_1, xAN_2, xAN_3, xCP_1, xC_s, xNC_I, ji_oI1, ji_oIm, kd_sC, gR_sC, gL_sC, ji_rv_s, ji_tl_s, ji_tl_n, ji_s1, ji_s2, ji_kl, List.getD_cons_zero, List.getD_cons_succ, List.set_cons_zero, List.set_cons_succ, List.length_cons, List.length_nil, ji_b_0, ji_b_1, ji_n0, ji_n1, ji_rcb_iff, ji_ok8_0, ji_ok8_1, ji_ok8_2, ji_ok8_3, ji_ok8_4, kd_sI, kd_sL, kd_sR, kd_cp, gR_sI, gR_sL, gR_cp, gL_sI, gL_sR, gL_cp, gI_sL, gI_sR, gI_sI, gL_sL, Nat.reduceEqDiff, false_and, and_false, true_and, and_true, Nat.reduceAdd, Nat.reduceLT, Nat.reduceSub, Int32.reduceLT, Int32.reduceAdd, not_false_eq_true, not_true_eq_false, and_self, ji_b_n, if_true, if_false, ↓reduceIte, cz_m100, cz_m19, cz_m18, cz_m17, cz_m16, cz_m15, cz_m14, cz_m13, cz_m12, cz_m11, cz_m4, cz_m3, cz_m2, cz_m1, cz_1, cz_2, cz_3, cz_4, cz_5, cz_6, cz_7, cz_8, cz_9, cz_10, cz_11, cz_12, cz_13, cz_14, cz_15, cz_16, cz_20, cz_24, cz_30, cz_32, cz_33, cz_38, cz_40, cz_41, cz_42, cz_43, cz_45, cz_48, cz_57, cz_59, cz_60, cz_61, cz_63, cz_64, cz_72, cz_96, cz_97, cz_99, cz_100, cz_122, cz_124, cz_126, cz_160, cz_161, cz_168, cz_200, cz_255, cz_300, cz_960, cz_999, cz_1000, cz_1001, cz_1002, cz_1003, cz_1120, cz_2000, cz_2003, cz_2004, cz_2005, cz_3999, cz_9999, cz_14640, jx_XM_kd, xk_5 hX, jx_XM_pl, jx_XM_sz, jx_XW_st, g, B, jx_XW_tk]
end JIV
