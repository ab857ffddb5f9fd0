/-! ===== lots: a book put to dry, and hours ===== -/
def jz_rm (M : ji_M) (b : Nat) : Prop := ¬ ji_gI M 0 3 < ji_rt (ji_fz 0) (ji_gI M 7) (ji_gI M 3) (Int32.ofNat b) (ji_gI M 0 4).toInt.toNat + ji_fR 3 (ji_gI M 3 b)
def jz_cn (M : ji_M) (b : Nat) : Prop := ji_ld2 (ji_gI M 7 b) 3 ∧ jz_rm M b
noncomputable def jz_dr (M : ji_M) (b : Nat) : ji_M := @ite _ (jz_cn M b) (Classical.propDecidable _) (ji_sI (ji_sI M 7 b 3) 8 b (ji_gI M 0 0)) M
noncomputable def jz_sp (n : Nat) (M : ji_M) (b : Nat) : ji_M := jq_Nj (jz_dr M b) n
section JIV
variable {X X' Y N N' M M' : ji_M} {P : ji_P} {x y z v k : Int32} {f g : ji_F} {d a b r c m s p n i j ρ s' r' c' : Nat} {o : Option Value × ji_M} {σ : List Int32 × List Int32 × List Int32}
theorem jz_dr_1 (h : jz_cn M b) : jz_dr M b = ji_sI (ji_sI M 7 b 3) 8 b (ji_gI M 0 0) := if_pos h
theorem jz_dr_0 (h : ¬ jz_cn M b) : jz_dr M b = M := if_neg h
theorem jz_SRb (R : jq_SR X M s r c) (hb : (b : Int) < (ji_gI M 0 4).toInt) : b < 24 ∧ (Int32.ofNat b).toInt = (b : Int) ∧ (b : Int) < (ji_gI X r 3).toInt ∧ ji_at X r c 8 (Int32.ofNat b) 0 = ji_gI M 7 b ∧ ji_at X r c 8 (Int32.ofNat b) 3 = ji_gI M 3 b := by
  obtain ⟨S, -, -, -, e1, e2, e3⟩ := R
  have hb2 := e2.2
  have eb := vi_nn (n := b) (by omega)
  have hx : 0 ≤ (Int32.ofNat b).toInt ∧ (Int32.ofNat b).toInt < (ji_gI X r 3).toInt := by rw [e1]; omega
  have E := e3 b hb
  have et : (Int32.ofNat b).toInt.toNat = b := by rw [eb]; exact Int.toNat_natCast _
  have A := fun (y : Int32) (j : Nat) (h1 : y.toInt = (j : Int)) (h2 : j < 8) => ji_at_in (M := X) (r := r) (c := c) (w := 8) (x := Int32.ofNat b) (y := y) (j := j) hx h1 h2 (Nat.le_refl _)
  rw [et] at A
  exact ⟨by omega, eb, by rw [e1]; exact hb, (A 0 0 rfl (by decide)).trans E.1.1, (A 3 3 rfl (by decide)).trans E.2.2.2.1.1⟩
theorem jz_m81 (R : jq_SR X M s r c) (hb : (b : Int) < (ji_gI M 0 4).toInt) : ji_CL (d + 3) 81 [.ref s, .int (Int32.ofNat b), .int 3] X = some (some (.int (ji_b (jz_rm M b))), X) := by
  obtain ⟨b24, eb, hb2, c0, c3⟩ := jz_SRb R hb
  obtain ⟨S, hh, ⟨t1, t2, t3⟩, hc, e1, e2, e3⟩ := R
  have A3 := m82 (d := d) (x := 3) (y := Int32.ofNat b) S (fun b hb => by
    rw [e1] at hb
    have E := e3 b hb
    rw [E.1.1]; exact E.1.2)
  have rt : ji_rt (fun q => ji_un q 3) (fun b => ji_gI X c (b * 8)) (fun b => ji_gI X c (b * 8 + 3)) (Int32.ofNat b) (ji_gI X r 3).toInt.toNat = ji_rt (ji_fz 0) (ji_gI M 7) (ji_gI M 3) (Int32.ofNat b) (ji_gI M 0 4).toInt.toNat := by
    rw [e1]
    refine ji_rt_eq _ (fun b hb => ?_)
    have E := e3 b (by omega)
    exact ⟨E.1.1, E.2.2.2.1.1, ji_un3⟩
  rw [rt] at A3
  have I := m83 (M := X) (d := d + 1) (s := 3) (t := 3) ⟨by decide, by decide⟩
  rw [ji_b_T (show ji_un 3 3 from Or.inl rfl)] at I
  have RM := m68 (M := X) (d := d + 1) (s := 3) (z := ji_gI M 3 b)
  have n2 : ¬ (3 : Int32) = 2 := by decide
  have n1 : ¬ (1 : Int32) = 0 := by decide
  unfold jz_rm
  generalize ji_rt (ji_fz 0) (ji_gI M 7) (ji_gI M 3) (Int32.ofNat b) (ji_gI M 0 4).toInt.toNat = V at A3
  generalize ji_fR 3 (ji_gI M 3 b) = W at RM
  by_cases g : ji_gI M 0 3 < V + W
  · rw [ji_b_F (fun q => q g)]
    apply en_81
    simp only [s81_0, s81_1, s81_2, s81_5, s81_6, q81_7, q81_10, s81_13, s81_14, s81_15, s81_16, s81_19, s81_20, s81_21, q81_22, s81_25, s81_26, s81_27, s81_28, s81_31, s81_34, s81_35, s81_38, s81_39, s81_40, s81_41, q81_42, s81_45, s81_48, s81_49, s81_50, q81_51, s81_54, s81_55, s81_56, s81_57, s81_60, s81_63, s81_64, s81_67, s81_68, xIL_1, xIS_1, xQL_2, xQL_3, xAN_1, xAN_2, xAN_3, xCP_1, xC_s, xNC_I, ji_oI1, ji_oIm, kd_sC, gR_sC, gL_sC, ji_rv_s, ji_tl_s, ji_tl_n, ji_s1, ji_s2, ji_kl, List.getD_cons_zero, List.getD_cons_succ, List.set_cons_zero, List.set_cons_succ, List.length_cons, List.length_nil, ji_b_0, ji_b_1, ji_n0, ji_n1, ji_rcb_iff, ji_ok8_0, ji_ok8_1, ji_ok8_2, ji_ok8_3, ji_ok8_4, kd_sI, kd_sL, kd_sR, kd_cp, gR_sI, gR_sL, gR_cp, gL_sI, gL_sR, gL_cp, gI_sL, gI_sR, gI_sI, gL_sL, Nat.reduceEqDiff, false_and, and_false, true_and, and_true, Nat.reduceAdd, Nat.reduceLT, Nat.reduceSub, Int32.reduceLT, Int32.reduceAdd, not_false_eq_true, not_true_eq_false, and_self, ji_b_n, if_true, if_false, ↓reduceIte, cz_m100, cz_m19, cz_m18, cz_m17, cz_m16, cz_m15, cz_m14, cz_m13, cz_m12, cz_m11, cz_m4, cz_m3, cz_m2, cz_m1, cz_1, cz_2, cz_3, cz_4, cz_5, cz_6, cz_7, cz_8, cz_9, cz_10, cz_11, cz_12, cz_13, cz_14, cz_15, cz_16, cz_20, cz_24, cz_30, cz_32, cz_33, cz_38, cz_40, cz_41, cz_42, cz_43, cz_45, cz_48, cz_57, cz_59, cz_60, cz_61, cz_63, cz_64, cz_72, cz_96, cz_97, cz_99, cz_100, cz_122, cz_124, cz_126, cz_160, cz_161, cz_168, cz_200, cz_255, cz_300, cz_960, cz_999, cz_1000, cz_1001, cz_1002, cz_1003, cz_1120, cz_2000, cz_2003, cz_2004, cz_2005, cz_3999, cz_9999, cz_14640, S.1, S.2.1, S.2.2.1, m49 S.2.2, c3, RM, n2, n1, I, A3, t3.1, eq_true g]
  · rw [ji_b_T g]
    apply en_81
    simp only [s81_0, s81_1, s81_2, s81_5, s81_6, q81_7, q81_10, s81_13, s81_14, s81_15, s81_16, s81_19, s81_20, s81_21, q81_22, s81_25, s81_26, s81_27, s81_28, s81_31, s81_34, s81_35, s81_38, s81_39, s81_40, s81_41, q81_42, s81_45, s81_48, s81_49, s81_50, q81_51, s81_54, s81_55, s81_56, s81_57, s81_60, s81_63, s81_64, s81_67, s81_68, xIL_1, xIS_1, xQL_2, xQL_3, xAN_1, xAN_2, xAN_3, xCP_1, xC_s, xNC_I, ji_oI1, ji_oIm, kd_sC, gR_sC, gL_sC, ji_rv_s, ji_tl_s, ji_tl_n, ji_s1, ji_s2, ji_kl, List.getD_cons_zero, List.getD_cons_succ, List.set_cons_zero, List.set_cons_succ, List.length_cons, List.length_nil, ji_b_0, ji_b_1, ji_n0, ji_n1, ji_rcb_iff, ji_ok8_0, ji_ok8_1, ji_ok8_2, ji_ok8_3, ji_ok8_4, kd_sI, kd_sL, kd_sR, kd_cp, gR_sI, gR_sL, gR_cp, gL_sI, gL_sR, gL_cp, gI_sL, gI_sR, gI_sI, gL_sL, Nat.reduceEqDiff, false_and, and_false, true_and, and_true, Nat.reduceAdd, Nat.reduceLT, Nat.reduceSub, Int32.reduceLT, Int32.reduceAdd, not_false_eq_true, not_true_eq_false, and_self, ji_b_n, if_true, if_false, ↓reduceIte, cz_m100, cz_m19, cz_m18, cz_m17, cz_m16, cz_m15, cz_m14, cz_m13, cz_m12, cz_m11, cz_m4, cz_m3, cz_m2, cz_m1, cz_1, cz_2, cz_3, cz_4, cz_5, cz_6, cz_7, cz_8, cz_9, cz_10, cz_11, cz_12, cz_13, cz_14, cz_15, cz_16, cz_20, cz_24, cz_30, cz_32, cz_33, cz_38, cz_40, cz_41, cz_42, cz_43, cz_45, cz_48, cz_57, cz_59, cz_60, cz_61, cz_63, cz_64, cz_72, cz_96, cz_97, cz_99, cz_100, cz_122, cz_124, cz_126, cz_160, cz_161, cz_168, cz_200, cz_255, cz_300, cz_960, cz_999, cz_1000, cz_1001, cz_1002, cz_1003, cz_1120, cz_2000, cz_2003, cz_2004, cz_2005, cz_3999, cz_9999, cz_14640, S.1, S.2.1, S.2.2.1, m49 S.2.2, c3, RM, n2, n1, I, A3, t3.1, g]
theorem jz_m188 (hM : ji_MF M) (h4 : ji_bt (ji_gI M 0 4) 0 24) (hb : (b : Int) < (ji_gI M 0 4).toInt) : ji_CL (d + 3) 188 [.ref 0, .int (Int32.ofNat b), .int 3] M = some (some (.int (ji_b (jz_rm M b))), M) := by
  have h42 := h4.2
  obtain ⟨i1, i2, i3⟩ := jy_ix (Y := b) (m := 24) (by omega) (by omega)
  have D3 := m189 (d := d) (x := 0) (y := Int32.ofNat b) hM h4
  have RN := m167 (d := d + 1) (s := 3) hM i3
  rw [i2] at RN
  have n2 : ¬ (3 : Int32) = 2 := by decide
  have m19 := m190 (d := d + 1) (M := M) (s := 3)
  rw [ji_b_T (show (3 : Int32) = 3 ∨ (3 : Int32) = 5 from Or.inl rfl)] at m19
  have n1 : ¬ (1 : Int32) = 0 := by decide
  unfold jz_rm
  generalize ji_rt (ji_fz 0) (ji_gI M 7) (ji_gI M 3) (Int32.ofNat b) (ji_gI M 0 4).toInt.toNat = V at D3
  generalize ji_fR 3 (ji_gI M 3 b) = W at RN
  by_cases g : ji_gI M 0 3 < V + W
  · rw [ji_b_F (fun q => q g)]
    apply en_188
    simp only [s188_0, s188_1, s188_2, s188_5, s188_6, s188_7, q188_8, s188_11, s188_12, s188_13, q188_14, s188_17, s188_18, s188_19, s188_22, s188_25, s188_26, s188_29, s188_30, s188_31, s188_32, q188_33, s188_36, s188_39, s188_40, s188_41, q188_42, s188_45, s188_46, s188_47, q188_48, s188_51, s188_52, s188_53, s188_56, s188_59, s188_60, s188_63, s188_64, xIL_1, xIS_1, xQL_2, xQL_3, xAN_1, xAN_2, xAN_3, xCP_1, xC_s, xNC_I, ji_oI1, ji_oIm, kd_sC, gR_sC, gL_sC, ji_rv_s, ji_tl_s, ji_tl_n, ji_s1, ji_s2, ji_kl, List.getD_cons_zero, List.getD_cons_succ, List.set_cons_zero, List.set_cons_succ, List.length_cons, List.length_nil, ji_b_0, ji_b_1, ji_n0, ji_n1, ji_rcb_iff, ji_ok8_0, ji_ok8_1, ji_ok8_2, ji_ok8_3, ji_ok8_4, kd_sI, kd_sL, kd_sR, kd_cp, gR_sI, gR_sL, gR_cp, gL_sI, gL_sR, gL_cp, gI_sL, gI_sR, gI_sI, gL_sL, Nat.reduceEqDiff, false_and, and_false, true_and, and_true, Nat.reduceAdd, Nat.reduceLT, Nat.reduceSub, Int32.reduceLT, Int32.reduceAdd, not_false_eq_true, not_true_eq_false, and_self, ji_b_n, if_true, if_false, ↓reduceIte, cz_m100, cz_m19, cz_m18, cz_m17, cz_m16, cz_m15, cz_m14, cz_m13, cz_m12, cz_m11, cz_m4, cz_m3, cz_m2, cz_m1, cz_1, cz_2, cz_3, cz_4, cz_5, cz_6, cz_7, cz_8, cz_9, cz_10, cz_11, cz_12, cz_13, cz_14, cz_15, cz_16, cz_20, cz_24, cz_30, cz_32, cz_33, cz_38, cz_40, cz_41, cz_42, cz_43, cz_45, cz_48, cz_57, cz_59, cz_60, cz_61, cz_63, cz_64, cz_72, cz_96, cz_97, cz_99, cz_100, cz_122, cz_124, cz_126, cz_160, cz_161, cz_168, cz_200, cz_255, cz_300, cz_960, cz_999, cz_1000, cz_1001, cz_1002, cz_1003, cz_1120, cz_2000, cz_2003, cz_2004, cz_2005, cz_3999, cz_9999, cz_14640, mk_0 hM, n2, n1, m19, D3, RN, eq_true g]
  · rw [ji_b_T g]
    apply en_188
    simp only [s188_0, s188_1, s188_2, s188_5, s188_6, s188_7, q188_8, s188_11, s188_12, s188_13, q188_14, s188_17, s188_18, s188_19, s188_22, s188_25, s188_26, s188_29, s188_30, s188_31, s188_32, q188_33, s188_36, s188_39, s188_40, s188_41, q188_42, s188_45, s188_46, s188_47, q188_48, s188_51, s188_52, s188_53, s188_56, s188_59, s188_60, s188_63, s188_64, xIL_1, xIS_1, xQL_2, xQL_3, xAN_1, xAN_2, xAN_3, xCP_1, xC_s, xNC_I, ji_oI1, ji_oIm, kd_sC, gR_sC, gL_sC, ji_rv_s, ji_tl_s, ji_tl_n, ji_s1, ji_s2, ji_kl, List.getD_cons_zero, List.getD_cons_succ, List.set_cons_zero, List.set_cons_succ, List.length_cons, List.length_nil, ji_b_0, ji_b_1, ji_n0, ji_n1, ji_rcb_iff, ji_ok8_0, ji_ok8_1, ji_ok8_2, ji_ok8_3, ji_ok8_4, kd_sI, kd_sL, kd_sR, kd_cp, gR_sI, gR_sL, gR_cp, gL_sI, gL_sR, gL_cp, gI_sL, gI_sR, gI_sI, gL_sL, Nat.reduceEqDiff, false_and, and_false, true_and, and_true, Nat.reduceAdd, Nat.reduceLT, Nat.reduceSub, Int32.reduceLT, Int32.reduceAdd, not_false_eq_true, not_true_eq_false, and_self, ji_b_n, if_true, if_false, ↓reduceIte, cz_m100, cz_m19, cz_m18, cz_m17, cz_m16, cz_m15, cz_m14, cz_m13, cz_m12, cz_m11, cz_m4, cz_m3, cz_m2, cz_m1, cz_1, cz_2, cz_3, cz_4, cz_5, cz_6, cz_7, cz_8, cz_9, cz_10, cz_11, cz_12, cz_13, cz_14, cz_15, cz_16, cz_20, cz_24, cz_30, cz_32, cz_33, cz_38, cz_40, cz_41, cz_42, cz_43, cz_45, cz_48, cz_57, cz_59, cz_60, cz_61, cz_63, cz_64, cz_72, cz_96, cz_97, cz_99, cz_100, cz_122, cz_124, cz_126, cz_160, cz_161, cz_168, cz_200, cz_255, cz_300, cz_960, cz_999, cz_1000, cz_1001, cz_1002, cz_1003, cz_1120, cz_2000, cz_2003, cz_2004, cz_2005, cz_3999, cz_9999, cz_14640, mk_0 hM, n2, n1, m19, D3, RN, g]
theorem jz_XM_s (S : ji_Stk X s r c) : ji_gI (jq_XM X s c f (ji_gI X s 5)) s = ji_gI X s := funext fun i => by
  by_cases h : i = 5
  · rw [h, jq_XM_5]
  · rw [jq_XM_s S h]
theorem jz_XM_o (hs : a ≠ s) (hc : a ≠ c) : ji_gI (jq_XM X s c f k) a = ji_gI X a := by
  unfold jq_XM
  rw [gF_sI hs, gF_sCn hc]
theorem jz_SR_dr (R : jq_SR X M s r c) (hb : (b : Int) < (ji_gI M 0 4).toInt) : jq_SR (jq_XM X s c (jq_w4 (ji_gI X c) b (3, ji_gI X c (b * 8 + 5), ji_gI X c (b * 8 + 6), ji_gI X s 1)) (ji_gI X s 5)) (ji_sI (ji_sI M 7 b 3) 8 b (ji_gI M 0 0)) s r c := by
  obtain ⟨S, h1, h2, h3, h4, h5, h6⟩ := R
  have es := jz_XM_s (f := jq_w4 (ji_gI X c) b (3, ji_gI X c (b * 8 + 5), ji_gI X c (b * 8 + 6), ji_gI X s 1)) S
  have er : ji_gI (jq_XM X s c (jq_w4 (ji_gI X c) b (3, ji_gI X c (b * 8 + 5), ji_gI X c (b * 8 + 6), ji_gI X s 1)) (ji_gI X s 5)) r = ji_gI X r := funext fun i => jq_XM_r S
  have ec := jq_XM_c (f := jq_w4 (ji_gI X c) b (3, ji_gI X c (b * 8 + 5), ji_gI X c (b * 8 + 6), ji_gI X s 1)) (k := ji_gI X s 5) S
  have no : ∀ a, a ≠ 7 → a ≠ 8 → ji_gI (ji_sI (ji_sI M 7 b 3) 8 b (ji_gI M 0 0)) a = ji_gI M a := fun a h1 h2 => by rw [gF_sI h2, gF_sI h1]
  refine ⟨jq_Stk_M S, ?_, ?_, ?_, ?_, ?_, ?_⟩
  · rw [es, no 0 (by decide) (by decide)]; exact h1
  · rw [es, no 0 (by decide) (by decide)]; exact h2
  · rw [es, no 0 (by decide) (by decide)]; exact h3
  · rw [er, no 0 (by decide) (by decide)]; exact h4
  · rw [no 0 (by decide) (by decide)]; exact h5
  · rw [no 0 (by decide) (by decide), no 1 (by decide) (by decide), no 2 (by decide) (by decide), no 3 (by decide) (by decide), no 4 (by decide) (by decide), no 5 (by decide) (by decide), no 6 (by decide) (by decide), ec]
    intro q hq
    have E := h6 q hq
    by_cases e : q = b
    · subst e
      have a3 : ji_gI (ji_sI (ji_sI M 7 q 3) 8 q (ji_gI M 0 0)) 7 q = 3 := by rw [gI_sI, if_neg (by omega), gI_sI, if_pos ⟨rfl, rfl⟩]
      have a4 : ji_gI (ji_sI (ji_sI M 7 q 3) 8 q (ji_gI M 0 0)) 8 q = ji_gI M 0 0 := by rw [gI_sI, if_pos ⟨rfl, rfl⟩]
      rw [a3, a4, jq_w4_0, jq_w4_5, jq_w4_6, jq_w4_7, jq_w4_n (by omega) (by omega) (by omega) (by omega), jq_w4_n (by omega) (by omega) (by omega) (by omega), jq_w4_n (by omega) (by omega) (by omega) (by omega), jq_w4_n (by omega) (by omega) (by omega) (by omega)]
      exact ⟨⟨rfl, by decide, by decide⟩, E.2.1, E.2.2.1, E.2.2.2.1, E.2.2.2.2.1, E.2.2.2.2.2.1, E.2.2.2.2.2.2.1, ⟨h1.1, h1.2.1, Int.le_refl _⟩⟩
    · have a3 : ji_gI (ji_sI (ji_sI M 7 b 3) 8 b (ji_gI M 0 0)) 7 q = ji_gI M 7 q := by rw [gI_sI, if_neg (by omega), gI_sI, if_neg (by omega)]
      have a4 : ji_gI (ji_sI (ji_sI M 7 b 3) 8 b (ji_gI M 0 0)) 8 q = ji_gI M 8 q := by rw [gI_sI, if_neg (by omega), gI_sI, if_neg (by omega)]
      rw [a3, a4, jq_w4_n (by omega) (by omega) (by omega) (by omega), jq_w4_n (by omega) (by omega) (by omega) (by omega), jq_w4_n (by omega) (by omega) (by omega) (by omega), jq_w4_n (by omega) (by omega) (by omega) (by omega), jq_w4_n (by omega) (by omega) (by omega) (by omega), jq_w4_n (by omega) (by omega) (by omega) (by omega), jq_w4_n (by omega) (by omega) (by omega) (by omega), jq_w4_n (by omega) (by omega) (by omega) (by omega)]
      exact E
/-- the rule's rows -/
theorem jz_hlr (h : ji_XF X) (hρ : ρ ≤ 5) : ji_gR X 8 ρ = some (9 + ρ) ∧ ji_gR X 15 ρ = some (16 + ρ) ∧ ji_kd X (9 + ρ) = some (1, 160) ∧ ji_kd X (16 + ρ) = some (1, 3) := by
  match ρ, hρ with
  | 0, _ => exact ⟨xr_8_0 h, xr_15_0 h, xk_9 h, xk_16 h⟩
  | 1, _ => exact ⟨xr_8_1 h, xr_15_1 h, xk_10 h, xk_17 h⟩
  | 2, _ => exact ⟨xr_8_2 h, xr_15_2 h, xk_11 h, xk_18 h⟩
  | 3, _ => exact ⟨xr_8_3 h, xr_15_3 h, xk_12 h, xk_19 h⟩
  | 4, _ => exact ⟨xr_8_4 h, xr_15_4 h, xk_13 h, xk_20 h⟩
  | 5, _ => exact ⟨xr_8_5 h, xr_15_5 h, xk_14 h, xk_21 h⟩
theorem jz_C_mk (C : jx_C X M s r c ρ σ) (hs : (s' ≠ 4 ∧ s' ≠ 22) ∧ (r' ≠ 4 ∧ r' ≠ 22) ∧ (c' ≠ 4 ∧ c' ≠ 22)) (hX' : ji_XF X') (hM' : ji_MF M') (S' : jq_SR X' M' s' r' c') (x4 : ∀ i, i ≠ 5 → ji_gI X' 4 i = ji_gI X 4 i) (xr : ∀ a, 9 ≤ a → a ≤ 21 → ji_gI X' a = ji_gI X a) (m16 : ji_gI M' 0 16 = ji_gI M 0 16) (m10 : ji_gI M' 10 = ji_gI M 10) (m11 : ji_gI M' 11 = ji_gI M 11) : jx_C X' M' s' r' c' ρ σ := by
  obtain ⟨hX, hM, S, hh, h5, q1, q2, q3, q4, q5⟩ := C
  obtain ⟨g1, g2, g3, g4⟩ := jz_hlr hX' h5
  refine ⟨hX', hM', S', hs, h5, ?_, ?_, ?_, ⟨g1, g2, g3, g4, ?_⟩, q5.1, fun h => ?_⟩
  · rw [x4 7 (by decide)]; exact q1
  · rw [m16]; exact q2
  · rw [x4 6 (by decide)]; exact q3
  · rw [xr _ (by omega) (by omega), xr _ (by omega) (by omega)]
    exact q4.2.2.2.2
  · rw [m10, m11]; exact q5.2 h
/-- where a stock may lie -/
def jz_so (s c : Nat) : Prop := (s = 1 ∨ 30 ≤ s) ∧ (c = 3 ∨ 30 ≤ c) ∧ ∀ e ∈ ji_XI, e.1 ≠ s ∧ e.1 ≠ c
theorem jz_XF_XM (h : ji_XF X) (hs : jz_so s c) : ji_XF (jq_XM X s c f k) := by
  unfold jq_XM
  exact ji_XF_sI (ji_XF_sC h (fun e he => (hs.2.2 e he).2)) (fun e he q => (hs.2.2 e he).1 q.1)
theorem jz_dr_MF (h : ji_MF M) : ji_MF (jz_dr M b) := by
  by_cases q : jz_cn M b
  · rw [jz_dr_1 q]; exact h
  · rw [jz_dr_0 q]; exact h
theorem jz_dr_a (h7 : a ≠ 7) (h8 : a ≠ 8) : ji_gI (jz_dr M b) a = ji_gI M a := by
  by_cases q : jz_cn M b
  · rw [jz_dr_1 q, gF_sI h8, gF_sI h7]
  · rw [jz_dr_0 q]
/-- to dry, if it can -/
theorem m108 (C : jx_C X M s r c ρ σ) (hs : jz_so s c) (hb : (b : Int) < (ji_gI M 0 4).toInt) : ∃ X', (∀ d, ji_CL (d + 4) 108 [.ref s, .int (Int32.ofNat b)] X = some (none, X')) ∧ jx_C X' (jz_dr M b) s r c ρ σ ∧ (∀ a, a ≠ s → a ≠ c → ji_gI X' a = ji_gI X a) ∧ X'.1 = X.1 ∧ (∀ a i, ji_gR X' a i = ji_gR X a i) ∧ (∀ a i, ji_gL X' a i = ji_gL X a i) := by
  have hX := C.1
  have hM := C.2.1
  have R := C.2.2.1
  obtain ⟨b24, eb, hb2, c0, c3⟩ := jz_SRb R hb
  have S := R.1
  have K50 := fun d => m50 (d := d + 1) (x := Int32.ofNat b) S
  rw [c0] at K50
  have K50 : ∀ d, ji_CL (d + 3) 50 [.ref s, .int (Int32.ofNat b)] X = _ := K50
  have K72 := fun d => m72 (d := d + 2) (M := X) (s := ji_gI M 7 b) (t := 3)
  have K81 := fun d => jz_m81 (d := d) R hb
  have n1 : ¬ (1 : Int32) = 0 := by decide
  by_cases h1 : ji_ld2 (ji_gI M 7 b) 3
  · by_cases h2 : jz_rm M b
    · rw [jz_dr_1 ⟨h1, h2⟩]
      have W := fun d => jq_m58 (d := d) (f := ji_gI X c) (k := ji_gI X s 5) (x := 3) (y := ji_gI X s 1) S eb hb2
      rw [jq_XM_id] at W
      have W : ∀ d, ji_CL (d + 3) 58 [.ref s, .int (Int32.ofNat b), .int 3, .int (ji_gI X s 1)] X = _ := fun d => W (d + 1)
      have SR := jz_SR_dr R hb
      obtain ⟨X', eX⟩ : ∃ X', X' = jq_XM X s c (jq_w4 (ji_gI X c) b (3, ji_gI X c (b * 8 + 5), ji_gI X c (b * 8 + 6), ji_gI X s 1)) (ji_gI X s 5) := ⟨_, rfl⟩
      rw [← eX] at W SR
      have hX' : ji_XF X' := by rw [eX]; exact jz_XF_XM hX hs
      have xo : ∀ a, a ≠ s → a ≠ c → ji_gI X' a = ji_gI X a := fun a q1 q2 => by rw [eX, jz_XM_o q1 q2]
      have no : ∀ a, a ≠ 7 → a ≠ 8 → ji_gI (ji_sI (ji_sI M 7 b 3) 8 b (ji_gI M 0 0)) a = ji_gI M a := fun a h1 h2 => by rw [gF_sI h2, gF_sI h1]
      have so := C.2.2.2.1
      have ss := hs.1
      have sc := hs.2.1
      refine ⟨X', fun d => ?_, jz_C_mk C so hX' hM SR (fun i _ => by rw [xo 4 (by omega) (by omega)]) (fun a _ _ => xo a (by omega) (by omega)) (by rw [no 0 (by decide) (by decide)]) (no 10 (by decide) (by decide)) (no 11 (by decide) (by decide)), xo, by rw [eX]; rfl, fun a i => by rw [eX]; rfl, fun a i => by rw [eX]; rfl⟩
      apply en_108
      rw [ji_b_T h1] at K72
      rw [ji_b_T h2] at K81
      simp only [s108_0, s108_1, q108_2, s108_5, q108_6, s108_9, s108_12, s108_13, s108_14, q108_15, s108_18, s108_21, s108_22, s108_23, s108_24, s108_25, q108_28, s108_31, xIL_1, xIS_1, xQL_2, xQL_3, xAN_1, xAN_2, xAN_3, xCP_1, xC_s, xNC_I, ji_oI1, ji_oIm, kd_sC, gR_sC, gL_sC, ji_rv_s, ji_tl_s, ji_tl_n, ji_s1, ji_s2, ji_kl, List.getD_cons_zero, List.getD_cons_succ, List.set_cons_zero, List.set_cons_succ, List.length_cons, List.length_nil, ji_b_0, ji_b_1, ji_n0, ji_n1, ji_rcb_iff, ji_ok8_0, ji_ok8_1, ji_ok8_2, ji_ok8_3, ji_ok8_4, kd_sI, kd_sL, kd_sR, kd_cp, gR_sI, gR_sL, gR_cp, gL_sI, gL_sR, gL_cp, gI_sL, gI_sR, gI_sI, gL_sL, Nat.reduceEqDiff, false_and, and_false, true_and, and_true, Nat.reduceAdd, Nat.reduceLT, Nat.reduceSub, Int32.reduceLT, Int32.reduceAdd, not_false_eq_true, not_true_eq_false, and_self, ji_b_n, if_true, if_false, ↓reduceIte, cz_m100, cz_m19, cz_m18, cz_m17, cz_m16, cz_m15, cz_m14, cz_m13, cz_m12, cz_m11, cz_m4, cz_m3, cz_m2, cz_m1, cz_1, cz_2, cz_3, cz_4, cz_5, cz_6, cz_7, cz_8, cz_9, cz_10, cz_11, cz_12, cz_13, cz_14, cz_15, cz_16, cz_20, cz_24, cz_30, cz_32, cz_33, cz_38, cz_40, cz_41, cz_42, cz_43, cz_45, cz_48, cz_57, cz_59, cz_60, cz_61, cz_63, cz_64, cz_72, cz_96, cz_97, cz_99, cz_100, cz_122, cz_124, cz_126, cz_160, cz_161, cz_168, cz_200, cz_255, cz_300, cz_960, cz_999, cz_1000, cz_1001, cz_1002, cz_1003, cz_1120, cz_2000, cz_2003, cz_2004, cz_2005, cz_3999, cz_9999, cz_14640, S.1, K50, K72, K81, n1, W]
    · rw [jz_dr_0 (fun q => h2 q.2)]
      refine ⟨X, fun d => ?_, C, fun _ _ _ => rfl, rfl, fun _ _ => rfl, fun _ _ => rfl⟩
      apply en_108
      rw [ji_b_T h1] at K72
      rw [ji_b_F h2] at K81
      simp only [s108_0, s108_1, q108_2, s108_5, q108_6, s108_9, s108_12, s108_13, s108_14, q108_15, s108_18, s108_21, s108_22, s108_23, s108_24, s108_25, q108_28, s108_31, xIL_1, xIS_1, xQL_2, xQL_3, xAN_1, xAN_2, xAN_3, xCP_1, xC_s, xNC_I, ji_oI1, ji_oIm, kd_sC, gR_sC, gL_sC, ji_rv_s, ji_tl_s, ji_tl_n, ji_s1, ji_s2, ji_kl, List.getD_cons_zero, List.getD_cons_succ, List.set_cons_zero, List.set_cons_succ, List.length_cons, List.length_nil, ji_b_0, ji_b_1, ji_n0, ji_n1, ji_rcb_iff, ji_ok8_0, ji_ok8_1, ji_ok8_2, ji_ok8_3, ji_ok8_4, kd_sI, kd_sL, kd_sR, kd_cp, gR_sI, gR_sL, gR_cp, gL_sI, gL_sR, gL_cp, gI_sL, gI_sR, gI_sI, gL_sL, Nat.reduceEqDiff, false_and, and_false, true_and, and_true, Nat.reduceAdd, Nat.reduceLT, Nat.reduceSub, Int32.reduceLT, Int32.reduceAdd, not_false_eq_true, not_true_eq_false, and_self, ji_b_n, if_true, if_false, ↓reduceIte, cz_m100, cz_m19, cz_m18, cz_m17, cz_m16, cz_m15, cz_m14, cz_m13, cz_m12, cz_m11, cz_m4, cz_m3, cz_m2, cz_m1, cz_1, cz_2, cz_3, cz_4, cz_5, cz_6, cz_7, cz_8, cz_9, cz_10, cz_11, cz_12, cz_13, cz_14, cz_15, cz_16, cz_20, cz_24, cz_30, cz_32, cz_33, cz_38, cz_40, cz_41, cz_42, cz_43, cz_45, cz_48, cz_57, cz_59, cz_60, cz_61, cz_63, cz_64, cz_72, cz_96, cz_97, cz_99, cz_100, cz_122, cz_124, cz_126, cz_160, cz_161, cz_168, cz_200, cz_255, cz_300, cz_960, cz_999, cz_1000, cz_1001, cz_1002, cz_1003, cz_1120, cz_2000, cz_2003, cz_2004, cz_2005, cz_3999, cz_9999, cz_14640, S.1, K50, K72, K81, n1]
  · rw [jz_dr_0 (fun q => h1 q.1)]
    refine ⟨X, fun d => ?_, C, fun _ _ _ => rfl, rfl, fun _ _ => rfl, fun _ _ => rfl⟩
    apply en_108
    rw [ji_b_F h1] at K72
    simp only [s108_0, s108_1, q108_2, s108_5, q108_6, s108_9, s108_12, s108_13, s108_14, q108_15, s108_18, s108_21, s108_22, s108_23, s108_24, s108_25, q108_28, s108_31, xIL_1, xIS_1, xQL_2, xQL_3, xAN_1, xAN_2, xAN_3, xCP_1, xC_s, xNC_I, ji_oI1, ji_oIm, kd_sC, gR_sC, gL_sC, ji_rv_s, ji_tl_s, ji_tl_n, ji_s1, ji_s2, ji_kl, List.getD_cons_zero, List.getD_cons_succ, List.set_cons_zero, List.set_cons_succ, List.length_cons, List.length_nil, ji_b_0, ji_b_1, ji_n0, ji_n1, ji_rcb_iff, ji_ok8_0, ji_ok8_1, ji_ok8_2, ji_ok8_3, ji_ok8_4, kd_sI, kd_sL, kd_sR, kd_cp, gR_sI, gR_sL, gR_cp, gL_sI, gL_sR, gL_cp, gI_sL, gI_sR, gI_sI, gL_sL, Nat.reduceEqDiff, false_and, and_false, true_and, and_true, Nat.reduceAdd, Nat.reduceLT, Nat.reduceSub, Int32.reduceLT, Int32.reduceAdd, not_false_eq_true, not_true_eq_false, and_self, ji_b_n, if_true, if_false, ↓reduceIte, cz_m100, cz_m19, cz_m18, cz_m17, cz_m16, cz_m15, cz_m14, cz_m13, cz_m12, cz_m11, cz_m4, cz_m3, cz_m2, cz_m1, cz_1, cz_2, cz_3, cz_4, cz_5, cz_6, cz_7, cz_8, cz_9, cz_10, cz_11, cz_12, cz_13, cz_14, cz_15, cz_16, cz_20, cz_24, cz_30, cz_32, cz_33, cz_38, cz_40, cz_41, cz_42, cz_43, cz_45, cz_48, cz_57, cz_59, cz_60, cz_61, cz_63, cz_64, cz_72, cz_96, cz_97, cz_99, cz_100, cz_122, cz_124, cz_126, cz_160, cz_161, cz_168, cz_200, cz_255, cz_300, cz_960, cz_999, cz_1000, cz_1001, cz_1002, cz_1003, cz_1120, cz_2000, cz_2003, cz_2004, cz_2005, cz_3999, cz_9999, cz_14640, S.1, K50, K72, n1]
/-- and hours -/
theorem jz_m46 (C : jx_C X M s r c ρ σ) (hs : jz_so s c) (hn : n ≤ 100) (h9 : (ji_gI M 0 0).toInt + n ≤ 999) : ∃ X', (∀ d, ji_CL (d + 5) 46 [.ref s, .int (Int32.ofNat n)] X = some (none, X')) ∧ jx_C X' (jq_Nj M n) s r c ρ σ ∧ (∀ a, a ≠ s → a ≠ c → ji_gI X' a = ji_gI X a) ∧ X'.1 = X.1 ∧ (∀ a i, ji_gR X' a i = ji_gR X a i) ∧ (∀ a i, ji_gL X' a i = ji_gL X a i) := by
  have hX := C.1
  have hM := C.2.1
  have R := C.2.2.1
  have SR := jq_SR_go R hn h9
  have xo : ∀ a, a ≠ s → a ≠ c → ji_gI (jq_Xj X s r c n) a = ji_gI X a := fun a q1 q2 => jq_Xj_o q1 q2
  have hX' : ji_XF (jq_Xj X s r c n) := by
    unfold jq_Xj
    exact ji_XF_sI (jz_XF_XM hX hs) (fun e he q => (hs.2.2 e he).1 q.1)
  have so := C.2.2.2.1
  have ss := hs.1
  have sc := hs.2.1
  exact ⟨jq_Xj X s r c n, fun d => jq_m46' R hn, jz_C_mk C so hX' (jq_NH_MF hM) SR (fun i _ => by rw [xo 4 (by omega) (by omega)]) (fun a _ _ => xo a (by omega) (by omega)) (jq_NH_f (by decide)) (jq_NH_a (by decide) (by decide) (by decide) (by decide) (by decide)) (jq_NH_a (by decide) (by decide) (by decide) (by decide) (by decide)), xo, rfl, fun _ _ => rfl, fun _ _ => rfl⟩
end JIV
