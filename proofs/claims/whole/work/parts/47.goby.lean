/-! ===== hours go by in a stock of the class ===== -/
def jq_XM (X : ji_M) (s c : Nat) (f : ji_F) (k : Int32) : ji_M := ji_sI (ji_sC X c f) s 5 k
def jq_rd (f : ji_F) (b : Nat) : jq_B := (f (b * 8), f (b * 8 + 5), f (b * 8 + 6), f (b * 8 + 7))
def jq_w4 (f : ji_F) (b : Nat) (B : jq_B) : ji_F := fun j => if j = b * 8 then B.1 else if j = b * 8 + 5 then B.2.1 else if j = b * 8 + 6 then B.2.2.1 else if j = b * 8 + 7 then B.2.2.2 else f j
section JIV
variable {X N M : ji_M} {P : ji_P} {x y z v t k k' : Int32} {f g : ji_F} {d a b r c m w s n i j : Nat} {B B' : jq_B}
theorem jq_w4_0 : jq_w4 f b B (b * 8) = B.1 := if_pos rfl
theorem jq_w4_5 : jq_w4 f b B (b * 8 + 5) = B.2.1 := by unfold jq_w4; rw [if_neg (by omega), if_pos rfl]
theorem jq_w4_6 : jq_w4 f b B (b * 8 + 6) = B.2.2.1 := by unfold jq_w4; rw [if_neg (by omega), if_neg (by omega), if_pos rfl]
theorem jq_w4_7 : jq_w4 f b B (b * 8 + 7) = B.2.2.2 := by unfold jq_w4; rw [if_neg (by omega), if_neg (by omega), if_neg (by omega), if_pos rfl]
theorem jq_w4_n (h0 : j ≠ b * 8) (h5 : j ≠ b * 8 + 5) (h6 : j ≠ b * 8 + 6) (h7 : j ≠ b * 8 + 7) : jq_w4 f b B j = f j := by unfold jq_w4; rw [if_neg h0, if_neg h5, if_neg h6, if_neg h7]
theorem jq_rd_w4 : jq_rd (jq_w4 f b B) b = B := by
  unfold jq_rd
  rw [jq_w4_0, jq_w4_5, jq_w4_6, jq_w4_7]
theorem jq_w4_ext (h0 : g (b * 8) = B.1) (h5 : g (b * 8 + 5) = B.2.1) (h6 : g (b * 8 + 6) = B.2.2.1) (h7 : g (b * 8 + 7) = B.2.2.2) (hn : ∀ j, j ≠ b * 8 → j ≠ b * 8 + 5 → j ≠ b * 8 + 6 → j ≠ b * 8 + 7 → g j = f j) : g = jq_w4 f b B := by
  funext j
  by_cases q0 : j = b * 8
  · rw [q0, h0, jq_w4_0]
  by_cases q5 : j = b * 8 + 5
  · rw [q5, h5, jq_w4_5]
  by_cases q6 : j = b * 8 + 6
  · rw [q6, h6, jq_w4_6]
  by_cases q7 : j = b * 8 + 7
  · rw [q7, h7, jq_w4_7]
  rw [hn j q0 q5 q6 q7, jq_w4_n q0 q5 q6 q7]
theorem jq_w4_w4 : jq_w4 (jq_w4 f b B) b B' = jq_w4 f b B' := jq_w4_ext jq_w4_0 jq_w4_5 jq_w4_6 jq_w4_7 (fun j h0 h5 h6 h7 => by rw [jq_w4_n h0 h5 h6 h7, jq_w4_n h0 h5 h6 h7])
theorem jq_w4_rd : jq_w4 f b (jq_rd f b) = f := (jq_w4_ext rfl rfl rfl rfl (fun _ _ _ _ _ => rfl)).symm
theorem jq_S_ne (S : ji_Stk X s r c) : s ≠ r ∧ s ≠ c ∧ r ≠ c := by
  obtain ⟨h1, h2, h3, h4, h5, -⟩ := S
  refine ⟨?_, ?_, ?_⟩
  · rintro rfl; rw [h1] at h3; cases h3
  · rintro rfl; rw [h1] at h5; cases h5
  · rintro rfl; rw [h3] at h5; cases h5
theorem jq_XM_s (S : ji_Stk X s r c) (hi : i ≠ 5) : ji_gI (jq_XM X s c f k) s i = ji_gI X s i := by
  unfold jq_XM
  rw [gI_nk hi, gI_sCn (jq_S_ne S).2.1]
theorem jq_XM_5 : ji_gI (jq_XM X s c f k) s 5 = k := gI_eq
theorem jq_XM_r (S : ji_Stk X s r c) : ji_gI (jq_XM X s c f k) r i = ji_gI X r i := by
  unfold jq_XM
  rw [gI_ne (jq_S_ne S).1.symm, gI_sCn (jq_S_ne S).2.2]
theorem jq_XM_c (S : ji_Stk X s r c) : ji_gI (jq_XM X s c f k) c = f := by
  unfold jq_XM
  rw [gF_sI (jq_S_ne S).2.1.symm, gF_sC]
theorem jq_XM_kd : ji_kd (jq_XM X s c f k) a = ji_kd X a := rfl
theorem jq_XM_gR : ji_gR (jq_XM X s c f k) a i = ji_gR X a i := rfl
theorem jq_XM_w5 : ji_sI (jq_XM X s c f k) s 5 k' = jq_XM X s c f k' := sI_sI
theorem jq_XM_wc (S : ji_Stk X s r c) : ji_sI (jq_XM X s c f k) c i x = jq_XM X s c (ji_up f i x) k := by
  unfold jq_XM
  rw [sI_cm (jq_S_ne S).2.1, sI_sC]
theorem jq_XM_id : jq_XM X s c (ji_gI X c) (ji_gI X s 5) = X := by
  unfold jq_XM
  rw [sC_self, sI_as]
  exact sC_id (funext fun j => by
    by_cases h : j = 5
    · rw [up_at h, h]
    · rw [up_ne h])
theorem jq_Rw_M (S : ji_Stk X s r c) : ji_Rw (jq_XM X s c f k) r c 24 8 := by
  obtain ⟨h1, h2, h3, h4, h5, h6, h7, h8, h9, h10, h11⟩ := S
  have S : ji_Stk X s r c := ⟨h1, h2, h3, h4, h5, h6, h7, h8, h9, h10, h11⟩
  refine ⟨h3, h4, h5, ?_, ?_, h8, h9, ?_, ?_⟩
  · rw [jq_XM_r S]; exact h6
  · rw [jq_XM_r S]; exact h7
  · rw [jq_XM_r S]; exact h10
  · rw [jq_XM_r S]; exact h11
theorem jq_Stk_M (S : ji_Stk X s r c) : ji_Stk (jq_XM X s c f k) s r c := ⟨S.1, S.2.1, jq_Rw_M S⟩
/-- reading a book's cell -/
theorem jq_m49 (S : ji_Stk X s r c) (hv : v.toInt = (b : Int)) (hb : (b : Int) < (ji_gI X r 3).toInt) (hy : y.toInt = (j : Int)) (hj : j < 8) : ji_CL (d + 1) 49 [.ref r, .int v, .int y] (jq_XM X s c f k) = some (some (.int (f (b * 8 + j))), jq_XM X s c f k) := by
  rw [m49 (jq_Rw_M S), ji_at_in (by rw [jq_XM_r S]; omega) hy hj (by omega), jq_XM_c S, show v.toInt.toNat = b by omega]
theorem jq_m50 (S : ji_Stk X s r c) (hv : v.toInt = (b : Int)) (hb : (b : Int) < (ji_gI X r 3).toInt) : ji_CL (d + 2) 50 [.ref s, .int v] (jq_XM X s c f k) = some (some (.int (f (b * 8))), jq_XM X s c f k) := by
  rw [m50 (jq_Stk_M S), ji_at_in (j := 0) (by rw [jq_XM_r S]; omega) rfl (by omega) (by omega), jq_XM_c S, show v.toInt.toNat = b by omega]
  rfl
theorem jq_m57 (S : ji_Stk X s r c) (hv : v.toInt = (b : Int)) (hb : (b : Int) < (ji_gI X r 3).toInt) (hy : y.toInt = (j : Int)) (hj : j < 8) : ji_CL (d + 1) 57 [.ref r, .int v, .int y, .int x] (jq_XM X s c f k) = some (none, jq_XM X s c (ji_up f (b * 8 + j) x) k) := by
  rw [m57i (jq_Rw_M S) (by rw [jq_XM_r S]; omega) (by omega), jq_XM_wc S, show v.toInt.toNat * 8 + y.toInt.toNat = b * 8 + j by omega]
theorem m54 : ji_CL (d + 1) 54 [.int x, .int y] M = some (some (.int (jq_tl x y)), M) := by
  apply en_54
  unfold jq_tl
  by_cases h1 : x < 100
  · by_cases h2 : 0 < y
    · have h3 : ¬ y = 0 := fun q => by rw [q] at h2; exact absurd h2 (by decide)
      simp only [s54_0, s54_1, s54_3, s54_6, s54_7, s54_8, s54_9, s54_12, s54_13, s54_16, s54_18, s54_19, s54_20, s54_21, s54_22, s54_23, s54_24, xIL_1, xIS_1, xQL_2, xQL_3, xAN_1, xAN_2, xAN_3, xCP_1, xC_s, xNC_I, ji_oI1, ji_oIm, kd_sC, gR_sC, gL_sC, ji_rv_s, ji_tl_s, ji_tl_n, ji_s1, ji_s2, ji_kl, List.getD_cons_zero, List.getD_cons_succ, List.set_cons_zero, List.set_cons_succ, List.length_cons, List.length_nil, ji_b_0, ji_b_1, ji_n0, ji_n1, ji_rcb_iff, ji_ok8_0, ji_ok8_1, ji_ok8_2, ji_ok8_3, ji_ok8_4, kd_sI, kd_sL, kd_sR, kd_cp, gR_sI, gR_sL, gR_cp, gL_sI, gL_sR, gL_cp, gI_sL, gI_sR, gI_sI, gL_sL, Nat.reduceEqDiff, false_and, and_false, true_and, and_true, Nat.reduceAdd, Nat.reduceLT, Nat.reduceSub, Int32.reduceLT, Int32.reduceAdd, not_false_eq_true, not_true_eq_false, and_self, ji_b_n, if_true, if_false, ↓reduceIte, cz_m100, cz_m19, cz_m18, cz_m17, cz_m16, cz_m15, cz_m14, cz_m13, cz_m12, cz_m11, cz_m4, cz_m3, cz_m2, cz_m1, cz_1, cz_2, cz_3, cz_4, cz_5, cz_6, cz_7, cz_8, cz_9, cz_10, cz_11, cz_12, cz_13, cz_14, cz_15, cz_16, cz_20, cz_24, cz_30, cz_32, cz_33, cz_38, cz_40, cz_41, cz_42, cz_43, cz_45, cz_48, cz_57, cz_59, cz_60, cz_61, cz_63, cz_64, cz_72, cz_96, cz_97, cz_99, cz_100, cz_122, cz_124, cz_126, cz_160, cz_161, cz_168, cz_200, cz_255, cz_300, cz_960, cz_999, cz_1000, cz_1001, cz_1002, cz_1003, cz_1120, cz_2000, cz_2003, cz_2004, cz_2005, cz_3999, cz_9999, cz_14640, h1, h2, h3]
    · simp only [s54_0, s54_1, s54_3, s54_6, s54_7, s54_8, s54_9, s54_12, s54_13, s54_16, s54_18, s54_19, s54_20, s54_21, s54_22, s54_23, s54_24, xIL_1, xIS_1, xQL_2, xQL_3, xAN_1, xAN_2, xAN_3, xCP_1, xC_s, xNC_I, ji_oI1, ji_oIm, kd_sC, gR_sC, gL_sC, ji_rv_s, ji_tl_s, ji_tl_n, ji_s1, ji_s2, ji_kl, List.getD_cons_zero, List.getD_cons_succ, List.set_cons_zero, List.set_cons_succ, List.length_cons, List.length_nil, ji_b_0, ji_b_1, ji_n0, ji_n1, ji_rcb_iff, ji_ok8_0, ji_ok8_1, ji_ok8_2, ji_ok8_3, ji_ok8_4, kd_sI, kd_sL, kd_sR, kd_cp, gR_sI, gR_sL, gR_cp, gL_sI, gL_sR, gL_cp, gI_sL, gI_sR, gI_sI, gL_sL, Nat.reduceEqDiff, false_and, and_false, true_and, and_true, Nat.reduceAdd, Nat.reduceLT, Nat.reduceSub, Int32.reduceLT, Int32.reduceAdd, not_false_eq_true, not_true_eq_false, and_self, ji_b_n, if_true, if_false, ↓reduceIte, cz_m100, cz_m19, cz_m18, cz_m17, cz_m16, cz_m15, cz_m14, cz_m13, cz_m12, cz_m11, cz_m4, cz_m3, cz_m2, cz_m1, cz_1, cz_2, cz_3, cz_4, cz_5, cz_6, cz_7, cz_8, cz_9, cz_10, cz_11, cz_12, cz_13, cz_14, cz_15, cz_16, cz_20, cz_24, cz_30, cz_32, cz_33, cz_38, cz_40, cz_41, cz_42, cz_43, cz_45, cz_48, cz_57, cz_59, cz_60, cz_61, cz_63, cz_64, cz_72, cz_96, cz_97, cz_99, cz_100, cz_122, cz_124, cz_126, cz_160, cz_161, cz_168, cz_200, cz_255, cz_300, cz_960, cz_999, cz_1000, cz_1001, cz_1002, cz_1003, cz_1120, cz_2000, cz_2003, cz_2004, cz_2005, cz_3999, cz_9999, cz_14640, h1, h2]
  · simp only [s54_0, s54_1, s54_3, s54_6, s54_7, s54_8, s54_9, s54_12, s54_13, s54_16, s54_18, s54_19, s54_20, s54_21, s54_22, s54_23, s54_24, xIL_1, xIS_1, xQL_2, xQL_3, xAN_1, xAN_2, xAN_3, xCP_1, xC_s, xNC_I, ji_oI1, ji_oIm, kd_sC, gR_sC, gL_sC, ji_rv_s, ji_tl_s, ji_tl_n, ji_s1, ji_s2, ji_kl, List.getD_cons_zero, List.getD_cons_succ, List.set_cons_zero, List.set_cons_succ, List.length_cons, List.length_nil, ji_b_0, ji_b_1, ji_n0, ji_n1, ji_rcb_iff, ji_ok8_0, ji_ok8_1, ji_ok8_2, ji_ok8_3, ji_ok8_4, kd_sI, kd_sL, kd_sR, kd_cp, gR_sI, gR_sL, gR_cp, gL_sI, gL_sR, gL_cp, gI_sL, gI_sR, gI_sI, gL_sL, Nat.reduceEqDiff, false_and, and_false, true_and, and_true, Nat.reduceAdd, Nat.reduceLT, Nat.reduceSub, Int32.reduceLT, Int32.reduceAdd, not_false_eq_true, not_true_eq_false, and_self, ji_b_n, if_true, if_false, ↓reduceIte, cz_m100, cz_m19, cz_m18, cz_m17, cz_m16, cz_m15, cz_m14, cz_m13, cz_m12, cz_m11, cz_m4, cz_m3, cz_m2, cz_m1, cz_1, cz_2, cz_3, cz_4, cz_5, cz_6, cz_7, cz_8, cz_9, cz_10, cz_11, cz_12, cz_13, cz_14, cz_15, cz_16, cz_20, cz_24, cz_30, cz_32, cz_33, cz_38, cz_40, cz_41, cz_42, cz_43, cz_45, cz_48, cz_57, cz_59, cz_60, cz_61, cz_63, cz_64, cz_72, cz_96, cz_97, cz_99, cz_100, cz_122, cz_124, cz_126, cz_160, cz_161, cz_168, cz_200, cz_255, cz_300, cz_960, cz_999, cz_1000, cz_1001, cz_1002, cz_1003, cz_1120, cz_2000, cz_2003, cz_2004, cz_2005, cz_3999, cz_9999, cz_14640, h1]
/-- a stay -/
theorem jq_m52 (S : ji_Stk X s r c) (hv : v.toInt = (b : Int)) (hb : (b : Int) < (ji_gI X r 3).toInt) : ji_CL (d + 2) 52 [.ref s, .int v, .int x] (jq_XM X s c f k) = some (none, jq_XM X s c (jq_w4 f b (jq_sy (ji_gI X s 2) x (jq_rd f b))) (k - x * ji_fC (f (b * 8)) (f (b * 8 + 3)))) := by
  have r0 := fun f k => jq_m49 (d := d) (f := f) (k := k) S hv hb (y := 0) (j := 0) rfl (by omega)
  have r3 := fun f k => jq_m49 (d := d) (f := f) (k := k) S hv hb (y := 3) (j := 3) rfl (by omega)
  have r5 := fun f k => jq_m49 (d := d) (f := f) (k := k) S hv hb (y := 5) (j := 5) rfl (by omega)
  have r6 := fun f k => jq_m49 (d := d) (f := f) (k := k) S hv hb (y := 6) (j := 6) rfl (by omega)
  have w5 := fun f k x => jq_m57 (d := d) (f := f) (k := k) (x := x) S hv hb (y := 5) (j := 5) rfl (by omega)
  have w6 := fun f k x => jq_m57 (d := d) (f := f) (k := k) (x := x) S hv hb (y := 6) (j := 6) rfl (by omega)
  simp only [Nat.add_zero] at r0
  have e2 := fun f k => jq_XM_s (f := f) (k := k) S (i := 2) (by omega)
  have ew : jq_w4 f b (jq_sy (ji_gI X s 2) x (jq_rd f b)) = ji_up (ji_up f (b * 8 + 5) (jq_lo (f (b * 8 + 5) + x * ji_fM (f (b * 8)) (ji_gI X s 2)))) (b * 8 + 6) (jq_lo (f (b * 8 + 6) + jq_hf (jq_tl (f (b * 8 + 5)) (ji_fM (f (b * 8)) (ji_gI X s 2))) x * ji_fH (f (b * 8)))) := by
    refine (jq_w4_ext ?_ ?_ ?_ ?_ (fun j h0 h5 h6 h7 => ?_)).symm
    · rw [up_ne (by omega), up_ne (by omega)]; rfl
    · rw [up_ne (by omega), up_eq]; rfl
    · rw [up_eq]; rfl
    · rw [up_ne (by omega), up_ne (by omega)]; rfl
    · rw [up_ne h6, up_ne h5]
  rw [ew]
  apply en_52
  by_cases k1 : jq_tl (f (b * 8 + 5)) (ji_fM (f (b * 8)) (ji_gI X s 2)) = -1
  · have e : jq_hf (jq_tl (f (b * 8 + 5)) (ji_fM (f (b * 8)) (ji_gI X s 2))) x = 0 := if_pos k1
    simp only [s52_0, s52_1, s52_4, s52_5, q52_6, s52_9, s52_10, s52_11, s52_14, s52_15, q52_16, s52_19, s52_21, s52_22, s52_23, q52_26, s52_29, s52_31, s52_33, q52_35, s52_38, s52_40, s52_42, s52_43, s52_46, s52_47, s52_50, s52_51, s52_52, s52_53, s52_55, s52_56, s52_57, s52_60, s52_61, s52_64, s52_66, s52_67, s52_70, s52_71, q52_73, s52_76, s52_78, q52_79, s52_82, s52_83, s52_84, s52_86, s52_87, s52_87r, s52_88, s52_91, s52_92, s52_93, s52_94, s52_97, s52_98, q52_99, q52_102, s52_105, s52_106, s52_107, s52_110, s52_111, s52_114, s52_115, s52_116, s52_119, s52_121, s52_122, s52_124, s52_125, s52_126, q52_129, s52_132, s52_133, s52_136, s52_137, s52_139, s52_142, s52_144, q52_147, s52_150, xIL_1, xIS_1, xQL_2, xQL_3, xAN_1, xAN_2, xAN_3, xCP_1, xC_s, xNC_I, ji_oI1, ji_oIm, kd_sC, gR_sC, gL_sC, ji_rv_s, ji_tl_s, ji_tl_n, ji_s1, ji_s2, ji_kl, List.getD_cons_zero, List.getD_cons_succ, List.set_cons_zero, List.set_cons_succ, List.length_cons, List.length_nil, ji_b_0, ji_b_1, ji_n0, ji_n1, ji_rcb_iff, ji_ok8_0, ji_ok8_1, ji_ok8_2, ji_ok8_3, ji_ok8_4, kd_sI, kd_sL, kd_sR, kd_cp, gR_sI, gR_sL, gR_cp, gL_sI, gL_sR, gL_cp, gI_sL, gI_sR, gI_sI, gL_sL, Nat.reduceEqDiff, false_and, and_false, true_and, and_true, Nat.reduceAdd, Nat.reduceLT, Nat.reduceSub, Int32.reduceLT, Int32.reduceAdd, not_false_eq_true, not_true_eq_false, and_self, ji_b_n, if_true, if_false, ↓reduceIte, cz_m100, cz_m19, cz_m18, cz_m17, cz_m16, cz_m15, cz_m14, cz_m13, cz_m12, cz_m11, cz_m4, cz_m3, cz_m2, cz_m1, cz_1, cz_2, cz_3, cz_4, cz_5, cz_6, cz_7, cz_8, cz_9, cz_10, cz_11, cz_12, cz_13, cz_14, cz_15, cz_16, cz_20, cz_24, cz_30, cz_32, cz_33, cz_38, cz_40, cz_41, cz_42, cz_43, cz_45, cz_48, cz_57, cz_59, cz_60, cz_61, cz_63, cz_64, cz_72, cz_96, cz_97, cz_99, cz_100, cz_122, cz_124, cz_126, cz_160, cz_161, cz_168, cz_200, cz_255, cz_300, cz_960, cz_999, cz_1000, cz_1001, cz_1002, cz_1003, cz_1120, cz_2000, cz_2003, cz_2004, cz_2005, cz_3999, cz_9999, cz_14640, jq_XM_kd, jq_XM_gR, S.1, S.2.1, S.2.2.1, r0, r3, r5, r6, e2, m53, m54, m55, m56, k1, jq_XM_5, jq_XM_w5]
    simp only [s52_0, s52_1, s52_4, s52_5, q52_6, s52_9, s52_10, s52_11, s52_14, s52_15, q52_16, s52_19, s52_21, s52_22, s52_23, q52_26, s52_29, s52_31, s52_33, q52_35, s52_38, s52_40, s52_42, s52_43, s52_46, s52_47, s52_50, s52_51, s52_52, s52_53, s52_55, s52_56, s52_57, s52_60, s52_61, s52_64, s52_66, s52_67, s52_70, s52_71, q52_73, s52_76, s52_78, q52_79, s52_82, s52_83, s52_84, s52_86, s52_87, s52_87r, s52_88, s52_91, s52_92, s52_93, s52_94, s52_97, s52_98, q52_99, q52_102, s52_105, s52_106, s52_107, s52_110, s52_111, s52_114, s52_115, s52_116, s52_119, s52_121, s52_122, s52_124, s52_125, s52_126, q52_129, s52_132, s52_133, s52_136, s52_137, s52_139, s52_142, s52_144, q52_147, s52_150, xIL_1, xIS_1, xQL_2, xQL_3, xAN_1, xAN_2, xAN_3, xCP_1, xC_s, xNC_I, ji_oI1, ji_oIm, kd_sC, gR_sC, gL_sC, ji_rv_s, ji_tl_s, ji_tl_n, ji_s1, ji_s2, ji_kl, List.getD_cons_zero, List.getD_cons_succ, List.set_cons_zero, List.set_cons_succ, List.length_cons, List.length_nil, ji_b_0, ji_b_1, ji_n0, ji_n1, ji_rcb_iff, ji_ok8_0, ji_ok8_1, ji_ok8_2, ji_ok8_3, ji_ok8_4, kd_sI, kd_sL, kd_sR, kd_cp, gR_sI, gR_sL, gR_cp, gL_sI, gL_sR, gL_cp, gI_sL, gI_sR, gI_sI, gL_sL, Nat.reduceEqDiff, false_and, and_false, true_and, and_true, Nat.reduceAdd, Nat.reduceLT, Nat.reduceSub, Int32.reduceLT, Int32.reduceAdd, not_false_eq_true, not_true_eq_false, and_self, ji_b_n, if_true, if_false, ↓reduceIte, cz_m100, cz_m19, cz_m18, cz_m17, cz_m16, cz_m15, cz_m14, cz_m13, cz_m12, cz_m11, cz_m4, cz_m3, cz_m2, cz_m1, cz_1, cz_2, cz_3, cz_4, cz_5, cz_6, cz_7, cz_8, cz_9, cz_10, cz_11, cz_12, cz_13, cz_14, cz_15, cz_16, cz_20, cz_24, cz_30, cz_32, cz_33, cz_38, cz_40, cz_41, cz_42, cz_43, cz_45, cz_48, cz_57, cz_59, cz_60, cz_61, cz_63, cz_64, cz_72, cz_96, cz_97, cz_99, cz_100, cz_122, cz_124, cz_126, cz_160, cz_161, cz_168, cz_200, cz_255, cz_300, cz_960, cz_999, cz_1000, cz_1001, cz_1002, cz_1003, cz_1120, cz_2000, cz_2003, cz_2004, cz_2005, cz_3999, cz_9999, cz_14640, jq_XM_kd, jq_XM_gR, S.1, S.2.1, S.2.2.1, w5, w6]
    rw [show jq_hf (-1) x = 0 from if_pos rfl]
    rfl
  · have e : jq_hf (jq_tl (f (b * 8 + 5)) (ji_fM (f (b * 8)) (ji_gI X s 2))) x = _ := if_neg k1
    simp only [s52_0, s52_1, s52_4, s52_5, q52_6, s52_9, s52_10, s52_11, s52_14, s52_15, q52_16, s52_19, s52_21, s52_22, s52_23, q52_26, s52_29, s52_31, s52_33, q52_35, s52_38, s52_40, s52_42, s52_43, s52_46, s52_47, s52_50, s52_51, s52_52, s52_53, s52_55, s52_56, s52_57, s52_60, s52_61, s52_64, s52_66, s52_67, s52_70, s52_71, q52_73, s52_76, s52_78, q52_79, s52_82, s52_83, s52_84, s52_86, s52_87, s52_87r, s52_88, s52_91, s52_92, s52_93, s52_94, s52_97, s52_98, q52_99, q52_102, s52_105, s52_106, s52_107, s52_110, s52_111, s52_114, s52_115, s52_116, s52_119, s52_121, s52_122, s52_124, s52_125, s52_126, q52_129, s52_132, s52_133, s52_136, s52_137, s52_139, s52_142, s52_144, q52_147, s52_150, xIL_1, xIS_1, xQL_2, xQL_3, xAN_1, xAN_2, xAN_3, xCP_1, xC_s, xNC_I, ji_oI1, ji_oIm, kd_sC, gR_sC, gL_sC, ji_rv_s, ji_tl_s, ji_tl_n, ji_s1, ji_s2, ji_kl, List.getD_cons_zero, List.getD_cons_succ, List.set_cons_zero, List.set_cons_succ, List.length_cons, List.length_nil, ji_b_0, ji_b_1, ji_n0, ji_n1, ji_rcb_iff, ji_ok8_0, ji_ok8_1, ji_ok8_2, ji_ok8_3, ji_ok8_4, kd_sI, kd_sL, kd_sR, kd_cp, gR_sI, gR_sL, gR_cp, gL_sI, gL_sR, gL_cp, gI_sL, gI_sR, gI_sI, gL_sL, Nat.reduceEqDiff, false_and, and_false, true_and, and_true, Nat.reduceAdd, Nat.reduceLT, Nat.reduceSub, Int32.reduceLT, Int32.reduceAdd, not_false_eq_true, not_true_eq_false, and_self, ji_b_n, if_true, if_false, ↓reduceIte, cz_m100, cz_m19, cz_m18, cz_m17, cz_m16, cz_m15, cz_m14, cz_m13, cz_m12, cz_m11, cz_m4, cz_m3, cz_m2, cz_m1, cz_1, cz_2, cz_3, cz_4, cz_5, cz_6, cz_7, cz_8, cz_9, cz_10, cz_11, cz_12, cz_13, cz_14, cz_15, cz_16, cz_20, cz_24, cz_30, cz_32, cz_33, cz_38, cz_40, cz_41, cz_42, cz_43, cz_45, cz_48, cz_57, cz_59, cz_60, cz_61, cz_63, cz_64, cz_72, cz_96, cz_97, cz_99, cz_100, cz_122, cz_124, cz_126, cz_160, cz_161, cz_168, cz_200, cz_255, cz_300, cz_960, cz_999, cz_1000, cz_1001, cz_1002, cz_1003, cz_1120, cz_2000, cz_2003, cz_2004, cz_2005, cz_3999, cz_9999, cz_14640, jq_XM_kd, jq_XM_gR, S.1, S.2.1, S.2.2.1, r0, r3, r5, r6, e2, m53, m54, m55, m56, k1, jq_XM_5, jq_XM_w5]
    simp only [s52_0, s52_1, s52_4, s52_5, q52_6, s52_9, s52_10, s52_11, s52_14, s52_15, q52_16, s52_19, s52_21, s52_22, s52_23, q52_26, s52_29, s52_31, s52_33, q52_35, s52_38, s52_40, s52_42, s52_43, s52_46, s52_47, s52_50, s52_51, s52_52, s52_53, s52_55, s52_56, s52_57, s52_60, s52_61, s52_64, s52_66, s52_67, s52_70, s52_71, q52_73, s52_76, s52_78, q52_79, s52_82, s52_83, s52_84, s52_86, s52_87, s52_87r, s52_88, s52_91, s52_92, s52_93, s52_94, s52_97, s52_98, q52_99, q52_102, s52_105, s52_106, s52_107, s52_110, s52_111, s52_114, s52_115, s52_116, s52_119, s52_121, s52_122, s52_124, s52_125, s52_126, q52_129, s52_132, s52_133, s52_136, s52_137, s52_139, s52_142, s52_144, q52_147, s52_150, xIL_1, xIS_1, xQL_2, xQL_3, xAN_1, xAN_2, xAN_3, xCP_1, xC_s, xNC_I, ji_oI1, ji_oIm, kd_sC, gR_sC, gL_sC, ji_rv_s, ji_tl_s, ji_tl_n, ji_s1, ji_s2, ji_kl, List.getD_cons_zero, List.getD_cons_succ, List.set_cons_zero, List.set_cons_succ, List.length_cons, List.length_nil, ji_b_0, ji_b_1, ji_n0, ji_n1, ji_rcb_iff, ji_ok8_0, ji_ok8_1, ji_ok8_2, ji_ok8_3, ji_ok8_4, kd_sI, kd_sL, kd_sR, kd_cp, gR_sI, gR_sL, gR_cp, gL_sI, gL_sR, gL_cp, gI_sL, gI_sR, gI_sI, gL_sL, Nat.reduceEqDiff, false_and, and_false, true_and, and_true, Nat.reduceAdd, Nat.reduceLT, Nat.reduceSub, Int32.reduceLT, Int32.reduceAdd, not_false_eq_true, not_true_eq_false, and_self, ji_b_n, if_true, if_false, ↓reduceIte, cz_m100, cz_m19, cz_m18, cz_m17, cz_m16, cz_m15, cz_m14, cz_m13, cz_m12, cz_m11, cz_m4, cz_m3, cz_m2, cz_m1, cz_1, cz_2, cz_3, cz_4, cz_5, cz_6, cz_7, cz_8, cz_9, cz_10, cz_11, cz_12, cz_13, cz_14, cz_15, cz_16, cz_20, cz_24, cz_30, cz_32, cz_33, cz_38, cz_40, cz_41, cz_42, cz_43, cz_45, cz_48, cz_57, cz_59, cz_60, cz_61, cz_63, cz_64, cz_72, cz_96, cz_97, cz_99, cz_100, cz_122, cz_124, cz_126, cz_160, cz_161, cz_168, cz_200, cz_255, cz_300, cz_960, cz_999, cz_1000, cz_1001, cz_1002, cz_1003, cz_1120, cz_2000, cz_2003, cz_2004, cz_2005, cz_3999, cz_9999, cz_14640, jq_XM_kd, jq_XM_gR, S.1, S.2.1, S.2.2.1, w5, w6]
    rw [e]
    rfl
theorem jq_m58 (S : ji_Stk X s r c) (hv : v.toInt = (b : Int)) (hb : (b : Int) < (ji_gI X r 3).toInt) : ji_CL (d + 2) 58 [.ref s, .int v, .int x, .int y] (jq_XM X s c f k) = some (none, jq_XM X s c (jq_w4 f b (x, f (b * 8 + 5), f (b * 8 + 6), y)) k) := by
  have w0 := fun f k x => jq_m57 (d := d) (f := f) (k := k) (x := x) S hv hb (y := 0) (j := 0) rfl (by omega)
  have w7 := fun f k x => jq_m57 (d := d) (f := f) (k := k) (x := x) S hv hb (y := 7) (j := 7) rfl (by omega)
  simp only [Nat.add_zero] at w0
  have ew : jq_w4 f b (x, f (b * 8 + 5), f (b * 8 + 6), y) = ji_up (ji_up f (b * 8) x) (b * 8 + 7) y := by
    refine (jq_w4_ext ?_ ?_ ?_ ?_ (fun j h0 h5 h6 h7 => ?_)).symm
    · rw [up_ne (by omega), up_eq]
    · rw [up_ne (by omega), up_ne (by omega)]
    · rw [up_ne (by omega), up_ne (by omega)]
    · rw [up_eq]
    · rw [up_ne h7, up_ne h0]
  rw [ew]
  apply en_58
  simp only [s58_0, s58_1, s58_4, s58_5, s58_6, q58_7, s58_10, s58_11, s58_14, s58_15, s58_17, q58_18, s58_21, xIL_1, xIS_1, xQL_2, xQL_3, xAN_1, xAN_2, xAN_3, xCP_1, xC_s, xNC_I, ji_oI1, ji_oIm, kd_sC, gR_sC, gL_sC, ji_rv_s, ji_tl_s, ji_tl_n, ji_s1, ji_s2, ji_kl, List.getD_cons_zero, List.getD_cons_succ, List.set_cons_zero, List.set_cons_succ, List.length_cons, List.length_nil, ji_b_0, ji_b_1, ji_n0, ji_n1, ji_rcb_iff, ji_ok8_0, ji_ok8_1, ji_ok8_2, ji_ok8_3, ji_ok8_4, kd_sI, kd_sL, kd_sR, kd_cp, gR_sI, gR_sL, gR_cp, gL_sI, gL_sR, gL_cp, gI_sL, gI_sR, gI_sI, gL_sL, Nat.reduceEqDiff, false_and, and_false, true_and, and_true, Nat.reduceAdd, Nat.reduceLT, Nat.reduceSub, Int32.reduceLT, Int32.reduceAdd, not_false_eq_true, not_true_eq_false, and_self, ji_b_n, if_true, if_false, ↓reduceIte, cz_m100, cz_m19, cz_m18, cz_m17, cz_m16, cz_m15, cz_m14, cz_m13, cz_m12, cz_m11, cz_m4, cz_m3, cz_m2, cz_m1, cz_1, cz_2, cz_3, cz_4, cz_5, cz_6, cz_7, cz_8, cz_9, cz_10, cz_11, cz_12, cz_13, cz_14, cz_15, cz_16, cz_20, cz_24, cz_30, cz_32, cz_33, cz_38, cz_40, cz_41, cz_42, cz_43, cz_45, cz_48, cz_57, cz_59, cz_60, cz_61, cz_63, cz_64, cz_72, cz_96, cz_97, cz_99, cz_100, cz_122, cz_124, cz_126, cz_160, cz_161, cz_168, cz_200, cz_255, cz_300, cz_960, cz_999, cz_1000, cz_1001, cz_1002, cz_1003, cz_1120, cz_2000, cz_2003, cz_2004, cz_2005, cz_3999, cz_9999, cz_14640, jq_XM_kd, jq_XM_gR, S.1, S.2.1, S.2.2.1, w0, w7]
theorem jq_fL_v {s : Int32} : (ji_fL s).toInt = if s = 1 then 48 else if s = 3 then 72 else if s = 5 then 96 else 1000000 := by
  unfold ji_fL
  by_cases h1 : s = 1
  · rw [if_pos h1, if_pos h1]; rfl
  by_cases h3 : s = 3
  · rw [if_neg h1, if_neg h1, if_pos h3, if_pos h3]; rfl
  by_cases h5 : s = 5
  · rw [if_neg h1, if_neg h1, if_neg h3, if_neg h3, if_pos h5, if_pos h5]; rfl
  rw [if_neg h1, if_neg h1, if_neg h3, if_neg h3, if_neg h5, if_neg h5]; rfl
theorem jq_lv_iff {h : Int} (hB : jq_ok h B) (hh : h ≤ 3000) (ht : 0 ≤ t.toInt ∧ t.toInt ≤ 3000) : jq_lv t B ↔ B.2.2.2.toInt + (ji_fL B.1).toInt ≤ t.toInt := by
  obtain ⟨b1, b2, b3, b4⟩ := hB
  unfold ji_bt at b4
  have e : (t - B.2.2.2).toInt = t.toInt - B.2.2.2.toInt := vi_sub (by omega) (by omega)
  have e48 : (48 : Int32).toInt = 48 := rfl
  have e72 : (72 : Int32).toInt = 72 := rfl
  have e96 : (96 : Int32).toInt = 96 := rfl
  have c1 : ¬ (1 : Int32) = 3 := by decide
  have c2 : ¬ (1 : Int32) = 5 := by decide
  have c3 : ¬ (3 : Int32) = 5 := by decide
  have c4 : ¬ (3 : Int32) = 1 := by decide
  have c5 : ¬ (5 : Int32) = 1 := by decide
  have c6 : ¬ (5 : Int32) = 3 := by decide
  unfold jq_lv
  rw [jq_fL_v, vi_lt, vi_lt, vi_lt, e, e48, e72, e96]
  by_cases h1 : B.1 = 1
  · simp only [h1, c1, c2, if_true, true_and, false_and, or_false]; omega
  by_cases h3 : B.1 = 3
  · simp only [h3, c3, c4, if_true, if_false, true_and, false_and, or_false, false_or]; omega
  by_cases h5 : B.1 = 5
  · simp only [h5, c5, c6, if_true, if_false, true_and, false_and, or_false, false_or]; omega
  simp only [h1, h3, h5, if_false, false_and, or_false, false_iff]; omega
theorem vi_ofI_sub {p q : Int} : Int32.ofInt p - Int32.ofInt q = Int32.ofInt (p - q) := by rw [Int32.ofInt_sub]
/-- all hours for a book -/
theorem jq_m48L (S : ji_Stk X s r c) (hv : v.toInt = (b : Int)) (hb : (b : Int) < (ji_gI X r 3).toInt) {n : Nat} (hn : n ≤ 100) (hH : ji_bt (ji_gI X s 2) 0 40) (hh : ji_bt (ji_gI X s 1) 0 999) (hB : jq_ok (ji_gI X s 1).toInt (jq_rd f b)) {C : Int} : ∀ (m rem i : Nat) (l5 l6 : Option Value), rem ≤ m → i + rem = n → ji_Ev (ji_CL (d + 3)) 48 13 (jq_XM X s c (jq_w4 f b (jq_it (ji_gI X s 2) (ji_gI X s 1) (jq_rd f b) i)) (Int32.ofInt (C - jq_cs (ji_gI X s 2) (ji_gI X s 1) (f (b * 8 + 3)) (jq_rd f b) i))) [some (.ref s), some (.int v), some (.int (Int32.ofNat n)), some (.int (ji_gI X s 1 + Int32.ofNat n)), some (.int (ji_gI X s 1 + Int32.ofNat i)), l5, l6] [] (none, jq_XM X s c (jq_w4 f b (jq_it (ji_gI X s 2) (ji_gI X s 1) (jq_rd f b) n)) (Int32.ofInt (C - jq_cs (ji_gI X s 2) (ji_gI X s 1) (f (b * 8 + 3)) (jq_rd f b) n))) := by
  have e1 : (1 : Int32).toInt = 1 := rfl
  have h0 := hh.1
  have h1 := hh.2
  have en := jq_hj (h := ji_gI X s 1) (j := n) (by omega) (by omega)
  intro m
  induction m with
  | zero =>
    intro rem i l5 l6 hm hi
    obtain rfl : i = n := by omega
    simp only [s48_0, s48_1, s48_4, s48_5, s48_6, s48_7, s48_8, s48_11, s48_13, s48_15, s48_16, s48_19, s48_20, s48_23, s48_24, q48_26, s48_29, s48_30, q48_31, q48_34, s48_37, s48_38, s48_40, s48_42, s48_43, s48_44, s48_45, s48_47, s48_50, s48_53, s48_55, s48_56, s48_57, s48_59, s48_61, q48_62, s48_65, s48_67, s48_69, s48_71, s48_73, s48_76, s48_77, s48_78, s48_79, q48_80, s48_83, s48_84, s48_87, s48_88, s48_91, s48_92, q48_94, s48_100, xIL_1, xIS_1, xQL_2, xQL_3, xAN_1, xAN_2, xAN_3, xCP_1, xC_s, xNC_I, ji_oI1, ji_oIm, kd_sC, gR_sC, gL_sC, ji_rv_s, ji_tl_s, ji_tl_n, ji_s1, ji_s2, ji_kl, List.getD_cons_zero, List.getD_cons_succ, List.set_cons_zero, List.set_cons_succ, List.length_cons, List.length_nil, ji_b_0, ji_b_1, ji_n0, ji_n1, ji_rcb_iff, ji_ok8_0, ji_ok8_1, ji_ok8_2, ji_ok8_3, ji_ok8_4, kd_sI, kd_sL, kd_sR, kd_cp, gR_sI, gR_sL, gR_cp, gL_sI, gL_sR, gL_cp, gI_sL, gI_sR, gI_sI, gL_sL, Nat.reduceEqDiff, false_and, and_false, true_and, and_true, Nat.reduceAdd, Nat.reduceLT, Nat.reduceSub, Int32.reduceLT, Int32.reduceAdd, not_false_eq_true, not_true_eq_false, and_self, ji_b_n, if_true, if_false, ↓reduceIte, cz_m100, cz_m19, cz_m18, cz_m17, cz_m16, cz_m15, cz_m14, cz_m13, cz_m12, cz_m11, cz_m4, cz_m3, cz_m2, cz_m1, cz_1, cz_2, cz_3, cz_4, cz_5, cz_6, cz_7, cz_8, cz_9, cz_10, cz_11, cz_12, cz_13, cz_14, cz_15, cz_16, cz_20, cz_24, cz_30, cz_32, cz_33, cz_38, cz_40, cz_41, cz_42, cz_43, cz_45, cz_48, cz_57, cz_59, cz_60, cz_61, cz_63, cz_64, cz_72, cz_96, cz_97, cz_99, cz_100, cz_122, cz_124, cz_126, cz_160, cz_161, cz_168, cz_200, cz_255, cz_300, cz_960, cz_999, cz_1000, cz_1001, cz_1002, cz_1003, cz_1120, cz_2000, cz_2003, cz_2004, cz_2005, cz_3999, cz_9999, cz_14640, Int32.lt_irrefl]
  | succ m ih =>
    intro rem i l5 l6 hm hi
    by_cases hr : rem = 0
    · obtain rfl : i = n := by omega
      simp only [s48_0, s48_1, s48_4, s48_5, s48_6, s48_7, s48_8, s48_11, s48_13, s48_15, s48_16, s48_19, s48_20, s48_23, s48_24, q48_26, s48_29, s48_30, q48_31, q48_34, s48_37, s48_38, s48_40, s48_42, s48_43, s48_44, s48_45, s48_47, s48_50, s48_53, s48_55, s48_56, s48_57, s48_59, s48_61, q48_62, s48_65, s48_67, s48_69, s48_71, s48_73, s48_76, s48_77, s48_78, s48_79, q48_80, s48_83, s48_84, s48_87, s48_88, s48_91, s48_92, q48_94, s48_100, xIL_1, xIS_1, xQL_2, xQL_3, xAN_1, xAN_2, xAN_3, xCP_1, xC_s, xNC_I, ji_oI1, ji_oIm, kd_sC, gR_sC, gL_sC, ji_rv_s, ji_tl_s, ji_tl_n, ji_s1, ji_s2, ji_kl, List.getD_cons_zero, List.getD_cons_succ, List.set_cons_zero, List.set_cons_succ, List.length_cons, List.length_nil, ji_b_0, ji_b_1, ji_n0, ji_n1, ji_rcb_iff, ji_ok8_0, ji_ok8_1, ji_ok8_2, ji_ok8_3, ji_ok8_4, kd_sI, kd_sL, kd_sR, kd_cp, gR_sI, gR_sL, gR_cp, gL_sI, gL_sR, gL_cp, gI_sL, gI_sR, gI_sI, gL_sL, Nat.reduceEqDiff, false_and, and_false, true_and, and_true, Nat.reduceAdd, Nat.reduceLT, Nat.reduceSub, Int32.reduceLT, Int32.reduceAdd, not_false_eq_true, not_true_eq_false, and_self, ji_b_n, if_true, if_false, ↓reduceIte, cz_m100, cz_m19, cz_m18, cz_m17, cz_m16, cz_m15, cz_m14, cz_m13, cz_m12, cz_m11, cz_m4, cz_m3, cz_m2, cz_m1, cz_1, cz_2, cz_3, cz_4, cz_5, cz_6, cz_7, cz_8, cz_9, cz_10, cz_11, cz_12, cz_13, cz_14, cz_15, cz_16, cz_20, cz_24, cz_30, cz_32, cz_33, cz_38, cz_40, cz_41, cz_42, cz_43, cz_45, cz_48, cz_57, cz_59, cz_60, cz_61, cz_63, cz_64, cz_72, cz_96, cz_97, cz_99, cz_100, cz_122, cz_124, cz_126, cz_160, cz_161, cz_168, cz_200, cz_255, cz_300, cz_960, cz_999, cz_1000, cz_1001, cz_1002, cz_1003, cz_1120, cz_2000, cz_2003, cz_2004, cz_2005, cz_3999, cz_9999, cz_14640, Int32.lt_irrefl]
    have ei := jq_hj (h := ji_gI X s 1) (j := i) (by omega) (by omega)
    have hlt : ji_gI X s 1 + Int32.ofNat i < ji_gI X s 1 + Int32.ofNat n := by rw [vi_lt]; omega
    have K := jq_it_ok hH (by omega) hB i (by omega)
    rw [← ei] at K
    generalize hBi : jq_it (ji_gI X s 2) (ji_gI X s 1) (jq_rd f b) i = Bi at K
    generalize hci : jq_cs (ji_gI X s 2) (ji_gI X s 1) (f (b * 8 + 3)) (jq_rd f b) i = ci
    have Kb := K.2.2.2
    unfold ji_bt at Kb
    have Lv := jq_fL_v (s := Bi.1)
    have Lb : 48 ≤ (ji_fL Bi.1).toInt ∧ (ji_fL Bi.1).toInt ≤ 1000000 := by rw [Lv]; split <;> (try split) <;> (try split) <;> omega
    have ech : (Bi.2.2.2 + ji_fL Bi.1).toInt = Bi.2.2.2.toInt + (ji_fL Bi.1).toInt := vi_add (by omega) (by omega)
    have e2 := fun f k => jq_XM_s (f := f) (k := k) S (i := 1) (by omega)
    have r7 := fun f k => jq_m49 (d := d + 2) (f := f) (k := k) S hv hb (y := 7) (j := 7) rfl (by omega)
    have r50 := fun f k => jq_m50 (d := d + 1) (f := f) (k := k) S hv hb
    -- till
    have en1 : (ji_gI X s 1 + Int32.ofNat i + 1).toInt = (ji_gI X s 1 + Int32.ofNat i).toInt + 1 := by rw [vi_add (by omega) (by omega), e1]
    obtain ⟨T, hT⟩ : ∃ T, T = if ji_gI X s 1 + Int32.ofNat i + 1 < (if Bi.2.2.2 + ji_fL Bi.1 < ji_gI X s 1 + Int32.ofNat n then Bi.2.2.2 + ji_fL Bi.1 else ji_gI X s 1 + Int32.ofNat n) then (if Bi.2.2.2 + ji_fL Bi.1 < ji_gI X s 1 + Int32.ofNat n then Bi.2.2.2 + ji_fL Bi.1 else ji_gI X s 1 + Int32.ofNat n) else ji_gI X s 1 + Int32.ofNat i + 1 := ⟨_, rfl⟩
    have hT1 : (ji_gI X s 1 + Int32.ofNat i).toInt + 1 ≤ T.toInt ∧ T.toInt ≤ (ji_gI X s 1 + Int32.ofNat n).toInt ∧ (T.toInt = (ji_gI X s 1 + Int32.ofNat i).toInt + 1 ∨ T.toInt ≤ Bi.2.2.2.toInt + (ji_fL Bi.1).toInt) ∧ (T.toInt = (ji_gI X s 1 + Int32.ofNat n).toInt ∨ Bi.2.2.2.toInt + (ji_fL Bi.1).toInt ≤ T.toInt) := by
      rw [hT]
      by_cases q1 : Bi.2.2.2 + ji_fL Bi.1 < ji_gI X s 1 + Int32.ofNat n
      · rw [if_pos q1]
        by_cases q2 : ji_gI X s 1 + Int32.ofNat i + 1 < Bi.2.2.2 + ji_fL Bi.1
        · rw [if_pos q2]
          rw [vi_lt] at q1 q2
          omega
        · rw [if_neg q2]
          rw [vi_lt] at q1 q2
          omega
      · rw [if_neg q1]
        by_cases q2 : ji_gI X s 1 + Int32.ofNat i + 1 < ji_gI X s 1 + Int32.ofNat n
        · rw [if_pos q2]
          rw [vi_lt] at q1 q2
          omega
        · rw [if_neg q2]
          rw [vi_lt] at q1 q2
          omega
    obtain ⟨j, hj⟩ : ∃ j : Nat, T.toInt = (ji_gI X s 1 + Int32.ofNat i).toInt + ((j + 1 : Nat) : Int) := ⟨(T.toInt - (ji_gI X s 1 + Int32.ofNat i).toInt - 1).toNat, by omega⟩
    have ejn := jq_hj (h := ji_gI X s 1 + Int32.ofNat i) (j := j + 1) (by omega) (by omega)
    have ejT : T = ji_gI X s 1 + Int32.ofNat i + Int32.ofNat (j + 1) := by rw [vi_eq, ejn]; exact hj
    have ejT2 : T - (ji_gI X s 1 + Int32.ofNat i) = Int32.ofNat (j + 1) := by
      rw [vi_eq, vi_sub (by omega) (by omega), vi_ofN (by omega)]; omega
    have ejT3 : T = ji_gI X s 1 + Int32.ofNat (i + (j + 1)) := by rw [ejT, Int32.add_assoc, ← Int32.ofNat_add]
    have nlv : ∀ i', i' < j → ¬ jq_lv (ji_gI X s 1 + Int32.ofNat i + Int32.ofNat (i' + 1)) Bi := by
      intro i' hi'
      have e' := jq_hj (h := ji_gI X s 1 + Int32.ofNat i) (j := i' + 1) (by omega) (by omega)
      rw [jq_lv_iff K (by omega) (by omega), e']
      omega
    have st := jq_m52 (d := d + 1) (x := Int32.ofNat (j + 1)) (f := jq_w4 f b Bi) (k := Int32.ofInt (C - ci)) S hv hb
    rw [jq_rd_w4, jq_w4_w4, jq_w4_0, jq_w4_n (j := b * 8 + 3) (by omega) (by omega) (by omega) (by omega)] at st
    have eC : Int32.ofInt (C - ci) - Int32.ofNat (j + 1) * ji_fC Bi.1 (f (b * 8 + 3)) = Int32.ofInt (C - (ci + (j + 1 : Nat) * (ji_fC Bi.1 (f (b * 8 + 3))).toInt)) := by
      have e : Int32.ofNat (j + 1) * ji_fC Bi.1 (f (b * 8 + 3)) = Int32.ofInt (((j + 1 : Nat) : Int) * (ji_fC Bi.1 (f (b * 8 + 3))).toInt) := by
        rw [Int32.ofInt_mul, Int32.ofInt_toInt]
        congr 1
      rw [e, vi_ofI_sub, Int.sub_sub]
    rw [eC] at st
    have cadd := jq_cs_add (H := ji_gI X s 2) (h := ji_gI X s 1) (z := f (b * 8 + 3)) (b := jq_rd f b) (i := i) (j + 1)
    rw [hBi, hci, jq_cs_sy hH K (j + 1) (by omega) (fun i' hi' => nlv i' (by omega))] at cadd
    have iadd := jq_it_add (H := ji_gI X s 2) (h := ji_gI X s 1) (b := jq_rd f b) (i := i) (j + 1)
    rw [hBi] at iadd
    have I := fun l5 l6 => ih (rem - (j + 1)) (i + (j + 1)) l5 l6 (by omega) (by omega)
    rw [cadd, iadd, ← ejT3] at I
    by_cases hc : T < Bi.2.2.2 + ji_fL Bi.1
    · have hc' := hc
      rw [vi_lt, ech] at hc'
      have nl : ¬ jq_lv (ji_gI X s 1 + Int32.ofNat i + Int32.ofNat (j + 1)) Bi := by
        rw [jq_lv_iff K (by omega) (by omega), ← ejT]; omega
      rw [jq_it_sy hH K (j + 1) (by omega) (fun i' hi' => by
        by_cases q : i' = j
        · rw [q]; exact nl
        · exact nlv i' (by omega))] at I
      simp only [s48_0, s48_1, s48_4, s48_5, s48_6, s48_7, s48_8, s48_11, s48_13, s48_15, s48_16, s48_19, s48_20, s48_23, s48_24, q48_26, s48_29, s48_30, q48_31, q48_34, s48_37, s48_38, s48_40, s48_42, s48_43, s48_44, s48_45, s48_47, s48_50, s48_53, s48_55, s48_56, s48_57, s48_59, s48_61, q48_62, s48_65, s48_67, s48_69, s48_71, s48_73, s48_76, s48_77, s48_78, s48_79, q48_80, s48_83, s48_84, s48_87, s48_88, s48_91, s48_92, q48_94, s48_100, xIL_1, xIS_1, xQL_2, xQL_3, xAN_1, xAN_2, xAN_3, xCP_1, xC_s, xNC_I, ji_oI1, ji_oIm, kd_sC, gR_sC, gL_sC, ji_rv_s, ji_tl_s, ji_tl_n, ji_s1, ji_s2, ji_kl, List.getD_cons_zero, List.getD_cons_succ, List.set_cons_zero, List.set_cons_succ, List.length_cons, List.length_nil, ji_b_0, ji_b_1, ji_n0, ji_n1, ji_rcb_iff, ji_ok8_0, ji_ok8_1, ji_ok8_2, ji_ok8_3, ji_ok8_4, kd_sI, kd_sL, kd_sR, kd_cp, gR_sI, gR_sL, gR_cp, gL_sI, gL_sR, gL_cp, gI_sL, gI_sR, gI_sI, gL_sL, Nat.reduceEqDiff, false_and, and_false, true_and, and_true, Nat.reduceAdd, Nat.reduceLT, Nat.reduceSub, Int32.reduceLT, Int32.reduceAdd, not_false_eq_true, not_true_eq_false, and_self, ji_b_n, if_true, if_false, ↓reduceIte, cz_m100, cz_m19, cz_m18, cz_m17, cz_m16, cz_m15, cz_m14, cz_m13, cz_m12, cz_m11, cz_m4, cz_m3, cz_m2, cz_m1, cz_1, cz_2, cz_3, cz_4, cz_5, cz_6, cz_7, cz_8, cz_9, cz_10, cz_11, cz_12, cz_13, cz_14, cz_15, cz_16, cz_20, cz_24, cz_30, cz_32, cz_33, cz_38, cz_40, cz_41, cz_42, cz_43, cz_45, cz_48, cz_57, cz_59, cz_60, cz_61, cz_63, cz_64, cz_72, cz_96, cz_97, cz_99, cz_100, cz_122, cz_124, cz_126, cz_160, cz_161, cz_168, cz_200, cz_255, cz_300, cz_960, cz_999, cz_1000, cz_1001, cz_1002, cz_1003, cz_1120, cz_2000, cz_2003, cz_2004, cz_2005, cz_3999, cz_9999, cz_14640, jq_XM_kd, jq_XM_gR, S.1, S.2.1, S.2.2.1, hlt, r7, r50, jq_w4_0, jq_w4_7, m51, ← hT, ejT2, st, hc]
      simp only [s48_97]
      exact I _ _
    · have hc' := hc
      rw [vi_lt, ech] at hc'
      have l : jq_lv (ji_gI X s 1 + Int32.ofNat i + Int32.ofNat (j + 1)) Bi := by
        rw [jq_lv_iff K (by omega) (by omega), ← ejT]; omega
      rw [jq_it_sl hH K (by omega) nlv l] at I
      have b58 := fun x => jq_m58 (d := d + 1) (x := x) (y := T) (f := jq_w4 f b (jq_sy (ji_gI X s 2) (Int32.ofNat (j + 1)) Bi)) (k := Int32.ofInt (C - (ci + (j + 1 : Nat) * (ji_fC Bi.1 (f (b * 8 + 3))).toInt))) S hv hb
      simp only [jq_w4_w4, jq_w4_5, jq_w4_6] at b58
      have es : (jq_sy (ji_gI X s 2) (Int32.ofNat (j + 1)) Bi).1 = Bi.1 := rfl
      rw [← ejT] at I
      by_cases k1 : Bi.1 = 1
      · have k1 := eq_true k1
        simp only [k1, if_true] at I
        simp only [s48_0, s48_1, s48_4, s48_5, s48_6, s48_7, s48_8, s48_11, s48_13, s48_15, s48_16, s48_19, s48_20, s48_23, s48_24, q48_26, s48_29, s48_30, q48_31, q48_34, s48_37, s48_38, s48_40, s48_42, s48_43, s48_44, s48_45, s48_47, s48_50, s48_53, s48_55, s48_56, s48_57, s48_59, s48_61, q48_62, s48_65, s48_67, s48_69, s48_71, s48_73, s48_76, s48_77, s48_78, s48_79, q48_80, s48_83, s48_84, s48_87, s48_88, s48_91, s48_92, q48_94, s48_100, xIL_1, xIS_1, xQL_2, xQL_3, xAN_1, xAN_2, xAN_3, xCP_1, xC_s, xNC_I, ji_oI1, ji_oIm, kd_sC, gR_sC, gL_sC, ji_rv_s, ji_tl_s, ji_tl_n, ji_s1, ji_s2, ji_kl, List.getD_cons_zero, List.getD_cons_succ, List.set_cons_zero, List.set_cons_succ, List.length_cons, List.length_nil, ji_b_0, ji_b_1, ji_n0, ji_n1, ji_rcb_iff, ji_ok8_0, ji_ok8_1, ji_ok8_2, ji_ok8_3, ji_ok8_4, kd_sI, kd_sL, kd_sR, kd_cp, gR_sI, gR_sL, gR_cp, gL_sI, gL_sR, gL_cp, gI_sL, gI_sR, gI_sI, gL_sL, Nat.reduceEqDiff, false_and, and_false, true_and, and_true, Nat.reduceAdd, Nat.reduceLT, Nat.reduceSub, Int32.reduceLT, Int32.reduceAdd, not_false_eq_true, not_true_eq_false, and_self, ji_b_n, if_true, if_false, ↓reduceIte, cz_m100, cz_m19, cz_m18, cz_m17, cz_m16, cz_m15, cz_m14, cz_m13, cz_m12, cz_m11, cz_m4, cz_m3, cz_m2, cz_m1, cz_1, cz_2, cz_3, cz_4, cz_5, cz_6, cz_7, cz_8, cz_9, cz_10, cz_11, cz_12, cz_13, cz_14, cz_15, cz_16, cz_20, cz_24, cz_30, cz_32, cz_33, cz_38, cz_40, cz_41, cz_42, cz_43, cz_45, cz_48, cz_57, cz_59, cz_60, cz_61, cz_63, cz_64, cz_72, cz_96, cz_97, cz_99, cz_100, cz_122, cz_124, cz_126, cz_160, cz_161, cz_168, cz_200, cz_255, cz_300, cz_960, cz_999, cz_1000, cz_1001, cz_1002, cz_1003, cz_1120, cz_2000, cz_2003, cz_2004, cz_2005, cz_3999, cz_9999, cz_14640, jq_XM_kd, jq_XM_gR, S.1, S.2.1, S.2.2.1, hlt, r7, r50, jq_w4_0, jq_w4_7, m51, ← hT, ejT2, st, hc, es, k1, b58]
        simp only [s48_97]
        exact I _ _
      · simp only [k1, if_false] at I
        simp only [s48_0, s48_1, s48_4, s48_5, s48_6, s48_7, s48_8, s48_11, s48_13, s48_15, s48_16, s48_19, s48_20, s48_23, s48_24, q48_26, s48_29, s48_30, q48_31, q48_34, s48_37, s48_38, s48_40, s48_42, s48_43, s48_44, s48_45, s48_47, s48_50, s48_53, s48_55, s48_56, s48_57, s48_59, s48_61, q48_62, s48_65, s48_67, s48_69, s48_71, s48_73, s48_76, s48_77, s48_78, s48_79, q48_80, s48_83, s48_84, s48_87, s48_88, s48_91, s48_92, q48_94, s48_100, xIL_1, xIS_1, xQL_2, xQL_3, xAN_1, xAN_2, xAN_3, xCP_1, xC_s, xNC_I, ji_oI1, ji_oIm, kd_sC, gR_sC, gL_sC, ji_rv_s, ji_tl_s, ji_tl_n, ji_s1, ji_s2, ji_kl, List.getD_cons_zero, List.getD_cons_succ, List.set_cons_zero, List.set_cons_succ, List.length_cons, List.length_nil, ji_b_0, ji_b_1, ji_n0, ji_n1, ji_rcb_iff, ji_ok8_0, ji_ok8_1, ji_ok8_2, ji_ok8_3, ji_ok8_4, kd_sI, kd_sL, kd_sR, kd_cp, gR_sI, gR_sL, gR_cp, gL_sI, gL_sR, gL_cp, gI_sL, gI_sR, gI_sI, gL_sL, Nat.reduceEqDiff, false_and, and_false, true_and, and_true, Nat.reduceAdd, Nat.reduceLT, Nat.reduceSub, Int32.reduceLT, Int32.reduceAdd, not_false_eq_true, not_true_eq_false, and_self, ji_b_n, if_true, if_false, ↓reduceIte, cz_m100, cz_m19, cz_m18, cz_m17, cz_m16, cz_m15, cz_m14, cz_m13, cz_m12, cz_m11, cz_m4, cz_m3, cz_m2, cz_m1, cz_1, cz_2, cz_3, cz_4, cz_5, cz_6, cz_7, cz_8, cz_9, cz_10, cz_11, cz_12, cz_13, cz_14, cz_15, cz_16, cz_20, cz_24, cz_30, cz_32, cz_33, cz_38, cz_40, cz_41, cz_42, cz_43, cz_45, cz_48, cz_57, cz_59, cz_60, cz_61, cz_63, cz_64, cz_72, cz_96, cz_97, cz_99, cz_100, cz_122, cz_124, cz_126, cz_160, cz_161, cz_168, cz_200, cz_255, cz_300, cz_960, cz_999, cz_1000, cz_1001, cz_1002, cz_1003, cz_1120, cz_2000, cz_2003, cz_2004, cz_2005, cz_3999, cz_9999, cz_14640, jq_XM_kd, jq_XM_gR, S.1, S.2.1, S.2.2.1, hlt, r7, r50, jq_w4_0, jq_w4_7, m51, ← hT, ejT2, st, hc, es, k1, b58]
        simp only [s48_97]
        exact I _ _
end JIV
