/-! ===== joined: the class ===== -/
theorem jj_bit : ∀ s : Fin 64, ∀ g : Fin 6, ((Int32.ofNat s.val >>> (Int32.ofNat g.val &&& 31)) &&& 1) = (if s.val.testBit g.val then 1 else 0) := by decide +kernel
theorem jj_or : ∀ s : Fin 64, ∀ g : Fin 6, Int32.ofNat s.val ||| (1 <<< (Int32.ofNat g.val &&& 31)) = Int32.ofNat (s.val ||| 2 ^ g.val) ∧ s.val ||| 2 ^ g.val < 64 := by decide +kernel
theorem jj_or0 : ∀ s : Fin 64, Int32.ofNat s.val ||| 0 = Int32.ofNat s.val := by decide +kernel
theorem ji_aa_b {l g : ji_F} : ∀ n : Nat, n ≤ 100 → 0 ≤ (ji_aa l g n).toInt ∧ (ji_aa l g n).toInt ≤ n := by
  have e1 : (1 : Int32).toInt = 1 := rfl
  intro n
  induction n with
  | zero => intro _; exact ⟨by show 0 ≤ (0 : Int32).toInt; decide, by show (0 : Int32).toInt ≤ 0; decide⟩
  | succ n ih =>
    intro hn
    have := ih (by omega)
    unfold ji_aa
    split
    · rw [vi_add (by omega) (by omega), e1]; omega
    · omega
theorem ji_ag4_b {l g : ji_F} : 0 ≤ (ji_ag4 l g).toInt ∧ (ji_ag4 l g).toInt ≤ 4 := by
  unfold ji_ag4
  split
  · exact ⟨by decide, by decide⟩
  · exact ji_aa_b 4 (by omega)
def jj_ag (N : ji_M) (l g : Nat) : Int := (ji_ag4 (fun k => ji_gI N 31 (4 * l + k)) (fun k => ji_gI N 33 (4 * g + k))).toInt
def jj_K (N : ji_M) : Nat := (ji_gI N 0 50).toInt.toNat
def jj_G (N : ji_M) : Nat := (ji_gI N 0 51).toInt.toNat
def jj_AG (X N : ji_M) (l : Nat) : Prop := ∀ g, g < jj_G N → (ji_gI X (56 + l) g).toInt = jj_ag N l g
def jj_MB (X N : ji_M) (l : Nat) : Prop := ∀ s, s < 64 → (ji_gI X (63 + l) s).toInt = jj_mb (jj_K N) (jj_G N) (jj_ag N) (jj_K N - l) s
theorem jj_ag_b (N : ji_M) : ∀ l g, 0 ≤ jj_ag N l g ∧ jj_ag N l g ≤ 4 := fun l g => ji_ag4_b
section JIV
variable {X Y N N' M : ji_M} {P : ji_P} {x y z w a b : Int32} {d r m n i j k v l g s : Nat} {o : Option Value × ji_M}
theorem jj_Kb (R : ji_Rel P X N) : (jj_K N ≤ 6 ∧ (ji_gI N 0 50).toInt = (jj_K N : Int)) ∧ jj_G N ≤ 6 ∧ (ji_gI N 0 51).toInt = (jj_G N : Int) := by
  have h1 := R.leaves.2.1
  have h2 := R.gaps.2.1
  unfold ji_bt at h1 h2
  unfold jj_K jj_G
  omega
theorem jj_r55 (h : ji_XF X) (hl : l < 6) : ji_gR X 55 l = some (56 + l) ∧ ji_kd X (56 + l) = some (1, 6) := by
  match l, hl with
  | 0, _ => exact ⟨xr_55_0 h, xk_56 h⟩
  | 1, _ => exact ⟨xr_55_1 h, xk_57 h⟩
  | 2, _ => exact ⟨xr_55_2 h, xk_58 h⟩
  | 3, _ => exact ⟨xr_55_3 h, xk_59 h⟩
  | 4, _ => exact ⟨xr_55_4 h, xk_60 h⟩
  | 5, _ => exact ⟨xr_55_5 h, xk_61 h⟩
theorem jj_r62 (h : ji_XF X) (hl : l < 7) : ji_gR X 62 l = some (63 + l) ∧ ji_kd X (63 + l) = some (1, 64) := by
  match l, hl with
  | 0, _ => exact ⟨xr_62_0 h, xk_63 h⟩
  | 1, _ => exact ⟨xr_62_1 h, xk_64 h⟩
  | 2, _ => exact ⟨xr_62_2 h, xk_65 h⟩
  | 3, _ => exact ⟨xr_62_3 h, xk_66 h⟩
  | 4, _ => exact ⟨xr_62_4 h, xk_67 h⟩
  | 5, _ => exact ⟨xr_62_5 h, xk_68 h⟩
  | 6, _ => exact ⟨xr_62_6 h, xk_69 h⟩
theorem jj_xs1 (hl : l < 6) : ji_xs (56 + l) k = true := by
  match l, hl with
  | 0, _ => rfl
  | 1, _ => rfl
  | 2, _ => rfl
  | 3, _ => rfl
  | 4, _ => rfl
  | 5, _ => rfl
theorem jj_xs2 (hl : l < 7) : ji_xs (63 + l) k = true := by
  match l, hl with
  | 0, _ => rfl
  | 1, _ => rfl
  | 2, _ => rfl
  | 3, _ => rfl
  | 4, _ => rfl
  | 5, _ => rfl
  | 6, _ => rfl
theorem jj_bitn (hs : s < 64) (hg : g < 6) : ((Int32.ofNat s >>> (Int32.ofNat g &&& 31)) &&& 1) = (if s.testBit g then 1 else 0) := jj_bit ⟨s, hs⟩ ⟨g, hg⟩
theorem jj_orn (hs : s < 64) (hg : g < 6) : Int32.ofNat s ||| (1 <<< (Int32.ofNat g &&& 31)) = Int32.ofNat (s ||| 2 ^ g) ∧ s ||| 2 ^ g < 64 := jj_or ⟨s, hs⟩ ⟨g, hg⟩
theorem m122 (R : ji_Rel P X N) (A : jj_AG X N l) (hl : l < jj_K N) (hg : g < jj_G N) (hs : s < 64) : ji_CL (d + 1) 122 [.ref 54, .int (Int32.ofNat l), .int (Int32.ofNat g), .int (Int32.ofNat s)] X = some (some (.int (ji_b (jj_can (jj_ag N) l g s))), X) := by
  have hX := R.xf
  have Kb := jj_Kb R
  have r5 := jj_r55 (l := l) hX (by omega)
  have bt := jj_bitn (g := g) hs (by omega)
  obtain ⟨i1, i2, i3⟩ := jy_ix (Y := l) (m := 6) (by omega) (by omega)
  obtain ⟨k1, k2, k3⟩ := jy_ix (Y := g) (m := 6) (by omega) (by omega)
  have ea := A g hg
  have e0 : (0 : Int32).toInt = 0 := rfl
  have n1 : ¬ (1 : Int32) = 0 := by decide
  apply en_122
  by_cases h1 : s.testBit g = true
  · rw [if_pos h1] at bt
    rw [ji_b_F (fun q => by rw [q.1] at h1; cases h1)]
    simp only [s122_0, s122_1, s122_2, s122_3, s122_4, s122_5, s122_8, s122_9, s122_12, q122_13, s122_14, q122_15, s122_16, s122_19, s122_20, s122_23, s122_24, xIL_1, xIS_1, xQL_2, xQL_3, xAN_1, xAN_2, xAN_3, xCP_1, xC_s, xNC_I, ji_oI1, ji_oIm, kd_sC, gR_sC, gL_sC, ji_rv_s, ji_tl_s, ji_tl_n, ji_s1, ji_s2, ji_kl, List.getD_cons_zero, List.getD_cons_succ, List.set_cons_zero, List.set_cons_succ, List.length_cons, List.length_nil, ji_b_0, ji_b_1, ji_n0, ji_n1, ji_rcb_iff, ji_ok8_0, ji_ok8_1, ji_ok8_2, ji_ok8_3, ji_ok8_4, kd_sI, kd_sL, kd_sR, kd_cp, gR_sI, gR_sL, gR_cp, gL_sI, gL_sR, gL_cp, gI_sL, gI_sR, gI_sI, gL_sL, Nat.reduceEqDiff, false_and, and_false, true_and, and_true, Nat.reduceAdd, Nat.reduceLT, Nat.reduceSub, Int32.reduceLT, Int32.reduceAdd, not_false_eq_true, not_true_eq_false, and_self, ji_b_n, if_true, if_false, ↓reduceIte, cz_m100, cz_m19, cz_m18, cz_m17, cz_m16, cz_m15, cz_m14, cz_m13, cz_m12, cz_m11, cz_m4, cz_m3, cz_m2, cz_m1, cz_1, cz_2, cz_3, cz_4, cz_5, cz_6, cz_7, cz_8, cz_9, cz_10, cz_11, cz_12, cz_13, cz_14, cz_15, cz_16, cz_20, cz_24, cz_30, cz_32, cz_33, cz_38, cz_40, cz_41, cz_42, cz_43, cz_45, cz_48, cz_57, cz_59, cz_60, cz_61, cz_63, cz_64, cz_72, cz_96, cz_97, cz_99, cz_100, cz_122, cz_124, cz_126, cz_160, cz_161, cz_168, cz_200, cz_255, cz_300, cz_960, cz_999, cz_1000, cz_1001, cz_1002, cz_1003, cz_1120, cz_2000, cz_2003, cz_2004, cz_2005, cz_3999, cz_9999, cz_14640, bt, n1]
  · rw [if_neg h1] at bt
    by_cases h2 : 0 < ji_gI X (56 + l) g
    · rw [ji_b_T (show jj_can (jj_ag N) l g s from ⟨by simpa using h1, by rw [vi_lt, ea, e0] at h2; exact h2⟩)]
      simp only [s122_0, s122_1, s122_2, s122_3, s122_4, s122_5, s122_8, s122_9, s122_12, q122_13, s122_14, q122_15, s122_16, s122_19, s122_20, s122_23, s122_24, xIL_1, xIS_1, xQL_2, xQL_3, xAN_1, xAN_2, xAN_3, xCP_1, xC_s, xNC_I, ji_oI1, ji_oIm, kd_sC, gR_sC, gL_sC, ji_rv_s, ji_tl_s, ji_tl_n, ji_s1, ji_s2, ji_kl, List.getD_cons_zero, List.getD_cons_succ, List.set_cons_zero, List.set_cons_succ, List.length_cons, List.length_nil, ji_b_0, ji_b_1, ji_n0, ji_n1, ji_rcb_iff, ji_ok8_0, ji_ok8_1, ji_ok8_2, ji_ok8_3, ji_ok8_4, kd_sI, kd_sL, kd_sR, kd_cp, gR_sI, gR_sL, gR_cp, gL_sI, gL_sR, gL_cp, gI_sL, gI_sR, gI_sI, gL_sL, Nat.reduceEqDiff, false_and, and_false, true_and, and_true, Nat.reduceAdd, Nat.reduceLT, Nat.reduceSub, Int32.reduceLT, Int32.reduceAdd, not_false_eq_true, not_true_eq_false, and_self, ji_b_n, if_true, if_false, ↓reduceIte, cz_m100, cz_m19, cz_m18, cz_m17, cz_m16, cz_m15, cz_m14, cz_m13, cz_m12, cz_m11, cz_m4, cz_m3, cz_m2, cz_m1, cz_1, cz_2, cz_3, cz_4, cz_5, cz_6, cz_7, cz_8, cz_9, cz_10, cz_11, cz_12, cz_13, cz_14, cz_15, cz_16, cz_20, cz_24, cz_30, cz_32, cz_33, cz_38, cz_40, cz_41, cz_42, cz_43, cz_45, cz_48, cz_57, cz_59, cz_60, cz_61, cz_63, cz_64, cz_72, cz_96, cz_97, cz_99, cz_100, cz_122, cz_124, cz_126, cz_160, cz_161, cz_168, cz_200, cz_255, cz_300, cz_960, cz_999, cz_1000, cz_1001, cz_1002, cz_1003, cz_1120, cz_2000, cz_2003, cz_2004, cz_2005, cz_3999, cz_9999, cz_14640, bt, xk_54 hX, xr_54_0 hX, xk_55 hX, i2, i3, r5.1, r5.2, k2, k3, h2]
    · rw [ji_b_F (fun q => by rw [vi_lt, ea, e0] at h2; exact h2 q.2)]
      simp only [s122_0, s122_1, s122_2, s122_3, s122_4, s122_5, s122_8, s122_9, s122_12, q122_13, s122_14, q122_15, s122_16, s122_19, s122_20, s122_23, s122_24, xIL_1, xIS_1, xQL_2, xQL_3, xAN_1, xAN_2, xAN_3, xCP_1, xC_s, xNC_I, ji_oI1, ji_oIm, kd_sC, gR_sC, gL_sC, ji_rv_s, ji_tl_s, ji_tl_n, ji_s1, ji_s2, ji_kl, List.getD_cons_zero, List.getD_cons_succ, List.set_cons_zero, List.set_cons_succ, List.length_cons, List.length_nil, ji_b_0, ji_b_1, ji_n0, ji_n1, ji_rcb_iff, ji_ok8_0, ji_ok8_1, ji_ok8_2, ji_ok8_3, ji_ok8_4, kd_sI, kd_sL, kd_sR, kd_cp, gR_sI, gR_sL, gR_cp, gL_sI, gL_sR, gL_cp, gI_sL, gI_sR, gI_sI, gL_sL, Nat.reduceEqDiff, false_and, and_false, true_and, and_true, Nat.reduceAdd, Nat.reduceLT, Nat.reduceSub, Int32.reduceLT, Int32.reduceAdd, not_false_eq_true, not_true_eq_false, and_self, ji_b_n, if_true, if_false, ↓reduceIte, cz_m100, cz_m19, cz_m18, cz_m17, cz_m16, cz_m15, cz_m14, cz_m13, cz_m12, cz_m11, cz_m4, cz_m3, cz_m2, cz_m1, cz_1, cz_2, cz_3, cz_4, cz_5, cz_6, cz_7, cz_8, cz_9, cz_10, cz_11, cz_12, cz_13, cz_14, cz_15, cz_16, cz_20, cz_24, cz_30, cz_32, cz_33, cz_38, cz_40, cz_41, cz_42, cz_43, cz_45, cz_48, cz_57, cz_59, cz_60, cz_61, cz_63, cz_64, cz_72, cz_96, cz_97, cz_99, cz_100, cz_122, cz_124, cz_126, cz_160, cz_161, cz_168, cz_200, cz_255, cz_300, cz_960, cz_999, cz_1000, cz_1001, cz_1002, cz_1003, cz_1120, cz_2000, cz_2003, cz_2004, cz_2005, cz_3999, cz_9999, cz_14640, bt, xk_54 hX, xr_54_0 hX, xk_55 hX, i2, i3, r5.1, r5.2, k2, k3, h2]
theorem m123 (R : ji_Rel P X N) (A : jj_AG X N l) (B : jj_MB X N (l + 1)) (hl : l < jj_K N) (hg : g < jj_G N) (hs : s < 64) : ∃ w : Int32, w.toInt = jj_ag N l g + jj_mb (jj_K N) (jj_G N) (jj_ag N) (jj_K N - (l + 1)) (s ||| 2 ^ g) ∧ ∀ d, ji_CL (d + 1) 123 [.ref 54, .int (Int32.ofNat l), .int (Int32.ofNat g), .int (Int32.ofNat s)] X = some (some (.int w), X) := by
  have hX := R.xf
  have Kb := jj_Kb R
  have r5 := jj_r55 (l := l) hX (by omega)
  have r6 := jj_r62 (l := l + 1) hX (by omega)
  have ot := jj_orn (g := g) hs (by omega)
  obtain ⟨i1, i2, i3⟩ := jy_ix (Y := l) (m := 6) (by omega) (by omega)
  obtain ⟨j1, j2, j3⟩ := jy_ix (Y := l + 1) (m := 7) (by omega) (by omega)
  obtain ⟨k1, k2, k3⟩ := jy_ix (Y := g) (m := 6) (by omega) (by omega)
  obtain ⟨q1, q2, q3⟩ := jy_ix (Y := s ||| 2 ^ g) (m := 64) ot.2 (by omega)
  have p1 := jx_o1p (k := l) (by omega)
  have ea := A g hg
  have eb := B _ ot.2
  have b1 := jj_ag_b N l g
  have b2 := jj_mb_b (K := jj_K N) (G := jj_G N) (jj_ag_b N) (jj_K N - (l + 1)) (s ||| 2 ^ g)
  refine ⟨ji_gI X (56 + l) g + ji_gI X (63 + (l + 1)) (s ||| 2 ^ g), ?_, fun d => ?_⟩
  · rw [vi_add (by omega) (by omega), ea, eb]
  · apply en_123
    simp only [s123_0, s123_1, s123_4, q123_5, s123_6, q123_7, s123_8, s123_9, s123_12, s123_13, s123_14, q123_15, s123_16, s123_17, s123_18, s123_19, s123_20, q123_21, s123_22, s123_23, xIL_1, xIS_1, xQL_2, xQL_3, xAN_1, xAN_2, xAN_3, xCP_1, xC_s, xNC_I, ji_oI1, ji_oIm, kd_sC, gR_sC, gL_sC, ji_rv_s, ji_tl_s, ji_tl_n, ji_s1, ji_s2, ji_kl, List.getD_cons_zero, List.getD_cons_succ, List.set_cons_zero, List.set_cons_succ, List.length_cons, List.length_nil, ji_b_0, ji_b_1, ji_n0, ji_n1, ji_rcb_iff, ji_ok8_0, ji_ok8_1, ji_ok8_2, ji_ok8_3, ji_ok8_4, kd_sI, kd_sL, kd_sR, kd_cp, gR_sI, gR_sL, gR_cp, gL_sI, gL_sR, gL_cp, gI_sL, gI_sR, gI_sI, gL_sL, Nat.reduceEqDiff, false_and, and_false, true_and, and_true, Nat.reduceAdd, Nat.reduceLT, Nat.reduceSub, Int32.reduceLT, Int32.reduceAdd, not_false_eq_true, not_true_eq_false, and_self, ji_b_n, if_true, if_false, ↓reduceIte, cz_m100, cz_m19, cz_m18, cz_m17, cz_m16, cz_m15, cz_m14, cz_m13, cz_m12, cz_m11, cz_m4, cz_m3, cz_m2, cz_m1, cz_1, cz_2, cz_3, cz_4, cz_5, cz_6, cz_7, cz_8, cz_9, cz_10, cz_11, cz_12, cz_13, cz_14, cz_15, cz_16, cz_20, cz_24, cz_30, cz_32, cz_33, cz_38, cz_40, cz_41, cz_42, cz_43, cz_45, cz_48, cz_57, cz_59, cz_60, cz_61, cz_63, cz_64, cz_72, cz_96, cz_97, cz_99, cz_100, cz_122, cz_124, cz_126, cz_160, cz_161, cz_168, cz_200, cz_255, cz_300, cz_960, cz_999, cz_1000, cz_1001, cz_1002, cz_1003, cz_1120, cz_2000, cz_2003, cz_2004, cz_2005, cz_3999, cz_9999, cz_14640, xk_54 hX, xr_54_0 hX, xk_55 hX, xr_54_1 hX, xk_62 hX, i2, i3, r5.1, r5.2, k2, k3, p1, j2, j3, r6.1, r6.2, ot.1, q2, q3]
theorem m121L (R : ji_Rel P X N) (h54 : ji_gI X 54 2 = ji_gI N 0 51) (A : jj_AG X N l) (B : jj_MB X N (l + 1)) (hk : l + (k + 1) = jj_K N) (hs : s < 64) : ∀ (m g : Nat) (w : Int32), g + m = jj_G N → w.toInt = jj_mx (fun g => jj_can (jj_ag N) l g s) (fun g => jj_ag N l g + jj_mb (jj_K N) (jj_G N) (jj_ag N) k (s ||| 2 ^ g)) (jj_mb (jj_K N) (jj_G N) (jj_ag N) k s) g → ∃ w' : Int32, w'.toInt = jj_mx (fun g => jj_can (jj_ag N) l g s) (fun g => jj_ag N l g + jj_mb (jj_K N) (jj_G N) (jj_ag N) k (s ||| 2 ^ g)) (jj_mb (jj_K N) (jj_G N) (jj_ag N) k s) (jj_G N) ∧ ∀ d, ji_Ev (ji_CL (d + 1)) 121 14 X [some (.ref 54), some (.int (Int32.ofNat l)), some (.int (Int32.ofNat s)), some (.int w), some (.int (Int32.ofNat g))] [] (some (.int w'), X) := by
  have hX := R.xf
  have Kb := jj_Kb R
  have ek : jj_K N - (l + 1) = k := by omega
  intro m
  induction m with
  | zero =>
    intro g w hg hw
    have e : g = jj_G N := by omega
    rw [e] at hw ⊢
    have g' : ¬ Int32.ofNat (jj_G N) < ji_gI N 0 51 := by rw [vi_lt, vi_nn (by omega)]; omega
    refine ⟨w, hw, fun d => ?_⟩
    simp only [s121_0, s121_1, s121_4, s121_5, s121_6, q121_7, s121_8, q121_9, s121_10, s121_11, s121_12, s121_14, s121_16, s121_17, s121_20, s121_23, s121_24, s121_25, s121_27, q121_28, s121_31, s121_34, s121_35, s121_36, s121_37, s121_39, q121_40, s121_43, s121_46, q121_47, s121_53, s121_54, xIL_1, xIS_1, xQL_2, xQL_3, xAN_1, xAN_2, xAN_3, xCP_1, xC_s, xNC_I, ji_oI1, ji_oIm, kd_sC, gR_sC, gL_sC, ji_rv_s, ji_tl_s, ji_tl_n, ji_s1, ji_s2, ji_kl, List.getD_cons_zero, List.getD_cons_succ, List.set_cons_zero, List.set_cons_succ, List.length_cons, List.length_nil, ji_b_0, ji_b_1, ji_n0, ji_n1, ji_rcb_iff, ji_ok8_0, ji_ok8_1, ji_ok8_2, ji_ok8_3, ji_ok8_4, kd_sI, kd_sL, kd_sR, kd_cp, gR_sI, gR_sL, gR_cp, gL_sI, gL_sR, gL_cp, gI_sL, gI_sR, gI_sI, gL_sL, Nat.reduceEqDiff, false_and, and_false, true_and, and_true, Nat.reduceAdd, Nat.reduceLT, Nat.reduceSub, Int32.reduceLT, Int32.reduceAdd, not_false_eq_true, not_true_eq_false, and_self, ji_b_n, if_true, if_false, ↓reduceIte, cz_m100, cz_m19, cz_m18, cz_m17, cz_m16, cz_m15, cz_m14, cz_m13, cz_m12, cz_m11, cz_m4, cz_m3, cz_m2, cz_m1, cz_1, cz_2, cz_3, cz_4, cz_5, cz_6, cz_7, cz_8, cz_9, cz_10, cz_11, cz_12, cz_13, cz_14, cz_15, cz_16, cz_20, cz_24, cz_30, cz_32, cz_33, cz_38, cz_40, cz_41, cz_42, cz_43, cz_45, cz_48, cz_57, cz_59, cz_60, cz_61, cz_63, cz_64, cz_72, cz_96, cz_97, cz_99, cz_100, cz_122, cz_124, cz_126, cz_160, cz_161, cz_168, cz_200, cz_255, cz_300, cz_960, cz_999, cz_1000, cz_1001, cz_1002, cz_1003, cz_1120, cz_2000, cz_2003, cz_2004, cz_2005, cz_3999, cz_9999, cz_14640, xk_54 hX, h54, g']
  | succ m ih =>
    intro g w hg hw
    have g' : Int32.ofNat g < ji_gI N 0 51 := by rw [vi_lt, vi_nn (by omega)]; omega
    have p1 := jx_o1p (k := g) (by omega)
    have p2 : (Int32.ofInt 1) = 1 := rfl
    have C := fun d => m122 (d := d) R A (by omega) (g := g) (by omega) hs
    by_cases q : jj_can (jj_ag N) l g s
    · rw [ji_b_T q] at C
      obtain ⟨w1, e1, D⟩ := m123 R A B (by omega) (g := g) (by omega) hs
      rw [ek] at e1
      have e2 : (if w < w1 then w1 else w).toInt = jj_mx (fun g => jj_can (jj_ag N) l g s) (fun g => jj_ag N l g + jj_mb (jj_K N) (jj_G N) (jj_ag N) k (s ||| 2 ^ g)) (jj_mb (jj_K N) (jj_G N) (jj_ag N) k s) (g + 1) := by
        rw [jj_mx_1 (p := fun g => jj_can (jj_ag N) l g s) (g := g) q, ← hw]
        show _ = max w.toInt (jj_ag N l g + jj_mb (jj_K N) (jj_G N) (jj_ag N) k (s ||| 2 ^ g))
        rw [← e1]
        by_cases h : w < w1
        · rw [if_pos h]
          rw [vi_lt] at h
          omega
        · rw [if_neg h]
          rw [vi_lt] at h
          omega
      have n1 : ¬ (1 : Int32) = 0 := by decide
      have e3 : (if w1 < w then w else w1) = if w < w1 then w1 else w := by
        by_cases h : w < w1
        · rw [if_pos h, if_neg (by rw [vi_lt] at h ⊢; omega)]
        · rw [if_neg h]
          by_cases h2 : w1 < w
          · rw [if_pos h2]
          · rw [if_neg h2, vi_eq]
            rw [vi_lt] at h h2
            omega
      obtain ⟨w', h1, E⟩ := ih (g + 1) _ (by omega) e2
      refine ⟨w', h1, fun d => ?_⟩
      have E := E d
      simp only [s121_0, s121_1, s121_4, s121_5, s121_6, q121_7, s121_8, q121_9, s121_10, s121_11, s121_12, s121_14, s121_16, s121_17, s121_20, s121_23, s121_24, s121_25, s121_27, q121_28, s121_31, s121_34, s121_35, s121_36, s121_37, s121_39, q121_40, s121_43, s121_46, q121_47, s121_53, s121_54, xIL_1, xIS_1, xQL_2, xQL_3, xAN_1, xAN_2, xAN_3, xCP_1, xC_s, xNC_I, ji_oI1, ji_oIm, kd_sC, gR_sC, gL_sC, ji_rv_s, ji_tl_s, ji_tl_n, ji_s1, ji_s2, ji_kl, List.getD_cons_zero, List.getD_cons_succ, List.set_cons_zero, List.set_cons_succ, List.length_cons, List.length_nil, ji_b_0, ji_b_1, ji_n0, ji_n1, ji_rcb_iff, ji_ok8_0, ji_ok8_1, ji_ok8_2, ji_ok8_3, ji_ok8_4, kd_sI, kd_sL, kd_sR, kd_cp, gR_sI, gR_sL, gR_cp, gL_sI, gL_sR, gL_cp, gI_sL, gI_sR, gI_sI, gL_sL, Nat.reduceEqDiff, false_and, and_false, true_and, and_true, Nat.reduceAdd, Nat.reduceLT, Nat.reduceSub, Int32.reduceLT, Int32.reduceAdd, not_false_eq_true, not_true_eq_false, and_self, ji_b_n, if_true, if_false, ↓reduceIte, cz_m100, cz_m19, cz_m18, cz_m17, cz_m16, cz_m15, cz_m14, cz_m13, cz_m12, cz_m11, cz_m4, cz_m3, cz_m2, cz_m1, cz_1, cz_2, cz_3, cz_4, cz_5, cz_6, cz_7, cz_8, cz_9, cz_10, cz_11, cz_12, cz_13, cz_14, cz_15, cz_16, cz_20, cz_24, cz_30, cz_32, cz_33, cz_38, cz_40, cz_41, cz_42, cz_43, cz_45, cz_48, cz_57, cz_59, cz_60, cz_61, cz_63, cz_64, cz_72, cz_96, cz_97, cz_99, cz_100, cz_122, cz_124, cz_126, cz_160, cz_161, cz_168, cz_200, cz_255, cz_300, cz_960, cz_999, cz_1000, cz_1001, cz_1002, cz_1003, cz_1120, cz_2000, cz_2003, cz_2004, cz_2005, cz_3999, cz_9999, cz_14640, xk_54 hX, h54, g', C, D, n1, p1, p2, e3]
      simp only [s121_50]
      exact E
    · rw [ji_b_F q] at C
      obtain ⟨w', h1, E⟩ := ih (g + 1) w (by omega) (by rw [jj_mx_0 (p := fun g => jj_can (jj_ag N) l g s) (g := g) q]; exact hw)
      refine ⟨w', h1, fun d => ?_⟩
      have E := E d
      simp only [s121_0, s121_1, s121_4, s121_5, s121_6, q121_7, s121_8, q121_9, s121_10, s121_11, s121_12, s121_14, s121_16, s121_17, s121_20, s121_23, s121_24, s121_25, s121_27, q121_28, s121_31, s121_34, s121_35, s121_36, s121_37, s121_39, q121_40, s121_43, s121_46, q121_47, s121_53, s121_54, xIL_1, xIS_1, xQL_2, xQL_3, xAN_1, xAN_2, xAN_3, xCP_1, xC_s, xNC_I, ji_oI1, ji_oIm, kd_sC, gR_sC, gL_sC, ji_rv_s, ji_tl_s, ji_tl_n, ji_s1, ji_s2, ji_kl, List.getD_cons_zero, List.getD_cons_succ, List.set_cons_zero, List.set_cons_succ, List.length_cons, List.length_nil, ji_b_0, ji_b_1, ji_n0, ji_n1, ji_rcb_iff, ji_ok8_0, ji_ok8_1, ji_ok8_2, ji_ok8_3, ji_ok8_4, kd_sI, kd_sL, kd_sR, kd_cp, gR_sI, gR_sL, gR_cp, gL_sI, gL_sR, gL_cp, gI_sL, gI_sR, gI_sI, gL_sL, Nat.reduceEqDiff, false_and, and_false, true_and, and_true, Nat.reduceAdd, Nat.reduceLT, Nat.reduceSub, Int32.reduceLT, Int32.reduceAdd, not_false_eq_true, not_true_eq_false, and_self, ji_b_n, if_true, if_false, ↓reduceIte, cz_m100, cz_m19, cz_m18, cz_m17, cz_m16, cz_m15, cz_m14, cz_m13, cz_m12, cz_m11, cz_m4, cz_m3, cz_m2, cz_m1, cz_1, cz_2, cz_3, cz_4, cz_5, cz_6, cz_7, cz_8, cz_9, cz_10, cz_11, cz_12, cz_13, cz_14, cz_15, cz_16, cz_20, cz_24, cz_30, cz_32, cz_33, cz_38, cz_40, cz_41, cz_42, cz_43, cz_45, cz_48, cz_57, cz_59, cz_60, cz_61, cz_63, cz_64, cz_72, cz_96, cz_97, cz_99, cz_100, cz_122, cz_124, cz_126, cz_160, cz_161, cz_168, cz_200, cz_255, cz_300, cz_960, cz_999, cz_1000, cz_1001, cz_1002, cz_1003, cz_1120, cz_2000, cz_2003, cz_2004, cz_2005, cz_3999, cz_9999, cz_14640, xk_54 hX, h54, g', C, p1, p2]
      simp only [s121_50]
      exact E
theorem m121 (R : ji_Rel P X N) (h54 : ji_gI X 54 2 = ji_gI N 0 51) (A : jj_AG X N l) (B : jj_MB X N (l + 1)) (hl : l < jj_K N) (hs : s < 64) : ∃ w : Int32, w.toInt = jj_mb (jj_K N) (jj_G N) (jj_ag N) (jj_K N - l) s ∧ ∀ d, ji_CL (d + 2) 121 [.ref 54, .int (Int32.ofNat l), .int (Int32.ofNat s)] X = some (some (.int w), X) := by
  have hX := R.xf
  have Kb := jj_Kb R
  obtain ⟨k, hk⟩ : ∃ k, l + (k + 1) = jj_K N := ⟨jj_K N - (l + 1), by omega⟩
  have ek : jj_K N - (l + 1) = k := by omega
  have ek2 : jj_K N - l = k + 1 := by omega
  have ek3 : jj_K N - (k + 1) = l := by omega
  have r6 := jj_r62 (l := l + 1) hX (by omega)
  obtain ⟨j1, j2, j3⟩ := jy_ix (Y := l + 1) (m := 7) (by omega) (by omega)
  obtain ⟨q1, q2, q3⟩ := jy_ix (Y := s) (m := 64) hs (by omega)
  have p1 := jx_o1p (k := l) (by omega)
  have eb := B s hs
  rw [ek] at eb
  obtain ⟨w', h1, E⟩ := m121L R h54 A B hk hs (jj_G N) 0 _ (by omega) eb
  refine ⟨w', ?_, fun d => ?_⟩
  · rw [h1, ek2]
    have em : jj_mb (jj_K N) (jj_G N) (jj_ag N) (k + 1) s = jj_mx (fun g => jj_can (jj_ag N) (jj_K N - (k + 1)) g s) (fun g => jj_ag N (jj_K N - (k + 1)) g + jj_mb (jj_K N) (jj_G N) (jj_ag N) k (s ||| 2 ^ g)) (jj_mb (jj_K N) (jj_G N) (jj_ag N) k s) (jj_G N) := rfl
    rw [em, ek3]
  · have E : ji_Ev (ji_CL (d + 1)) 121 14 X [some (.ref 54), some (.int (Int32.ofNat l)), some (.int (Int32.ofNat s)), some (.int (ji_gI X (63 + (l + 1)) s)), some (.int 0)] [] _ := E d
    apply en_121
    simp only [s121_0, s121_1, s121_4, s121_5, s121_6, q121_7, s121_8, q121_9, s121_10, s121_11, s121_12, s121_16, s121_17, s121_20, s121_23, s121_24, s121_25, s121_27, q121_28, s121_31, s121_34, s121_35, s121_36, s121_37, s121_39, q121_40, s121_43, s121_46, q121_47, s121_53, s121_54, xIL_1, xIS_1, xQL_2, xQL_3, xAN_1, xAN_2, xAN_3, xCP_1, xC_s, xNC_I, ji_oI1, ji_oIm, kd_sC, gR_sC, gL_sC, ji_rv_s, ji_tl_s, ji_tl_n, ji_s1, ji_s2, ji_kl, List.getD_cons_zero, List.getD_cons_succ, List.set_cons_zero, List.set_cons_succ, List.length_cons, List.length_nil, ji_b_0, ji_b_1, ji_n0, ji_n1, ji_rcb_iff, ji_ok8_0, ji_ok8_1, ji_ok8_2, ji_ok8_3, ji_ok8_4, kd_sI, kd_sL, kd_sR, kd_cp, gR_sI, gR_sL, gR_cp, gL_sI, gL_sR, gL_cp, gI_sL, gI_sR, gI_sI, gL_sL, Nat.reduceEqDiff, false_and, and_false, true_and, and_true, Nat.reduceAdd, Nat.reduceLT, Nat.reduceSub, Int32.reduceLT, Int32.reduceAdd, not_false_eq_true, not_true_eq_false, and_self, ji_b_n, if_true, if_false, ↓reduceIte, cz_m100, cz_m19, cz_m18, cz_m17, cz_m16, cz_m15, cz_m14, cz_m13, cz_m12, cz_m11, cz_m4, cz_m3, cz_m2, cz_m1, cz_1, cz_2, cz_3, cz_4, cz_5, cz_6, cz_7, cz_8, cz_9, cz_10, cz_11, cz_12, cz_13, cz_14, cz_15, cz_16, cz_20, cz_24, cz_30, cz_32, cz_33, cz_38, cz_40, cz_41, cz_42, cz_43, cz_45, cz_48, cz_57, cz_59, cz_60, cz_61, cz_63, cz_64, cz_72, cz_96, cz_97, cz_99, cz_100, cz_122, cz_124, cz_126, cz_160, cz_161, cz_168, cz_200, cz_255, cz_300, cz_960, cz_999, cz_1000, cz_1001, cz_1002, cz_1003, cz_1120, cz_2000, cz_2003, cz_2004, cz_2005, cz_3999, cz_9999, cz_14640, xk_54 hX, xr_54_1 hX, xk_62 hX, p1, j2, j3, r6.1, r6.2, q2, q3]
    exact E
end JIV
