/-! ===== a part in the model; says ===== -/
/-- what the model holds of rule ρ -/
def jx_hm (N : ji_M) (ρ : Nat) (σ : List Int32 × List Int32 × List Int32) : Prop := (ρ = 0 → σ = ji_s00) ∧ (ρ ≠ 0 → ji_bt (ji_gI N 11 ρ) 0 160 ∧ jx_P ((List.range (ji_gI N 11 ρ).toInt.toNat).map fun k => ji_gI N 10 (160 * ρ + k)) = some σ)
section JIV
variable {X Y N M : ji_M} {P : ji_P} {x y z v k : Int32} {f g sf t : ji_F} {d a b r c m s p n i j sc ec q l en ρ : Nat} {o : Option Value × ji_M} {F : Int32 → Int32} {σ : List Int32 × List Int32 × List Int32}
theorem jx_f6 {mo ink pa wo age si : Int32} {f : ji_F} (h0 : f 0 = mo) (h1 : f 1 = ink) (h2 : f 2 = pa) (h3 : f 3 = wo) (h4 : f 4 = age) (h5 : f 5 = si) : ∀ x : Int32, 0 ≤ x.toInt → x.toInt ≤ 5 → jx_fx mo ink pa wo age si x = f x.toInt.toNat := by
  intro x a b
  have e : ∀ k : Nat, k ≤ 5 → x.toInt = k → x = Int32.ofNat k := fun k hk q => by rw [vi_eq, vi_nn (by omega)]; exact q
  have hc : x.toInt = 0 ∨ x.toInt = 1 ∨ x.toInt = 2 ∨ x.toInt = 3 ∨ x.toInt = 4 ∨ x.toInt = 5 := by omega
  rcases hc with q | q | q | q | q | q
  · rw [q, e 0 (by omega) q]; exact h0.symm
  · rw [q, e 1 (by omega) q]; exact h1.symm
  · rw [q, e 2 (by omega) q]; exact h2.symm
  · rw [q, e 3 (by omega) q]; exact h3.symm
  · rw [q, e 4 (by omega) q]; exact h4.symm
  · rw [q, e 5 (by omega) q]; exact h5.symm
theorem m171 (hM : ji_MF N) (hρ : ρ ≤ 5) (hb : b < 24) (H : jx_hm N ρ σ) (hp : p ≤ 2) : ∃ N', jx_oN N N' ∧ ∀ d, ji_CL (d + 7) 171 [.ref 0, .int (Int32.ofNat ρ), .int (Int32.ofNat b), .int (Int32.ofNat p)] N = some (some (.int (jx_v (jx_fN N b) (jx_pt σ p))), N') := by
  have eρ := vi_nn (n := ρ) (by omega)
  have eb := vi_nn (n := b) (by omega)
  have ep := vi_nn (n := p) (by omega)
  have zb : vp_in (Int32.ofNat b) 24 := vi_in.mpr ⟨by omega, by omega⟩
  have zb2 : (Int32.ofNat b).toNatClampNeg = b := by rw [vi_nat, eb]; exact Int.toNat_natCast _
  by_cases h0 : ρ = 0
  · subst h0
    have hσ := H.1 rfl
    subst hσ
    refine ⟨N, jx_oN_r, fun d => ?_⟩
    show ji_CL (d + 7) 171 [.ref 0, .int 0, .int (Int32.ofNat b), .int (Int32.ofNat p)] N = _
    have hp3 : p = 0 ∨ p = 1 ∨ p = 2 := by omega
    have n10 : ¬ (1 : Int32) = 0 := by decide
    have n20 : ¬ (2 : Int32) = 0 := by decide
    have n21 : ¬ (2 : Int32) = 1 := by decide
    rcases hp3 with rfl | rfl | rfl
    · have e : jx_v (jx_fN N b) (jx_pt ji_s00 0) = ji_gI N 5 b + ji_gI N 4 b := rfl
      rw [e]
      show ji_CL (d + 7) 171 [.ref 0, .int 0, .int (Int32.ofNat b), .int 0] N = _
      apply en_171
      simp only [s171_0, s171_1, s171_4, s171_5, s171_8, s171_9, s171_12, q171_13, s171_14, s171_15, s171_18, q171_19, s171_20, s171_21, s171_24, s171_25, s171_26, s171_29, s171_30, s171_33, q171_34, s171_35, s171_36, s171_39, s171_40, s171_43, s171_44, s171_47, s171_48, s171_51, q171_52, s171_53, s171_54, s171_55, s171_58, s171_59, s171_60, s171_63, q171_64, q171_65, s171_66, s171_67, s171_70, s171_71, s171_72, s171_75, q171_76, q171_77, s171_78, s171_79, s171_82, s171_83, s171_84, s171_87, q171_88, q171_89, s171_90, s171_91, s171_94, s171_95, s171_96, s171_99, q171_100, q171_101, s171_102, s171_103, s171_106, s171_107, s171_108, s171_111, s171_112, s171_115, q171_116, s171_117, q171_118, s171_119, s171_120, s171_123, s171_124, s171_125, s171_128, q171_129, q171_130, s171_131, s171_132, q171_133, s171_136, s171_139, s171_140, s171_143, q171_144, s171_145, s171_148, s171_149, xIL_1, xIS_1, xQL_2, xQL_3, xAN_1, xAN_2, xAN_3, xCP_1, xC_s, xNC_I, ji_oI1, ji_oIm, kd_sC, gR_sC, gL_sC, ji_rv_s, ji_tl_s, ji_tl_n, ji_s1, ji_s2, ji_kl, List.getD_cons_zero, List.getD_cons_succ, List.set_cons_zero, List.set_cons_succ, List.length_cons, List.length_nil, ji_b_0, ji_b_1, ji_n0, ji_n1, ji_rcb_iff, ji_ok8_0, ji_ok8_1, ji_ok8_2, ji_ok8_3, ji_ok8_4, kd_sI, kd_sL, kd_sR, kd_cp, gR_sI, gR_sL, gR_cp, gL_sI, gL_sR, gL_cp, gI_sL, gI_sR, gI_sI, gL_sL, Nat.reduceEqDiff, false_and, and_false, true_and, and_true, Nat.reduceAdd, Nat.reduceLT, Nat.reduceSub, Int32.reduceLT, Int32.reduceAdd, not_false_eq_true, not_true_eq_false, and_self, ji_b_n, if_true, if_false, ↓reduceIte, cz_m100, cz_m19, cz_m18, cz_m17, cz_m16, cz_m15, cz_m14, cz_m13, cz_m12, cz_m11, cz_m4, cz_m3, cz_m2, cz_m1, cz_1, cz_2, cz_3, cz_4, cz_5, cz_6, cz_7, cz_8, cz_9, cz_10, cz_11, cz_12, cz_13, cz_14, cz_15, cz_16, cz_20, cz_24, cz_30, cz_32, cz_33, cz_38, cz_40, cz_41, cz_42, cz_43, cz_45, cz_48, cz_57, cz_59, cz_60, cz_61, cz_63, cz_64, cz_72, cz_96, cz_97, cz_99, cz_100, cz_122, cz_124, cz_126, cz_160, cz_161, cz_168, cz_200, cz_255, cz_300, cz_960, cz_999, cz_1000, cz_1001, cz_1002, cz_1003, cz_1120, cz_2000, cz_2003, cz_2004, cz_2005, cz_3999, cz_9999, cz_14640, mk_0 hM, mk_5 hM, mk_4 hM, mr_10 hM, mr_9 hM, zb, zb2]
    · have e : jx_v (jx_fN N b) (jx_pt ji_s00 1) = if ji_gI N 2 b < 2 then 1 else 0 := rfl
      rw [e]
      show ji_CL (d + 7) 171 [.ref 0, .int 0, .int (Int32.ofNat b), .int 1] N = _
      apply en_171
      by_cases g : ji_gI N 2 b < 2
      · rw [if_pos g]
        simp only [s171_0, s171_1, s171_4, s171_5, s171_8, s171_9, s171_12, q171_13, s171_14, s171_15, s171_18, q171_19, s171_20, s171_21, s171_24, s171_25, s171_26, s171_29, s171_30, s171_33, q171_34, s171_35, s171_36, s171_39, s171_40, s171_43, s171_44, s171_47, s171_48, s171_51, q171_52, s171_53, s171_54, s171_55, s171_58, s171_59, s171_60, s171_63, q171_64, q171_65, s171_66, s171_67, s171_70, s171_71, s171_72, s171_75, q171_76, q171_77, s171_78, s171_79, s171_82, s171_83, s171_84, s171_87, q171_88, q171_89, s171_90, s171_91, s171_94, s171_95, s171_96, s171_99, q171_100, q171_101, s171_102, s171_103, s171_106, s171_107, s171_108, s171_111, s171_112, s171_115, q171_116, s171_117, q171_118, s171_119, s171_120, s171_123, s171_124, s171_125, s171_128, q171_129, q171_130, s171_131, s171_132, q171_133, s171_136, s171_139, s171_140, s171_143, q171_144, s171_145, s171_148, s171_149, xIL_1, xIS_1, xQL_2, xQL_3, xAN_1, xAN_2, xAN_3, xCP_1, xC_s, xNC_I, ji_oI1, ji_oIm, kd_sC, gR_sC, gL_sC, ji_rv_s, ji_tl_s, ji_tl_n, ji_s1, ji_s2, ji_kl, List.getD_cons_zero, List.getD_cons_succ, List.set_cons_zero, List.set_cons_succ, List.length_cons, List.length_nil, ji_b_0, ji_b_1, ji_n0, ji_n1, ji_rcb_iff, ji_ok8_0, ji_ok8_1, ji_ok8_2, ji_ok8_3, ji_ok8_4, kd_sI, kd_sL, kd_sR, kd_cp, gR_sI, gR_sL, gR_cp, gL_sI, gL_sR, gL_cp, gI_sL, gI_sR, gI_sI, gL_sL, Nat.reduceEqDiff, false_and, and_false, true_and, and_true, Nat.reduceAdd, Nat.reduceLT, Nat.reduceSub, Int32.reduceLT, Int32.reduceAdd, not_false_eq_true, not_true_eq_false, and_self, ji_b_n, if_true, if_false, ↓reduceIte, cz_m100, cz_m19, cz_m18, cz_m17, cz_m16, cz_m15, cz_m14, cz_m13, cz_m12, cz_m11, cz_m4, cz_m3, cz_m2, cz_m1, cz_1, cz_2, cz_3, cz_4, cz_5, cz_6, cz_7, cz_8, cz_9, cz_10, cz_11, cz_12, cz_13, cz_14, cz_15, cz_16, cz_20, cz_24, cz_30, cz_32, cz_33, cz_38, cz_40, cz_41, cz_42, cz_43, cz_45, cz_48, cz_57, cz_59, cz_60, cz_61, cz_63, cz_64, cz_72, cz_96, cz_97, cz_99, cz_100, cz_122, cz_124, cz_126, cz_160, cz_161, cz_168, cz_200, cz_255, cz_300, cz_960, cz_999, cz_1000, cz_1001, cz_1002, cz_1003, cz_1120, cz_2000, cz_2003, cz_2004, cz_2005, cz_3999, cz_9999, cz_14640, mk_0 hM, mk_2 hM, mr_7 hM, zb, zb2, n10, g]
      · rw [if_neg g]
        simp only [s171_0, s171_1, s171_4, s171_5, s171_8, s171_9, s171_12, q171_13, s171_14, s171_15, s171_18, q171_19, s171_20, s171_21, s171_24, s171_25, s171_26, s171_29, s171_30, s171_33, q171_34, s171_35, s171_36, s171_39, s171_40, s171_43, s171_44, s171_47, s171_48, s171_51, q171_52, s171_53, s171_54, s171_55, s171_58, s171_59, s171_60, s171_63, q171_64, q171_65, s171_66, s171_67, s171_70, s171_71, s171_72, s171_75, q171_76, q171_77, s171_78, s171_79, s171_82, s171_83, s171_84, s171_87, q171_88, q171_89, s171_90, s171_91, s171_94, s171_95, s171_96, s171_99, q171_100, q171_101, s171_102, s171_103, s171_106, s171_107, s171_108, s171_111, s171_112, s171_115, q171_116, s171_117, q171_118, s171_119, s171_120, s171_123, s171_124, s171_125, s171_128, q171_129, q171_130, s171_131, s171_132, q171_133, s171_136, s171_139, s171_140, s171_143, q171_144, s171_145, s171_148, s171_149, xIL_1, xIS_1, xQL_2, xQL_3, xAN_1, xAN_2, xAN_3, xCP_1, xC_s, xNC_I, ji_oI1, ji_oIm, kd_sC, gR_sC, gL_sC, ji_rv_s, ji_tl_s, ji_tl_n, ji_s1, ji_s2, ji_kl, List.getD_cons_zero, List.getD_cons_succ, List.set_cons_zero, List.set_cons_succ, List.length_cons, List.length_nil, ji_b_0, ji_b_1, ji_n0, ji_n1, ji_rcb_iff, ji_ok8_0, ji_ok8_1, ji_ok8_2, ji_ok8_3, ji_ok8_4, kd_sI, kd_sL, kd_sR, kd_cp, gR_sI, gR_sL, gR_cp, gL_sI, gL_sR, gL_cp, gI_sL, gI_sR, gI_sI, gL_sL, Nat.reduceEqDiff, false_and, and_false, true_and, and_true, Nat.reduceAdd, Nat.reduceLT, Nat.reduceSub, Int32.reduceLT, Int32.reduceAdd, not_false_eq_true, not_true_eq_false, and_self, ji_b_n, if_true, if_false, ↓reduceIte, cz_m100, cz_m19, cz_m18, cz_m17, cz_m16, cz_m15, cz_m14, cz_m13, cz_m12, cz_m11, cz_m4, cz_m3, cz_m2, cz_m1, cz_1, cz_2, cz_3, cz_4, cz_5, cz_6, cz_7, cz_8, cz_9, cz_10, cz_11, cz_12, cz_13, cz_14, cz_15, cz_16, cz_20, cz_24, cz_30, cz_32, cz_33, cz_38, cz_40, cz_41, cz_42, cz_43, cz_45, cz_48, cz_57, cz_59, cz_60, cz_61, cz_63, cz_64, cz_72, cz_96, cz_97, cz_99, cz_100, cz_122, cz_124, cz_126, cz_160, cz_161, cz_168, cz_200, cz_255, cz_300, cz_960, cz_999, cz_1000, cz_1001, cz_1002, cz_1003, cz_1120, cz_2000, cz_2003, cz_2004, cz_2005, cz_3999, cz_9999, cz_14640, mk_0 hM, mk_2 hM, mr_7 hM, zb, zb2, n10, g]
    · have e : jx_v (jx_fN N b) (jx_pt ji_s00 2) = ji_gI N 4 b := rfl
      rw [e]
      show ji_CL (d + 7) 171 [.ref 0, .int 0, .int (Int32.ofNat b), .int 2] N = _
      apply en_171
      simp only [s171_0, s171_1, s171_4, s171_5, s171_8, s171_9, s171_12, q171_13, s171_14, s171_15, s171_18, q171_19, s171_20, s171_21, s171_24, s171_25, s171_26, s171_29, s171_30, s171_33, q171_34, s171_35, s171_36, s171_39, s171_40, s171_43, s171_44, s171_47, s171_48, s171_51, q171_52, s171_53, s171_54, s171_55, s171_58, s171_59, s171_60, s171_63, q171_64, q171_65, s171_66, s171_67, s171_70, s171_71, s171_72, s171_75, q171_76, q171_77, s171_78, s171_79, s171_82, s171_83, s171_84, s171_87, q171_88, q171_89, s171_90, s171_91, s171_94, s171_95, s171_96, s171_99, q171_100, q171_101, s171_102, s171_103, s171_106, s171_107, s171_108, s171_111, s171_112, s171_115, q171_116, s171_117, q171_118, s171_119, s171_120, s171_123, s171_124, s171_125, s171_128, q171_129, q171_130, s171_131, s171_132, q171_133, s171_136, s171_139, s171_140, s171_143, q171_144, s171_145, s171_148, s171_149, xIL_1, xIS_1, xQL_2, xQL_3, xAN_1, xAN_2, xAN_3, xCP_1, xC_s, xNC_I, ji_oI1, ji_oIm, kd_sC, gR_sC, gL_sC, ji_rv_s, ji_tl_s, ji_tl_n, ji_s1, ji_s2, ji_kl, List.getD_cons_zero, List.getD_cons_succ, List.set_cons_zero, List.set_cons_succ, List.length_cons, List.length_nil, ji_b_0, ji_b_1, ji_n0, ji_n1, ji_rcb_iff, ji_ok8_0, ji_ok8_1, ji_ok8_2, ji_ok8_3, ji_ok8_4, kd_sI, kd_sL, kd_sR, kd_cp, gR_sI, gR_sL, gR_cp, gL_sI, gL_sR, gL_cp, gI_sL, gI_sR, gI_sI, gL_sL, Nat.reduceEqDiff, false_and, and_false, true_and, and_true, Nat.reduceAdd, Nat.reduceLT, Nat.reduceSub, Int32.reduceLT, Int32.reduceAdd, not_false_eq_true, not_true_eq_false, and_self, ji_b_n, if_true, if_false, ↓reduceIte, cz_m100, cz_m19, cz_m18, cz_m17, cz_m16, cz_m15, cz_m14, cz_m13, cz_m12, cz_m11, cz_m4, cz_m3, cz_m2, cz_m1, cz_1, cz_2, cz_3, cz_4, cz_5, cz_6, cz_7, cz_8, cz_9, cz_10, cz_11, cz_12, cz_13, cz_14, cz_15, cz_16, cz_20, cz_24, cz_30, cz_32, cz_33, cz_38, cz_40, cz_41, cz_42, cz_43, cz_45, cz_48, cz_57, cz_59, cz_60, cz_61, cz_63, cz_64, cz_72, cz_96, cz_97, cz_99, cz_100, cz_122, cz_124, cz_126, cz_160, cz_161, cz_168, cz_200, cz_255, cz_300, cz_960, cz_999, cz_1000, cz_1001, cz_1002, cz_1003, cz_1120, cz_2000, cz_2003, cz_2004, cz_2005, cz_3999, cz_9999, cz_14640, mk_0 hM, mk_4 hM, mr_9 hM, zb, zb2, n20, n21]
  obtain ⟨l1, hP⟩ := H.2 h0
  obtain ⟨n, hn, hn2⟩ : ∃ n : Nat, ji_gI N 11 ρ = Int32.ofNat n ∧ n ≤ 160 := by
    obtain ⟨a1, a2⟩ := l1
    exact ⟨(ji_gI N 11 ρ).toInt.toNat, by rw [vi_eq, vi_nn (by omega)]; omega, by omega⟩
  have en := vi_nn (n := n) (by omega)
  rw [hn, en] at hP
  have tb0 : ∀ c ∈ ((List.range ((n : Int)).toNat).map fun j => ji_gI N 10 (160 * ρ + j)), -128 ≤ c.toInt ∧ c.toInt ≤ 127 := by
    by_cases q : ∀ c ∈ ((List.range ((n : Int)).toNat).map fun j => ji_gI N 10 (160 * ρ + j)), -128 ≤ c.toInt ∧ c.toInt ≤ 127
    · exact q
    · unfold jx_P at hP
      rw [if_neg q] at hP
      cases hP
  have tb : ∀ j : Nat, (j : Int) < (n : Int) → ji_bt (ji_gI N 10 (160 * ρ + j)) (-128) 127 := fun j hj => tb0 _ (List.mem_map.mpr ⟨j, List.mem_range.mpr (by omega), rfl⟩)
  obtain ⟨M, hMM⟩ : ∃ M, ji_sI (ji_sI (ji_sI (ji_sI (ji_sI (ji_sI N 14 0 (ji_gI N 5 b)) 14 1 (ji_gI N 2 b)) 14 2 (ji_gI N 1 b)) 14 3 (ji_gI N 4 b)) 14 4 (ji_gI N 0 0 - ji_gI N 8 b)) 14 5 (ji_gI N 3 b) = M := ⟨_, rfl⟩
  have oM : jx_oN N M := by
    rw [← hMM]
    exact jx_oN_sI (jx_oN_sI (jx_oN_sI (jx_oN_sI (jx_oN_sI (jx_oN_sI jx_oN_r rfl) rfl) rfl) rfl) rfl) rfl
  have mM := jx_oN_MF oM hM
  have F14 : ∀ j, ji_gI M 14 j = if j = 5 then ji_gI N 3 b else if j = 4 then ji_gI N 0 0 - ji_gI N 8 b else if j = 3 then ji_gI N 4 b else if j = 2 then ji_gI N 1 b else if j = 1 then ji_gI N 2 b else if j = 0 then ji_gI N 5 b else ji_gI N 14 j := by
    intro j
    rw [← hMM, gF_sIe, gF_sIe, gF_sIe, gF_sIe, gF_sIe, gF_sIe]
    rfl
  have hF := jx_f6 (f := ji_gI M 14) (F14 0) (F14 1) (F14 2) (F14 3) (F14 4) (F14 5)
  have M10 : ji_gI M 10 = ji_gI N 10 := jx_oN_F oM (fun _ => rfl)
  have M11 : ji_gI M 11 = ji_gI N 11 := jx_oN_F oM (fun _ => rfl)
  obtain ⟨G1, G2⟩ := m172 (i := ρ) (n := n) (t := fun j => ji_gI N 10 (160 * ρ + j)) (F := jx_fN N b) mM (by omega) (by rw [M11]; exact hn) hn2 (fun j hj => ⟨by rw [M10], tb j (by omega)⟩) hF
  have len : ((List.range ((n : Int)).toNat).map fun j => ji_gI N 10 (160 * ρ + j)).length = n := by simp
  have cg : jx_rd (fun j => ((List.range ((n : Int)).toNat).map fun j => ji_gI N 10 (160 * ρ + j)).getD j 0) n = jx_rd (fun j => ji_gI N 10 (160 * ρ + j)) n := by
    apply jx_rd_cg
    intro j hj
    rw [List.getD_eq_getElem?_getD, List.getElem?_map, List.getElem?_range (by omega)]
    rfl
  have hrd : jx_rd (fun j => ji_gI N 10 (160 * ρ + j)) n = .inl σ := by
    unfold jx_P at hP
    rw [if_pos tb0, len, cg] at hP
    cases h : jx_rd (fun j => ji_gI N 10 (160 * ρ + j)) n with
    | inl s => rw [h] at hP; cases hP; rfl
    | inr q => rw [h] at hP; cases hP
  obtain ⟨sa, sb, sd⟩ := σ
  obtain ⟨M', o1, w1, w2, w3, C⟩ := G1 sa sb sd hrd
  refine ⟨M', jx_oN_t oM o1, fun d => ?_⟩
  have C := C d
  have mM' := jx_oN_MF o1 mM
  have nρ : ¬ Int32.ofNat ρ = 0 := by rw [vi_eq]; have : (0 : Int32).toInt = 0 := rfl; omega
  have n10 : ¬ (1 : Int32) = 0 := by decide
  have zp : vp_in (Int32.ofNat p) 3 := vi_in.mpr ⟨by omega, by omega⟩
  have zp2 : (Int32.ofNat p).toNatClampNeg = p := by rw [vi_nat, ep]; exact Int.toNat_natCast _
  have W : ji_gI M' 15 p = jx_v (jx_fN N b) (jx_pt (sa, sb, sd) p) := by
    have hp3 : p = 0 ∨ p = 1 ∨ p = 2 := by omega
    rcases hp3 with rfl | rfl | rfl
    · exact (jx_v_w w1).symm
    · exact (jx_v_w w2).symm
    · exact (jx_v_w w3).symm
  have y0 : vp_in (0 : Int32) 6 := vi_in.mpr ⟨by decide, by decide⟩
  have y1 : vp_in (1 : Int32) 6 := vi_in.mpr ⟨by decide, by decide⟩
  have y2 : vp_in (2 : Int32) 6 := vi_in.mpr ⟨by decide, by decide⟩
  have y3 : vp_in (3 : Int32) 6 := vi_in.mpr ⟨by decide, by decide⟩
  have y4 : vp_in (4 : Int32) 6 := vi_in.mpr ⟨by decide, by decide⟩
  have y5 : vp_in (5 : Int32) 6 := vi_in.mpr ⟨by decide, by decide⟩
  have t0 : (0 : Int32).toNatClampNeg = 0 := rfl
  have t1 : (1 : Int32).toNatClampNeg = 1 := rfl
  have t2 : (2 : Int32).toNatClampNeg = 2 := rfl
  have t3 : (3 : Int32).toNatClampNeg = 3 := rfl
  have t4 : (4 : Int32).toNatClampNeg = 4 := rfl
  have t5 : (5 : Int32).toNatClampNeg = 5 := rfl
  have gn : ∀ (M : ji_M) (a k b : Nat) (v : Int32), a ≠ 14 → ji_gI (ji_sI M 14 k v) a b = ji_gI M a b := fun M a k b v h => congrFun (gF_sI h) b
  have g0 : ∀ (M : ji_M) (k b : Nat) (v : Int32), ji_gI (ji_sI M 14 k v) 0 b = ji_gI M 0 b := fun M k b v => gn M 0 k b v (by decide)
  have g1 : ∀ (M : ji_M) (k b : Nat) (v : Int32), ji_gI (ji_sI M 14 k v) 1 b = ji_gI M 1 b := fun M k b v => gn M 1 k b v (by decide)
  have g2 : ∀ (M : ji_M) (k b : Nat) (v : Int32), ji_gI (ji_sI M 14 k v) 2 b = ji_gI M 2 b := fun M k b v => gn M 2 k b v (by decide)
  have g3 : ∀ (M : ji_M) (k b : Nat) (v : Int32), ji_gI (ji_sI M 14 k v) 3 b = ji_gI M 3 b := fun M k b v => gn M 3 k b v (by decide)
  have g4 : ∀ (M : ji_M) (k b : Nat) (v : Int32), ji_gI (ji_sI M 14 k v) 4 b = ji_gI M 4 b := fun M k b v => gn M 4 k b v (by decide)
  have g8 : ∀ (M : ji_M) (k b : Nat) (v : Int32), ji_gI (ji_sI M 14 k v) 8 b = ji_gI M 8 b := fun M k b v => gn M 8 k b v (by decide)
  apply en_171
  simp only [s171_0, s171_1, s171_4, s171_5, s171_8, s171_9, s171_12, q171_13, s171_14, s171_15, s171_18, q171_19, s171_20, s171_21, s171_24, s171_25, s171_26, s171_29, s171_30, s171_33, q171_34, s171_35, s171_36, s171_39, s171_40, s171_43, s171_44, s171_47, s171_48, s171_51, q171_52, s171_53, s171_54, s171_55, s171_58, s171_59, s171_60, s171_63, q171_64, q171_65, s171_66, s171_67, s171_70, s171_71, s171_72, s171_75, q171_76, q171_77, s171_78, s171_79, s171_82, s171_83, s171_84, s171_87, q171_88, q171_89, s171_90, s171_91, s171_94, s171_95, s171_96, s171_99, q171_100, q171_101, s171_102, s171_103, s171_106, s171_107, s171_108, s171_111, s171_112, s171_115, q171_116, s171_117, q171_118, s171_119, s171_120, s171_123, s171_124, s171_125, s171_128, q171_129, q171_130, s171_131, s171_132, q171_133, s171_136, s171_139, s171_140, s171_143, q171_144, s171_145, s171_148, s171_149, xIL_1, xIS_1, xQL_2, xQL_3, xAN_1, xAN_2, xAN_3, xCP_1, xC_s, xNC_I, ji_oI1, ji_oIm, kd_sC, gR_sC, gL_sC, ji_rv_s, ji_tl_s, ji_tl_n, ji_s1, ji_s2, ji_kl, List.getD_cons_zero, List.getD_cons_succ, List.set_cons_zero, List.set_cons_succ, List.length_cons, List.length_nil, ji_b_0, ji_b_1, ji_n0, ji_n1, ji_rcb_iff, ji_ok8_0, ji_ok8_1, ji_ok8_2, ji_ok8_3, ji_ok8_4, kd_sI, kd_sL, kd_sR, kd_cp, gR_sI, gR_sL, gR_cp, gL_sI, gL_sR, gL_cp, gI_sL, gI_sR, gI_sI, gL_sL, Nat.reduceEqDiff, false_and, and_false, true_and, and_true, Nat.reduceAdd, Nat.reduceLT, Nat.reduceSub, Int32.reduceLT, Int32.reduceAdd, not_false_eq_true, not_true_eq_false, and_self, ji_b_n, if_true, if_false, ↓reduceIte, cz_m100, cz_m19, cz_m18, cz_m17, cz_m16, cz_m15, cz_m14, cz_m13, cz_m12, cz_m11, cz_m4, cz_m3, cz_m2, cz_m1, cz_1, cz_2, cz_3, cz_4, cz_5, cz_6, cz_7, cz_8, cz_9, cz_10, cz_11, cz_12, cz_13, cz_14, cz_15, cz_16, cz_20, cz_24, cz_30, cz_32, cz_33, cz_38, cz_40, cz_41, cz_42, cz_43, cz_45, cz_48, cz_57, cz_59, cz_60, cz_61, cz_63, cz_64, cz_72, cz_96, cz_97, cz_99, cz_100, cz_122, cz_124, cz_126, cz_160, cz_161, cz_168, cz_200, cz_255, cz_300, cz_960, cz_999, cz_1000, cz_1001, cz_1002, cz_1003, cz_1120, cz_2000, cz_2003, cz_2004, cz_2005, cz_3999, cz_9999, cz_14640, -gI_sI, g0, g1, g2, g3, g4, g8, mk_0 hM, mk_14 hM, mr_28 hM, mk_5 hM, mr_10 hM, mk_2 hM, mr_7 hM, mk_1 hM, mr_6 hM, mk_4 hM, mr_9 hM, mk_8 hM, mr_13 hM, mk_3 hM, mr_8 hM, zb, zb2, y0, y1, y2, y3, y4, y5, t0, t1, t2, t3, t4, t5, nρ, hMM, mk_0 mM, C, n10, mk_0 mM', mk_15 mM', mr_32 mM', zp, zp2, W]
theorem jx_rule (R : ji_Rel jx_P X N) : ∃ ρ σ, ρ ≤ 5 ∧ ji_gI X 4 7 = Int32.ofNat ρ ∧ ji_gI N 0 16 = Int32.ofNat ρ ∧ Int32.ofNat ρ < ji_gI X 4 6 ∧ jx_hl X ρ σ ∧ jx_hm N ρ σ := by
  have hX := R.xf
  obtain ⟨⟨t1, t2⟩, ⟨r1, r2, r3⟩, -, -, T⟩ := R.texts
  have t3 := t2.1
  have t4 := t2.2
  obtain ⟨ρ, hρ⟩ : ∃ ρ : Nat, (ji_gI N 0 16).toInt = ρ := ⟨(ji_gI N 0 16).toInt.toNat, by omega⟩
  have e : ji_gI N 0 16 = Int32.ofNat ρ := by rw [vi_eq, vi_nn (by omega)]; exact hρ
  have eρ := vi_nn (n := ρ) (by omega)
  obtain ⟨σ, a1, a2, a3⟩ := T ρ (by omega)
  refine ⟨ρ, σ, by omega, r1.trans e, e, by rw [vi_lt, t1, eρ]; omega, ?_, a2, a3⟩
  have KR : (ρ = 0 ∨ ρ = 1 ∨ ρ = 2 ∨ ρ = 3 ∨ ρ = 4 ∨ ρ = 5) := by omega
  rcases KR with rfl | rfl | rfl | rfl | rfl | rfl
  · exact ⟨xr_8_0 hX, xr_15_0 hX, xk_9 hX, xk_16 hX, a1⟩
  · exact ⟨xr_8_1 hX, xr_15_1 hX, xk_10 hX, xk_17 hX, a1⟩
  · exact ⟨xr_8_2 hX, xr_15_2 hX, xk_11 hX, xk_18 hX, a1⟩
  · exact ⟨xr_8_3 hX, xr_15_3 hX, xk_12 hX, xk_19 hX, a1⟩
  · exact ⟨xr_8_4 hX, xr_15_4 hX, xk_13 hX, xk_20 hX, a1⟩
  · exact ⟨xr_8_5 hX, xr_15_5 hX, xk_14 hX, xk_21 hX, a1⟩
/-- a part of a book, both -/
theorem jx_both (R : ji_Rel jx_P X N) (h : ji_in x 0 (ji_gI N 0 4 - 1)) (hp : p ≤ 2) : ∃ v f n N', jx_oN N N' ∧ (∀ d, ji_CL (d + 3) 74 [.ref 4, .ref 1, .int x, .int (Int32.ofNat p)] X = some (some (.int v), jx_XS X f n)) ∧ ∀ d, ji_CL (d + 7) 171 [.ref 0, .int (ji_gI N 0 16), .int x, .int (Int32.ofNat p)] N = some (some (.int v), N') := by
  have hX := R.xf
  have hN := R.mf
  obtain ⟨ρ, σ, h5, q1, q2, q3, q4, q5⟩ := jx_rule R
  obtain ⟨B0, B1, c0, c1, c2, c3, c4, c5, c6, c7⟩ := ji_book R h
  have hb := R.books.2.1.2
  have ex : x = Int32.ofNat x.toInt.toNat := by rw [vi_eq, vi_nn (by omega)]; omega
  have et : x.toNatClampNeg = x.toInt.toNat := vi_nat
  obtain ⟨f, n, A⟩ := m74 (x := x) (p := p) hX (stk_1 R) (by decide) (by decide) (by decide) h5 q1 q3 q4 hp
  obtain ⟨N', o1, B⟩ := m171 (b := x.toInt.toNat) hN h5 (by omega) q5 hp
  have eF : jx_fx (ji_at X 2 3 8 x 5) (ji_at X 2 3 8 x 2) (ji_at X 2 3 8 x 1) (ji_at X 2 3 8 x 4) (ji_gI X 1 1 - ji_at X 2 3 8 x 7) (ji_at X 2 3 8 x 3) = jx_fN N x.toInt.toNat := by
    unfold jx_fN
    rw [c1, c2, c3, c4, c5, c7, et, R.hour.1]
  rw [eF] at A
  rw [← ex, ← q2] at B
  exact ⟨_, f, n, N', o1, A, B⟩
/-- says -/
theorem call_11 (R : ji_Rel jx_P X N) : ji_same jx_P 97 199 [.int x, .int y] X N := by
  intro d
  have hX := R.xf
  have hN := R.mf
  by_cases h1 : ji_in x 0 (ji_gI N 0 4 - 1)
  case neg =>
    apply ji_same_of (v := some (.long (-4611686018427387904))) (X' := X) (N' := N)
    case h1 =>
      apply en_97
      simp only [s97_0, s97_1, s97_4, s97_7, q97_8, s97_11, s97_14, s97_15, s97_16, q97_17, s97_20, s97_23, s97_26, s97_27, s97_28, s97_31, s97_32, s97_35, s97_36, q97_37, s97_40, s97_41, xIL_1, xIS_1, xQL_2, xQL_3, xAN_1, xAN_2, xAN_3, xCP_1, xC_s, xNC_I, ji_oI1, ji_oIm, kd_sC, gR_sC, gL_sC, ji_rv_s, ji_tl_s, ji_tl_n, ji_s1, ji_s2, ji_kl, List.getD_cons_zero, List.getD_cons_succ, List.set_cons_zero, List.set_cons_succ, List.length_cons, List.length_nil, ji_b_0, ji_b_1, ji_n0, ji_n1, ji_rcb_iff, ji_ok8_0, ji_ok8_1, ji_ok8_2, ji_ok8_3, ji_ok8_4, kd_sI, kd_sL, kd_sR, kd_cp, gR_sI, gR_sL, gR_cp, gL_sI, gL_sR, gL_cp, gI_sL, gI_sR, gI_sI, gL_sL, Nat.reduceEqDiff, false_and, and_false, true_and, and_true, Nat.reduceAdd, Nat.reduceLT, Nat.reduceSub, Int32.reduceLT, Int32.reduceAdd, not_false_eq_true, not_true_eq_false, and_self, ji_b_n, if_true, if_false, ↓reduceIte, cz_m100, cz_m19, cz_m18, cz_m17, cz_m16, cz_m15, cz_m14, cz_m13, cz_m12, cz_m11, cz_m4, cz_m3, cz_m2, cz_m1, cz_1, cz_2, cz_3, cz_4, cz_5, cz_6, cz_7, cz_8, cz_9, cz_10, cz_11, cz_12, cz_13, cz_14, cz_15, cz_16, cz_20, cz_24, cz_30, cz_32, cz_33, cz_38, cz_40, cz_41, cz_42, cz_43, cz_45, cz_48, cz_57, cz_59, cz_60, cz_61, cz_63, cz_64, cz_72, cz_96, cz_97, cz_99, cz_100, cz_122, cz_124, cz_126, cz_160, cz_161, cz_168, cz_200, cz_255, cz_300, cz_960, cz_999, cz_1000, cz_1001, cz_1002, cz_1003, cz_1120, cz_2000, cz_2003, cz_2004, cz_2005, cz_3999, cz_9999, cz_14640, (xk_0 hX), (xk_1 hX), (xk_2 hX), (xk_3 hX), (xk_4 hX), (xk_5 hX), (xk_6 hX), (xk_7 hX), (xk_8 hX), (xk_9 hX), (xk_10 hX), (xk_11 hX), (xk_12 hX), (xk_13 hX), (xk_14 hX), (xk_15 hX), (xk_16 hX), (xk_17 hX), (xk_18 hX), (xk_19 hX), (xk_20 hX), (xk_21 hX), (xk_22 hX), (xk_23 hX), (xk_24 hX), (xk_25 hX), (xk_26 hX), (xk_27 hX), (xk_28 hX), (xk_29 hX), (xk_30 hX), (xk_31 hX), (xk_32 hX), (xk_33 hX), (xk_34 hX), (xk_35 hX), (xk_36 hX), (xk_37 hX), (xk_38 hX), (xk_39 hX), (xk_40 hX), (xk_41 hX), (xk_42 hX), (xk_43 hX), (xk_44 hX), (xk_45 hX), (xk_46 hX), (xk_47 hX), (xk_48 hX), (xk_49 hX), (xk_50 hX), (xk_51 hX), (xk_52 hX), (xk_53 hX), (xk_54 hX), (xk_55 hX), (xk_56 hX), (xk_57 hX), (xk_58 hX), (xk_59 hX), (xk_60 hX), (xk_61 hX), (xk_62 hX), (xk_63 hX), (xk_64 hX), (xk_65 hX), (xk_66 hX), (xk_67 hX), (xk_68 hX), (xk_69 hX), (xk_70 hX), (xk_71 hX), (xk_72 hX), (xk_73 hX), (xk_74 hX), (xk_75 hX), (xk_76 hX), (xk_77 hX), (xk_78 hX), (xk_79 hX), (xk_80 hX), (xk_81 hX), (xk_82 hX), (xk_83 hX), (xk_84 hX), (xk_85 hX), (xk_86 hX), (xk_87 hX), (xk_88 hX), (xk_89 hX), (xr_0_0 hX), (xr_0_1 hX), (xr_0_2 hX), (xr_0_3 hX), (xr_0_4 hX), (xr_0_5 hX), (xr_0_6 hX), (xr_0_7 hX), (xr_0_8 hX), (xr_0_9 hX), (xr_0_10 hX), (xr_0_11 hX), (xr_0_12 hX), (xr_0_13 hX), (xr_1_0 hX), (xr_2_2 hX), (xr_4_0 hX), (xr_4_1 hX), (xr_4_2 hX), (xr_4_3 hX), (xr_4_4 hX), (xr_5_0 hX), (xr_8_0 hX), (xr_8_1 hX), (xr_8_2 hX), (xr_8_3 hX), (xr_8_4 hX), (xr_8_5 hX), (xr_15_0 hX), (xr_15_1 hX), (xr_15_2 hX), (xr_15_3 hX), (xr_15_4 hX), (xr_15_5 hX), (xr_24_2 hX), (xr_26_0 hX), (xr_26_1 hX), (xr_26_2 hX), (xr_27_0 hX), (xr_27_1 hX), (xr_27_2 hX), (xr_27_3 hX), (xr_27_4 hX), (xr_27_5 hX), (xr_30_0 hX), (xr_31_2 hX), (xr_33_0 hX), (xr_34_2 hX), (xr_36_0 hX), (xr_37_2 hX), (xr_39_0 hX), (xr_40_2 hX), (xr_42_0 hX), (xr_43_2 hX), (xr_45_0 hX), (xr_46_2 hX), (xr_48_2 hX), (xr_50_2 hX), (xr_52_2 hX), (xr_70_2 hX), (xr_72_2 hX), (xr_74_2 hX), (xr_76_2 hX), (xr_54_0 hX), (xr_54_1 hX), (xr_55_0 hX), (xr_55_1 hX), (xr_55_2 hX), (xr_55_3 hX), (xr_55_4 hX), (xr_55_5 hX), (xr_62_0 hX), (xr_62_1 hX), (xr_62_2 hX), (xr_62_3 hX), (xr_62_4 hX), (xr_62_5 hX), (xr_62_6 hX), (xr_78_0 hX), (xr_78_1 hX), (xr_78_2 hX), (xr_82_0 hX), (xr_82_1 hX), (xr_82_2 hX), (xr_83_0 hX), (xr_83_1 hX), (xr_83_2 hX), (xr_83_3 hX), (xi_2_0 hX), (xi_24_0 hX), (xi_31_0 hX), (xi_34_0 hX), (xi_37_0 hX), (xi_40_0 hX), (xi_43_0 hX), (xi_46_0 hX), (xi_48_0 hX), (xi_50_0 hX), (xi_52_0 hX), (xi_70_0 hX), (xi_72_0 hX), (xi_74_0 hX), (xi_76_0 hX), (xi_2_1 hX), (xi_24_1 hX), (xi_31_1 hX), (xi_34_1 hX), (xi_37_1 hX), (xi_40_1 hX), (xi_43_1 hX), (xi_46_1 hX), (xi_48_1 hX), (xi_50_1 hX), (xi_52_1 hX), (xi_70_1 hX), (xi_72_1 hX), (xi_74_1 hX), (xi_76_1 hX), m65b R, h1]
    case h2 =>
      apply en_199
      simp only [s199_0, s199_1, q199_2, s199_5, s199_8, s199_9, s199_10, s199_11, q199_12, s199_15, s199_18, s199_19, s199_20, s199_23, s199_24, q199_25, s199_28, s199_29, s199_32, s199_35, xIL_1, xIS_1, xQL_2, xQL_3, xAN_1, xAN_2, xAN_3, xCP_1, xC_s, xNC_I, ji_oI1, ji_oIm, kd_sC, gR_sC, gL_sC, ji_rv_s, ji_tl_s, ji_tl_n, ji_s1, ji_s2, ji_kl, List.getD_cons_zero, List.getD_cons_succ, List.set_cons_zero, List.set_cons_succ, List.length_cons, List.length_nil, ji_b_0, ji_b_1, ji_n0, ji_n1, ji_rcb_iff, ji_ok8_0, ji_ok8_1, ji_ok8_2, ji_ok8_3, ji_ok8_4, kd_sI, kd_sL, kd_sR, kd_cp, gR_sI, gR_sL, gR_cp, gL_sI, gL_sR, gL_cp, gI_sL, gI_sR, gI_sI, gL_sL, Nat.reduceEqDiff, false_and, and_false, true_and, and_true, Nat.reduceAdd, Nat.reduceLT, Nat.reduceSub, Int32.reduceLT, Int32.reduceAdd, not_false_eq_true, not_true_eq_false, and_self, ji_b_n, if_true, if_false, ↓reduceIte, cz_m100, cz_m19, cz_m18, cz_m17, cz_m16, cz_m15, cz_m14, cz_m13, cz_m12, cz_m11, cz_m4, cz_m3, cz_m2, cz_m1, cz_1, cz_2, cz_3, cz_4, cz_5, cz_6, cz_7, cz_8, cz_9, cz_10, cz_11, cz_12, cz_13, cz_14, cz_15, cz_16, cz_20, cz_24, cz_30, cz_32, cz_33, cz_38, cz_40, cz_41, cz_42, cz_43, cz_45, cz_48, cz_57, cz_59, cz_60, cz_61, cz_63, cz_64, cz_72, cz_96, cz_97, cz_99, cz_100, cz_122, cz_124, cz_126, cz_160, cz_161, cz_168, cz_200, cz_255, cz_300, cz_960, cz_999, cz_1000, cz_1001, cz_1002, cz_1003, cz_1120, cz_2000, cz_2003, cz_2004, cz_2005, cz_3999, cz_9999, cz_14640, mk_0 hN, m166 hN, h1]
    case h3 => exact R
  by_cases h2 : ji_in y 0 2
  case neg =>
    apply ji_same_of (v := some (.long (-4611686018427387904))) (X' := X) (N' := N)
    case h1 =>
      apply en_97
      simp only [s97_0, s97_1, s97_4, s97_7, q97_8, s97_11, s97_14, s97_15, s97_16, q97_17, s97_20, s97_23, s97_26, s97_27, s97_28, s97_31, s97_32, s97_35, s97_36, q97_37, s97_40, s97_41, xIL_1, xIS_1, xQL_2, xQL_3, xAN_1, xAN_2, xAN_3, xCP_1, xC_s, xNC_I, ji_oI1, ji_oIm, kd_sC, gR_sC, gL_sC, ji_rv_s, ji_tl_s, ji_tl_n, ji_s1, ji_s2, ji_kl, List.getD_cons_zero, List.getD_cons_succ, List.set_cons_zero, List.set_cons_succ, List.length_cons, List.length_nil, ji_b_0, ji_b_1, ji_n0, ji_n1, ji_rcb_iff, ji_ok8_0, ji_ok8_1, ji_ok8_2, ji_ok8_3, ji_ok8_4, kd_sI, kd_sL, kd_sR, kd_cp, gR_sI, gR_sL, gR_cp, gL_sI, gL_sR, gL_cp, gI_sL, gI_sR, gI_sI, gL_sL, Nat.reduceEqDiff, false_and, and_false, true_and, and_true, Nat.reduceAdd, Nat.reduceLT, Nat.reduceSub, Int32.reduceLT, Int32.reduceAdd, not_false_eq_true, not_true_eq_false, and_self, ji_b_n, if_true, if_false, ↓reduceIte, cz_m100, cz_m19, cz_m18, cz_m17, cz_m16, cz_m15, cz_m14, cz_m13, cz_m12, cz_m11, cz_m4, cz_m3, cz_m2, cz_m1, cz_1, cz_2, cz_3, cz_4, cz_5, cz_6, cz_7, cz_8, cz_9, cz_10, cz_11, cz_12, cz_13, cz_14, cz_15, cz_16, cz_20, cz_24, cz_30, cz_32, cz_33, cz_38, cz_40, cz_41, cz_42, cz_43, cz_45, cz_48, cz_57, cz_59, cz_60, cz_61, cz_63, cz_64, cz_72, cz_96, cz_97, cz_99, cz_100, cz_122, cz_124, cz_126, cz_160, cz_161, cz_168, cz_200, cz_255, cz_300, cz_960, cz_999, cz_1000, cz_1001, cz_1002, cz_1003, cz_1120, cz_2000, cz_2003, cz_2004, cz_2005, cz_3999, cz_9999, cz_14640, (xk_0 hX), (xk_1 hX), (xk_2 hX), (xk_3 hX), (xk_4 hX), (xk_5 hX), (xk_6 hX), (xk_7 hX), (xk_8 hX), (xk_9 hX), (xk_10 hX), (xk_11 hX), (xk_12 hX), (xk_13 hX), (xk_14 hX), (xk_15 hX), (xk_16 hX), (xk_17 hX), (xk_18 hX), (xk_19 hX), (xk_20 hX), (xk_21 hX), (xk_22 hX), (xk_23 hX), (xk_24 hX), (xk_25 hX), (xk_26 hX), (xk_27 hX), (xk_28 hX), (xk_29 hX), (xk_30 hX), (xk_31 hX), (xk_32 hX), (xk_33 hX), (xk_34 hX), (xk_35 hX), (xk_36 hX), (xk_37 hX), (xk_38 hX), (xk_39 hX), (xk_40 hX), (xk_41 hX), (xk_42 hX), (xk_43 hX), (xk_44 hX), (xk_45 hX), (xk_46 hX), (xk_47 hX), (xk_48 hX), (xk_49 hX), (xk_50 hX), (xk_51 hX), (xk_52 hX), (xk_53 hX), (xk_54 hX), (xk_55 hX), (xk_56 hX), (xk_57 hX), (xk_58 hX), (xk_59 hX), (xk_60 hX), (xk_61 hX), (xk_62 hX), (xk_63 hX), (xk_64 hX), (xk_65 hX), (xk_66 hX), (xk_67 hX), (xk_68 hX), (xk_69 hX), (xk_70 hX), (xk_71 hX), (xk_72 hX), (xk_73 hX), (xk_74 hX), (xk_75 hX), (xk_76 hX), (xk_77 hX), (xk_78 hX), (xk_79 hX), (xk_80 hX), (xk_81 hX), (xk_82 hX), (xk_83 hX), (xk_84 hX), (xk_85 hX), (xk_86 hX), (xk_87 hX), (xk_88 hX), (xk_89 hX), (xr_0_0 hX), (xr_0_1 hX), (xr_0_2 hX), (xr_0_3 hX), (xr_0_4 hX), (xr_0_5 hX), (xr_0_6 hX), (xr_0_7 hX), (xr_0_8 hX), (xr_0_9 hX), (xr_0_10 hX), (xr_0_11 hX), (xr_0_12 hX), (xr_0_13 hX), (xr_1_0 hX), (xr_2_2 hX), (xr_4_0 hX), (xr_4_1 hX), (xr_4_2 hX), (xr_4_3 hX), (xr_4_4 hX), (xr_5_0 hX), (xr_8_0 hX), (xr_8_1 hX), (xr_8_2 hX), (xr_8_3 hX), (xr_8_4 hX), (xr_8_5 hX), (xr_15_0 hX), (xr_15_1 hX), (xr_15_2 hX), (xr_15_3 hX), (xr_15_4 hX), (xr_15_5 hX), (xr_24_2 hX), (xr_26_0 hX), (xr_26_1 hX), (xr_26_2 hX), (xr_27_0 hX), (xr_27_1 hX), (xr_27_2 hX), (xr_27_3 hX), (xr_27_4 hX), (xr_27_5 hX), (xr_30_0 hX), (xr_31_2 hX), (xr_33_0 hX), (xr_34_2 hX), (xr_36_0 hX), (xr_37_2 hX), (xr_39_0 hX), (xr_40_2 hX), (xr_42_0 hX), (xr_43_2 hX), (xr_45_0 hX), (xr_46_2 hX), (xr_48_2 hX), (xr_50_2 hX), (xr_52_2 hX), (xr_70_2 hX), (xr_72_2 hX), (xr_74_2 hX), (xr_76_2 hX), (xr_54_0 hX), (xr_54_1 hX), (xr_55_0 hX), (xr_55_1 hX), (xr_55_2 hX), (xr_55_3 hX), (xr_55_4 hX), (xr_55_5 hX), (xr_62_0 hX), (xr_62_1 hX), (xr_62_2 hX), (xr_62_3 hX), (xr_62_4 hX), (xr_62_5 hX), (xr_62_6 hX), (xr_78_0 hX), (xr_78_1 hX), (xr_78_2 hX), (xr_82_0 hX), (xr_82_1 hX), (xr_82_2 hX), (xr_83_0 hX), (xr_83_1 hX), (xr_83_2 hX), (xr_83_3 hX), (xi_2_0 hX), (xi_24_0 hX), (xi_31_0 hX), (xi_34_0 hX), (xi_37_0 hX), (xi_40_0 hX), (xi_43_0 hX), (xi_46_0 hX), (xi_48_0 hX), (xi_50_0 hX), (xi_52_0 hX), (xi_70_0 hX), (xi_72_0 hX), (xi_74_0 hX), (xi_76_0 hX), (xi_2_1 hX), (xi_24_1 hX), (xi_31_1 hX), (xi_34_1 hX), (xi_37_1 hX), (xi_40_1 hX), (xi_43_1 hX), (xi_46_1 hX), (xi_48_1 hX), (xi_50_1 hX), (xi_52_1 hX), (xi_70_1 hX), (xi_72_1 hX), (xi_74_1 hX), (xi_76_1 hX), m65b R, h1, m43, h2]
    case h2 =>
      apply en_199
      simp only [s199_0, s199_1, q199_2, s199_5, s199_8, s199_9, s199_10, s199_11, q199_12, s199_15, s199_18, s199_19, s199_20, s199_23, s199_24, q199_25, s199_28, s199_29, s199_32, s199_35, xIL_1, xIS_1, xQL_2, xQL_3, xAN_1, xAN_2, xAN_3, xCP_1, xC_s, xNC_I, ji_oI1, ji_oIm, kd_sC, gR_sC, gL_sC, ji_rv_s, ji_tl_s, ji_tl_n, ji_s1, ji_s2, ji_kl, List.getD_cons_zero, List.getD_cons_succ, List.set_cons_zero, List.set_cons_succ, List.length_cons, List.length_nil, ji_b_0, ji_b_1, ji_n0, ji_n1, ji_rcb_iff, ji_ok8_0, ji_ok8_1, ji_ok8_2, ji_ok8_3, ji_ok8_4, kd_sI, kd_sL, kd_sR, kd_cp, gR_sI, gR_sL, gR_cp, gL_sI, gL_sR, gL_cp, gI_sL, gI_sR, gI_sI, gL_sL, Nat.reduceEqDiff, false_and, and_false, true_and, and_true, Nat.reduceAdd, Nat.reduceLT, Nat.reduceSub, Int32.reduceLT, Int32.reduceAdd, not_false_eq_true, not_true_eq_false, and_self, ji_b_n, if_true, if_false, ↓reduceIte, cz_m100, cz_m19, cz_m18, cz_m17, cz_m16, cz_m15, cz_m14, cz_m13, cz_m12, cz_m11, cz_m4, cz_m3, cz_m2, cz_m1, cz_1, cz_2, cz_3, cz_4, cz_5, cz_6, cz_7, cz_8, cz_9, cz_10, cz_11, cz_12, cz_13, cz_14, cz_15, cz_16, cz_20, cz_24, cz_30, cz_32, cz_33, cz_38, cz_40, cz_41, cz_42, cz_43, cz_45, cz_48, cz_57, cz_59, cz_60, cz_61, cz_63, cz_64, cz_72, cz_96, cz_97, cz_99, cz_100, cz_122, cz_124, cz_126, cz_160, cz_161, cz_168, cz_200, cz_255, cz_300, cz_960, cz_999, cz_1000, cz_1001, cz_1002, cz_1003, cz_1120, cz_2000, cz_2003, cz_2004, cz_2005, cz_3999, cz_9999, cz_14640, mk_0 hN, m166 hN, h1, m158, h2]
    case h3 => exact R
  obtain ⟨p, hp, ep⟩ : ∃ p : Nat, p ≤ 2 ∧ y = Int32.ofNat p := by
    have h := vi_inb.mp h2
    have h0 : (0 : Int32).toInt = 0 := rfl
    have h2 : (2 : Int32).toInt = 2 := rfl
    exact ⟨y.toInt.toNat, by omega, by rw [vi_eq, vi_nn (by omega)]; omega⟩
  subst ep
  obtain ⟨v, f, n, N', o1, A, B⟩ := jx_both R h1 hp
  have A := cl_le A (e := d + 59) (by omega)
  have B := cl_le B (e := d + 59) (by omega)
  apply ji_same_of (v := some (.long v.toInt64)) (X' := jx_XS X f n) (N' := N')
  case h1 =>
    apply en_97
    simp only [s97_0, s97_1, s97_4, s97_7, q97_8, s97_11, s97_14, s97_15, s97_16, q97_17, s97_20, s97_23, s97_26, s97_27, s97_28, s97_31, s97_32, s97_35, s97_36, q97_37, s97_40, s97_41, xIL_1, xIS_1, xQL_2, xQL_3, xAN_1, xAN_2, xAN_3, xCP_1, xC_s, xNC_I, ji_oI1, ji_oIm, kd_sC, gR_sC, gL_sC, ji_rv_s, ji_tl_s, ji_tl_n, ji_s1, ji_s2, ji_kl, List.getD_cons_zero, List.getD_cons_succ, List.set_cons_zero, List.set_cons_succ, List.length_cons, List.length_nil, ji_b_0, ji_b_1, ji_n0, ji_n1, ji_rcb_iff, ji_ok8_0, ji_ok8_1, ji_ok8_2, ji_ok8_3, ji_ok8_4, kd_sI, kd_sL, kd_sR, kd_cp, gR_sI, gR_sL, gR_cp, gL_sI, gL_sR, gL_cp, gI_sL, gI_sR, gI_sI, gL_sL, Nat.reduceEqDiff, false_and, and_false, true_and, and_true, Nat.reduceAdd, Nat.reduceLT, Nat.reduceSub, Int32.reduceLT, Int32.reduceAdd, not_false_eq_true, not_true_eq_false, and_self, ji_b_n, if_true, if_false, ↓reduceIte, cz_m100, cz_m19, cz_m18, cz_m17, cz_m16, cz_m15, cz_m14, cz_m13, cz_m12, cz_m11, cz_m4, cz_m3, cz_m2, cz_m1, cz_1, cz_2, cz_3, cz_4, cz_5, cz_6, cz_7, cz_8, cz_9, cz_10, cz_11, cz_12, cz_13, cz_14, cz_15, cz_16, cz_20, cz_24, cz_30, cz_32, cz_33, cz_38, cz_40, cz_41, cz_42, cz_43, cz_45, cz_48, cz_57, cz_59, cz_60, cz_61, cz_63, cz_64, cz_72, cz_96, cz_97, cz_99, cz_100, cz_122, cz_124, cz_126, cz_160, cz_161, cz_168, cz_200, cz_255, cz_300, cz_960, cz_999, cz_1000, cz_1001, cz_1002, cz_1003, cz_1120, cz_2000, cz_2003, cz_2004, cz_2005, cz_3999, cz_9999, cz_14640, (xk_0 hX), (xk_1 hX), (xk_2 hX), (xk_3 hX), (xk_4 hX), (xk_5 hX), (xk_6 hX), (xk_7 hX), (xk_8 hX), (xk_9 hX), (xk_10 hX), (xk_11 hX), (xk_12 hX), (xk_13 hX), (xk_14 hX), (xk_15 hX), (xk_16 hX), (xk_17 hX), (xk_18 hX), (xk_19 hX), (xk_20 hX), (xk_21 hX), (xk_22 hX), (xk_23 hX), (xk_24 hX), (xk_25 hX), (xk_26 hX), (xk_27 hX), (xk_28 hX), (xk_29 hX), (xk_30 hX), (xk_31 hX), (xk_32 hX), (xk_33 hX), (xk_34 hX), (xk_35 hX), (xk_36 hX), (xk_37 hX), (xk_38 hX), (xk_39 hX), (xk_40 hX), (xk_41 hX), (xk_42 hX), (xk_43 hX), (xk_44 hX), (xk_45 hX), (xk_46 hX), (xk_47 hX), (xk_48 hX), (xk_49 hX), (xk_50 hX), (xk_51 hX), (xk_52 hX), (xk_53 hX), (xk_54 hX), (xk_55 hX), (xk_56 hX), (xk_57 hX), (xk_58 hX), (xk_59 hX), (xk_60 hX), (xk_61 hX), (xk_62 hX), (xk_63 hX), (xk_64 hX), (xk_65 hX), (xk_66 hX), (xk_67 hX), (xk_68 hX), (xk_69 hX), (xk_70 hX), (xk_71 hX), (xk_72 hX), (xk_73 hX), (xk_74 hX), (xk_75 hX), (xk_76 hX), (xk_77 hX), (xk_78 hX), (xk_79 hX), (xk_80 hX), (xk_81 hX), (xk_82 hX), (xk_83 hX), (xk_84 hX), (xk_85 hX), (xk_86 hX), (xk_87 hX), (xk_88 hX), (xk_89 hX), (xr_0_0 hX), (xr_0_1 hX), (xr_0_2 hX), (xr_0_3 hX), (xr_0_4 hX), (xr_0_5 hX), (xr_0_6 hX), (xr_0_7 hX), (xr_0_8 hX), (xr_0_9 hX), (xr_0_10 hX), (xr_0_11 hX), (xr_0_12 hX), (xr_0_13 hX), (xr_1_0 hX), (xr_2_2 hX), (xr_4_0 hX), (xr_4_1 hX), (xr_4_2 hX), (xr_4_3 hX), (xr_4_4 hX), (xr_5_0 hX), (xr_8_0 hX), (xr_8_1 hX), (xr_8_2 hX), (xr_8_3 hX), (xr_8_4 hX), (xr_8_5 hX), (xr_15_0 hX), (xr_15_1 hX), (xr_15_2 hX), (xr_15_3 hX), (xr_15_4 hX), (xr_15_5 hX), (xr_24_2 hX), (xr_26_0 hX), (xr_26_1 hX), (xr_26_2 hX), (xr_27_0 hX), (xr_27_1 hX), (xr_27_2 hX), (xr_27_3 hX), (xr_27_4 hX), (xr_27_5 hX), (xr_30_0 hX), (xr_31_2 hX), (xr_33_0 hX), (xr_34_2 hX), (xr_36_0 hX), (xr_37_2 hX), (xr_39_0 hX), (xr_40_2 hX), (xr_42_0 hX), (xr_43_2 hX), (xr_45_0 hX), (xr_46_2 hX), (xr_48_2 hX), (xr_50_2 hX), (xr_52_2 hX), (xr_70_2 hX), (xr_72_2 hX), (xr_74_2 hX), (xr_76_2 hX), (xr_54_0 hX), (xr_54_1 hX), (xr_55_0 hX), (xr_55_1 hX), (xr_55_2 hX), (xr_55_3 hX), (xr_55_4 hX), (xr_55_5 hX), (xr_62_0 hX), (xr_62_1 hX), (xr_62_2 hX), (xr_62_3 hX), (xr_62_4 hX), (xr_62_5 hX), (xr_62_6 hX), (xr_78_0 hX), (xr_78_1 hX), (xr_78_2 hX), (xr_82_0 hX), (xr_82_1 hX), (xr_82_2 hX), (xr_83_0 hX), (xr_83_1 hX), (xr_83_2 hX), (xr_83_3 hX), (xi_2_0 hX), (xi_24_0 hX), (xi_31_0 hX), (xi_34_0 hX), (xi_37_0 hX), (xi_40_0 hX), (xi_43_0 hX), (xi_46_0 hX), (xi_48_0 hX), (xi_50_0 hX), (xi_52_0 hX), (xi_70_0 hX), (xi_72_0 hX), (xi_74_0 hX), (xi_76_0 hX), (xi_2_1 hX), (xi_24_1 hX), (xi_31_1 hX), (xi_34_1 hX), (xi_37_1 hX), (xi_40_1 hX), (xi_43_1 hX), (xi_46_1 hX), (xi_48_1 hX), (xi_50_1 hX), (xi_52_1 hX), (xi_70_1 hX), (xi_72_1 hX), (xi_74_1 hX), (xi_76_1 hX), m65b R, h1, m43, h2, A]
  case h2 =>
    apply en_199
    simp only [s199_0, s199_1, q199_2, s199_5, s199_8, s199_9, s199_10, s199_11, q199_12, s199_15, s199_18, s199_19, s199_20, s199_23, s199_24, q199_25, s199_28, s199_29, s199_32, s199_35, xIL_1, xIS_1, xQL_2, xQL_3, xAN_1, xAN_2, xAN_3, xCP_1, xC_s, xNC_I, ji_oI1, ji_oIm, kd_sC, gR_sC, gL_sC, ji_rv_s, ji_tl_s, ji_tl_n, ji_s1, ji_s2, ji_kl, List.getD_cons_zero, List.getD_cons_succ, List.set_cons_zero, List.set_cons_succ, List.length_cons, List.length_nil, ji_b_0, ji_b_1, ji_n0, ji_n1, ji_rcb_iff, ji_ok8_0, ji_ok8_1, ji_ok8_2, ji_ok8_3, ji_ok8_4, kd_sI, kd_sL, kd_sR, kd_cp, gR_sI, gR_sL, gR_cp, gL_sI, gL_sR, gL_cp, gI_sL, gI_sR, gI_sI, gL_sL, Nat.reduceEqDiff, false_and, and_false, true_and, and_true, Nat.reduceAdd, Nat.reduceLT, Nat.reduceSub, Int32.reduceLT, Int32.reduceAdd, not_false_eq_true, not_true_eq_false, and_self, ji_b_n, if_true, if_false, ↓reduceIte, cz_m100, cz_m19, cz_m18, cz_m17, cz_m16, cz_m15, cz_m14, cz_m13, cz_m12, cz_m11, cz_m4, cz_m3, cz_m2, cz_m1, cz_1, cz_2, cz_3, cz_4, cz_5, cz_6, cz_7, cz_8, cz_9, cz_10, cz_11, cz_12, cz_13, cz_14, cz_15, cz_16, cz_20, cz_24, cz_30, cz_32, cz_33, cz_38, cz_40, cz_41, cz_42, cz_43, cz_45, cz_48, cz_57, cz_59, cz_60, cz_61, cz_63, cz_64, cz_72, cz_96, cz_97, cz_99, cz_100, cz_122, cz_124, cz_126, cz_160, cz_161, cz_168, cz_200, cz_255, cz_300, cz_960, cz_999, cz_1000, cz_1001, cz_1002, cz_1003, cz_1120, cz_2000, cz_2003, cz_2004, cz_2005, cz_3999, cz_9999, cz_14640, mk_0 hN, m166 hN, h1, m158, h2, B]
  case h3 => exact ji_Rel_off R xs_off (jx_oN_off o1)
end JIV
