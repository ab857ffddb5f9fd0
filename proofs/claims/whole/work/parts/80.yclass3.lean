/-! ===== years: the class, all plans ===== -/
section JIV
variable {X Y N N' M : ji_M} {P : ji_P} {x y z w a b : Int32} {d r m s n i j k v : Nat} {c : Int} {q : Int × Int × Nat} {o : Option Value × ji_M}
theorem m137 (hn : n ≤ 4) (hc : 0 ≤ c ∧ c ≤ 9999) : ∀ (k j v : Nat), j + k = jy_K N → jy_H P N n c k j v := by
  intro k
  induction k with
  | zero =>
    intro j v hj q X a b I ok ha hb
    have hj : j = jy_K N := by omega
    subst hj
    have R := I.1
    have hX := R.xf
    have Kb := jy_Kb R
    obtain ⟨X', C, I'⟩ := m138 I hn ok ha hb
    have g : ¬ Int32.ofNat (jy_K N) < ji_gI N 0 71 := by rw [vi_lt, vi_nn (by omega)]; omega
    have ek := R.kinds.1
    refine ⟨X', fun d => ?_, ?_⟩
    · have C : ji_CL (d + 1) 138 _ _ = _ := C d
      apply en_137
      have mk := m47 (d := d) (xk_76 hX)
      simp only [s137_0, s137_1, s137_2, q137_5, s137_8, s137_11, s137_12, s137_14, s137_17, s137_18, s137_19, q137_20, s137_23, s137_24, s137_25, s137_28, s137_29, q137_30, s137_33, s137_35, s137_36, s137_39, s137_40, q137_41, s137_44, s137_46, s137_47, s137_49, s137_51, s137_52, s137_55, s137_58, s137_59, s137_61, q137_63, s137_66, s137_69, s137_70, s137_73, s137_75, q137_76, s137_77, s137_79, q137_80, s137_81, s137_82, s137_85, s137_86, q137_88, s137_89, s137_90, s137_91, s137_92, s137_93, s137_94, s137_96, s137_97, s137_100, s137_102, s137_103, s137_104, s137_105, s137_106, s137_108, q137_109, s137_112, s137_113, s137_116, s137_118, q137_119, s137_120, s137_122, q137_123, q137_124, s137_127, s137_130, s137_131, s137_134, s137_135, q137_136, s137_137, s137_138, s137_139, s137_140, s137_141, s137_142, q137_143, s137_146, xIL_1, xIS_1, xQL_2, xQL_3, xAN_1, xAN_2, xAN_3, xCP_1, xC_s, xNC_I, ji_oI1, ji_oIm, kd_sC, gR_sC, gL_sC, ji_rv_s, ji_tl_s, ji_tl_n, ji_s1, ji_s2, ji_kl, List.getD_cons_zero, List.getD_cons_succ, List.set_cons_zero, List.set_cons_succ, List.length_cons, List.length_nil, ji_b_0, ji_b_1, ji_n0, ji_n1, ji_rcb_iff, ji_ok8_0, ji_ok8_1, ji_ok8_2, ji_ok8_3, ji_ok8_4, kd_sI, kd_sL, kd_sR, kd_cp, gR_sI, gR_sL, gR_cp, gL_sI, gL_sR, gL_cp, gI_sL, gI_sR, gI_sI, gL_sL, Nat.reduceEqDiff, false_and, and_false, true_and, and_true, Nat.reduceAdd, Nat.reduceLT, Nat.reduceSub, Int32.reduceLT, Int32.reduceAdd, not_false_eq_true, not_true_eq_false, and_self, ji_b_n, if_true, if_false, ↓reduceIte, cz_m100, cz_m19, cz_m18, cz_m17, cz_m16, cz_m15, cz_m14, cz_m13, cz_m12, cz_m11, cz_m4, cz_m3, cz_m2, cz_m1, cz_1, cz_2, cz_3, cz_4, cz_5, cz_6, cz_7, cz_8, cz_9, cz_10, cz_11, cz_12, cz_13, cz_14, cz_15, cz_16, cz_20, cz_24, cz_30, cz_32, cz_33, cz_38, cz_40, cz_41, cz_42, cz_43, cz_45, cz_48, cz_57, cz_59, cz_60, cz_61, cz_63, cz_64, cz_72, cz_96, cz_97, cz_99, cz_100, cz_122, cz_124, cz_126, cz_160, cz_161, cz_168, cz_200, cz_255, cz_300, cz_960, cz_999, cz_1000, cz_1001, cz_1002, cz_1003, cz_1120, cz_2000, cz_2003, cz_2004, cz_2005, cz_3999, cz_9999, cz_14640, xk_78 hX, I.2.1, mk, xk_76 hX, ek, g, C]
    · unfold jy_go
      rw [Nat.pow_zero, Nat.mul_one]
      exact I'
  | succ k ih =>
    intro j v hj q X a b I ok ha hb
    have R := I.1
    have hX := R.xf
    have Kb := jy_Kb R
    have ek := R.kinds.1
    have g : Int32.ofNat j < ji_gI N 0 71 := by rw [vi_lt, vi_nn (by omega)]; omega
    have g6 : Int32.ofNat j < 6 := by rw [vi_lt, vi_nn (by omega)]; show (j : Int) < 6; omega
    have hv2 : 0 ≤ (Int32.ofNat j).toInt ∧ (Int32.ofNat j).toInt < (ji_gI X 76 3).toInt := by rw [ek, vi_nn (by omega)]; omega
    have hq : (Int32.ofNat j).toInt.toNat = j := by rw [vi_nn (by omega)]; exact Int.toNat_natCast _
    have E := R.kinds.2.2 j (by omega)
    have c0 : ji_at X 76 77 4 (Int32.ofNat j) 0 = ji_gI N 47 j := (ji_at_in (j := 0) hv2 rfl (by omega) (by omega)).trans (by rw [hq]; exact E.1.1)
    have c1 : ji_at X 76 77 4 (Int32.ofNat j) 1 = ji_gI N 48 j := (ji_at_in (j := 1) hv2 rfl (by omega) (by omega)).trans (by rw [hq]; exact E.2.1)
    obtain ⟨k1, k2, k3⟩ := jy_ix (Y := j) (m := 6) (by omega) (by omega)
    obtain ⟨X1, I1, L⟩ := m137L hn hc hj (fun y hy => ih (j + 1) _ (by omega)) ok ha hb n 0 q X (by omega) I
    have R1 := I1.1
    have hX1 := R1.xf
    have R2 : ji_Rel P (ji_sI X1 80 j (-1)) N := ji_Rel_offX R1 (ji_offX_sI ji_offX_r rfl)
    have I2 : jy_IX P N (ji_sI X1 80 j (-1)) n c (j + 1) (v * (n + 1) + n) (jy_run (fun q y => jy_go N n c k (v * (n + 1) + y) q) 0 n q) := by
      obtain ⟨-, h3, h4, h5, h6, h7, hs, h80, h81⟩ := I1
      refine ⟨R2, h3, h4, h5, h6, h7, fun y' hy' => ?_, (jy_E_s (by omega)).mpr ⟨?_, ?_⟩, fun h => ?_⟩
      · rw [jy_si_s (by omega), if_neg (by omega), Int.add_zero]
        exact hs y' hy'
      · refine jy_E_eq _ _ (fun l hl => ?_) h80
        rw [gI_sI, if_neg (fun z => by omega)]
      · rw [gI_sI, if_pos ⟨rfl, rfl⟩]
        show (-1 : Int32).toInt = _
        rw [if_pos rfl]
        rfl
      · refine jy_E_eq _ _ (fun l hl => ?_) (h81 h)
        rw [gI_ne (by decide)]
    obtain ⟨X3, C3, I3⟩ := ih (j + 1) (v * (n + 1) + n) (by omega) _ _ a b I2 (jy_ok_n ok) (by
      rw [jy_rd_s (by omega), ha]
      omega) (by
      rw [jy_sp_s (by omega), if_neg (by omega), hb]
      omega)
    have e : jy_go N n c (k + 1) v q = jy_go N n c k (v * (n + 1) + n) (jy_run (fun q y => jy_go N n c k (v * (n + 1) + y) q) 0 n q) := by
      unfold jy_go
      rw [jy_tree, jy_run_snoc, Nat.zero_add]
    refine ⟨X3, fun d => ?_, ?_⟩
    · have p1' := jx_o1p (k := j) (by omega)
      have C3 := C3 d
      have L := L d (none, X3) (by
        simp only [s137_0, s137_1, s137_2, q137_5, s137_8, s137_11, s137_12, s137_14, s137_17, s137_18, s137_19, q137_20, s137_23, s137_24, s137_25, s137_28, s137_29, q137_30, s137_33, s137_35, s137_36, s137_39, s137_40, q137_41, s137_44, s137_46, s137_47, s137_49, s137_51, s137_52, s137_55, s137_58, s137_59, s137_61, q137_63, s137_66, s137_69, s137_70, s137_73, s137_75, q137_76, s137_77, s137_79, q137_80, s137_81, s137_82, s137_85, s137_86, q137_88, s137_89, s137_90, s137_91, s137_92, s137_93, s137_94, s137_96, s137_97, s137_100, s137_102, s137_103, s137_104, s137_105, s137_106, s137_108, q137_109, s137_112, s137_113, s137_116, s137_118, q137_119, s137_120, s137_122, q137_123, q137_124, s137_127, s137_130, s137_131, s137_134, s137_135, q137_136, s137_137, s137_138, s137_139, s137_140, s137_141, s137_142, q137_143, s137_146, xIL_1, xIS_1, xQL_2, xQL_3, xAN_1, xAN_2, xAN_3, xCP_1, xC_s, xNC_I, ji_oI1, ji_oIm, kd_sC, gR_sC, gL_sC, ji_rv_s, ji_tl_s, ji_tl_n, ji_s1, ji_s2, ji_kl, List.getD_cons_zero, List.getD_cons_succ, List.set_cons_zero, List.set_cons_succ, List.length_cons, List.length_nil, ji_b_0, ji_b_1, ji_n0, ji_n1, ji_rcb_iff, ji_ok8_0, ji_ok8_1, ji_ok8_2, ji_ok8_3, ji_ok8_4, kd_sI, kd_sL, kd_sR, kd_cp, gR_sI, gR_sL, gR_cp, gL_sI, gL_sR, gL_cp, gI_sL, gI_sR, gI_sI, gL_sL, Nat.reduceEqDiff, false_and, and_false, true_and, and_true, Nat.reduceAdd, Nat.reduceLT, Nat.reduceSub, Int32.reduceLT, Int32.reduceAdd, not_false_eq_true, not_true_eq_false, and_self, ji_b_n, if_true, if_false, ↓reduceIte, cz_m100, cz_m19, cz_m18, cz_m17, cz_m16, cz_m15, cz_m14, cz_m13, cz_m12, cz_m11, cz_m4, cz_m3, cz_m2, cz_m1, cz_1, cz_2, cz_3, cz_4, cz_5, cz_6, cz_7, cz_8, cz_9, cz_10, cz_11, cz_12, cz_13, cz_14, cz_15, cz_16, cz_20, cz_24, cz_30, cz_32, cz_33, cz_38, cz_40, cz_41, cz_42, cz_43, cz_45, cz_48, cz_57, cz_59, cz_60, cz_61, cz_63, cz_64, cz_72, cz_96, cz_97, cz_99, cz_100, cz_122, cz_124, cz_126, cz_160, cz_161, cz_168, cz_200, cz_255, cz_300, cz_960, cz_999, cz_1000, cz_1001, cz_1002, cz_1003, cz_1120, cz_2000, cz_2003, cz_2004, cz_2005, cz_3999, cz_9999, cz_14640, -gI_sI, xk_78 hX1, xr_78_1 hX1, xk_80 hX1, k2, k3, p1', C3])
      have L : ji_Ev (ji_CL (d + k + 2)) 137 49 X [some (.ref 78), some (.int (Int32.ofNat j)), some (.int a), some (.int b), some (.int (ji_gI N 47 j)), some (.int (ji_gI N 48 j)), some (.int 0)] [] _ := L
      have mk := m47 (d := d + (k + 1)) (xk_76 hX)
      have ma := fun y => m49 (d := d + (k + 1)) (x := Int32.ofNat j) (y := y) (rw_76 R)
      apply en_137
      simp only [s137_0, s137_1, s137_2, q137_5, s137_8, s137_11, s137_12, s137_14, s137_17, s137_18, s137_19, q137_20, s137_23, s137_24, s137_25, s137_28, s137_29, q137_30, s137_33, s137_35, s137_36, s137_39, s137_40, q137_41, s137_44, s137_46, s137_47, s137_51, s137_52, s137_55, s137_58, s137_59, s137_61, q137_63, s137_66, s137_69, s137_70, s137_73, s137_75, q137_76, s137_77, s137_79, q137_80, s137_81, s137_82, s137_85, s137_86, q137_88, s137_89, s137_90, s137_91, s137_92, s137_93, s137_94, s137_96, s137_97, s137_100, s137_102, s137_103, s137_104, s137_105, s137_106, s137_108, q137_109, s137_112, s137_113, s137_116, s137_118, q137_119, s137_120, s137_122, q137_123, q137_124, s137_127, s137_130, s137_131, s137_134, s137_135, q137_136, s137_137, s137_138, s137_139, s137_140, s137_141, s137_142, q137_143, s137_146, xIL_1, xIS_1, xQL_2, xQL_3, xAN_1, xAN_2, xAN_3, xCP_1, xC_s, xNC_I, ji_oI1, ji_oIm, kd_sC, gR_sC, gL_sC, ji_rv_s, ji_tl_s, ji_tl_n, ji_s1, ji_s2, ji_kl, List.getD_cons_zero, List.getD_cons_succ, List.set_cons_zero, List.set_cons_succ, List.length_cons, List.length_nil, ji_b_0, ji_b_1, ji_n0, ji_n1, ji_rcb_iff, ji_ok8_0, ji_ok8_1, ji_ok8_2, ji_ok8_3, ji_ok8_4, kd_sI, kd_sL, kd_sR, kd_cp, gR_sI, gR_sL, gR_cp, gL_sI, gL_sR, gL_cp, gI_sL, gI_sR, gI_sI, gL_sL, Nat.reduceEqDiff, false_and, and_false, true_and, and_true, Nat.reduceAdd, Nat.reduceLT, Nat.reduceSub, Int32.reduceLT, Int32.reduceAdd, not_false_eq_true, not_true_eq_false, and_self, ji_b_n, if_true, if_false, ↓reduceIte, cz_m100, cz_m19, cz_m18, cz_m17, cz_m16, cz_m15, cz_m14, cz_m13, cz_m12, cz_m11, cz_m4, cz_m3, cz_m2, cz_m1, cz_1, cz_2, cz_3, cz_4, cz_5, cz_6, cz_7, cz_8, cz_9, cz_10, cz_11, cz_12, cz_13, cz_14, cz_15, cz_16, cz_20, cz_24, cz_30, cz_32, cz_33, cz_38, cz_40, cz_41, cz_42, cz_43, cz_45, cz_48, cz_57, cz_59, cz_60, cz_61, cz_63, cz_64, cz_72, cz_96, cz_97, cz_99, cz_100, cz_122, cz_124, cz_126, cz_160, cz_161, cz_168, cz_200, cz_255, cz_300, cz_960, cz_999, cz_1000, cz_1001, cz_1002, cz_1003, cz_1120, cz_2000, cz_2003, cz_2004, cz_2005, cz_3999, cz_9999, cz_14640, xk_78 hX, I.2.1, mk, ma, xk_76 hX, ek, g, g6, c0, c1]
      exact L
    · rw [e]
      obtain ⟨z1, z2, z3, z4, z5, z6, z7, z8, z9⟩ := I3
      refine ⟨z1, z2, z3, z4, z5, z6, fun y' hy' => ?_, ((jy_E_s (by omega)).mp z8).1, z9⟩
      rw [z7 y' hy', jy_si_s (by omega), if_neg (by omega), Int.add_zero]
theorem m136 (R : ji_Rel P X N) (hn : x.toInt = (n : Int)) (h4 : n ≤ 4) (hc : 0 ≤ y.toInt ∧ y.toInt ≤ 9999) : ∃ X', (∀ d, ji_CL (d + 58) 136 [.ref 78, .ref 76, .int x, .int y] X = some (none, X')) ∧ jy_IX P N X' n y.toInt 0 0 (jy_go N n y.toInt (jy_K N) 0 (-1, 0, 0)) := by
  have hX := R.xf
  have Kb := jy_Kb R
  obtain ⟨X1, e1⟩ : ∃ X1, X1 = ji_sI (ji_sI (ji_sI (ji_sI (ji_sR X 78 3 (some 76)) 78 4 x) 78 5 y) 78 6 (-1)) 78 7 0 := ⟨_, rfl⟩
  have oX1 : ji_offX X X1 := by rw [e1]; exact ji_offX_sI (ji_offX_sI (ji_offX_sI (ji_offX_sI (ji_offX_sR ji_offX_r (by decide)) rfl) rfl) rfl) rfl
  have hX1 := ji_offX_XF oX1 hX
  obtain ⟨X2, e2⟩ : ∃ X2, X2 = ji_sC X1 79 (fun i => if i < 4 then 0 else ji_gI X1 79 i) := ⟨_, rfl⟩
  have oX2 : ji_offX X X2 := by rw [e2]; exact ji_offX_sC oX1 (fun _ => rfl)
  have R2 := ji_Rel_offX R oX2
  have f78 : ∀ l, ji_gI X2 78 l = ji_gI X1 78 l := fun l => by rw [e2, gI_sCn (by decide)]
  have I2 : jy_IX P N X2 n y.toInt 0 0 (-1, 0, 0) := by
    refine ⟨R2, by rw [e2, gR_sC, e1]; rfl, ?_, ?_, ?_, ?_, fun y' hy' => ?_, trivial, fun h => absurd h (by decide)⟩
    · rw [f78, e1, gI_sI, if_neg (by decide), gI_sI, if_neg (by decide), gI_sI, if_neg (by decide), gI_sI, if_pos (by decide), hn]
    · rw [f78, e1, gI_sI, if_neg (by decide), gI_sI, if_neg (by decide), gI_sI, if_pos (by decide)]
    · rw [f78, e1, gI_sI, if_neg (by decide), gI_sI, if_pos (by decide)]; rfl
    · rw [f78, e1, gI_sI, if_pos (by decide)]; rfl
    · rw [e2, gI_sC, if_pos (by omega)]; rfl
  have ok0 : jy_ok n y.toInt (jy_si n (jy_p N) 0 0) := by
    have := jy_none (n := n) (p := jy_p N) hc.1 0
    rw [Nat.pow_zero] at this
    exact this
  obtain ⟨X3, C3, I3⟩ := m137 (P := P) h4 hc (jy_K N) 0 0 (by omega) _ X2 0 0 I2 ok0 rfl rfl
  refine ⟨X3, fun d => ?_, I3⟩
  have C3 := C3 (d + (55 - jy_K N))
  rw [show d + (55 - jy_K N) + jy_K N + 2 = d + 57 by omega] at C3
  have C3 : ji_CL (d + 57) 137 [.ref 78, .int 0, .int 0, .int 0] X2 = _ := C3
  have F := m120 (d := d + 56) (M := X1) (a := 79) (n := 4) (v := 0) (xk_79 hX1) (by omega)
  rw [← e2] at F
  have hmin : (if (4 : Int32) < x then 4 else x) = x := by
    rw [if_neg]
    rw [vi_lt]
    have : (4 : Int32).toInt = 4 := rfl
    omega
  have hmin2 : (if x < (4 : Int32) then x else 4) = x := by
    by_cases q : x < 4
    · rw [if_pos q]
    · rw [if_neg q]
      rw [vi_lt] at q
      have : (4 : Int32).toInt = 4 := rfl
      rw [vi_eq]; omega
  apply en_136
  simp only [s136_0, s136_1, s136_2, s136_5, s136_6, s136_7, s136_8, s136_11, s136_14, s136_15, s136_16, s136_19, s136_20, s136_21, s136_24, s136_25, s136_26, s136_29, s136_30, s136_33, q136_34, s136_37, s136_38, s136_39, s136_40, q136_41, s136_44, xIL_1, xIS_1, xQL_2, xQL_3, xAN_1, xAN_2, xAN_3, xCP_1, xC_s, xNC_I, ji_oI1, ji_oIm, kd_sC, gR_sC, gL_sC, ji_rv_s, ji_tl_s, ji_tl_n, ji_s1, ji_s2, ji_kl, List.getD_cons_zero, List.getD_cons_succ, List.set_cons_zero, List.set_cons_succ, List.length_cons, List.length_nil, ji_b_0, ji_b_1, ji_n0, ji_n1, ji_rcb_iff, ji_ok8_0, ji_ok8_1, ji_ok8_2, ji_ok8_3, ji_ok8_4, kd_sI, kd_sL, kd_sR, kd_cp, gR_sI, gR_sL, gR_cp, gL_sI, gL_sR, gL_cp, gI_sL, gI_sR, gI_sI, gL_sL, Nat.reduceEqDiff, false_and, and_false, true_and, and_true, Nat.reduceAdd, Nat.reduceLT, Nat.reduceSub, Int32.reduceLT, Int32.reduceAdd, not_false_eq_true, not_true_eq_false, and_self, ji_b_n, if_true, if_false, ↓reduceIte, cz_m100, cz_m19, cz_m18, cz_m17, cz_m16, cz_m15, cz_m14, cz_m13, cz_m12, cz_m11, cz_m4, cz_m3, cz_m2, cz_m1, cz_1, cz_2, cz_3, cz_4, cz_5, cz_6, cz_7, cz_8, cz_9, cz_10, cz_11, cz_12, cz_13, cz_14, cz_15, cz_16, cz_20, cz_24, cz_30, cz_32, cz_33, cz_38, cz_40, cz_41, cz_42, cz_43, cz_45, cz_48, cz_57, cz_59, cz_60, cz_61, cz_63, cz_64, cz_72, cz_96, cz_97, cz_99, cz_100, cz_122, cz_124, cz_126, cz_160, cz_161, cz_168, cz_200, cz_255, cz_300, cz_960, cz_999, cz_1000, cz_1001, cz_1002, cz_1003, cz_1120, cz_2000, cz_2003, cz_2004, cz_2005, cz_3999, cz_9999, cz_14640, -gI_sI, xk_78 hX, hmin, hmin2, ← e1, xr_78_0 hX, xk_78 hX1, xr_78_0 hX1, F, C3]
theorem m140 (hX : ji_XF M) (hi : (Int32.ofNat i).toInt = (i : Int)) (h : i < 6) : ji_CL (d + 1) 140 [.ref 78, .int (Int32.ofNat i)] M = some (some (.int (ji_gI M 81 i)), M) := by
  obtain ⟨k1, k2, k3⟩ := jy_ix (Y := i) (m := 6) (by omega) (by omega)
  have g0 : ¬ Int32.ofNat i < 0 := by rw [vi_lt]; show ¬ _ < (0 : Int); omega
  have g6 : Int32.ofNat i < 6 := by rw [vi_lt]; show _ < (6 : Int); omega
  apply en_140
  simp only [s140_0, s140_1, s140_4, s140_5, s140_7, s140_10, s140_11, s140_14, q140_15, s140_16, s140_19, s140_20, xIL_1, xIS_1, xQL_2, xQL_3, xAN_1, xAN_2, xAN_3, xCP_1, xC_s, xNC_I, ji_oI1, ji_oIm, kd_sC, gR_sC, gL_sC, ji_rv_s, ji_tl_s, ji_tl_n, ji_s1, ji_s2, ji_kl, List.getD_cons_zero, List.getD_cons_succ, List.set_cons_zero, List.set_cons_succ, List.length_cons, List.length_nil, ji_b_0, ji_b_1, ji_n0, ji_n1, ji_rcb_iff, ji_ok8_0, ji_ok8_1, ji_ok8_2, ji_ok8_3, ji_ok8_4, kd_sI, kd_sL, kd_sR, kd_cp, gR_sI, gR_sL, gR_cp, gL_sI, gL_sR, gL_cp, gI_sL, gI_sR, gI_sI, gL_sL, Nat.reduceEqDiff, false_and, and_false, true_and, and_true, Nat.reduceAdd, Nat.reduceLT, Nat.reduceSub, Int32.reduceLT, Int32.reduceAdd, not_false_eq_true, not_true_eq_false, and_self, ji_b_n, if_true, if_false, ↓reduceIte, cz_m100, cz_m19, cz_m18, cz_m17, cz_m16, cz_m15, cz_m14, cz_m13, cz_m12, cz_m11, cz_m4, cz_m3, cz_m2, cz_m1, cz_1, cz_2, cz_3, cz_4, cz_5, cz_6, cz_7, cz_8, cz_9, cz_10, cz_11, cz_12, cz_13, cz_14, cz_15, cz_16, cz_20, cz_24, cz_30, cz_32, cz_33, cz_38, cz_40, cz_41, cz_42, cz_43, cz_45, cz_48, cz_57, cz_59, cz_60, cz_61, cz_63, cz_64, cz_72, cz_96, cz_97, cz_99, cz_100, cz_122, cz_124, cz_126, cz_160, cz_161, cz_168, cz_200, cz_255, cz_300, cz_960, cz_999, cz_1000, cz_1001, cz_1002, cz_1003, cz_1120, cz_2000, cz_2003, cz_2004, cz_2005, cz_3999, cz_9999, cz_14640, xk_78 hX, xr_78_2 hX, xk_81 hX, g0, g6, k2, k3]
end JIV
