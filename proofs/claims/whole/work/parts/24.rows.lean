/-! ===== the class's rows of numbers ===== -/
/-- r are rows of numbers, m at most, w wide, in the cell c -/
def ji_Rw (M : ji_M) (r c m w : Nat) : Prop := ji_kd M r = some (0, 2) ∧ ji_gR M r 2 = some c ∧ ji_kd M c = some (1, m * w) ∧ ji_gI M r 0 = Int32.ofNat m ∧ ji_gI M r 1 = Int32.ofNat w ∧ m ≤ 40 ∧ w ≤ 8 ∧ 0 ≤ (ji_gI M r 3).toInt ∧ (ji_gI M r 3).toInt ≤ m
def ji_at (M : ji_M) (r c w : Nat) (x y : Int32) : Int32 := if (¬ x < 0 ∧ x < ji_gI M r 3) ∧ (¬ y < 0 ∧ y < Int32.ofNat w) then ji_gI M c (x.toInt.toNat * w + y.toInt.toNat) else 0
section JIP
variable {d a b r c m w : Nat} {M : ji_M} {x y z v : Int32}
theorem ji_ix {x y : Int32} {s m w : Nat} (h : s ≤ m ∧ m ≤ 40 ∧ w ≤ 8) (hx : 0 ≤ x.toInt ∧ x.toInt < s) (hy : 0 ≤ y.toInt ∧ y.toInt < w) : (x * Int32.ofNat w + y).toInt = ((x.toInt.toNat * w + y.toInt.toNat : Nat) : Int) ∧ x.toInt.toNat * w + y.toInt.toNat < m * w := by
  obtain ⟨p, hp⟩ : ∃ p : Nat, x.toInt = p := ⟨x.toInt.toNat, by omega⟩
  obtain ⟨q, hq⟩ : ∃ q : Nat, y.toInt = q := ⟨y.toInt.toNat, by omega⟩
  have hw : (Int32.ofNat w).toInt = w := vi_ofN (by omega)
  have h1 : p * w ≤ 40 * 8 := Nat.mul_le_mul (by omega) (by omega)
  have h2 : (p + 1) * w ≤ m * w := Nat.mul_le_mul (by omega) (Nat.le_refl _)
  have h3 : (p + 1) * w = p * w + w := Nat.succ_mul ..
  have e1 : (x * Int32.ofNat w).toInt = ((p * w : Nat) : Int) := by
    rw [vi_mul (by rw [hp, hw, ← Int.natCast_mul]; omega) (by rw [hp, hw, ← Int.natCast_mul]; omega), hp, hw, Int.natCast_mul]
  have e2 : (x * Int32.ofNat w + y).toInt = ((p * w + q : Nat) : Int) := by
    rw [vi_add (by omega) (by omega), e1, hq]; omega
  rw [e2, hp, hq]
  simp only [Int.toNat_natCast]
  exact ⟨trivial, by omega⟩
theorem m47 (h : ji_kd M r = some (0, 2)) : ji_CL (d + 1) 47 [.ref r] M = some (some (.int (ji_gI M r 3)), M) := by
  apply en_47
  simp only [s47_0, s47_1, s47_4, ji_evL_I, ji_evL_L, ji_evL_A, ji_evL_X, ji_evA_1, ji_evQ_2, ji_evQ_3, ji_evN_1, ji_evN_2, ji_evN_3, ji_evC_s, ji_rv_s, ji_tl_s, ji_tl_n, ji_s1, ji_s2, ji_kl, List.getD_cons_zero, List.getD_cons_succ, List.set_cons_zero, List.set_cons_succ, List.length_cons, List.length_nil, ji_b_0, ji_b_1, ji_n0, ji_n1, ji_rcb_iff, ji_ok8_0, ji_ok8_1, ji_ok8_2, ji_ok8_3, ji_ok8_4, kd_sI, kd_sL, kd_sR, kd_cp, gR_sI, gR_sL, gR_cp, gL_sI, gL_sR, gL_cp, gI_sL, gI_sR, true_and, and_true, Nat.reduceAdd, Nat.reduceLT, Nat.reduceSub, Int32.reduceLT, Int32.reduceAdd, not_false_eq_true, not_true_eq_false, and_self, ji_b_n, if_true, if_false, cz_m100, cz_m19, cz_m18, cz_m17, cz_m16, cz_m15, cz_m14, cz_m13, cz_m12, cz_m11, cz_m4, cz_m3, cz_m2, cz_m1, cz_1, cz_2, cz_3, cz_4, cz_5, cz_6, cz_7, cz_8, cz_9, cz_10, cz_11, cz_12, cz_13, cz_14, cz_15, cz_16, cz_20, cz_24, cz_30, cz_32, cz_33, cz_38, cz_40, cz_41, cz_42, cz_43, cz_45, cz_48, cz_57, cz_59, cz_60, cz_61, cz_63, cz_64, cz_72, cz_96, cz_97, cz_99, cz_100, cz_122, cz_124, cz_126, cz_160, cz_161, cz_168, cz_200, cz_255, cz_300, cz_960, cz_999, cz_1000, cz_1001, cz_1002, cz_1003, cz_1120, cz_2000, cz_2003, cz_2004, cz_2005, cz_3999, cz_9999, cz_14640, h]
theorem m61 (h : ji_kd M r = some (0, 2)) : ji_CL (d + 1) 61 [.ref r] M = some (some (.int (ji_b (¬ ji_gI M r 3 < ji_gI M r 0))), M) := by
  apply en_61
  simp only [s61_0, s61_1, s61_4, s61_5, s61_8, s61_11, s61_12, s61_15, s61_16, ji_evL_I, ji_evL_L, ji_evL_A, ji_evL_X, ji_evA_1, ji_evQ_2, ji_evQ_3, ji_evN_1, ji_evN_2, ji_evN_3, ji_evC_s, ji_rv_s, ji_tl_s, ji_tl_n, ji_s1, ji_s2, ji_kl, List.getD_cons_zero, List.getD_cons_succ, List.set_cons_zero, List.set_cons_succ, List.length_cons, List.length_nil, ji_b_0, ji_b_1, ji_n0, ji_n1, ji_rcb_iff, ji_ok8_0, ji_ok8_1, ji_ok8_2, ji_ok8_3, ji_ok8_4, kd_sI, kd_sL, kd_sR, kd_cp, gR_sI, gR_sL, gR_cp, gL_sI, gL_sR, gL_cp, gI_sL, gI_sR, true_and, and_true, Nat.reduceAdd, Nat.reduceLT, Nat.reduceSub, Int32.reduceLT, Int32.reduceAdd, not_false_eq_true, not_true_eq_false, and_self, ji_b_n, if_true, if_false, cz_m100, cz_m19, cz_m18, cz_m17, cz_m16, cz_m15, cz_m14, cz_m13, cz_m12, cz_m11, cz_m4, cz_m3, cz_m2, cz_m1, cz_1, cz_2, cz_3, cz_4, cz_5, cz_6, cz_7, cz_8, cz_9, cz_10, cz_11, cz_12, cz_13, cz_14, cz_15, cz_16, cz_20, cz_24, cz_30, cz_32, cz_33, cz_38, cz_40, cz_41, cz_42, cz_43, cz_45, cz_48, cz_57, cz_59, cz_60, cz_61, cz_63, cz_64, cz_72, cz_96, cz_97, cz_99, cz_100, cz_122, cz_124, cz_126, cz_160, cz_161, cz_168, cz_200, cz_255, cz_300, cz_960, cz_999, cz_1000, cz_1001, cz_1002, cz_1003, cz_1120, cz_2000, cz_2003, cz_2004, cz_2005, cz_3999, cz_9999, cz_14640, h]
  by_cases h1 : ji_gI M r 3 < ji_gI M r 0 <;> simp [ji_b, h1, ji_n0, ji_n1]
theorem m65 (h : ji_kd M r = some (0, 2)) : ji_CL (d + 1) 65 [.ref r, .int x] M = some (some (.int (ji_b (¬ x < 0 ∧ x < ji_gI M r 3))), M) := by
  apply en_65
  simp only [s65_0, s65_1, s65_4, s65_5, s65_6, s65_9, s65_12, s65_13, s65_16, s65_17, ji_evL_I, ji_evL_L, ji_evL_A, ji_evL_X, ji_evA_1, ji_evQ_2, ji_evQ_3, ji_evN_1, ji_evN_2, ji_evN_3, ji_evC_s, ji_rv_s, ji_tl_s, ji_tl_n, ji_s1, ji_s2, ji_kl, List.getD_cons_zero, List.getD_cons_succ, List.set_cons_zero, List.set_cons_succ, List.length_cons, List.length_nil, ji_b_0, ji_b_1, ji_n0, ji_n1, ji_rcb_iff, ji_ok8_0, ji_ok8_1, ji_ok8_2, ji_ok8_3, ji_ok8_4, kd_sI, kd_sL, kd_sR, kd_cp, gR_sI, gR_sL, gR_cp, gL_sI, gL_sR, gL_cp, gI_sL, gI_sR, true_and, and_true, Nat.reduceAdd, Nat.reduceLT, Nat.reduceSub, Int32.reduceLT, Int32.reduceAdd, not_false_eq_true, not_true_eq_false, and_self, ji_b_n, if_true, if_false, cz_m100, cz_m19, cz_m18, cz_m17, cz_m16, cz_m15, cz_m14, cz_m13, cz_m12, cz_m11, cz_m4, cz_m3, cz_m2, cz_m1, cz_1, cz_2, cz_3, cz_4, cz_5, cz_6, cz_7, cz_8, cz_9, cz_10, cz_11, cz_12, cz_13, cz_14, cz_15, cz_16, cz_20, cz_24, cz_30, cz_32, cz_33, cz_38, cz_40, cz_41, cz_42, cz_43, cz_45, cz_48, cz_57, cz_59, cz_60, cz_61, cz_63, cz_64, cz_72, cz_96, cz_97, cz_99, cz_100, cz_122, cz_124, cz_126, cz_160, cz_161, cz_168, cz_200, cz_255, cz_300, cz_960, cz_999, cz_1000, cz_1001, cz_1002, cz_1003, cz_1120, cz_2000, cz_2003, cz_2004, cz_2005, cz_3999, cz_9999, cz_14640, h]
  by_cases h1 : x < 0 <;> by_cases h2 : x < ji_gI M r 3 <;> simp [ji_b, ji_in, h1, h2, ji_n0, ji_n1]
theorem ji_Rw_ix (h : ji_Rw M r c m w) (hx : ¬ x < 0 ∧ x < ji_gI M r 3) (hy : ¬ y < 0 ∧ y < Int32.ofNat w) : vp_in (x * Int32.ofNat w + y) (m * w) ∧ (x * Int32.ofNat w + y).toNatClampNeg = x.toInt.toNat * w + y.toInt.toNat := by
  obtain ⟨-, -, -, -, -, h1, h2, h3, h4⟩ := h
  rw [vi_lt, vi_lt] at hx hy
  have hw : (Int32.ofNat w).toInt = w := vi_ofN (by omega)
  have h0 : (0 : Int32).toInt = 0 := rfl
  rw [h0] at hx hy
  rw [hw] at hy
  have := ji_ix (x := x) (y := y) (s := (ji_gI M r 3).toInt.toNat) (m := m) (w := w) ⟨by omega, h1, h2⟩ ⟨by omega, by omega⟩ ⟨by omega, by omega⟩
  rw [vi_in, vi_nat, this.1]
  exact ⟨⟨by omega, by have := this.2; omega⟩, Int.toNat_natCast _⟩
theorem m49 (h : ji_Rw M r c m w) : ji_CL (d + 1) 49 [.ref r, .int x, .int y] M = some (some (.int (ji_at M r c w x y)), M) := by
  have H := h
  obtain ⟨h1, h2, h3, h4, h5, -⟩ := h
  apply en_49
  simp only [s49_0, s49_1, s49_4, s49_5, s49_6, s49_9, s49_12, s49_13, s49_16, s49_17, s49_18, s49_21, s49_24, s49_25, s49_28, s49_29, s49_30, s49_31, s49_34, s49_35, s49_38, s49_39, s49_40, s49_43, s49_44, s49_45, s49_46, s49_47, s49_50, s49_51, ji_evL_I, ji_evL_L, ji_evL_A, ji_evL_X, ji_evA_1, ji_evQ_2, ji_evQ_3, ji_evN_1, ji_evN_2, ji_evN_3, ji_evC_s, ji_rv_s, ji_tl_s, ji_tl_n, ji_s1, ji_s2, ji_kl, List.getD_cons_zero, List.getD_cons_succ, List.set_cons_zero, List.set_cons_succ, List.length_cons, List.length_nil, ji_b_0, ji_b_1, ji_n0, ji_n1, ji_rcb_iff, ji_ok8_0, ji_ok8_1, ji_ok8_2, ji_ok8_3, ji_ok8_4, kd_sI, kd_sL, kd_sR, kd_cp, gR_sI, gR_sL, gR_cp, gL_sI, gL_sR, gL_cp, gI_sL, gI_sR, true_and, and_true, Nat.reduceAdd, Nat.reduceLT, Nat.reduceSub, Int32.reduceLT, Int32.reduceAdd, not_false_eq_true, not_true_eq_false, and_self, ji_b_n, if_true, if_false, cz_m100, cz_m19, cz_m18, cz_m17, cz_m16, cz_m15, cz_m14, cz_m13, cz_m12, cz_m11, cz_m4, cz_m3, cz_m2, cz_m1, cz_1, cz_2, cz_3, cz_4, cz_5, cz_6, cz_7, cz_8, cz_9, cz_10, cz_11, cz_12, cz_13, cz_14, cz_15, cz_16, cz_20, cz_24, cz_30, cz_32, cz_33, cz_38, cz_40, cz_41, cz_42, cz_43, cz_45, cz_48, cz_57, cz_59, cz_60, cz_61, cz_63, cz_64, cz_72, cz_96, cz_97, cz_99, cz_100, cz_122, cz_124, cz_126, cz_160, cz_161, cz_168, cz_200, cz_255, cz_300, cz_960, cz_999, cz_1000, cz_1001, cz_1002, cz_1003, cz_1120, cz_2000, cz_2003, cz_2004, cz_2005, cz_3999, cz_9999, cz_14640, h1, h2, h3, h5]
  unfold ji_at
  by_cases q1 : x < 0
  · simp [q1]
  by_cases q2 : x < ji_gI M r 3
  · by_cases q3 : y < 0
    · simp [q1, q2, q3]
    by_cases q4 : y < Int32.ofNat w
    · have := ji_Rw_ix H ⟨q1, q2⟩ ⟨q3, q4⟩
      simp [q1, q2, q3, q4, this.1, this.2]
    · simp [q1, q2, q3, q4]
  · simp [q1, q2]
theorem m57 (h : ji_Rw M r c m w) : ji_CL (d + 1) 57 [.ref r, .int x, .int y, .int v] M = some (none, if (¬ x < 0 ∧ x < ji_gI M r 3) ∧ (¬ y < 0 ∧ y < Int32.ofNat w) then ji_sI M c (x.toInt.toNat * w + y.toInt.toNat) v else M) := by
  have H := h
  obtain ⟨h1, h2, h3, h4, h5, -⟩ := h
  apply en_57
  simp only [s57_0, s57_1, s57_4, s57_5, s57_6, s57_9, s57_12, s57_13, s57_16, s57_17, s57_18, s57_21, s57_24, s57_25, s57_28, s57_29, s57_30, s57_33, s57_34, s57_35, s57_36, s57_37, s57_38, ji_evL_I, ji_evL_L, ji_evL_A, ji_evL_X, ji_evA_1, ji_evQ_2, ji_evQ_3, ji_evN_1, ji_evN_2, ji_evN_3, ji_evC_s, ji_rv_s, ji_tl_s, ji_tl_n, ji_s1, ji_s2, ji_kl, List.getD_cons_zero, List.getD_cons_succ, List.set_cons_zero, List.set_cons_succ, List.length_cons, List.length_nil, ji_b_0, ji_b_1, ji_n0, ji_n1, ji_rcb_iff, ji_ok8_0, ji_ok8_1, ji_ok8_2, ji_ok8_3, ji_ok8_4, kd_sI, kd_sL, kd_sR, kd_cp, gR_sI, gR_sL, gR_cp, gL_sI, gL_sR, gL_cp, gI_sL, gI_sR, true_and, and_true, Nat.reduceAdd, Nat.reduceLT, Nat.reduceSub, Int32.reduceLT, Int32.reduceAdd, not_false_eq_true, not_true_eq_false, and_self, ji_b_n, if_true, if_false, cz_m100, cz_m19, cz_m18, cz_m17, cz_m16, cz_m15, cz_m14, cz_m13, cz_m12, cz_m11, cz_m4, cz_m3, cz_m2, cz_m1, cz_1, cz_2, cz_3, cz_4, cz_5, cz_6, cz_7, cz_8, cz_9, cz_10, cz_11, cz_12, cz_13, cz_14, cz_15, cz_16, cz_20, cz_24, cz_30, cz_32, cz_33, cz_38, cz_40, cz_41, cz_42, cz_43, cz_45, cz_48, cz_57, cz_59, cz_60, cz_61, cz_63, cz_64, cz_72, cz_96, cz_97, cz_99, cz_100, cz_122, cz_124, cz_126, cz_160, cz_161, cz_168, cz_200, cz_255, cz_300, cz_960, cz_999, cz_1000, cz_1001, cz_1002, cz_1003, cz_1120, cz_2000, cz_2003, cz_2004, cz_2005, cz_3999, cz_9999, cz_14640, h1, h2, h3, h5]
  by_cases q1 : x < 0
  · simp [q1]
  by_cases q2 : x < ji_gI M r 3
  · by_cases q3 : y < 0
    · simp [q1, q2, q3]
    by_cases q4 : y < Int32.ofNat w
    · have := ji_Rw_ix H ⟨q1, q2⟩ ⟨q3, q4⟩
      simp [q1, q2, q3, q4, this.1, this.2]
    · simp [q1, q2, q3, q4]
  · simp [q1, q2]
theorem ji_Rw_sz (h : ji_Rw M r c m w) (h1 : 0 ≤ v.toInt) (h2 : v.toInt ≤ m) : ji_Rw (ji_sI M r 3 v) r c m w := by
  obtain ⟨g1, g2, g3, g4, g5, g6, g7, g8, g9⟩ := h
  have e : ji_gI (ji_sI M r 3 v) r 3 = v := if_pos ⟨rfl, rfl⟩
  refine ⟨g1, g2, g3, (if_neg (by simp)).trans g4, (if_neg (by simp)).trans g5, g6, g7, ?_, ?_⟩
  · rw [e]; exact h1
  · rw [e]; exact h2
theorem ji_Rw_ce {k : Nat} (h : ji_Rw M r c m w) (hn : a ≠ r) : ji_Rw (ji_sI M a k v) r c m w := by
  obtain ⟨g1, g2, g3, g4, g5, g6, g7, g8, g9⟩ := h
  have e : ∀ j, ji_gI (ji_sI M a k v) r j = ji_gI M r j := fun j => if_neg (fun q => hn q.1.symm)
  exact ⟨g1, g2, g3, (e 0).trans g4, (e 1).trans g5, g6, g7, by rw [e 3]; exact g8, by rw [e 3]; exact g9⟩
theorem ji_Rw_ne (h : ji_Rw M r c m w) : c ≠ r := by
  obtain ⟨g1, g2, g3, -⟩ := h
  intro e
  rw [e, g1] at g3
  cases g3
/-- what 'put' does within the rows -/
theorem m57i (h : ji_Rw M r c m w) (hx : 0 ≤ x.toInt ∧ x.toInt < (ji_gI M r 3).toInt) (hy : 0 ≤ y.toInt ∧ y.toInt < w) : ji_CL (d + 1) 57 [.ref r, .int x, .int y, .int v] M = some (none, ji_sI M c (x.toInt.toNat * w + y.toInt.toNat) v) := by
  have h0 : (0 : Int32).toInt = 0 := rfl
  have hw : (Int32.ofNat w).toInt = w := vi_ofN (by have := h.2.2.2.2.2.2.1; omega)
  rw [m57 h, if_pos]
  rw [vi_lt, vi_lt, vi_lt, vi_lt, h0, hw]
  omega
theorem m63f (h : ji_Rw M r c m w) (hf : ¬ ji_gI M r 3 < ji_gI M r 0) : ji_CL (d + 2) 63 [.ref r, .int x, .int y, .int z, .int v] M = some (some (.int (-1)), M) := by
  apply en_63
  simp only [s63_0, s63_1, s63_4, s63_7, s63_8, s63_9, s63_10, s63_10r, s63_11, s63_14, s63_15, s63_16, s63_19, s63_20, s63_21, s63_24, s63_25, s63_26, s63_27, s63_28, s63_31, s63_32, s63_33, s63_36, s63_37, s63_38, s63_39, s63_40, s63_43, s63_44, s63_45, s63_48, s63_49, s63_50, s63_51, s63_52, s63_55, s63_56, s63_57, s63_60, s63_61, s63_62, s63_63, s63_65, s63_68, s63_69, s63_72, s63_73, s63_74, ji_evL_I, ji_evL_L, ji_evL_A, ji_evL_X, ji_evA_1, ji_evQ_2, ji_evQ_3, ji_evN_1, ji_evN_2, ji_evN_3, ji_evC_s, ji_rv_s, ji_tl_s, ji_tl_n, ji_s1, ji_s2, ji_kl, List.getD_cons_zero, List.getD_cons_succ, List.set_cons_zero, List.set_cons_succ, List.length_cons, List.length_nil, ji_b_0, ji_b_1, ji_n0, ji_n1, ji_rcb_iff, ji_ok8_0, ji_ok8_1, ji_ok8_2, ji_ok8_3, ji_ok8_4, kd_sI, kd_sL, kd_sR, kd_cp, gR_sI, gR_sL, gR_cp, gL_sI, gL_sR, gL_cp, gI_sL, gI_sR, true_and, and_true, Nat.reduceAdd, Nat.reduceLT, Nat.reduceSub, Int32.reduceLT, Int32.reduceAdd, not_false_eq_true, not_true_eq_false, and_self, ji_b_n, if_true, if_false, cz_m100, cz_m19, cz_m18, cz_m17, cz_m16, cz_m15, cz_m14, cz_m13, cz_m12, cz_m11, cz_m4, cz_m3, cz_m2, cz_m1, cz_1, cz_2, cz_3, cz_4, cz_5, cz_6, cz_7, cz_8, cz_9, cz_10, cz_11, cz_12, cz_13, cz_14, cz_15, cz_16, cz_20, cz_24, cz_30, cz_32, cz_33, cz_38, cz_40, cz_41, cz_42, cz_43, cz_45, cz_48, cz_57, cz_59, cz_60, cz_61, cz_63, cz_64, cz_72, cz_96, cz_97, cz_99, cz_100, cz_122, cz_124, cz_126, cz_160, cz_161, cz_168, cz_200, cz_255, cz_300, cz_960, cz_999, cz_1000, cz_1001, cz_1002, cz_1003, cz_1120, cz_2000, cz_2003, cz_2004, cz_2005, cz_3999, cz_9999, cz_14640, m61 h.1, h.1, hf, ji_b_T hf]
theorem m63 (h : ji_Rw M r c m w) (hw : 4 ≤ w) (hf : (ji_gI M r 3).toInt < m) : ji_CL (d + 2) 63 [.ref r, .int x, .int y, .int z, .int v] M = some (some (.int (ji_gI M r 3)), ji_sI (ji_sI (ji_sI (ji_sI (ji_sI M r 3 (ji_gI M r 3 + 1)) c ((ji_gI M r 3).toInt.toNat * w) x) c ((ji_gI M r 3).toInt.toNat * w + 1) y) c ((ji_gI M r 3).toInt.toNat * w + 2) z) c ((ji_gI M r 3).toInt.toNat * w + 3) v) := by
  have h' := h
  obtain ⟨g1, g2, g3, g4, g5, g6, g7, g8, g9⟩ := h'
  have e1 : (1 : Int32).toInt = 1 := rfl
  have en : (ji_gI M r 3 + 1).toInt = (ji_gI M r 3).toInt + 1 := by rw [vi_add (by omega) (by omega), e1]
  have es : ji_gI M r 3 + 1 - 1 = ji_gI M r 3 := by
    rw [vi_eq, vi_sub (by omega) (by omega), en, e1]; omega
  have hlt : ji_gI M r 3 < ji_gI M r 0 := by rw [vi_lt, g4, vi_ofN (by omega)]; omega
  have R1 := ji_Rw_sz (v := ji_gI M r 3 + 1) h (by omega) (by omega)
  have hc := ji_Rw_ne h
  have e3 : ∀ (M : ji_M) (k : Nat) (v : Int32), ji_gI (ji_sI M c k v) r 3 = ji_gI M r 3 := fun M k v => if_neg (fun q => hc q.1.symm)
  have e4 : ji_gI (ji_sI M r 3 (ji_gI M r 3 + 1)) r 3 = ji_gI M r 3 + 1 := if_pos ⟨rfl, rfl⟩
  have t0 : (0 : Int32).toInt = 0 := rfl
  have t2 : (2 : Int32).toInt = 2 := rfl
  have t3 : (3 : Int32).toInt = 3 := rfl
  have hx : 0 ≤ (ji_gI M r 3).toInt ∧ (ji_gI M r 3).toInt < (ji_gI M r 3 + 1).toInt := by omega
  apply en_63
  simp only [s63_0, s63_1, s63_4, s63_7, s63_8, s63_9, s63_10, s63_10r, s63_11, s63_14, s63_15, s63_16, s63_19, s63_20, s63_21, s63_24, s63_25, s63_26, s63_27, s63_28, s63_31, s63_32, s63_33, s63_36, s63_37, s63_38, s63_39, s63_40, s63_43, s63_44, s63_45, s63_48, s63_49, s63_50, s63_51, s63_52, s63_55, s63_56, s63_57, s63_60, s63_61, s63_62, s63_63, s63_65, s63_68, s63_69, s63_72, s63_73, s63_74, ji_evL_I, ji_evL_L, ji_evL_A, ji_evL_X, ji_evA_1, ji_evQ_2, ji_evQ_3, ji_evN_1, ji_evN_2, ji_evN_3, ji_evC_s, ji_rv_s, ji_tl_s, ji_tl_n, ji_s1, ji_s2, ji_kl, List.getD_cons_zero, List.getD_cons_succ, List.set_cons_zero, List.set_cons_succ, List.length_cons, List.length_nil, ji_b_0, ji_b_1, ji_n0, ji_n1, ji_rcb_iff, ji_ok8_0, ji_ok8_1, ji_ok8_2, ji_ok8_3, ji_ok8_4, kd_sI, kd_sL, kd_sR, kd_cp, gR_sI, gR_sL, gR_cp, gL_sI, gL_sR, gL_cp, gI_sL, gI_sR, true_and, and_true, Nat.reduceAdd, Nat.reduceLT, Nat.reduceSub, Int32.reduceLT, Int32.reduceAdd, not_false_eq_true, not_true_eq_false, and_self, ji_b_n, if_true, if_false, cz_m100, cz_m19, cz_m18, cz_m17, cz_m16, cz_m15, cz_m14, cz_m13, cz_m12, cz_m11, cz_m4, cz_m3, cz_m2, cz_m1, cz_1, cz_2, cz_3, cz_4, cz_5, cz_6, cz_7, cz_8, cz_9, cz_10, cz_11, cz_12, cz_13, cz_14, cz_15, cz_16, cz_20, cz_24, cz_30, cz_32, cz_33, cz_38, cz_40, cz_41, cz_42, cz_43, cz_45, cz_48, cz_57, cz_59, cz_60, cz_61, cz_63, cz_64, cz_72, cz_96, cz_97, cz_99, cz_100, cz_122, cz_124, cz_126, cz_160, cz_161, cz_168, cz_200, cz_255, cz_300, cz_960, cz_999, cz_1000, cz_1001, cz_1002, cz_1003, cz_1120, cz_2000, cz_2003, cz_2004, cz_2005, cz_3999, cz_9999, cz_14640, m61 h.1, h.1, hlt, e4, es]
  rw [m57i R1 (by rw [e4]; exact hx) (by rw [t0]; omega)]
  have R2 := fun k v => ji_Rw_ce (a := c) (k := k) (v := v) R1 hc
  simp only [s63_0, s63_1, s63_4, s63_7, s63_8, s63_9, s63_10, s63_10r, s63_11, s63_14, s63_15, s63_16, s63_19, s63_20, s63_21, s63_24, s63_25, s63_26, s63_27, s63_28, s63_31, s63_32, s63_33, s63_36, s63_37, s63_38, s63_39, s63_40, s63_43, s63_44, s63_45, s63_48, s63_49, s63_50, s63_51, s63_52, s63_55, s63_56, s63_57, s63_60, s63_61, s63_62, s63_63, s63_65, s63_68, s63_69, s63_72, s63_73, s63_74, ji_evL_I, ji_evL_L, ji_evL_A, ji_evL_X, ji_evA_1, ji_evQ_2, ji_evQ_3, ji_evN_1, ji_evN_2, ji_evN_3, ji_evC_s, ji_rv_s, ji_tl_s, ji_tl_n, ji_s1, ji_s2, ji_kl, List.getD_cons_zero, List.getD_cons_succ, List.set_cons_zero, List.set_cons_succ, List.length_cons, List.length_nil, ji_b_0, ji_b_1, ji_n0, ji_n1, ji_rcb_iff, ji_ok8_0, ji_ok8_1, ji_ok8_2, ji_ok8_3, ji_ok8_4, kd_sI, kd_sL, kd_sR, kd_cp, gR_sI, gR_sL, gR_cp, gL_sI, gL_sR, gL_cp, gI_sL, gI_sR, true_and, and_true, Nat.reduceAdd, Nat.reduceLT, Nat.reduceSub, Int32.reduceLT, Int32.reduceAdd, not_false_eq_true, not_true_eq_false, and_self, ji_b_n, if_true, if_false, cz_m100, cz_m19, cz_m18, cz_m17, cz_m16, cz_m15, cz_m14, cz_m13, cz_m12, cz_m11, cz_m4, cz_m3, cz_m2, cz_m1, cz_1, cz_2, cz_3, cz_4, cz_5, cz_6, cz_7, cz_8, cz_9, cz_10, cz_11, cz_12, cz_13, cz_14, cz_15, cz_16, cz_20, cz_24, cz_30, cz_32, cz_33, cz_38, cz_40, cz_41, cz_42, cz_43, cz_45, cz_48, cz_57, cz_59, cz_60, cz_61, cz_63, cz_64, cz_72, cz_96, cz_97, cz_99, cz_100, cz_122, cz_124, cz_126, cz_160, cz_161, cz_168, cz_200, cz_255, cz_300, cz_960, cz_999, cz_1000, cz_1001, cz_1002, cz_1003, cz_1120, cz_2000, cz_2003, cz_2004, cz_2005, cz_3999, cz_9999, cz_14640, h.1, e3, e4, es]
  rw [m57i (R2 _ _) (by rw [e3, e4]; exact hx) (by rw [e1]; omega)]
  have R3 := fun k v k' v' => ji_Rw_ce (a := c) (k := k') (v := v') (R2 k v) hc
  simp only [s63_0, s63_1, s63_4, s63_7, s63_8, s63_9, s63_10, s63_10r, s63_11, s63_14, s63_15, s63_16, s63_19, s63_20, s63_21, s63_24, s63_25, s63_26, s63_27, s63_28, s63_31, s63_32, s63_33, s63_36, s63_37, s63_38, s63_39, s63_40, s63_43, s63_44, s63_45, s63_48, s63_49, s63_50, s63_51, s63_52, s63_55, s63_56, s63_57, s63_60, s63_61, s63_62, s63_63, s63_65, s63_68, s63_69, s63_72, s63_73, s63_74, ji_evL_I, ji_evL_L, ji_evL_A, ji_evL_X, ji_evA_1, ji_evQ_2, ji_evQ_3, ji_evN_1, ji_evN_2, ji_evN_3, ji_evC_s, ji_rv_s, ji_tl_s, ji_tl_n, ji_s1, ji_s2, ji_kl, List.getD_cons_zero, List.getD_cons_succ, List.set_cons_zero, List.set_cons_succ, List.length_cons, List.length_nil, ji_b_0, ji_b_1, ji_n0, ji_n1, ji_rcb_iff, ji_ok8_0, ji_ok8_1, ji_ok8_2, ji_ok8_3, ji_ok8_4, kd_sI, kd_sL, kd_sR, kd_cp, gR_sI, gR_sL, gR_cp, gL_sI, gL_sR, gL_cp, gI_sL, gI_sR, true_and, and_true, Nat.reduceAdd, Nat.reduceLT, Nat.reduceSub, Int32.reduceLT, Int32.reduceAdd, not_false_eq_true, not_true_eq_false, and_self, ji_b_n, if_true, if_false, cz_m100, cz_m19, cz_m18, cz_m17, cz_m16, cz_m15, cz_m14, cz_m13, cz_m12, cz_m11, cz_m4, cz_m3, cz_m2, cz_m1, cz_1, cz_2, cz_3, cz_4, cz_5, cz_6, cz_7, cz_8, cz_9, cz_10, cz_11, cz_12, cz_13, cz_14, cz_15, cz_16, cz_20, cz_24, cz_30, cz_32, cz_33, cz_38, cz_40, cz_41, cz_42, cz_43, cz_45, cz_48, cz_57, cz_59, cz_60, cz_61, cz_63, cz_64, cz_72, cz_96, cz_97, cz_99, cz_100, cz_122, cz_124, cz_126, cz_160, cz_161, cz_168, cz_200, cz_255, cz_300, cz_960, cz_999, cz_1000, cz_1001, cz_1002, cz_1003, cz_1120, cz_2000, cz_2003, cz_2004, cz_2005, cz_3999, cz_9999, cz_14640, h.1, e3, e4, es]
  rw [m57i (R3 _ _ _ _) (by rw [e3, e3, e4]; exact hx) (by rw [t2]; omega)]
  have R4 := fun k v k' v' k'' v'' => ji_Rw_ce (a := c) (k := k'') (v := v'') (R3 k v k' v') hc
  simp only [s63_0, s63_1, s63_4, s63_7, s63_8, s63_9, s63_10, s63_10r, s63_11, s63_14, s63_15, s63_16, s63_19, s63_20, s63_21, s63_24, s63_25, s63_26, s63_27, s63_28, s63_31, s63_32, s63_33, s63_36, s63_37, s63_38, s63_39, s63_40, s63_43, s63_44, s63_45, s63_48, s63_49, s63_50, s63_51, s63_52, s63_55, s63_56, s63_57, s63_60, s63_61, s63_62, s63_63, s63_65, s63_68, s63_69, s63_72, s63_73, s63_74, ji_evL_I, ji_evL_L, ji_evL_A, ji_evL_X, ji_evA_1, ji_evQ_2, ji_evQ_3, ji_evN_1, ji_evN_2, ji_evN_3, ji_evC_s, ji_rv_s, ji_tl_s, ji_tl_n, ji_s1, ji_s2, ji_kl, List.getD_cons_zero, List.getD_cons_succ, List.set_cons_zero, List.set_cons_succ, List.length_cons, List.length_nil, ji_b_0, ji_b_1, ji_n0, ji_n1, ji_rcb_iff, ji_ok8_0, ji_ok8_1, ji_ok8_2, ji_ok8_3, ji_ok8_4, kd_sI, kd_sL, kd_sR, kd_cp, gR_sI, gR_sL, gR_cp, gL_sI, gL_sR, gL_cp, gI_sL, gI_sR, true_and, and_true, Nat.reduceAdd, Nat.reduceLT, Nat.reduceSub, Int32.reduceLT, Int32.reduceAdd, not_false_eq_true, not_true_eq_false, and_self, ji_b_n, if_true, if_false, cz_m100, cz_m19, cz_m18, cz_m17, cz_m16, cz_m15, cz_m14, cz_m13, cz_m12, cz_m11, cz_m4, cz_m3, cz_m2, cz_m1, cz_1, cz_2, cz_3, cz_4, cz_5, cz_6, cz_7, cz_8, cz_9, cz_10, cz_11, cz_12, cz_13, cz_14, cz_15, cz_16, cz_20, cz_24, cz_30, cz_32, cz_33, cz_38, cz_40, cz_41, cz_42, cz_43, cz_45, cz_48, cz_57, cz_59, cz_60, cz_61, cz_63, cz_64, cz_72, cz_96, cz_97, cz_99, cz_100, cz_122, cz_124, cz_126, cz_160, cz_161, cz_168, cz_200, cz_255, cz_300, cz_960, cz_999, cz_1000, cz_1001, cz_1002, cz_1003, cz_1120, cz_2000, cz_2003, cz_2004, cz_2005, cz_3999, cz_9999, cz_14640, h.1, e3, e4, es]
  rw [m57i (R4 _ _ _ _ _ _) (by rw [e3, e3, e3, e4]; exact hx) (by rw [t3]; omega)]
  simp only [s63_0, s63_1, s63_4, s63_7, s63_8, s63_9, s63_10, s63_10r, s63_11, s63_14, s63_15, s63_16, s63_19, s63_20, s63_21, s63_24, s63_25, s63_26, s63_27, s63_28, s63_31, s63_32, s63_33, s63_36, s63_37, s63_38, s63_39, s63_40, s63_43, s63_44, s63_45, s63_48, s63_49, s63_50, s63_51, s63_52, s63_55, s63_56, s63_57, s63_60, s63_61, s63_62, s63_63, s63_65, s63_68, s63_69, s63_72, s63_73, s63_74, ji_evL_I, ji_evL_L, ji_evL_A, ji_evL_X, ji_evA_1, ji_evQ_2, ji_evQ_3, ji_evN_1, ji_evN_2, ji_evN_3, ji_evC_s, ji_rv_s, ji_tl_s, ji_tl_n, ji_s1, ji_s2, ji_kl, List.getD_cons_zero, List.getD_cons_succ, List.set_cons_zero, List.set_cons_succ, List.length_cons, List.length_nil, ji_b_0, ji_b_1, ji_n0, ji_n1, ji_rcb_iff, ji_ok8_0, ji_ok8_1, ji_ok8_2, ji_ok8_3, ji_ok8_4, kd_sI, kd_sL, kd_sR, kd_cp, gR_sI, gR_sL, gR_cp, gL_sI, gL_sR, gL_cp, gI_sL, gI_sR, true_and, and_true, Nat.reduceAdd, Nat.reduceLT, Nat.reduceSub, Int32.reduceLT, Int32.reduceAdd, not_false_eq_true, not_true_eq_false, and_self, ji_b_n, if_true, if_false, cz_m100, cz_m19, cz_m18, cz_m17, cz_m16, cz_m15, cz_m14, cz_m13, cz_m12, cz_m11, cz_m4, cz_m3, cz_m2, cz_m1, cz_1, cz_2, cz_3, cz_4, cz_5, cz_6, cz_7, cz_8, cz_9, cz_10, cz_11, cz_12, cz_13, cz_14, cz_15, cz_16, cz_20, cz_24, cz_30, cz_32, cz_33, cz_38, cz_40, cz_41, cz_42, cz_43, cz_45, cz_48, cz_57, cz_59, cz_60, cz_61, cz_63, cz_64, cz_72, cz_96, cz_97, cz_99, cz_100, cz_122, cz_124, cz_126, cz_160, cz_161, cz_168, cz_200, cz_255, cz_300, cz_960, cz_999, cz_1000, cz_1001, cz_1002, cz_1003, cz_1120, cz_2000, cz_2003, cz_2004, cz_2005, cz_3999, cz_9999, cz_14640, h.1, e3, e4, es, t0, e1, t2, t3]
  rfl
end JIP
