/-! ===== years: the class ===== -/
def jy_qc (n : Nat) (x : Int32) (e : Nat) : Prop := x.toInt = if e = n then -1 else (e : Int)
def jy_p (N : ji_M) (l : Nat) : Int := (ji_gI N 47 l).toInt
def jy_r (N : ji_M) (l : Nat) : Int := (ji_gI N 48 l).toInt
def jy_K (N : ji_M) : Nat := (ji_gI N 0 71).toInt.toNat
def jy_IX (P : ji_P) (N X : ji_M) (n : Nat) (c : Int) (j v : Nat) (x : Int × Int × Nat) : Prop := ji_Rel P X N ∧ ji_gR X 78 3 = some 76 ∧ (ji_gI X 78 4).toInt = (n : Int) ∧ (ji_gI X 78 5).toInt = c ∧ (ji_gI X 78 6).toInt = x.1 ∧ (ji_gI X 78 7).toInt = x.2.1 ∧ (∀ y, y < n → (ji_gI X 79 y).toInt = jy_si n (jy_p N) j v y) ∧ jy_E (jy_qc n) (n + 1) (ji_gI X 80) j v ∧ (0 ≤ x.1 → jy_E (jy_qc n) (n + 1) (ji_gI X 81) (jy_K N) x.2.2)
noncomputable def jy_go (N : ji_M) (n : Nat) (c : Int) (k v : Nat) (x : Int × Int × Nat) : Int × Int × Nat := jy_run (jy_st n c (jy_p N) (jy_r N) (jy_K N)) (v * (n + 1) ^ k) ((n + 1) ^ k) x
theorem jy_ix {Y m : Nat} (h : Y < m) (hm : m ≤ 1000) : (Int32.ofNat Y).toInt = (Y : Int) ∧ (Int32.ofNat Y).toNatClampNeg = Y ∧ vp_in (Int32.ofNat Y) m := by
  have e := vi_nn (n := Y) (by omega)
  exact ⟨e, by rw [vi_nat, e]; exact Int.toNat_natCast _, vi_in.mpr ⟨by omega, by omega⟩⟩
theorem tn_6 : (6 : Int32).toNatClampNeg = 6 := rfl
section JIV
variable {X Y N N' M : ji_M} {P : ji_P} {x y z w a b : Int32} {d r m s n i j k v : Nat} {c : Int} {q : Int × Int × Nat} {o : Option Value × ji_M}
theorem jy_pb (R : ji_Rel P X N) : ∀ l, l < jy_K N → (0 ≤ jy_p N l ∧ jy_p N l ≤ 999) ∧ (0 ≤ jy_r N l ∧ jy_r N l ≤ 999) := by
  intro l hl
  have hb := R.kinds.2.1
  have e := R.kinds.2.2 l (by unfold jy_K at hl; omega)
  have h1 := e.1.2
  have h2 := e.2.2
  unfold ji_bt at h1 h2
  unfold jy_p jy_r
  omega
theorem jy_pc (R : ji_Rel P X N) : ∀ l, l < jy_K N → 0 ≤ jy_p N l ∧ jy_p N l ≤ 999 := fun l hl => (jy_pb R l hl).1
theorem jy_pr (R : ji_Rel P X N) : ∀ l, l < jy_K N → 0 ≤ jy_r N l ∧ jy_r N l ≤ 999 := fun l hl => (jy_pb R l hl).2
theorem jy_Kb (R : ji_Rel P X N) : jy_K N ≤ 6 ∧ (ji_gI N 0 71).toInt = (jy_K N : Int) := by
  have hb := R.kinds.2.1
  unfold ji_bt at hb
  unfold jy_K
  omega
/-- may so much be spent in this year -/
theorem m139L (I : jy_IX P N X n c j v q) (hn : n ≤ 4) (hc : 0 ≤ c ∧ c ≤ 9999) (hj : j < jy_K N) {i : Nat} (hi : i < n) : ∀ (m Y : Nat) (h : Int32), Y + m = n → h.toInt = jy_cu c (jy_si n (jy_p N) j v) Y - jy_p N j → ji_Ev (ji_CL d) 139 6 X [some (.ref 78), some (.int (ji_gI N 47 j)), some (.int (Int32.ofNat i)), some (.int h), some (.int (Int32.ofNat Y))] [] (some (.int (ji_b (∀ Z, Z ≤ n → Y < Z → i < Z → 0 ≤ jy_cu c (jy_si n (jy_p N) j v) Z - jy_p N j))), X) := by
  obtain ⟨R, g3, g4, g5, g6, g7, gs, g80, g81⟩ := I
  have hX := R.xf
  have Kb := jy_Kb R
  have e0 : (0 : Int32).toInt = 0 := rfl
  intro m
  induction m with
  | zero =>
    intro Y h hY hh
    have g : ¬ Int32.ofNat Y < ji_gI X 78 4 := by rw [vi_lt, vi_nn (by omega)]; omega
    have t : ji_b (∀ Z, Z ≤ n → Y < Z → i < Z → 0 ≤ jy_cu c (jy_si n (jy_p N) j v) Z - jy_p N j) = 1 := ji_b_T (fun Z h1 h2 _ => by omega)
    rw [t]
    simp only [s139_0, s139_1, s139_2, s139_3, s139_4, s139_6, s139_8, s139_9, s139_12, s139_15, s139_16, s139_17, s139_20, s139_21, s139_24, q139_26, s139_27, s139_28, s139_29, s139_30, s139_32, s139_33, s139_36, s139_37, s139_40, s139_41, q139_42, s139_48, s139_49, xIL_1, xIS_1, xQL_2, xQL_3, xAN_1, xAN_2, xAN_3, xCP_1, xC_s, xNC_I, ji_oI1, ji_oIm, kd_sC, gR_sC, gL_sC, ji_rv_s, ji_tl_s, ji_tl_n, ji_s1, ji_s2, ji_kl, List.getD_cons_zero, List.getD_cons_succ, List.set_cons_zero, List.set_cons_succ, List.length_cons, List.length_nil, ji_b_0, ji_b_1, ji_n0, ji_n1, ji_rcb_iff, ji_ok8_0, ji_ok8_1, ji_ok8_2, ji_ok8_3, ji_ok8_4, kd_sI, kd_sL, kd_sR, kd_cp, gR_sI, gR_sL, gR_cp, gL_sI, gL_sR, gL_cp, gI_sL, gI_sR, gI_sI, gL_sL, Nat.reduceEqDiff, false_and, and_false, true_and, and_true, Nat.reduceAdd, Nat.reduceLT, Nat.reduceSub, Int32.reduceLT, Int32.reduceAdd, not_false_eq_true, not_true_eq_false, and_self, ji_b_n, if_true, if_false, ↓reduceIte, cz_m100, cz_m19, cz_m18, cz_m17, cz_m16, cz_m15, cz_m14, cz_m13, cz_m12, cz_m11, cz_m4, cz_m3, cz_m2, cz_m1, cz_1, cz_2, cz_3, cz_4, cz_5, cz_6, cz_7, cz_8, cz_9, cz_10, cz_11, cz_12, cz_13, cz_14, cz_15, cz_16, cz_20, cz_24, cz_30, cz_32, cz_33, cz_38, cz_40, cz_41, cz_42, cz_43, cz_45, cz_48, cz_57, cz_59, cz_60, cz_61, cz_63, cz_64, cz_72, cz_96, cz_97, cz_99, cz_100, cz_122, cz_124, cz_126, cz_160, cz_161, cz_168, cz_200, cz_255, cz_300, cz_960, cz_999, cz_1000, cz_1001, cz_1002, cz_1003, cz_1120, cz_2000, cz_2003, cz_2004, cz_2005, cz_3999, cz_9999, cz_14640, xk_78 hX, g]
  | succ m ih =>
    intro Y h hY hh
    obtain ⟨i1, i2, i3⟩ := jy_ix (Y := Y) (m := 4) (by omega) (by omega)
    obtain ⟨k1, k2, k3⟩ := jy_ix (Y := i) (m := 4) (by omega) (by omega)
    have g : Int32.ofNat Y < ji_gI X 78 4 := by rw [vi_lt, vi_nn (by omega)]; omega
    have p1 := jx_o1p (k := Y) (by omega)
    have p2 : (Int32.ofInt 1) = 1 := rfl
    have sb := fun y => jy_si_b (n := n) (jy_pc R) j v y (by omega)
    have cb := fun Y => jy_cu_b (c := c) (h := jy_si n (jy_p N) j v) (fun y => ⟨(sb y).1, by have := (sb y).2; omega⟩) hc Y
    have pb := jy_pc R j hj
    have e : (h + (ji_gI X 78 5 - ji_gI X 79 Y)).toInt = jy_cu c (jy_si n (jy_p N) j v) (Y + 1) - jy_p N j := by
      have := sb Y
      have := cb Y
      have s1 : (ji_gI X 78 5 - ji_gI X 79 Y).toInt = c - jy_si n (jy_p N) j v Y := by
        rw [vi_sub (by rw [g5, gs Y (by omega)]; omega) (by rw [g5, gs Y (by omega)]; omega), g5, gs Y (by omega)]
      have s2 : jy_cu c (jy_si n (jy_p N) j v) (Y + 1) = jy_cu c (jy_si n (jy_p N) j v) Y + (c - jy_si n (jy_p N) j v Y) := rfl
      rw [vi_add (by omega) (by omega), s1, s2, hh]
      omega
    have I := ih (Y + 1) _ (by omega) e
    have ji : (Int32.ofNat Y < Int32.ofNat i) ↔ Y < i := by rw [vi_lt]; omega
    obtain ⟨h', eh⟩ : ∃ h', h + (ji_gI X 78 5 - ji_gI X 79 Y) = h' := ⟨_, rfl⟩
    rw [eh] at I e
    by_cases q1 : Y < i
    · have t : ji_b (∀ Z, Z ≤ n → Y < Z → i < Z → 0 ≤ jy_cu c (jy_si n (jy_p N) j v) Z - jy_p N j) = ji_b (∀ Z, Z ≤ n → Y + 1 < Z → i < Z → 0 ≤ jy_cu c (jy_si n (jy_p N) j v) Z - jy_p N j) := by
        congr 1
        exact propext ⟨fun z Z h1 h2 h3 => z Z h1 (by omega) h3, fun z Z h1 h2 h3 => z Z h1 (by omega) h3⟩
      rw [t]
      simp only [s139_0, s139_1, s139_2, s139_3, s139_4, s139_6, s139_8, s139_9, s139_12, s139_15, s139_16, s139_17, s139_20, s139_21, s139_24, q139_26, s139_27, s139_28, s139_29, s139_30, s139_32, s139_33, s139_36, s139_37, s139_40, s139_41, q139_42, s139_48, s139_49, xIL_1, xIS_1, xQL_2, xQL_3, xAN_1, xAN_2, xAN_3, xCP_1, xC_s, xNC_I, ji_oI1, ji_oIm, kd_sC, gR_sC, gL_sC, ji_rv_s, ji_tl_s, ji_tl_n, ji_s1, ji_s2, ji_kl, List.getD_cons_zero, List.getD_cons_succ, List.set_cons_zero, List.set_cons_succ, List.length_cons, List.length_nil, ji_b_0, ji_b_1, ji_n0, ji_n1, ji_rcb_iff, ji_ok8_0, ji_ok8_1, ji_ok8_2, ji_ok8_3, ji_ok8_4, kd_sI, kd_sL, kd_sR, kd_cp, gR_sI, gR_sL, gR_cp, gL_sI, gL_sR, gL_cp, gI_sL, gI_sR, gI_sI, gL_sL, Nat.reduceEqDiff, false_and, and_false, true_and, and_true, Nat.reduceAdd, Nat.reduceLT, Nat.reduceSub, Int32.reduceLT, Int32.reduceAdd, not_false_eq_true, not_true_eq_false, and_self, ji_b_n, if_true, if_false, ↓reduceIte, cz_m100, cz_m19, cz_m18, cz_m17, cz_m16, cz_m15, cz_m14, cz_m13, cz_m12, cz_m11, cz_m4, cz_m3, cz_m2, cz_m1, cz_1, cz_2, cz_3, cz_4, cz_5, cz_6, cz_7, cz_8, cz_9, cz_10, cz_11, cz_12, cz_13, cz_14, cz_15, cz_16, cz_20, cz_24, cz_30, cz_32, cz_33, cz_38, cz_40, cz_41, cz_42, cz_43, cz_45, cz_48, cz_57, cz_59, cz_60, cz_61, cz_63, cz_64, cz_72, cz_96, cz_97, cz_99, cz_100, cz_122, cz_124, cz_126, cz_160, cz_161, cz_168, cz_200, cz_255, cz_300, cz_960, cz_999, cz_1000, cz_1001, cz_1002, cz_1003, cz_1120, cz_2000, cz_2003, cz_2004, cz_2005, cz_3999, cz_9999, cz_14640, xk_78 hX, xr_78_0 hX, xk_79 hX, g, i2, i3, p1, p2, ji, q1, eh]
      simp only [s139_45]
      exact I
    by_cases q2 : h' < 0
    · have t : ji_b (∀ Z, Z ≤ n → Y < Z → i < Z → 0 ≤ jy_cu c (jy_si n (jy_p N) j v) Z - jy_p N j) = 0 := ji_b_F (fun z => by
        have := z (Y + 1) (by omega) (by omega) (by omega)
        rw [vi_lt] at q2
        omega)
      rw [t]
      simp only [s139_0, s139_1, s139_2, s139_3, s139_4, s139_6, s139_8, s139_9, s139_12, s139_15, s139_16, s139_17, s139_20, s139_21, s139_24, q139_26, s139_27, s139_28, s139_29, s139_30, s139_32, s139_33, s139_36, s139_37, s139_40, s139_41, q139_42, s139_48, s139_49, xIL_1, xIS_1, xQL_2, xQL_3, xAN_1, xAN_2, xAN_3, xCP_1, xC_s, xNC_I, ji_oI1, ji_oIm, kd_sC, gR_sC, gL_sC, ji_rv_s, ji_tl_s, ji_tl_n, ji_s1, ji_s2, ji_kl, List.getD_cons_zero, List.getD_cons_succ, List.set_cons_zero, List.set_cons_succ, List.length_cons, List.length_nil, ji_b_0, ji_b_1, ji_n0, ji_n1, ji_rcb_iff, ji_ok8_0, ji_ok8_1, ji_ok8_2, ji_ok8_3, ji_ok8_4, kd_sI, kd_sL, kd_sR, kd_cp, gR_sI, gR_sL, gR_cp, gL_sI, gL_sR, gL_cp, gI_sL, gI_sR, gI_sI, gL_sL, Nat.reduceEqDiff, false_and, and_false, true_and, and_true, Nat.reduceAdd, Nat.reduceLT, Nat.reduceSub, Int32.reduceLT, Int32.reduceAdd, not_false_eq_true, not_true_eq_false, and_self, ji_b_n, if_true, if_false, ↓reduceIte, cz_m100, cz_m19, cz_m18, cz_m17, cz_m16, cz_m15, cz_m14, cz_m13, cz_m12, cz_m11, cz_m4, cz_m3, cz_m2, cz_m1, cz_1, cz_2, cz_3, cz_4, cz_5, cz_6, cz_7, cz_8, cz_9, cz_10, cz_11, cz_12, cz_13, cz_14, cz_15, cz_16, cz_20, cz_24, cz_30, cz_32, cz_33, cz_38, cz_40, cz_41, cz_42, cz_43, cz_45, cz_48, cz_57, cz_59, cz_60, cz_61, cz_63, cz_64, cz_72, cz_96, cz_97, cz_99, cz_100, cz_122, cz_124, cz_126, cz_160, cz_161, cz_168, cz_200, cz_255, cz_300, cz_960, cz_999, cz_1000, cz_1001, cz_1002, cz_1003, cz_1120, cz_2000, cz_2003, cz_2004, cz_2005, cz_3999, cz_9999, cz_14640, xk_78 hX, xr_78_0 hX, xk_79 hX, g, i2, i3, p1, p2, ji, q1, q2, eh]
    · have t : ji_b (∀ Z, Z ≤ n → Y < Z → i < Z → 0 ≤ jy_cu c (jy_si n (jy_p N) j v) Z - jy_p N j) = ji_b (∀ Z, Z ≤ n → Y + 1 < Z → i < Z → 0 ≤ jy_cu c (jy_si n (jy_p N) j v) Z - jy_p N j) := by
        congr 1
        refine propext ⟨fun z Z h1 h2 h3 => z Z h1 (by omega) h3, fun z Z h1 h2 h3 => ?_⟩
        by_cases h4 : Z = Y + 1
        · rw [h4]
          rw [vi_lt] at q2
          omega
        · exact z Z h1 (by omega) h3
      rw [t]
      simp only [s139_0, s139_1, s139_2, s139_3, s139_4, s139_6, s139_8, s139_9, s139_12, s139_15, s139_16, s139_17, s139_20, s139_21, s139_24, q139_26, s139_27, s139_28, s139_29, s139_30, s139_32, s139_33, s139_36, s139_37, s139_40, s139_41, q139_42, s139_48, s139_49, xIL_1, xIS_1, xQL_2, xQL_3, xAN_1, xAN_2, xAN_3, xCP_1, xC_s, xNC_I, ji_oI1, ji_oIm, kd_sC, gR_sC, gL_sC, ji_rv_s, ji_tl_s, ji_tl_n, ji_s1, ji_s2, ji_kl, List.getD_cons_zero, List.getD_cons_succ, List.set_cons_zero, List.set_cons_succ, List.length_cons, List.length_nil, ji_b_0, ji_b_1, ji_n0, ji_n1, ji_rcb_iff, ji_ok8_0, ji_ok8_1, ji_ok8_2, ji_ok8_3, ji_ok8_4, kd_sI, kd_sL, kd_sR, kd_cp, gR_sI, gR_sL, gR_cp, gL_sI, gL_sR, gL_cp, gI_sL, gI_sR, gI_sI, gL_sL, Nat.reduceEqDiff, false_and, and_false, true_and, and_true, Nat.reduceAdd, Nat.reduceLT, Nat.reduceSub, Int32.reduceLT, Int32.reduceAdd, not_false_eq_true, not_true_eq_false, and_self, ji_b_n, if_true, if_false, ↓reduceIte, cz_m100, cz_m19, cz_m18, cz_m17, cz_m16, cz_m15, cz_m14, cz_m13, cz_m12, cz_m11, cz_m4, cz_m3, cz_m2, cz_m1, cz_1, cz_2, cz_3, cz_4, cz_5, cz_6, cz_7, cz_8, cz_9, cz_10, cz_11, cz_12, cz_13, cz_14, cz_15, cz_16, cz_20, cz_24, cz_30, cz_32, cz_33, cz_38, cz_40, cz_41, cz_42, cz_43, cz_45, cz_48, cz_57, cz_59, cz_60, cz_61, cz_63, cz_64, cz_72, cz_96, cz_97, cz_99, cz_100, cz_122, cz_124, cz_126, cz_160, cz_161, cz_168, cz_200, cz_255, cz_300, cz_960, cz_999, cz_1000, cz_1001, cz_1002, cz_1003, cz_1120, cz_2000, cz_2003, cz_2004, cz_2005, cz_3999, cz_9999, cz_14640, xk_78 hX, xr_78_0 hX, xk_79 hX, g, i2, i3, p1, p2, ji, q1, q2, eh]
      simp only [s139_45]
      exact I
end JIV
