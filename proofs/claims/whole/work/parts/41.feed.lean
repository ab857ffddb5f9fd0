/-! ===== feed ===== -/
theorem sI_sI {M : ji_M} {a k : Nat} {v w : Int32} : ji_sI (ji_sI M a k v) a k w = ji_sI M a k w := by
  refine ji_M_ext rfl (fun i j => ?_) (fun _ _ => rfl) (fun _ _ => rfl)
  by_cases h : i = a ∧ j = k
  · rw [gI_sI, if_pos h, gI_sI, if_pos h]
  · rw [gI_sI, if_neg h, gI_sI, if_neg h, gI_sI, if_neg h]
theorem sI_cm {M : ji_M} {a b k j : Nat} {v w : Int32} (h : a ≠ b) : ji_sI (ji_sI M a k v) b j w = ji_sI (ji_sI M b j w) a k v := by
  refine ji_M_ext rfl (fun p q => ?_) (fun _ _ => rfl) (fun _ _ => rfl)
  by_cases h1 : p = a ∧ q = k
  · have h2 : ¬ (p = b ∧ q = j) := fun u => h (h1.1.symm.trans u.1)
    rw [gI_sI, gI_sI, gI_sI, gI_sI, if_neg h2, if_pos h1, if_pos h1]
  · rw [gI_sI, gI_sI, gI_sI, gI_sI, if_neg h1, if_neg h1]
/-- rows written one behind the other -/
def jq_fd (f : ji_F) (s : Nat) (g : ji_F) : Nat → ji_F
  | 0 => f
  | k + 1 => ji_up (jq_fd f s g k) (s + k) (g k)
theorem jq_fd_lo {f g : ji_F} {s j : Nat} (h : j < s) : ∀ k, jq_fd f s g k j = f j := by
  intro k
  induction k with
  | zero => rfl
  | succ k ih =>
    rw [← ih]
    exact up_ne (by omega)
theorem jq_fd_in {f g : ji_F} {s i : Nat} : ∀ k, i < k → jq_fd f s g k (s + i) = g i := by
  intro k
  induction k with
  | zero => intro h; omega
  | succ k ih =>
    intro h
    by_cases e : i = k
    · subst e
      exact up_eq
    · rw [← ih (by omega)]
      exact up_ne (by omega)
theorem jq_bv (U : BitVec 64) (s : Nat) (hs : s ≤ 56) : BitVec.setWidth 8 ((U >>> s) &&& 255#64) = BitVec.setWidth 8 (U.sshiftRight s) := by
  apply BitVec.eq_of_getLsbD_eq
  intro i hi
  have h : ∀ j : Fin 8, (255#64).getLsbD j.val = true := by decide
  have h255 := h ⟨i, hi⟩
  have h1 : s + i < 64 := by omega
  have h2 : ¬ 64 ≤ i := by omega
  simp only [BitVec.getLsbD_setWidth, BitVec.getLsbD_and, BitVec.getLsbD_ushiftRight, BitVec.getLsbD_sshiftRight, h255, h1, h2, hi, decide_true, decide_false, Bool.not_false, Bool.true_and, Bool.and_true, if_true]
/-- the k-th byte of a number, as the class takes it -/
def jq_by (u : Int64) (k : Nat) : Int32 := ((u.toUInt64 >>> ((8 * Int32.ofNat k).toInt64.toUInt64 &&& Int64.toUInt64 63)).toInt64 &&& 255).toInt32
theorem jq_by_b (u : Int64) (k : Nat) : ji_bt (jq_by u k) 0 255 := by
  unfold jq_by ji_bt
  generalize (u.toUInt64 >>> ((8 * Int32.ofNat k).toInt64.toUInt64 &&& Int64.toUInt64 63)).toInt64 = z
  have e : ((z &&& 255).toInt32).toInt = ((z &&& 255).toInt32).toBitVec.toInt := rfl
  have e2 : ((z &&& 255).toInt32).toBitVec = BitVec.signExtend 32 (z.toBitVec &&& 255#64) := rfl
  rw [e, e2, BitVec.signExtend_eq_setWidth_of_le _ (by omega)]
  have h1 : (z.toBitVec &&& 255#64).toNat ≤ 255 := by
    have e1 : (255#64).toNat = 255 := rfl
    rw [BitVec.toNat_and, e1]
    exact Nat.and_le_right
  generalize z.toBitVec &&& 255#64 = w at h1
  rw [BitVec.toInt_eq_toNat_cond, BitVec.toNat_setWidth]
  have : w.toNat % 2 ^ 32 = w.toNat := Nat.mod_eq_of_lt (by omega)
  rw [this]
  split <;> omega
theorem jq_by_8 (u : Int64) (k : Nat) (hk : k < 8) : (u >>> ((8 * Int32.ofNat k).toInt64 &&& 63)).toInt32.toInt8.toInt32 = (jq_by u k).toInt8.toInt32 := by
  have A : ∀ k : Fin 8, (((8 * Int32.ofNat k.val).toInt64.toUInt64 &&& Int64.toUInt64 63) % 64).toBitVec.toNat = 8 * k.val := by decide
  have B : ∀ k : Fin 8, (((8 * Int32.ofNat k.val).toInt64 &&& 63).toBitVec.smod 64).toNat = 8 * k.val := by decide
  have A := A ⟨k, hk⟩
  have B := B ⟨k, hk⟩
  have A : (((8 * Int32.ofNat k).toInt64.toUInt64 &&& Int64.toUInt64 63) % 64).toBitVec.toNat = 8 * k := A
  have B : (((8 * Int32.ofNat k).toInt64 &&& 63).toBitVec.smod 64).toNat = 8 * k := B
  congr 1
  apply Int8.toBitVec_inj.mp
  have l : (u >>> ((8 * Int32.ofNat k).toInt64 &&& 63)).toInt32.toInt8.toBitVec = BitVec.signExtend 8 (BitVec.signExtend 32 (BitVec.sshiftRight u.toBitVec (((8 * Int32.ofNat k).toInt64 &&& 63).toBitVec.smod 64).toNat)) := rfl
  have r : (jq_by u k).toInt8.toBitVec = BitVec.signExtend 8 (BitVec.signExtend 32 ((u.toBitVec >>> (((8 * Int32.ofNat k).toInt64.toUInt64 &&& Int64.toUInt64 63) % 64).toBitVec.toNat) &&& 255#64)) := rfl
  rw [l, r, A, B]
  have q : ∀ w : BitVec 64, BitVec.signExtend 8 (BitVec.signExtend 32 w) = BitVec.setWidth 8 w := by
    intro w
    rw [BitVec.signExtend_eq_setWidth_of_le _ (by omega), BitVec.signExtend_eq_setWidth_of_le _ (by omega), BitVec.setWidth_setWidth_of_le _ (by omega)]
  rw [q, q, jq_bv _ _ (by omega)]
section JIV
variable {X N M : ji_M} {P : ji_P} {x y z v t : Int32} {u : Int64} {d a b r c m w s : Nat}
theorem m17 (hX : ji_XF M) (h0 : 0 ≤ (ji_gI M 5 1).toInt) (h1 : (ji_gI M 5 1).toInt < 160) : ji_CL (d + 1) 17 [.ref 5, .int x] M = some (none, ji_sI (ji_sI M 6 (ji_gI M 5 1).toInt.toNat x) 5 1 (ji_gI M 5 1 + 1)) := by
  have t160 : (160 : Int32).toInt = 160 := rfl
  have h : ji_gI M 5 1 < 160 := by rw [vi_lt, t160]; omega
  have hv : vp_in (ji_gI M 5 1) 160 := vi_in.mpr ⟨h0, by omega⟩
  apply en_17
  simp only [s17_0, s17_1, s17_4, s17_7, s17_10, s17_11, s17_14, s17_15, s17_18, q17_19, s17_20, s17_21, s17_21r, s17_22, s17_25, s17_26, s17_27, s17_30, xIL_1, xIS_1, xQL_2, xQL_3, xAN_1, xAN_2, xAN_3, xCP_1, xC_s, xNC_I, ji_oI1, ji_oIm, kd_sC, gR_sC, gL_sC, ji_rv_s, ji_tl_s, ji_tl_n, ji_s1, ji_s2, ji_kl, List.getD_cons_zero, List.getD_cons_succ, List.set_cons_zero, List.set_cons_succ, List.length_cons, List.length_nil, ji_b_0, ji_b_1, ji_n0, ji_n1, ji_rcb_iff, ji_ok8_0, ji_ok8_1, ji_ok8_2, ji_ok8_3, ji_ok8_4, kd_sI, kd_sL, kd_sR, kd_cp, gR_sI, gR_sL, gR_cp, gL_sI, gL_sR, gL_cp, gI_sL, gI_sR, gI_sI, gL_sL, Nat.reduceEqDiff, false_and, and_false, true_and, and_true, Nat.reduceAdd, Nat.reduceLT, Nat.reduceSub, Int32.reduceLT, Int32.reduceAdd, not_false_eq_true, not_true_eq_false, and_self, ji_b_n, if_true, if_false, ↓reduceIte, cz_m100, cz_m19, cz_m18, cz_m17, cz_m16, cz_m15, cz_m14, cz_m13, cz_m12, cz_m11, cz_m4, cz_m3, cz_m2, cz_m1, cz_1, cz_2, cz_3, cz_4, cz_5, cz_6, cz_7, cz_8, cz_9, cz_10, cz_11, cz_12, cz_13, cz_14, cz_15, cz_16, cz_20, cz_24, cz_30, cz_32, cz_33, cz_38, cz_40, cz_41, cz_42, cz_43, cz_45, cz_48, cz_57, cz_59, cz_60, cz_61, cz_63, cz_64, cz_72, cz_96, cz_97, cz_99, cz_100, cz_122, cz_124, cz_126, cz_160, cz_161, cz_168, cz_200, cz_255, cz_300, cz_960, cz_999, cz_1000, cz_1001, cz_1002, cz_1003, cz_1120, cz_2000, cz_2003, cz_2004, cz_2005, cz_3999, cz_9999, cz_14640, xk_5 hX, xr_5_0 hX, xk_6 hX, h, hv]
  rfl
theorem m93L (hX : ji_XF X) {n : Nat} (hn : n ≤ 8) (h0 : 0 ≤ (ji_gI X 5 1).toInt) (h1 : (ji_gI X 5 1).toInt + n ≤ 160) : ∀ (j k : Nat) (v z : Int32), k + j = n → v.toInt = (k : Int) → z.toInt = (ji_gI X 5 1).toInt + k → ji_Ev (ji_CL (d + 1)) 93 18 (ji_sI (ji_sC X 6 (jq_fd (ji_gI X 6) (ji_gI X 5 1).toInt.toNat (jq_by u) k)) 5 1 z) [some (.ref 5), some (.int (Int32.ofNat n)), some (.long u), none, some (.int v)] [] (some (.int (ji_gI X 5 1 + Int32.ofNat n)), ji_sI (ji_sC X 6 (jq_fd (ji_gI X 6) (ji_gI X 5 1).toInt.toNat (jq_by u) n)) 5 1 (ji_gI X 5 1 + Int32.ofNat n)) := by
  have t1 : (1 : Int32).toInt = 1 := rfl
  have en : (Int32.ofNat n).toInt = n := vi_ofN (by omega)
  intro j
  induction j with
  | zero =>
    intro k v z hk hv hz
    obtain rfl : k = n := by omega
    have h : ¬ v < Int32.ofNat k := by rw [vi_lt]; omega
    have e : z = ji_gI X 5 1 + Int32.ofNat k := by rw [vi_eq, vi_add (by omega) (by omega), hz, en]
    subst e
    simp only [s93_0, s93_1, s93_4, s93_5, s93_6, s93_9, s93_12, s93_14, s93_15, s93_16, s93_18, s93_20, s93_21, s93_24, s93_25, s93_26, s93_28, s93_30, s93_31, s93_32, s93_35, s93_36, q93_37, q93_40, s93_46, s93_47, s93_50, xIL_1, xIS_1, xQL_2, xQL_3, xAN_1, xAN_2, xAN_3, xCP_1, xC_s, xNC_I, ji_oI1, ji_oIm, kd_sC, gR_sC, gL_sC, ji_rv_s, ji_tl_s, ji_tl_n, ji_s1, ji_s2, ji_kl, List.getD_cons_zero, List.getD_cons_succ, List.set_cons_zero, List.set_cons_succ, List.length_cons, List.length_nil, ji_b_0, ji_b_1, ji_n0, ji_n1, ji_rcb_iff, ji_ok8_0, ji_ok8_1, ji_ok8_2, ji_ok8_3, ji_ok8_4, kd_sI, kd_sL, kd_sR, kd_cp, gR_sI, gR_sL, gR_cp, gL_sI, gL_sR, gL_cp, gI_sL, gI_sR, gI_sI, gL_sL, Nat.reduceEqDiff, false_and, and_false, true_and, and_true, Nat.reduceAdd, Nat.reduceLT, Nat.reduceSub, Int32.reduceLT, Int32.reduceAdd, not_false_eq_true, not_true_eq_false, and_self, ji_b_n, if_true, if_false, ↓reduceIte, cz_m100, cz_m19, cz_m18, cz_m17, cz_m16, cz_m15, cz_m14, cz_m13, cz_m12, cz_m11, cz_m4, cz_m3, cz_m2, cz_m1, cz_1, cz_2, cz_3, cz_4, cz_5, cz_6, cz_7, cz_8, cz_9, cz_10, cz_11, cz_12, cz_13, cz_14, cz_15, cz_16, cz_20, cz_24, cz_30, cz_32, cz_33, cz_38, cz_40, cz_41, cz_42, cz_43, cz_45, cz_48, cz_57, cz_59, cz_60, cz_61, cz_63, cz_64, cz_72, cz_96, cz_97, cz_99, cz_100, cz_122, cz_124, cz_126, cz_160, cz_161, cz_168, cz_200, cz_255, cz_300, cz_960, cz_999, cz_1000, cz_1001, cz_1002, cz_1003, cz_1120, cz_2000, cz_2003, cz_2004, cz_2005, cz_3999, cz_9999, cz_14640, xk_5 hX, h]
  | succ j ih =>
    intro k v z hk hv hz
    have h : v < Int32.ofNat n := by rw [vi_lt]; omega
    have e1 : (z + 1).toInt = (ji_gI X 5 1).toInt + (k + 1 : Nat) := by rw [vi_add (by omega) (by omega), t1]; omega
    have I := ih (k + 1) (v + 1) (z + 1) (by omega) (by rw [vi_add (by omega) (by omega), t1]; omega) e1
    have hM : ji_XF (ji_sI (ji_sC X 6 (jq_fd (ji_gI X 6) (ji_gI X 5 1).toInt.toNat (jq_by u) k)) 5 1 z) := ji_XF_ar (ji_XF_sC hX (by decide)) (by decide)
    have eg : ji_gI (ji_sI (ji_sC X 6 (jq_fd (ji_gI X 6) (ji_gI X 5 1).toInt.toNat (jq_by u) k)) 5 1 z) 5 1 = z := gI_eq
    have T := fun x => m17 (d := d) (x := x) hM (by rw [eg]; omega) (by rw [eg]; omega)
    simp only [eg] at T
    have ez : z.toInt.toNat = (ji_gI X 5 1).toInt.toNat + k := by omega
    have em : ji_sI (ji_sI (ji_sI (ji_sC X 6 (jq_fd (ji_gI X 6) (ji_gI X 5 1).toInt.toNat (jq_by u) k)) 5 1 z) 6 z.toInt.toNat (jq_by u k)) 5 1 (z + 1) = ji_sI (ji_sC X 6 (jq_fd (ji_gI X 6) (ji_gI X 5 1).toInt.toNat (jq_by u) (k + 1))) 5 1 (z + 1) := by
      rw [sI_cm (a := 5) (b := 6) (by decide), sI_sI, sI_sC, ez]
      rfl
    have by' : ((u.toUInt64 >>> ((8 * v).toInt64.toUInt64 &&& Int64.toUInt64 63)).toInt64 &&& 255).toInt32 = jq_by u k := by
      rw [vi_ofn hv]; rfl
    simp only [s93_0, s93_1, s93_4, s93_5, s93_6, s93_9, s93_12, s93_14, s93_15, s93_16, s93_18, s93_20, s93_21, s93_24, s93_25, s93_26, s93_28, s93_30, s93_31, s93_32, s93_35, s93_36, q93_37, q93_40, s93_46, s93_47, s93_50, xIL_1, xIS_1, xQL_2, xQL_3, xAN_1, xAN_2, xAN_3, xCP_1, xC_s, xNC_I, ji_oI1, ji_oIm, kd_sC, gR_sC, gL_sC, ji_rv_s, ji_tl_s, ji_tl_n, ji_s1, ji_s2, ji_kl, List.getD_cons_zero, List.getD_cons_succ, List.set_cons_zero, List.set_cons_succ, List.length_cons, List.length_nil, ji_b_0, ji_b_1, ji_n0, ji_n1, ji_rcb_iff, ji_ok8_0, ji_ok8_1, ji_ok8_2, ji_ok8_3, ji_ok8_4, kd_sI, kd_sL, kd_sR, kd_cp, gR_sI, gR_sL, gR_cp, gL_sI, gL_sR, gL_cp, gI_sL, gI_sR, gI_sI, gL_sL, Nat.reduceEqDiff, false_and, and_false, true_and, and_true, Nat.reduceAdd, Nat.reduceLT, Nat.reduceSub, Int32.reduceLT, Int32.reduceAdd, not_false_eq_true, not_true_eq_false, and_self, ji_b_n, if_true, if_false, ↓reduceIte, cz_m100, cz_m19, cz_m18, cz_m17, cz_m16, cz_m15, cz_m14, cz_m13, cz_m12, cz_m11, cz_m4, cz_m3, cz_m2, cz_m1, cz_1, cz_2, cz_3, cz_4, cz_5, cz_6, cz_7, cz_8, cz_9, cz_10, cz_11, cz_12, cz_13, cz_14, cz_15, cz_16, cz_20, cz_24, cz_30, cz_32, cz_33, cz_38, cz_40, cz_41, cz_42, cz_43, cz_45, cz_48, cz_57, cz_59, cz_60, cz_61, cz_63, cz_64, cz_72, cz_96, cz_97, cz_99, cz_100, cz_122, cz_124, cz_126, cz_160, cz_161, cz_168, cz_200, cz_255, cz_300, cz_960, cz_999, cz_1000, cz_1001, cz_1002, cz_1003, cz_1120, cz_2000, cz_2003, cz_2004, cz_2005, cz_3999, cz_9999, cz_14640, xk_5 hX, h, by', T, em]
    simp only [s93_43]
    exact I
theorem m196L (hN : ji_MF N) {n : Nat} (hn : n ≤ 8) (h0 : 0 ≤ (ji_gI N 0 17).toInt) (h1 : (ji_gI N 0 17).toInt + n ≤ 160) : ∀ (j k : Nat) (v z : Int32), k + j = n → v.toInt = (k : Int) → z.toInt = (ji_gI N 0 17).toInt + k → ji_Ev (ji_CL (d + 1)) 196 32 (ji_sI (ji_sC N 10 (jq_fd (ji_gI N 10) (960 + (ji_gI N 0 17).toInt.toNat) (fun k => (jq_by u k).toInt8.toInt32) k)) 0 17 z) [some (.ref 0), some (.int (Int32.ofNat n)), some (.long u), none, some (.int v)] [] (some (.int (ji_gI N 0 17 + Int32.ofNat n)), ji_sI (ji_sC N 10 (jq_fd (ji_gI N 10) (960 + (ji_gI N 0 17).toInt.toNat) (fun k => (jq_by u k).toInt8.toInt32) n)) 0 17 (ji_gI N 0 17 + Int32.ofNat n)) := by
  have t1 : (1 : Int32).toInt = 1 := rfl
  have t960 : (960 : Int32).toInt = 960 := rfl
  have en : (Int32.ofNat n).toInt = n := vi_ofN (by omega)
  intro j
  induction j with
  | zero =>
    intro k v z hk hv hz
    obtain rfl : k = n := by omega
    have h : ¬ v < Int32.ofNat k := by rw [vi_lt]; omega
    have e : z = ji_gI N 0 17 + Int32.ofNat k := by rw [vi_eq, vi_add (by omega) (by omega), hz, en]
    subst e
    simp only [s196_0, s196_1, s196_2, s196_3, q196_5, s196_8, s196_11, s196_13, s196_14, s196_15, s196_18, s196_19, s196_20, s196_23, s196_26, s196_28, s196_29, s196_30, s196_32, s196_34, s196_35, s196_38, s196_39, s196_42, s196_45, s196_46, s196_49, s196_50, s196_51, s196_53, s196_55, s196_56, s196_57, s196_58, q196_59, s196_60, s196_61, s196_61r, s196_62, s196_65, s196_66, s196_67, q196_70, s196_76, s196_77, s196_80, xIL_1, xIS_1, xQL_2, xQL_3, xAN_1, xAN_2, xAN_3, xCP_1, xC_s, xNC_I, ji_oI1, ji_oIm, kd_sC, gR_sC, gL_sC, ji_rv_s, ji_tl_s, ji_tl_n, ji_s1, ji_s2, ji_kl, List.getD_cons_zero, List.getD_cons_succ, List.set_cons_zero, List.set_cons_succ, List.length_cons, List.length_nil, ji_b_0, ji_b_1, ji_n0, ji_n1, ji_rcb_iff, ji_ok8_0, ji_ok8_1, ji_ok8_2, ji_ok8_3, ji_ok8_4, kd_sI, kd_sL, kd_sR, kd_cp, gR_sI, gR_sL, gR_cp, gL_sI, gL_sR, gL_cp, gI_sL, gI_sR, gI_sI, gL_sL, Nat.reduceEqDiff, false_and, and_false, true_and, and_true, Nat.reduceAdd, Nat.reduceLT, Nat.reduceSub, Int32.reduceLT, Int32.reduceAdd, not_false_eq_true, not_true_eq_false, and_self, ji_b_n, if_true, if_false, ↓reduceIte, cz_m100, cz_m19, cz_m18, cz_m17, cz_m16, cz_m15, cz_m14, cz_m13, cz_m12, cz_m11, cz_m4, cz_m3, cz_m2, cz_m1, cz_1, cz_2, cz_3, cz_4, cz_5, cz_6, cz_7, cz_8, cz_9, cz_10, cz_11, cz_12, cz_13, cz_14, cz_15, cz_16, cz_20, cz_24, cz_30, cz_32, cz_33, cz_38, cz_40, cz_41, cz_42, cz_43, cz_45, cz_48, cz_57, cz_59, cz_60, cz_61, cz_63, cz_64, cz_72, cz_96, cz_97, cz_99, cz_100, cz_122, cz_124, cz_126, cz_160, cz_161, cz_168, cz_200, cz_255, cz_300, cz_960, cz_999, cz_1000, cz_1001, cz_1002, cz_1003, cz_1120, cz_2000, cz_2003, cz_2004, cz_2005, cz_3999, cz_9999, cz_14640, mk_0 hN, h]
  | succ j ih =>
    intro k v z hk hv hz
    have h : v < Int32.ofNat n := by rw [vi_lt]; omega
    have e1 : (z + 1).toInt = (ji_gI N 0 17).toInt + (k + 1 : Nat) := by rw [vi_add (by omega) (by omega), t1]; omega
    have I := ih (k + 1) (v + 1) (z + 1) (by omega) (by rw [vi_add (by omega) (by omega), t1]; omega) e1
    have e2 : (960 + z).toInt = 960 + z.toInt := by rw [vi_add (by omega) (by omega), t960]
    have hv2 : vp_in (960 + z) 1120 := vi_in.mpr ⟨by omega, by omega⟩
    have em : ji_sI (ji_sI (ji_sI (ji_sC N 10 (jq_fd (ji_gI N 10) (960 + (ji_gI N 0 17).toInt.toNat) (fun k => (jq_by u k).toInt8.toInt32) k)) 0 17 z) 10 (960 + z).toNatClampNeg (jq_by u k).toInt8.toInt32) 0 17 (z + 1) = ji_sI (ji_sC N 10 (jq_fd (ji_gI N 10) (960 + (ji_gI N 0 17).toInt.toNat) (fun k => (jq_by u k).toInt8.toInt32) (k + 1))) 0 17 (z + 1) := by
      rw [sI_cm (a := 0) (b := 10) (by decide), sI_sI, sI_sC, show (960 + z).toNatClampNeg = 960 + (ji_gI N 0 17).toInt.toNat + k by rw [vi_nat]; omega]
      rfl
    have by' : (u >>> ((8 * v).toInt64 &&& 63)).toInt32.toInt8.toInt32 = (jq_by u k).toInt8.toInt32 := by
      rw [vi_ofn hv]; exact jq_by_8 u k (by omega)
    simp only [s196_0, s196_1, s196_2, s196_3, q196_5, s196_8, s196_11, s196_13, s196_14, s196_15, s196_18, s196_19, s196_20, s196_23, s196_26, s196_28, s196_29, s196_30, s196_32, s196_34, s196_35, s196_38, s196_39, s196_42, s196_45, s196_46, s196_49, s196_50, s196_51, s196_53, s196_55, s196_56, s196_57, s196_58, q196_59, s196_60, s196_61, s196_61r, s196_62, s196_65, s196_66, s196_67, q196_70, s196_76, s196_77, s196_80, xIL_1, xIS_1, xQL_2, xQL_3, xAN_1, xAN_2, xAN_3, xCP_1, xC_s, xNC_I, ji_oI1, ji_oIm, kd_sC, gR_sC, gL_sC, ji_rv_s, ji_tl_s, ji_tl_n, ji_s1, ji_s2, ji_kl, List.getD_cons_zero, List.getD_cons_succ, List.set_cons_zero, List.set_cons_succ, List.length_cons, List.length_nil, ji_b_0, ji_b_1, ji_n0, ji_n1, ji_rcb_iff, ji_ok8_0, ji_ok8_1, ji_ok8_2, ji_ok8_3, ji_ok8_4, kd_sI, kd_sL, kd_sR, kd_cp, gR_sI, gR_sL, gR_cp, gL_sI, gL_sR, gL_cp, gI_sL, gI_sR, gI_sI, gL_sL, Nat.reduceEqDiff, false_and, and_false, true_and, and_true, Nat.reduceAdd, Nat.reduceLT, Nat.reduceSub, Int32.reduceLT, Int32.reduceAdd, not_false_eq_true, not_true_eq_false, and_self, ji_b_n, if_true, if_false, ↓reduceIte, cz_m100, cz_m19, cz_m18, cz_m17, cz_m16, cz_m15, cz_m14, cz_m13, cz_m12, cz_m11, cz_m4, cz_m3, cz_m2, cz_m1, cz_1, cz_2, cz_3, cz_4, cz_5, cz_6, cz_7, cz_8, cz_9, cz_10, cz_11, cz_12, cz_13, cz_14, cz_15, cz_16, cz_20, cz_24, cz_30, cz_32, cz_33, cz_38, cz_40, cz_41, cz_42, cz_43, cz_45, cz_48, cz_57, cz_59, cz_60, cz_61, cz_63, cz_64, cz_72, cz_96, cz_97, cz_99, cz_100, cz_122, cz_124, cz_126, cz_160, cz_161, cz_168, cz_200, cz_255, cz_300, cz_960, cz_999, cz_1000, cz_1001, cz_1002, cz_1003, cz_1120, cz_2000, cz_2003, cz_2004, cz_2005, cz_3999, cz_9999, cz_14640, (mk_0 hN), (mk_1 hN), (mk_2 hN), (mk_3 hN), (mk_4 hN), (mk_5 hN), (mk_6 hN), (mk_7 hN), (mk_8 hN), (mk_9 hN), (mk_10 hN), (mk_11 hN), (mk_12 hN), (mk_13 hN), (mk_14 hN), (mk_15 hN), (mk_16 hN), (mk_17 hN), (mk_18 hN), (mk_19 hN), (mk_20 hN), (mk_21 hN), (mk_22 hN), (mk_23 hN), (mk_24 hN), (mk_25 hN), (mk_26 hN), (mk_27 hN), (mk_28 hN), (mk_29 hN), (mk_30 hN), (mk_31 hN), (mk_32 hN), (mk_33 hN), (mk_34 hN), (mk_35 hN), (mk_36 hN), (mk_37 hN), (mk_38 hN), (mk_39 hN), (mk_40 hN), (mk_41 hN), (mk_42 hN), (mk_43 hN), (mk_44 hN), (mk_45 hN), (mk_46 hN), (mk_47 hN), (mk_48 hN), (mk_49 hN), (mk_50 hN), (mk_51 hN), (mk_52 hN), (mk_53 hN), (mk_54 hN), (mk_55 hN), (mr_6 hN), (mr_7 hN), (mr_8 hN), (mr_9 hN), (mr_10 hN), (mr_11 hN), (mr_12 hN), (mr_13 hN), (mr_14 hN), (mr_18 hN), (mr_19 hN), (mr_26 hN), (mr_27 hN), (mr_28 hN), (mr_32 hN), (mr_34 hN), (mr_35 hN), (mr_36 hN), (mr_37 hN), (mr_38 hN), (mr_39 hN), (mr_40 hN), (mr_41 hN), (mr_42 hN), (mr_43 hN), (mr_44 hN), (mr_45 hN), (mr_47 hN), (mr_48 hN), (mr_49 hN), (mr_52 hN), (mr_53 hN), (mr_54 hN), (mr_55 hN), (mr_56 hN), (mr_60 hN), (mr_61 hN), (mr_62 hN), (mr_63 hN), (mr_64 hN), (mr_65 hN), (mr_66 hN), (mr_67 hN), (mr_68 hN), (mr_69 hN), (mr_70 hN), (mr_72 hN), (mr_73 hN), (mr_74 hN), (mr_75 hN), (mr_76 hN), (mr_77 hN), (mr_78 hN), (mr_79 hN), (mr_80 hN), h, hv2, by', em]
    simp only [s196_73]
    exact I
theorem call_8 (R : ji_Rel P X N) : ji_same P 92 196 [.int x, .long u] X N := by
  intro d
  have hX := R.xf
  have hN := R.mf
  by_cases h1 : ji_in x 1 8
  case neg =>
    refine ji_same_of (v := some (.int (-2))) ?_ ?_ R
    · apply en_92
      simp only [s92_0, s92_1, s92_2, q92_4, s92_7, s92_10, s92_12, s92_13, s92_14, s92_17, s92_20, s92_21, q92_22, s92_25, xIL_1, xIS_1, xQL_2, xQL_3, xAN_1, xAN_2, xAN_3, xCP_1, xC_s, xNC_I, ji_oI1, ji_oIm, kd_sC, gR_sC, gL_sC, ji_rv_s, ji_tl_s, ji_tl_n, ji_s1, ji_s2, ji_kl, List.getD_cons_zero, List.getD_cons_succ, List.set_cons_zero, List.set_cons_succ, List.length_cons, List.length_nil, ji_b_0, ji_b_1, ji_n0, ji_n1, ji_rcb_iff, ji_ok8_0, ji_ok8_1, ji_ok8_2, ji_ok8_3, ji_ok8_4, kd_sI, kd_sL, kd_sR, kd_cp, gR_sI, gR_sL, gR_cp, gL_sI, gL_sR, gL_cp, gI_sL, gI_sR, gI_sI, gL_sL, Nat.reduceEqDiff, false_and, and_false, true_and, and_true, Nat.reduceAdd, Nat.reduceLT, Nat.reduceSub, Int32.reduceLT, Int32.reduceAdd, not_false_eq_true, not_true_eq_false, and_self, ji_b_n, if_true, if_false, ↓reduceIte, cz_m100, cz_m19, cz_m18, cz_m17, cz_m16, cz_m15, cz_m14, cz_m13, cz_m12, cz_m11, cz_m4, cz_m3, cz_m2, cz_m1, cz_1, cz_2, cz_3, cz_4, cz_5, cz_6, cz_7, cz_8, cz_9, cz_10, cz_11, cz_12, cz_13, cz_14, cz_15, cz_16, cz_20, cz_24, cz_30, cz_32, cz_33, cz_38, cz_40, cz_41, cz_42, cz_43, cz_45, cz_48, cz_57, cz_59, cz_60, cz_61, cz_63, cz_64, cz_72, cz_96, cz_97, cz_99, cz_100, cz_122, cz_124, cz_126, cz_160, cz_161, cz_168, cz_200, cz_255, cz_300, cz_960, cz_999, cz_1000, cz_1001, cz_1002, cz_1003, cz_1120, cz_2000, cz_2003, cz_2004, cz_2005, cz_3999, cz_9999, cz_14640, m43, h1]
    · apply en_196
      simp only [s196_0, s196_1, s196_2, s196_3, q196_5, s196_8, s196_11, s196_13, s196_14, s196_15, s196_18, s196_19, s196_20, s196_23, s196_26, s196_28, s196_29, s196_30, s196_34, s196_35, s196_38, s196_39, s196_42, s196_45, s196_46, s196_49, s196_50, s196_51, s196_53, s196_55, s196_56, s196_57, s196_58, q196_59, s196_60, s196_61, s196_61r, s196_62, s196_65, s196_66, s196_67, q196_70, s196_73, s196_76, s196_77, s196_80, xIL_1, xIS_1, xQL_2, xQL_3, xAN_1, xAN_2, xAN_3, xCP_1, xC_s, xNC_I, ji_oI1, ji_oIm, kd_sC, gR_sC, gL_sC, ji_rv_s, ji_tl_s, ji_tl_n, ji_s1, ji_s2, ji_kl, List.getD_cons_zero, List.getD_cons_succ, List.set_cons_zero, List.set_cons_succ, List.length_cons, List.length_nil, ji_b_0, ji_b_1, ji_n0, ji_n1, ji_rcb_iff, ji_ok8_0, ji_ok8_1, ji_ok8_2, ji_ok8_3, ji_ok8_4, kd_sI, kd_sL, kd_sR, kd_cp, gR_sI, gR_sL, gR_cp, gL_sI, gL_sR, gL_cp, gI_sL, gI_sR, gI_sI, gL_sL, Nat.reduceEqDiff, false_and, and_false, true_and, and_true, Nat.reduceAdd, Nat.reduceLT, Nat.reduceSub, Int32.reduceLT, Int32.reduceAdd, not_false_eq_true, not_true_eq_false, and_self, ji_b_n, if_true, if_false, ↓reduceIte, cz_m100, cz_m19, cz_m18, cz_m17, cz_m16, cz_m15, cz_m14, cz_m13, cz_m12, cz_m11, cz_m4, cz_m3, cz_m2, cz_m1, cz_1, cz_2, cz_3, cz_4, cz_5, cz_6, cz_7, cz_8, cz_9, cz_10, cz_11, cz_12, cz_13, cz_14, cz_15, cz_16, cz_20, cz_24, cz_30, cz_32, cz_33, cz_38, cz_40, cz_41, cz_42, cz_43, cz_45, cz_48, cz_57, cz_59, cz_60, cz_61, cz_63, cz_64, cz_72, cz_96, cz_97, cz_99, cz_100, cz_122, cz_124, cz_126, cz_160, cz_161, cz_168, cz_200, cz_255, cz_300, cz_960, cz_999, cz_1000, cz_1001, cz_1002, cz_1003, cz_1120, cz_2000, cz_2003, cz_2004, cz_2005, cz_3999, cz_9999, cz_14640, mk_0 hN, m158, h1]
  have gx := vi_bt h1
  have t1 : (1 : Int32).toInt = 1 := rfl
  have t8 : (8 : Int32).toInt = 8 := rfl
  have t160 : (160 : Int32).toInt = 160 := rfl
  unfold ji_bt at gx
  obtain ⟨u1, u2, ⟨s1, s2, s3⟩, u4, u5⟩ := R.texts
  have es : (ji_gI N 0 17 + x).toInt = (ji_gI N 0 17).toInt + x.toInt := by rw [vi_add (by omega) (by omega)]
  by_cases h2 : 160 < ji_gI N 0 17 + x
  · have M93 : ∀ d, ji_CL (d + 1) 93 [.ref 5, .int x, .long u] X = some (some (.int (-4)), X) := by
      intro d
      apply en_93
      simp only [s93_0, s93_1, s93_4, s93_5, s93_6, s93_9, s93_12, s93_14, s93_15, s93_16, s93_20, s93_21, s93_24, s93_25, s93_26, s93_28, s93_30, s93_31, s93_32, s93_35, s93_36, q93_37, q93_40, s93_43, s93_46, s93_47, s93_50, xIL_1, xIS_1, xQL_2, xQL_3, xAN_1, xAN_2, xAN_3, xCP_1, xC_s, xNC_I, ji_oI1, ji_oIm, kd_sC, gR_sC, gL_sC, ji_rv_s, ji_tl_s, ji_tl_n, ji_s1, ji_s2, ji_kl, List.getD_cons_zero, List.getD_cons_succ, List.set_cons_zero, List.set_cons_succ, List.length_cons, List.length_nil, ji_b_0, ji_b_1, ji_n0, ji_n1, ji_rcb_iff, ji_ok8_0, ji_ok8_1, ji_ok8_2, ji_ok8_3, ji_ok8_4, kd_sI, kd_sL, kd_sR, kd_cp, gR_sI, gR_sL, gR_cp, gL_sI, gL_sR, gL_cp, gI_sL, gI_sR, gI_sI, gL_sL, Nat.reduceEqDiff, false_and, and_false, true_and, and_true, Nat.reduceAdd, Nat.reduceLT, Nat.reduceSub, Int32.reduceLT, Int32.reduceAdd, not_false_eq_true, not_true_eq_false, and_self, ji_b_n, if_true, if_false, ↓reduceIte, cz_m100, cz_m19, cz_m18, cz_m17, cz_m16, cz_m15, cz_m14, cz_m13, cz_m12, cz_m11, cz_m4, cz_m3, cz_m2, cz_m1, cz_1, cz_2, cz_3, cz_4, cz_5, cz_6, cz_7, cz_8, cz_9, cz_10, cz_11, cz_12, cz_13, cz_14, cz_15, cz_16, cz_20, cz_24, cz_30, cz_32, cz_33, cz_38, cz_40, cz_41, cz_42, cz_43, cz_45, cz_48, cz_57, cz_59, cz_60, cz_61, cz_63, cz_64, cz_72, cz_96, cz_97, cz_99, cz_100, cz_122, cz_124, cz_126, cz_160, cz_161, cz_168, cz_200, cz_255, cz_300, cz_960, cz_999, cz_1000, cz_1001, cz_1002, cz_1003, cz_1120, cz_2000, cz_2003, cz_2004, cz_2005, cz_3999, cz_9999, cz_14640, (xk_0 hX), (xk_1 hX), (xk_2 hX), (xk_3 hX), (xk_4 hX), (xk_5 hX), (xk_6 hX), (xk_7 hX), (xk_8 hX), (xk_9 hX), (xk_10 hX), (xk_11 hX), (xk_12 hX), (xk_13 hX), (xk_14 hX), (xk_15 hX), (xk_16 hX), (xk_17 hX), (xk_18 hX), (xk_19 hX), (xk_20 hX), (xk_21 hX), (xk_22 hX), (xk_23 hX), (xk_24 hX), (xk_25 hX), (xk_26 hX), (xk_27 hX), (xk_28 hX), (xk_29 hX), (xk_30 hX), (xk_31 hX), (xk_32 hX), (xk_33 hX), (xk_34 hX), (xk_35 hX), (xk_36 hX), (xk_37 hX), (xk_38 hX), (xk_39 hX), (xk_40 hX), (xk_41 hX), (xk_42 hX), (xk_43 hX), (xk_44 hX), (xk_45 hX), (xk_46 hX), (xk_47 hX), (xk_48 hX), (xk_49 hX), (xk_50 hX), (xk_51 hX), (xk_52 hX), (xk_53 hX), (xk_54 hX), (xk_55 hX), (xk_56 hX), (xk_57 hX), (xk_58 hX), (xk_59 hX), (xk_60 hX), (xk_61 hX), (xk_62 hX), (xk_63 hX), (xk_64 hX), (xk_65 hX), (xk_66 hX), (xk_67 hX), (xk_68 hX), (xk_69 hX), (xk_70 hX), (xk_71 hX), (xk_72 hX), (xk_73 hX), (xk_74 hX), (xk_75 hX), (xk_76 hX), (xk_77 hX), (xk_78 hX), (xk_79 hX), (xk_80 hX), (xk_81 hX), (xk_82 hX), (xk_83 hX), (xk_84 hX), (xk_85 hX), (xk_86 hX), (xk_87 hX), (xk_88 hX), (xk_89 hX), (xr_0_0 hX), (xr_0_1 hX), (xr_0_2 hX), (xr_0_3 hX), (xr_0_4 hX), (xr_0_5 hX), (xr_0_6 hX), (xr_0_7 hX), (xr_0_8 hX), (xr_0_9 hX), (xr_0_10 hX), (xr_0_11 hX), (xr_0_12 hX), (xr_0_13 hX), (xr_1_0 hX), (xr_2_2 hX), (xr_4_0 hX), (xr_4_1 hX), (xr_4_2 hX), (xr_4_3 hX), (xr_4_4 hX), (xr_5_0 hX), (xr_8_0 hX), (xr_8_1 hX), (xr_8_2 hX), (xr_8_3 hX), (xr_8_4 hX), (xr_8_5 hX), (xr_15_0 hX), (xr_15_1 hX), (xr_15_2 hX), (xr_15_3 hX), (xr_15_4 hX), (xr_15_5 hX), (xr_24_2 hX), (xr_26_0 hX), (xr_26_1 hX), (xr_26_2 hX), (xr_27_0 hX), (xr_27_1 hX), (xr_27_2 hX), (xr_27_3 hX), (xr_27_4 hX), (xr_27_5 hX), (xr_30_0 hX), (xr_31_2 hX), (xr_33_0 hX), (xr_34_2 hX), (xr_36_0 hX), (xr_37_2 hX), (xr_39_0 hX), (xr_40_2 hX), (xr_42_0 hX), (xr_43_2 hX), (xr_45_0 hX), (xr_46_2 hX), (xr_48_2 hX), (xr_50_2 hX), (xr_52_2 hX), (xr_70_2 hX), (xr_72_2 hX), (xr_74_2 hX), (xr_76_2 hX), (xr_54_0 hX), (xr_54_1 hX), (xr_55_0 hX), (xr_55_1 hX), (xr_55_2 hX), (xr_55_3 hX), (xr_55_4 hX), (xr_55_5 hX), (xr_62_0 hX), (xr_62_1 hX), (xr_62_2 hX), (xr_62_3 hX), (xr_62_4 hX), (xr_62_5 hX), (xr_62_6 hX), (xr_78_0 hX), (xr_78_1 hX), (xr_78_2 hX), (xr_82_0 hX), (xr_82_1 hX), (xr_82_2 hX), (xr_83_0 hX), (xr_83_1 hX), (xr_83_2 hX), (xr_83_3 hX), (xi_2_0 hX), (xi_24_0 hX), (xi_31_0 hX), (xi_34_0 hX), (xi_37_0 hX), (xi_40_0 hX), (xi_43_0 hX), (xi_46_0 hX), (xi_48_0 hX), (xi_50_0 hX), (xi_52_0 hX), (xi_70_0 hX), (xi_72_0 hX), (xi_74_0 hX), (xi_76_0 hX), (xi_2_1 hX), (xi_24_1 hX), (xi_31_1 hX), (xi_34_1 hX), (xi_37_1 hX), (xi_40_1 hX), (xi_43_1 hX), (xi_46_1 hX), (xi_48_1 hX), (xi_50_1 hX), (xi_52_1 hX), (xi_70_1 hX), (xi_72_1 hX), (xi_74_1 hX), (xi_76_1 hX), s1, h2]
    refine ji_same_of (v := some (.int (-4))) ?_ ?_ R
    · apply en_92
      simp only [s92_0, s92_1, s92_2, q92_4, s92_7, s92_10, s92_12, s92_13, s92_14, s92_17, s92_20, s92_21, q92_22, s92_25, xIL_1, xIS_1, xQL_2, xQL_3, xAN_1, xAN_2, xAN_3, xCP_1, xC_s, xNC_I, ji_oI1, ji_oIm, kd_sC, gR_sC, gL_sC, ji_rv_s, ji_tl_s, ji_tl_n, ji_s1, ji_s2, ji_kl, List.getD_cons_zero, List.getD_cons_succ, List.set_cons_zero, List.set_cons_succ, List.length_cons, List.length_nil, ji_b_0, ji_b_1, ji_n0, ji_n1, ji_rcb_iff, ji_ok8_0, ji_ok8_1, ji_ok8_2, ji_ok8_3, ji_ok8_4, kd_sI, kd_sL, kd_sR, kd_cp, gR_sI, gR_sL, gR_cp, gL_sI, gL_sR, gL_cp, gI_sL, gI_sR, gI_sI, gL_sL, Nat.reduceEqDiff, false_and, and_false, true_and, and_true, Nat.reduceAdd, Nat.reduceLT, Nat.reduceSub, Int32.reduceLT, Int32.reduceAdd, not_false_eq_true, not_true_eq_false, and_self, ji_b_n, if_true, if_false, ↓reduceIte, cz_m100, cz_m19, cz_m18, cz_m17, cz_m16, cz_m15, cz_m14, cz_m13, cz_m12, cz_m11, cz_m4, cz_m3, cz_m2, cz_m1, cz_1, cz_2, cz_3, cz_4, cz_5, cz_6, cz_7, cz_8, cz_9, cz_10, cz_11, cz_12, cz_13, cz_14, cz_15, cz_16, cz_20, cz_24, cz_30, cz_32, cz_33, cz_38, cz_40, cz_41, cz_42, cz_43, cz_45, cz_48, cz_57, cz_59, cz_60, cz_61, cz_63, cz_64, cz_72, cz_96, cz_97, cz_99, cz_100, cz_122, cz_124, cz_126, cz_160, cz_161, cz_168, cz_200, cz_255, cz_300, cz_960, cz_999, cz_1000, cz_1001, cz_1002, cz_1003, cz_1120, cz_2000, cz_2003, cz_2004, cz_2005, cz_3999, cz_9999, cz_14640, (xk_0 hX), (xk_1 hX), (xk_2 hX), (xk_3 hX), (xk_4 hX), (xk_5 hX), (xk_6 hX), (xk_7 hX), (xk_8 hX), (xk_9 hX), (xk_10 hX), (xk_11 hX), (xk_12 hX), (xk_13 hX), (xk_14 hX), (xk_15 hX), (xk_16 hX), (xk_17 hX), (xk_18 hX), (xk_19 hX), (xk_20 hX), (xk_21 hX), (xk_22 hX), (xk_23 hX), (xk_24 hX), (xk_25 hX), (xk_26 hX), (xk_27 hX), (xk_28 hX), (xk_29 hX), (xk_30 hX), (xk_31 hX), (xk_32 hX), (xk_33 hX), (xk_34 hX), (xk_35 hX), (xk_36 hX), (xk_37 hX), (xk_38 hX), (xk_39 hX), (xk_40 hX), (xk_41 hX), (xk_42 hX), (xk_43 hX), (xk_44 hX), (xk_45 hX), (xk_46 hX), (xk_47 hX), (xk_48 hX), (xk_49 hX), (xk_50 hX), (xk_51 hX), (xk_52 hX), (xk_53 hX), (xk_54 hX), (xk_55 hX), (xk_56 hX), (xk_57 hX), (xk_58 hX), (xk_59 hX), (xk_60 hX), (xk_61 hX), (xk_62 hX), (xk_63 hX), (xk_64 hX), (xk_65 hX), (xk_66 hX), (xk_67 hX), (xk_68 hX), (xk_69 hX), (xk_70 hX), (xk_71 hX), (xk_72 hX), (xk_73 hX), (xk_74 hX), (xk_75 hX), (xk_76 hX), (xk_77 hX), (xk_78 hX), (xk_79 hX), (xk_80 hX), (xk_81 hX), (xk_82 hX), (xk_83 hX), (xk_84 hX), (xk_85 hX), (xk_86 hX), (xk_87 hX), (xk_88 hX), (xk_89 hX), (xr_0_0 hX), (xr_0_1 hX), (xr_0_2 hX), (xr_0_3 hX), (xr_0_4 hX), (xr_0_5 hX), (xr_0_6 hX), (xr_0_7 hX), (xr_0_8 hX), (xr_0_9 hX), (xr_0_10 hX), (xr_0_11 hX), (xr_0_12 hX), (xr_0_13 hX), (xr_1_0 hX), (xr_2_2 hX), (xr_4_0 hX), (xr_4_1 hX), (xr_4_2 hX), (xr_4_3 hX), (xr_4_4 hX), (xr_5_0 hX), (xr_8_0 hX), (xr_8_1 hX), (xr_8_2 hX), (xr_8_3 hX), (xr_8_4 hX), (xr_8_5 hX), (xr_15_0 hX), (xr_15_1 hX), (xr_15_2 hX), (xr_15_3 hX), (xr_15_4 hX), (xr_15_5 hX), (xr_24_2 hX), (xr_26_0 hX), (xr_26_1 hX), (xr_26_2 hX), (xr_27_0 hX), (xr_27_1 hX), (xr_27_2 hX), (xr_27_3 hX), (xr_27_4 hX), (xr_27_5 hX), (xr_30_0 hX), (xr_31_2 hX), (xr_33_0 hX), (xr_34_2 hX), (xr_36_0 hX), (xr_37_2 hX), (xr_39_0 hX), (xr_40_2 hX), (xr_42_0 hX), (xr_43_2 hX), (xr_45_0 hX), (xr_46_2 hX), (xr_48_2 hX), (xr_50_2 hX), (xr_52_2 hX), (xr_70_2 hX), (xr_72_2 hX), (xr_74_2 hX), (xr_76_2 hX), (xr_54_0 hX), (xr_54_1 hX), (xr_55_0 hX), (xr_55_1 hX), (xr_55_2 hX), (xr_55_3 hX), (xr_55_4 hX), (xr_55_5 hX), (xr_62_0 hX), (xr_62_1 hX), (xr_62_2 hX), (xr_62_3 hX), (xr_62_4 hX), (xr_62_5 hX), (xr_62_6 hX), (xr_78_0 hX), (xr_78_1 hX), (xr_78_2 hX), (xr_82_0 hX), (xr_82_1 hX), (xr_82_2 hX), (xr_83_0 hX), (xr_83_1 hX), (xr_83_2 hX), (xr_83_3 hX), (xi_2_0 hX), (xi_24_0 hX), (xi_31_0 hX), (xi_34_0 hX), (xi_37_0 hX), (xi_40_0 hX), (xi_43_0 hX), (xi_46_0 hX), (xi_48_0 hX), (xi_50_0 hX), (xi_52_0 hX), (xi_70_0 hX), (xi_72_0 hX), (xi_74_0 hX), (xi_76_0 hX), (xi_2_1 hX), (xi_24_1 hX), (xi_31_1 hX), (xi_34_1 hX), (xi_37_1 hX), (xi_40_1 hX), (xi_43_1 hX), (xi_46_1 hX), (xi_48_1 hX), (xi_50_1 hX), (xi_52_1 hX), (xi_70_1 hX), (xi_72_1 hX), (xi_74_1 hX), (xi_76_1 hX), m43, h1, M93]
    · apply en_196
      simp only [s196_0, s196_1, s196_2, s196_3, q196_5, s196_8, s196_11, s196_13, s196_14, s196_15, s196_18, s196_19, s196_20, s196_23, s196_26, s196_28, s196_29, s196_30, s196_34, s196_35, s196_38, s196_39, s196_42, s196_45, s196_46, s196_49, s196_50, s196_51, s196_53, s196_55, s196_56, s196_57, s196_58, q196_59, s196_60, s196_61, s196_61r, s196_62, s196_65, s196_66, s196_67, q196_70, s196_73, s196_76, s196_77, s196_80, xIL_1, xIS_1, xQL_2, xQL_3, xAN_1, xAN_2, xAN_3, xCP_1, xC_s, xNC_I, ji_oI1, ji_oIm, kd_sC, gR_sC, gL_sC, ji_rv_s, ji_tl_s, ji_tl_n, ji_s1, ji_s2, ji_kl, List.getD_cons_zero, List.getD_cons_succ, List.set_cons_zero, List.set_cons_succ, List.length_cons, List.length_nil, ji_b_0, ji_b_1, ji_n0, ji_n1, ji_rcb_iff, ji_ok8_0, ji_ok8_1, ji_ok8_2, ji_ok8_3, ji_ok8_4, kd_sI, kd_sL, kd_sR, kd_cp, gR_sI, gR_sL, gR_cp, gL_sI, gL_sR, gL_cp, gI_sL, gI_sR, gI_sI, gL_sL, Nat.reduceEqDiff, false_and, and_false, true_and, and_true, Nat.reduceAdd, Nat.reduceLT, Nat.reduceSub, Int32.reduceLT, Int32.reduceAdd, not_false_eq_true, not_true_eq_false, and_self, ji_b_n, if_true, if_false, ↓reduceIte, cz_m100, cz_m19, cz_m18, cz_m17, cz_m16, cz_m15, cz_m14, cz_m13, cz_m12, cz_m11, cz_m4, cz_m3, cz_m2, cz_m1, cz_1, cz_2, cz_3, cz_4, cz_5, cz_6, cz_7, cz_8, cz_9, cz_10, cz_11, cz_12, cz_13, cz_14, cz_15, cz_16, cz_20, cz_24, cz_30, cz_32, cz_33, cz_38, cz_40, cz_41, cz_42, cz_43, cz_45, cz_48, cz_57, cz_59, cz_60, cz_61, cz_63, cz_64, cz_72, cz_96, cz_97, cz_99, cz_100, cz_122, cz_124, cz_126, cz_160, cz_161, cz_168, cz_200, cz_255, cz_300, cz_960, cz_999, cz_1000, cz_1001, cz_1002, cz_1003, cz_1120, cz_2000, cz_2003, cz_2004, cz_2005, cz_3999, cz_9999, cz_14640, mk_0 hN, m158, h1, h2]
  have h3 : (ji_gI N 0 17).toInt + x.toInt ≤ 160 := by rw [vi_lt] at h2; omega
  obtain ⟨n, hn⟩ : ∃ n : Nat, x.toInt = n := ⟨x.toInt.toNat, by omega⟩
  obtain rfl := vi_ofn hn
  have LX := fun d => m93L (d := d) (u := u) hX (n := n) (by omega) (by rw [s1]; exact s2) (by rw [s1]; omega) n 0 0 (ji_gI X 5 1) (by omega) rfl (by omega)
  have LN := m196L (d := d + 58) (u := u) hN (n := n) (by omega) s2 (by omega) n 0 0 (ji_gI N 0 17) (by omega) rfl (by omega)
  have eX : ji_sI (ji_sC X 6 (jq_fd (ji_gI X 6) (ji_gI X 5 1).toInt.toNat (jq_by u) 0)) 5 1 (ji_gI X 5 1) = X := by
    rw [show jq_fd (ji_gI X 6) (ji_gI X 5 1).toInt.toNat (jq_by u) 0 = ji_gI X 6 from rfl, sC_self, sI_as]
    exact sC_id (funext fun j => by
      by_cases h : j = 1
      · rw [up_at h, h]
      · rw [up_ne h])
  have eN : ji_sI (ji_sC N 10 (jq_fd (ji_gI N 10) (960 + (ji_gI N 0 17).toInt.toNat) (fun k => (jq_by u k).toInt8.toInt32) 0)) 0 17 (ji_gI N 0 17) = N := by
    rw [show jq_fd (ji_gI N 10) (960 + (ji_gI N 0 17).toInt.toNat) (fun k => (jq_by u k).toInt8.toInt32) 0 = ji_gI N 10 from rfl, sC_self, sI_as]
    exact sC_id (funext fun j => by
      by_cases h : j = 17
      · rw [up_at h, h]
      · rw [up_ne h])
  rw [eN] at LN
  simp only [eX] at LX
  rw [s1] at LX
  have M93 : ∀ d, ji_CL (d + 2) 93 [.ref 5, .int (Int32.ofNat n), .long u] X = some (some (.int (ji_gI N 0 17 + Int32.ofNat n)), ji_sI (ji_sC X 6 (jq_fd (ji_gI X 6) (ji_gI N 0 17).toInt.toNat (jq_by u) n)) 5 1 (ji_gI N 0 17 + Int32.ofNat n)) := by
    intro d
    apply en_93
    simp only [s93_0, s93_1, s93_4, s93_5, s93_6, s93_9, s93_12, s93_14, s93_15, s93_16, s93_20, s93_21, s93_24, s93_25, s93_26, s93_28, s93_30, s93_31, s93_32, s93_35, s93_36, q93_37, q93_40, s93_43, s93_46, s93_47, s93_50, xIL_1, xIS_1, xQL_2, xQL_3, xAN_1, xAN_2, xAN_3, xCP_1, xC_s, xNC_I, ji_oI1, ji_oIm, kd_sC, gR_sC, gL_sC, ji_rv_s, ji_tl_s, ji_tl_n, ji_s1, ji_s2, ji_kl, List.getD_cons_zero, List.getD_cons_succ, List.set_cons_zero, List.set_cons_succ, List.length_cons, List.length_nil, ji_b_0, ji_b_1, ji_n0, ji_n1, ji_rcb_iff, ji_ok8_0, ji_ok8_1, ji_ok8_2, ji_ok8_3, ji_ok8_4, kd_sI, kd_sL, kd_sR, kd_cp, gR_sI, gR_sL, gR_cp, gL_sI, gL_sR, gL_cp, gI_sL, gI_sR, gI_sI, gL_sL, Nat.reduceEqDiff, false_and, and_false, true_and, and_true, Nat.reduceAdd, Nat.reduceLT, Nat.reduceSub, Int32.reduceLT, Int32.reduceAdd, not_false_eq_true, not_true_eq_false, and_self, ji_b_n, if_true, if_false, ↓reduceIte, cz_m100, cz_m19, cz_m18, cz_m17, cz_m16, cz_m15, cz_m14, cz_m13, cz_m12, cz_m11, cz_m4, cz_m3, cz_m2, cz_m1, cz_1, cz_2, cz_3, cz_4, cz_5, cz_6, cz_7, cz_8, cz_9, cz_10, cz_11, cz_12, cz_13, cz_14, cz_15, cz_16, cz_20, cz_24, cz_30, cz_32, cz_33, cz_38, cz_40, cz_41, cz_42, cz_43, cz_45, cz_48, cz_57, cz_59, cz_60, cz_61, cz_63, cz_64, cz_72, cz_96, cz_97, cz_99, cz_100, cz_122, cz_124, cz_126, cz_160, cz_161, cz_168, cz_200, cz_255, cz_300, cz_960, cz_999, cz_1000, cz_1001, cz_1002, cz_1003, cz_1120, cz_2000, cz_2003, cz_2004, cz_2005, cz_3999, cz_9999, cz_14640, (xk_0 hX), (xk_1 hX), (xk_2 hX), (xk_3 hX), (xk_4 hX), (xk_5 hX), (xk_6 hX), (xk_7 hX), (xk_8 hX), (xk_9 hX), (xk_10 hX), (xk_11 hX), (xk_12 hX), (xk_13 hX), (xk_14 hX), (xk_15 hX), (xk_16 hX), (xk_17 hX), (xk_18 hX), (xk_19 hX), (xk_20 hX), (xk_21 hX), (xk_22 hX), (xk_23 hX), (xk_24 hX), (xk_25 hX), (xk_26 hX), (xk_27 hX), (xk_28 hX), (xk_29 hX), (xk_30 hX), (xk_31 hX), (xk_32 hX), (xk_33 hX), (xk_34 hX), (xk_35 hX), (xk_36 hX), (xk_37 hX), (xk_38 hX), (xk_39 hX), (xk_40 hX), (xk_41 hX), (xk_42 hX), (xk_43 hX), (xk_44 hX), (xk_45 hX), (xk_46 hX), (xk_47 hX), (xk_48 hX), (xk_49 hX), (xk_50 hX), (xk_51 hX), (xk_52 hX), (xk_53 hX), (xk_54 hX), (xk_55 hX), (xk_56 hX), (xk_57 hX), (xk_58 hX), (xk_59 hX), (xk_60 hX), (xk_61 hX), (xk_62 hX), (xk_63 hX), (xk_64 hX), (xk_65 hX), (xk_66 hX), (xk_67 hX), (xk_68 hX), (xk_69 hX), (xk_70 hX), (xk_71 hX), (xk_72 hX), (xk_73 hX), (xk_74 hX), (xk_75 hX), (xk_76 hX), (xk_77 hX), (xk_78 hX), (xk_79 hX), (xk_80 hX), (xk_81 hX), (xk_82 hX), (xk_83 hX), (xk_84 hX), (xk_85 hX), (xk_86 hX), (xk_87 hX), (xk_88 hX), (xk_89 hX), (xr_0_0 hX), (xr_0_1 hX), (xr_0_2 hX), (xr_0_3 hX), (xr_0_4 hX), (xr_0_5 hX), (xr_0_6 hX), (xr_0_7 hX), (xr_0_8 hX), (xr_0_9 hX), (xr_0_10 hX), (xr_0_11 hX), (xr_0_12 hX), (xr_0_13 hX), (xr_1_0 hX), (xr_2_2 hX), (xr_4_0 hX), (xr_4_1 hX), (xr_4_2 hX), (xr_4_3 hX), (xr_4_4 hX), (xr_5_0 hX), (xr_8_0 hX), (xr_8_1 hX), (xr_8_2 hX), (xr_8_3 hX), (xr_8_4 hX), (xr_8_5 hX), (xr_15_0 hX), (xr_15_1 hX), (xr_15_2 hX), (xr_15_3 hX), (xr_15_4 hX), (xr_15_5 hX), (xr_24_2 hX), (xr_26_0 hX), (xr_26_1 hX), (xr_26_2 hX), (xr_27_0 hX), (xr_27_1 hX), (xr_27_2 hX), (xr_27_3 hX), (xr_27_4 hX), (xr_27_5 hX), (xr_30_0 hX), (xr_31_2 hX), (xr_33_0 hX), (xr_34_2 hX), (xr_36_0 hX), (xr_37_2 hX), (xr_39_0 hX), (xr_40_2 hX), (xr_42_0 hX), (xr_43_2 hX), (xr_45_0 hX), (xr_46_2 hX), (xr_48_2 hX), (xr_50_2 hX), (xr_52_2 hX), (xr_70_2 hX), (xr_72_2 hX), (xr_74_2 hX), (xr_76_2 hX), (xr_54_0 hX), (xr_54_1 hX), (xr_55_0 hX), (xr_55_1 hX), (xr_55_2 hX), (xr_55_3 hX), (xr_55_4 hX), (xr_55_5 hX), (xr_62_0 hX), (xr_62_1 hX), (xr_62_2 hX), (xr_62_3 hX), (xr_62_4 hX), (xr_62_5 hX), (xr_62_6 hX), (xr_78_0 hX), (xr_78_1 hX), (xr_78_2 hX), (xr_82_0 hX), (xr_82_1 hX), (xr_82_2 hX), (xr_83_0 hX), (xr_83_1 hX), (xr_83_2 hX), (xr_83_3 hX), (xi_2_0 hX), (xi_24_0 hX), (xi_31_0 hX), (xi_34_0 hX), (xi_37_0 hX), (xi_40_0 hX), (xi_43_0 hX), (xi_46_0 hX), (xi_48_0 hX), (xi_50_0 hX), (xi_52_0 hX), (xi_70_0 hX), (xi_72_0 hX), (xi_74_0 hX), (xi_76_0 hX), (xi_2_1 hX), (xi_24_1 hX), (xi_31_1 hX), (xi_34_1 hX), (xi_37_1 hX), (xi_40_1 hX), (xi_43_1 hX), (xi_46_1 hX), (xi_48_1 hX), (xi_50_1 hX), (xi_52_1 hX), (xi_70_1 hX), (xi_72_1 hX), (xi_74_1 hX), (xi_76_1 hX), s1, h2]
    exact LX d
  apply ji_same_of (v := some (.int (ji_gI N 0 17 + Int32.ofNat n)))
  case h1 =>
    apply en_92
    simp only [s92_0, s92_1, s92_2, q92_4, s92_7, s92_10, s92_12, s92_13, s92_14, s92_17, s92_20, s92_21, q92_22, s92_25, xIL_1, xIS_1, xQL_2, xQL_3, xAN_1, xAN_2, xAN_3, xCP_1, xC_s, xNC_I, ji_oI1, ji_oIm, kd_sC, gR_sC, gL_sC, ji_rv_s, ji_tl_s, ji_tl_n, ji_s1, ji_s2, ji_kl, List.getD_cons_zero, List.getD_cons_succ, List.set_cons_zero, List.set_cons_succ, List.length_cons, List.length_nil, ji_b_0, ji_b_1, ji_n0, ji_n1, ji_rcb_iff, ji_ok8_0, ji_ok8_1, ji_ok8_2, ji_ok8_3, ji_ok8_4, kd_sI, kd_sL, kd_sR, kd_cp, gR_sI, gR_sL, gR_cp, gL_sI, gL_sR, gL_cp, gI_sL, gI_sR, gI_sI, gL_sL, Nat.reduceEqDiff, false_and, and_false, true_and, and_true, Nat.reduceAdd, Nat.reduceLT, Nat.reduceSub, Int32.reduceLT, Int32.reduceAdd, not_false_eq_true, not_true_eq_false, and_self, ji_b_n, if_true, if_false, ↓reduceIte, cz_m100, cz_m19, cz_m18, cz_m17, cz_m16, cz_m15, cz_m14, cz_m13, cz_m12, cz_m11, cz_m4, cz_m3, cz_m2, cz_m1, cz_1, cz_2, cz_3, cz_4, cz_5, cz_6, cz_7, cz_8, cz_9, cz_10, cz_11, cz_12, cz_13, cz_14, cz_15, cz_16, cz_20, cz_24, cz_30, cz_32, cz_33, cz_38, cz_40, cz_41, cz_42, cz_43, cz_45, cz_48, cz_57, cz_59, cz_60, cz_61, cz_63, cz_64, cz_72, cz_96, cz_97, cz_99, cz_100, cz_122, cz_124, cz_126, cz_160, cz_161, cz_168, cz_200, cz_255, cz_300, cz_960, cz_999, cz_1000, cz_1001, cz_1002, cz_1003, cz_1120, cz_2000, cz_2003, cz_2004, cz_2005, cz_3999, cz_9999, cz_14640, (xk_0 hX), (xk_1 hX), (xk_2 hX), (xk_3 hX), (xk_4 hX), (xk_5 hX), (xk_6 hX), (xk_7 hX), (xk_8 hX), (xk_9 hX), (xk_10 hX), (xk_11 hX), (xk_12 hX), (xk_13 hX), (xk_14 hX), (xk_15 hX), (xk_16 hX), (xk_17 hX), (xk_18 hX), (xk_19 hX), (xk_20 hX), (xk_21 hX), (xk_22 hX), (xk_23 hX), (xk_24 hX), (xk_25 hX), (xk_26 hX), (xk_27 hX), (xk_28 hX), (xk_29 hX), (xk_30 hX), (xk_31 hX), (xk_32 hX), (xk_33 hX), (xk_34 hX), (xk_35 hX), (xk_36 hX), (xk_37 hX), (xk_38 hX), (xk_39 hX), (xk_40 hX), (xk_41 hX), (xk_42 hX), (xk_43 hX), (xk_44 hX), (xk_45 hX), (xk_46 hX), (xk_47 hX), (xk_48 hX), (xk_49 hX), (xk_50 hX), (xk_51 hX), (xk_52 hX), (xk_53 hX), (xk_54 hX), (xk_55 hX), (xk_56 hX), (xk_57 hX), (xk_58 hX), (xk_59 hX), (xk_60 hX), (xk_61 hX), (xk_62 hX), (xk_63 hX), (xk_64 hX), (xk_65 hX), (xk_66 hX), (xk_67 hX), (xk_68 hX), (xk_69 hX), (xk_70 hX), (xk_71 hX), (xk_72 hX), (xk_73 hX), (xk_74 hX), (xk_75 hX), (xk_76 hX), (xk_77 hX), (xk_78 hX), (xk_79 hX), (xk_80 hX), (xk_81 hX), (xk_82 hX), (xk_83 hX), (xk_84 hX), (xk_85 hX), (xk_86 hX), (xk_87 hX), (xk_88 hX), (xk_89 hX), (xr_0_0 hX), (xr_0_1 hX), (xr_0_2 hX), (xr_0_3 hX), (xr_0_4 hX), (xr_0_5 hX), (xr_0_6 hX), (xr_0_7 hX), (xr_0_8 hX), (xr_0_9 hX), (xr_0_10 hX), (xr_0_11 hX), (xr_0_12 hX), (xr_0_13 hX), (xr_1_0 hX), (xr_2_2 hX), (xr_4_0 hX), (xr_4_1 hX), (xr_4_2 hX), (xr_4_3 hX), (xr_4_4 hX), (xr_5_0 hX), (xr_8_0 hX), (xr_8_1 hX), (xr_8_2 hX), (xr_8_3 hX), (xr_8_4 hX), (xr_8_5 hX), (xr_15_0 hX), (xr_15_1 hX), (xr_15_2 hX), (xr_15_3 hX), (xr_15_4 hX), (xr_15_5 hX), (xr_24_2 hX), (xr_26_0 hX), (xr_26_1 hX), (xr_26_2 hX), (xr_27_0 hX), (xr_27_1 hX), (xr_27_2 hX), (xr_27_3 hX), (xr_27_4 hX), (xr_27_5 hX), (xr_30_0 hX), (xr_31_2 hX), (xr_33_0 hX), (xr_34_2 hX), (xr_36_0 hX), (xr_37_2 hX), (xr_39_0 hX), (xr_40_2 hX), (xr_42_0 hX), (xr_43_2 hX), (xr_45_0 hX), (xr_46_2 hX), (xr_48_2 hX), (xr_50_2 hX), (xr_52_2 hX), (xr_70_2 hX), (xr_72_2 hX), (xr_74_2 hX), (xr_76_2 hX), (xr_54_0 hX), (xr_54_1 hX), (xr_55_0 hX), (xr_55_1 hX), (xr_55_2 hX), (xr_55_3 hX), (xr_55_4 hX), (xr_55_5 hX), (xr_62_0 hX), (xr_62_1 hX), (xr_62_2 hX), (xr_62_3 hX), (xr_62_4 hX), (xr_62_5 hX), (xr_62_6 hX), (xr_78_0 hX), (xr_78_1 hX), (xr_78_2 hX), (xr_82_0 hX), (xr_82_1 hX), (xr_82_2 hX), (xr_83_0 hX), (xr_83_1 hX), (xr_83_2 hX), (xr_83_3 hX), (xi_2_0 hX), (xi_24_0 hX), (xi_31_0 hX), (xi_34_0 hX), (xi_37_0 hX), (xi_40_0 hX), (xi_43_0 hX), (xi_46_0 hX), (xi_48_0 hX), (xi_50_0 hX), (xi_52_0 hX), (xi_70_0 hX), (xi_72_0 hX), (xi_74_0 hX), (xi_76_0 hX), (xi_2_1 hX), (xi_24_1 hX), (xi_31_1 hX), (xi_34_1 hX), (xi_37_1 hX), (xi_40_1 hX), (xi_43_1 hX), (xi_46_1 hX), (xi_48_1 hX), (xi_50_1 hX), (xi_52_1 hX), (xi_70_1 hX), (xi_72_1 hX), (xi_74_1 hX), (xi_76_1 hX), m43, h1, M93]
    exact (rfl : _ = (_, ji_sI (ji_sC X 6 (jq_fd (ji_gI X 6) (ji_gI N 0 17).toInt.toNat (jq_by u) n)) 5 1 (ji_gI N 0 17 + Int32.ofNat n)))
  case h2 =>
    apply en_196
    simp only [s196_0, s196_1, s196_2, s196_3, q196_5, s196_8, s196_11, s196_13, s196_14, s196_15, s196_18, s196_19, s196_20, s196_23, s196_26, s196_28, s196_29, s196_30, s196_34, s196_35, s196_38, s196_39, s196_42, s196_45, s196_46, s196_49, s196_50, s196_51, s196_53, s196_55, s196_56, s196_57, s196_58, q196_59, s196_60, s196_61, s196_61r, s196_62, s196_65, s196_66, s196_67, q196_70, s196_73, s196_76, s196_77, s196_80, xIL_1, xIS_1, xQL_2, xQL_3, xAN_1, xAN_2, xAN_3, xCP_1, xC_s, xNC_I, ji_oI1, ji_oIm, kd_sC, gR_sC, gL_sC, ji_rv_s, ji_tl_s, ji_tl_n, ji_s1, ji_s2, ji_kl, List.getD_cons_zero, List.getD_cons_succ, List.set_cons_zero, List.set_cons_succ, List.length_cons, List.length_nil, ji_b_0, ji_b_1, ji_n0, ji_n1, ji_rcb_iff, ji_ok8_0, ji_ok8_1, ji_ok8_2, ji_ok8_3, ji_ok8_4, kd_sI, kd_sL, kd_sR, kd_cp, gR_sI, gR_sL, gR_cp, gL_sI, gL_sR, gL_cp, gI_sL, gI_sR, gI_sI, gL_sL, Nat.reduceEqDiff, false_and, and_false, true_and, and_true, Nat.reduceAdd, Nat.reduceLT, Nat.reduceSub, Int32.reduceLT, Int32.reduceAdd, not_false_eq_true, not_true_eq_false, and_self, ji_b_n, if_true, if_false, ↓reduceIte, cz_m100, cz_m19, cz_m18, cz_m17, cz_m16, cz_m15, cz_m14, cz_m13, cz_m12, cz_m11, cz_m4, cz_m3, cz_m2, cz_m1, cz_1, cz_2, cz_3, cz_4, cz_5, cz_6, cz_7, cz_8, cz_9, cz_10, cz_11, cz_12, cz_13, cz_14, cz_15, cz_16, cz_20, cz_24, cz_30, cz_32, cz_33, cz_38, cz_40, cz_41, cz_42, cz_43, cz_45, cz_48, cz_57, cz_59, cz_60, cz_61, cz_63, cz_64, cz_72, cz_96, cz_97, cz_99, cz_100, cz_122, cz_124, cz_126, cz_160, cz_161, cz_168, cz_200, cz_255, cz_300, cz_960, cz_999, cz_1000, cz_1001, cz_1002, cz_1003, cz_1120, cz_2000, cz_2003, cz_2004, cz_2005, cz_3999, cz_9999, cz_14640, mk_0 hN, m158, h1, h2]
    exact LN
  case h3 =>
    refine ji_Rel.mk (ji_XF_ar (ji_XF_sC hX (by decide)) (by decide)) R.mf R.hour R.sets R.coin R.books ?_ R.trials R.hands R.leaves R.gaps R.lists R.crates R.chains R.kinds R.sheets
    refine ⟨u1, u2, ⟨rfl, ?_, ?_⟩, ?_, ?_⟩
    · show 0 ≤ (ji_gI N 0 17 + Int32.ofNat n).toInt
      omega
    · show (ji_gI N 0 17 + Int32.ofNat n).toInt ≤ 160
      omega
    · intro k hk
      have hk : (k : Int) < (ji_gI N 0 17 + Int32.ofNat n).toInt := hk
      show ji_bt (ji_gI (ji_sI (ji_sC X 6 (jq_fd (ji_gI X 6) (ji_gI N 0 17).toInt.toNat (jq_by u) n)) 5 1 (ji_gI N 0 17 + Int32.ofNat n)) 6 k) 0 255 ∧ ji_gI (ji_sI (ji_sC N 10 (jq_fd (ji_gI N 10) (960 + (ji_gI N 0 17).toInt.toNat) (fun k => (jq_by u k).toInt8.toInt32) n)) 0 17 (ji_gI N 0 17 + Int32.ofNat n)) 10 (960 + k) = _
      rw [gI_ne (by decide), gI_ne (by decide), gI_sC, gI_sC]
      by_cases q : k < (ji_gI N 0 17).toInt.toNat
      · rw [jq_fd_lo q, jq_fd_lo (by omega)]
        exact u4 k (by omega)
      · obtain ⟨i, rfl⟩ : ∃ i, k = (ji_gI N 0 17).toInt.toNat + i := ⟨k - (ji_gI N 0 17).toInt.toNat, by omega⟩
        rw [jq_fd_in n (by omega), ← Nat.add_assoc, jq_fd_in n (by omega)]
        exact ⟨jq_by_b u i, rfl⟩
    · intro t ht
      have ht : (t : Int) < (ji_gI N 0 15).toInt := ht
      obtain ⟨q, q1, q2, q3⟩ := u5 t ht
      refine ⟨q, q1, q2, fun h => ?_⟩
      obtain ⟨q4, q5⟩ := q3 h
      refine ⟨q4, ?_⟩
      rw [← q5]
      congr 1
      refine List.map_congr_left (fun k hk => ?_)
      have hk := List.mem_range.mp hk
      have hk : k < (ji_gI N 11 t).toInt.toNat := hk
      have q4 : ji_bt (ji_gI N 11 t) 0 160 := q4
      obtain ⟨q6, q7⟩ := q4
      have := u1.2.2
      rw [gI_ne (by decide), gI_sC, jq_fd_lo (by omega)]
end JIV
