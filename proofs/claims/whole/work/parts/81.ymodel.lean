/-! ===== years: the model's methods ===== -/
def jy_qm (x : Int32) (e : Nat) : Prop := x.toInt = (e : Int)
def jy_rf (n : Nat) (r : Nat → Int) (f : ji_F) : Nat → Int
  | 0 => 0
  | j + 1 => jy_rf n r f j + r j * ((n : Int) - (f j).toInt)
def jy_sf (n : Nat) (p : Nat → Int) (f : ji_F) : Nat → Int
  | 0 => 0
  | j + 1 => jy_sf n p f j + if (f j).toInt < (n : Int) then p j else 0
def jy_fi (p : Nat → Int) (f : ji_F) : Nat → Nat → Int
  | 0, _ => 0
  | j + 1, y => jy_fi p f j y + if (f j).toInt = (y : Int) then p j else 0
section JIV
variable {X Y N N' N0 M : ji_M} {P : ji_P} {x y z w a b : Int32} {d r m s n i j k v u : Nat} {c : Int} {q : Int × Int × Nat} {o : Option Value × ji_M} {f g : ji_F} {pp rr : Nat → Int}
theorem jy_E_rf : ∀ (j v : Nat), jy_E jy_qm (n + 1) f j v → jy_rf n rr f j = jy_rd n rr j v := by
  intro j
  induction j with
  | zero => intro v _; rfl
  | succ j ih =>
    intro v e
    show jy_rf n rr f j + rr j * ((n : Int) - (f j).toInt) = jy_rd n rr j (v / (n + 1)) + rr j * ((n : Int) - ((v % (n + 1) : Nat) : Int))
    have e2 : (f j).toInt = ((v % (n + 1) : Nat) : Int) := e.2
    rw [ih _ e.1, e2]
theorem jy_E_sf : ∀ (j v : Nat), jy_E jy_qm (n + 1) f j v → jy_sf n pp f j = jy_sp n pp j v := by
  intro j
  induction j with
  | zero => intro v _; rfl
  | succ j ih =>
    intro v e
    show jy_sf n pp f j + (if (f j).toInt < (n : Int) then pp j else 0) = jy_sp n pp j (v / (n + 1)) + if v % (n + 1) < n then pp j else 0
    have e2 : (f j).toInt = ((v % (n + 1) : Nat) : Int) := e.2
    rw [ih _ e.1, e2]
    by_cases h : v % (n + 1) < n
    · rw [if_pos h, if_pos (by omega)]
    · rw [if_neg h, if_neg (by omega)]
theorem jy_E_fi : ∀ (j v y : Nat), jy_E jy_qm (n + 1) f j v → jy_fi pp f j y = jy_si n pp j v y := by
  intro j
  induction j with
  | zero => intro v y _; rfl
  | succ j ih =>
    intro v y e
    show jy_fi pp f j y + (if (f j).toInt = (y : Int) then pp j else 0) = jy_si n pp j (v / (n + 1)) y + if v % (n + 1) = y then pp j else 0
    have e2 : (f j).toInt = ((v % (n + 1) : Nat) : Int) := e.2
    rw [ih _ _ e.1, e2]
    by_cases h : v % (n + 1) = y
    · rw [if_pos h, if_pos (by omega)]
    · rw [if_neg h, if_neg (by omega)]
theorem jy_E_b : ∀ (j v : Nat), jy_E jy_qm (n + 1) f j v → ∀ l, l < j → 0 ≤ (f l).toInt ∧ (f l).toInt ≤ (n : Int) := by
  intro j v e l hl
  obtain ⟨t, h1, h2, -⟩ := jy_E_two (by omega) j v e e l hl
  have h2 : (f l).toInt = (t : Int) := h2
  omega
theorem jy_fi_b (hp : ∀ l, l < k → 0 ≤ pp l ∧ pp l ≤ 999) : ∀ (j y : Nat), j ≤ k → 0 ≤ jy_fi pp f j y ∧ jy_fi pp f j y ≤ 999 * (j : Int) := by
  intro j
  induction j with
  | zero => intro y _; exact ⟨Int.le_refl _, by show (0 : Int) ≤ 999 * ((0 : Nat) : Int); omega⟩
  | succ j ih =>
    intro y hj
    have := ih y (by omega)
    have := hp j (by omega)
    have e : jy_fi pp f (j + 1) y = jy_fi pp f j y + if (f j).toInt = (y : Int) then pp j else 0 := rfl
    rw [e]
    split <;> omega
theorem jy_divN {B : Nat} (hu : u ≤ 1000000) (hB : 0 < B) (hB2 : B ≤ 1000000) : Int32.ofNat u / Int32.ofNat B = Int32.ofNat (u / B) := by
  have h1 := Nat.div_le_self u B
  rw [vi_eq, vi_div (by rw [vi_nn hu]; omega) (by rw [vi_nn hB2]; omega), vi_nn hu, vi_nn hB2, vi_nn (by omega)]
  omega
theorem jy_modN {B : Nat} (hu : u ≤ 1000000) (hB : 0 < B) (hB2 : B ≤ 1000000) : Int32.ofNat u - Int32.ofNat u / Int32.ofNat B * Int32.ofNat B = Int32.ofNat (u % B) := by
  have h1 := Nat.mod_le u B
  rw [vi_eq, vi_mod (by rw [vi_nn hu]; omega) (by rw [vi_nn hB2]; omega), vi_nn hu, vi_nn hB2, vi_nn (by omega)]
  omega
theorem jy_pm1 (h : k ≤ 1000) : Int32.ofNat (k + 1) + (-1) = Int32.ofNat k := by
  rw [← Int32.sub_eq_add_neg, jx_o1m h]
theorem jy_nsF (h : ji_offN N N') (hs : ∀ k, ji_ns i k = false) : ji_gI N' i = ji_gI N i := ji_offN_F h hs
/-- the rows of the model while plans are counted -/
def jy_nN (N N' : ji_M) : Prop := ji_offN N N' ∧ ji_gI N' 49 = ji_gI N 49 ∧ ji_gI N' 50 = ji_gI N 50
theorem jy_nN_r : jy_nN N N := ⟨ji_offN_r, rfl, rfl⟩
theorem jy_nN_t (h : jy_nN N N') (h' : jy_nN N' N0) : jy_nN N N0 := ⟨ji_offN_t h.1 h'.1, h'.2.1.trans h.2.1, h'.2.2.trans h.2.2⟩
theorem jy_nN_51 : jy_nN N (ji_sI N 51 i x) := ⟨ji_offN_sI ji_offN_r rfl, gF_sI (by decide), gF_sI (by decide)⟩
/-- nothing is spent -/
theorem m220A (hn : n ≤ 4) : ∀ (m t : Nat) (N : ji_M), t + m = n → ji_MF N → (∀ l, l < t → ji_gI N 51 l = 0) → ∃ N', jy_nN N N' ∧ (∀ l, l < n → ji_gI N' 51 l = 0) ∧ ∀ d o, ji_Ev (ji_CL d) 220 20 N' [some (.ref 0), some (.int (Int32.ofNat n)), some (.int y), some (.int (Int32.ofNat n)), none] [] o → ji_Ev (ji_CL d) 220 2 N [some (.ref 0), some (.int (Int32.ofNat n)), some (.int y), some (.int (Int32.ofNat t)), none] [] o := by
  intro m
  induction m with
  | zero =>
    intro t N ht hN h
    have e : t = n := by omega
    subst e
    have g : ¬ Int32.ofNat t < Int32.ofNat t := Int32.lt_irrefl
    refine ⟨N, jy_nN_r, h, fun d o G => ?_⟩
    simp only [s220_0, s220_1, s220_2, s220_3, s220_4, s220_7, s220_8, s220_11, s220_12, q220_13, q220_14, s220_21, s220_22, s220_23, s220_24, s220_27, s220_30, s220_31, s220_34, q220_35, s220_36, s220_37, s220_40, s220_41, s220_44, s220_45, s220_48, q220_49, s220_50, q220_51, s220_52, s220_53, s220_56, q220_57, s220_58, q220_59, q220_60, s220_63, s220_66, s220_67, s220_68, s220_69, s220_71, s220_73, s220_74, s220_77, s220_78, s220_79, s220_80, s220_83, q220_85, s220_86, s220_87, s220_88, s220_89, s220_90, s220_93, s220_94, q220_95, s220_98, s220_101, s220_102, xIL_1, xIS_1, xQL_2, xQL_3, xAN_1, xAN_2, xAN_3, xCP_1, xC_s, xNC_I, ji_oI1, ji_oIm, kd_sC, gR_sC, gL_sC, ji_rv_s, ji_tl_s, ji_tl_n, ji_s1, ji_s2, ji_kl, List.getD_cons_zero, List.getD_cons_succ, List.set_cons_zero, List.set_cons_succ, List.length_cons, List.length_nil, ji_b_0, ji_b_1, ji_n0, ji_n1, ji_rcb_iff, ji_ok8_0, ji_ok8_1, ji_ok8_2, ji_ok8_3, ji_ok8_4, kd_sI, kd_sL, kd_sR, kd_cp, gR_sI, gR_sL, gR_cp, gL_sI, gL_sR, gL_cp, gI_sL, gI_sR, gI_sI, gL_sL, Nat.reduceEqDiff, false_and, and_false, true_and, and_true, Nat.reduceAdd, Nat.reduceLT, Nat.reduceSub, Int32.reduceLT, Int32.reduceAdd, not_false_eq_true, not_true_eq_false, and_self, ji_b_n, if_true, if_false, ↓reduceIte, cz_m100, cz_m19, cz_m18, cz_m17, cz_m16, cz_m15, cz_m14, cz_m13, cz_m12, cz_m11, cz_m4, cz_m3, cz_m2, cz_m1, cz_1, cz_2, cz_3, cz_4, cz_5, cz_6, cz_7, cz_8, cz_9, cz_10, cz_11, cz_12, cz_13, cz_14, cz_15, cz_16, cz_20, cz_24, cz_30, cz_32, cz_33, cz_38, cz_40, cz_41, cz_42, cz_43, cz_45, cz_48, cz_57, cz_59, cz_60, cz_61, cz_63, cz_64, cz_72, cz_96, cz_97, cz_99, cz_100, cz_122, cz_124, cz_126, cz_160, cz_161, cz_168, cz_200, cz_255, cz_300, cz_960, cz_999, cz_1000, cz_1001, cz_1002, cz_1003, cz_1120, cz_2000, cz_2003, cz_2004, cz_2005, cz_3999, cz_9999, cz_14640, g]
    exact G
  | succ m ih =>
    intro t N ht hN h
    obtain ⟨i1, i2, i3⟩ := jy_ix (Y := t) (m := 4) (by omega) (by omega)
    have g : Int32.ofNat t < Int32.ofNat n := by rw [vi_lt, vi_nn (by omega), vi_nn (by omega)]; omega
    have p1 := jx_o1p (k := t) (by omega)
    have p2 : (Int32.ofInt 1) = 1 := rfl
    obtain ⟨N', n', h', E⟩ := ih (t + 1) (ji_sI N 51 t 0) (by omega) hN (fun l hl => by
      rw [gI_sI]
      by_cases q : l = t
      · rw [if_pos ⟨rfl, q⟩]
      · rw [if_neg (fun z => q z.2)]; exact h l (by omega))
    refine ⟨N', jy_nN_t jy_nN_51 n', h', fun d o G => ?_⟩
    have E := E d o G
    simp only [s220_0, s220_1, s220_2, s220_3, s220_4, s220_7, s220_8, s220_11, s220_12, q220_13, q220_14, s220_21, s220_22, s220_23, s220_24, s220_27, s220_30, s220_31, s220_34, q220_35, s220_36, s220_37, s220_40, s220_41, s220_44, s220_45, s220_48, q220_49, s220_50, q220_51, s220_52, s220_53, s220_56, q220_57, s220_58, q220_59, q220_60, s220_63, s220_66, s220_67, s220_68, s220_69, s220_71, s220_73, s220_74, s220_77, s220_78, s220_79, s220_80, s220_83, q220_85, s220_86, s220_87, s220_88, s220_89, s220_90, s220_93, s220_94, q220_95, s220_98, s220_101, s220_102, xIL_1, xIS_1, xQL_2, xQL_3, xAN_1, xAN_2, xAN_3, xCP_1, xC_s, xNC_I, ji_oI1, ji_oIm, kd_sC, gR_sC, gL_sC, ji_rv_s, ji_tl_s, ji_tl_n, ji_s1, ji_s2, ji_kl, List.getD_cons_zero, List.getD_cons_succ, List.set_cons_zero, List.set_cons_succ, List.length_cons, List.length_nil, ji_b_0, ji_b_1, ji_n0, ji_n1, ji_rcb_iff, ji_ok8_0, ji_ok8_1, ji_ok8_2, ji_ok8_3, ji_ok8_4, kd_sI, kd_sL, kd_sR, kd_cp, gR_sI, gR_sL, gR_cp, gL_sI, gL_sR, gL_cp, gI_sL, gI_sR, gI_sI, gL_sL, Nat.reduceEqDiff, false_and, and_false, true_and, and_true, Nat.reduceAdd, Nat.reduceLT, Nat.reduceSub, Int32.reduceLT, Int32.reduceAdd, not_false_eq_true, not_true_eq_false, and_self, ji_b_n, if_true, if_false, ↓reduceIte, cz_m100, cz_m19, cz_m18, cz_m17, cz_m16, cz_m15, cz_m14, cz_m13, cz_m12, cz_m11, cz_m4, cz_m3, cz_m2, cz_m1, cz_1, cz_2, cz_3, cz_4, cz_5, cz_6, cz_7, cz_8, cz_9, cz_10, cz_11, cz_12, cz_13, cz_14, cz_15, cz_16, cz_20, cz_24, cz_30, cz_32, cz_33, cz_38, cz_40, cz_41, cz_42, cz_43, cz_45, cz_48, cz_57, cz_59, cz_60, cz_61, cz_63, cz_64, cz_72, cz_96, cz_97, cz_99, cz_100, cz_122, cz_124, cz_126, cz_160, cz_161, cz_168, cz_200, cz_255, cz_300, cz_960, cz_999, cz_1000, cz_1001, cz_1002, cz_1003, cz_1120, cz_2000, cz_2003, cz_2004, cz_2005, cz_3999, cz_9999, cz_14640, -gI_sI, mk_0 hN, mr_76 hN, mk_51 hN, g, i2, i3, p1, p2]
    simp only [s220_17]
    exact E
theorem m220B (R : ji_Rel P M N0) (hn : n ≤ 4) {f : ji_F} (hf : ∀ l, l < jy_K N0 → 0 ≤ (f l).toInt ∧ (f l).toInt ≤ (n : Int)) : ∀ (m t : Nat) (N : ji_M), t + m = jy_K N0 → ji_offN N0 N → ji_gI N 49 = f → (∀ l, l < n → (ji_gI N 51 l).toInt = jy_fi (jy_p N0) f t l) → ∃ N', jy_nN N N' ∧ (∀ l, l < n → (ji_gI N' 51 l).toInt = jy_fi (jy_p N0) f (jy_K N0) l) ∧ ∀ d o, ji_Ev (ji_CL d) 220 66 N' [some (.ref 0), some (.int (Int32.ofNat n)), some (.int y), some (.int (Int32.ofNat (jy_K N0))), none] [] o → ji_Ev (ji_CL d) 220 22 N [some (.ref 0), some (.int (Int32.ofNat n)), some (.int y), some (.int (Int32.ofNat t)), none] [] o := by
  have Kb := jy_Kb R
  intro m
  induction m with
  | zero =>
    intro t N ht oN h49 h
    have hN := ji_offN_MF oN R.mf
    have e71 : ji_gI N 0 71 = ji_gI N0 0 71 := oN.2.1 0 71 rfl
    have e : t = jy_K N0 := by omega
    rw [e] at h ⊢
    have g : ¬ Int32.ofNat (jy_K N0) < ji_gI N0 0 71 := by rw [vi_lt, vi_nn (by omega)]; omega
    refine ⟨N, jy_nN_r, h, fun d o G => ?_⟩
    simp only [s220_0, s220_1, s220_2, s220_3, s220_4, s220_7, s220_8, s220_11, s220_12, q220_13, q220_14, s220_17, s220_20, s220_21, s220_22, s220_23, s220_24, s220_27, s220_30, s220_31, s220_34, q220_35, s220_36, s220_37, s220_40, s220_41, s220_44, s220_45, s220_48, q220_49, s220_50, q220_51, s220_52, s220_53, s220_56, q220_57, s220_58, q220_59, q220_60, s220_67, s220_68, s220_69, s220_71, s220_73, s220_74, s220_77, s220_78, s220_79, s220_80, s220_83, q220_85, s220_86, s220_87, s220_88, s220_89, s220_90, s220_93, s220_94, q220_95, s220_98, s220_101, s220_102, xIL_1, xIS_1, xQL_2, xQL_3, xAN_1, xAN_2, xAN_3, xCP_1, xC_s, xNC_I, ji_oI1, ji_oIm, kd_sC, gR_sC, gL_sC, ji_rv_s, ji_tl_s, ji_tl_n, ji_s1, ji_s2, ji_kl, List.getD_cons_zero, List.getD_cons_succ, List.set_cons_zero, List.set_cons_succ, List.length_cons, List.length_nil, ji_b_0, ji_b_1, ji_n0, ji_n1, ji_rcb_iff, ji_ok8_0, ji_ok8_1, ji_ok8_2, ji_ok8_3, ji_ok8_4, kd_sI, kd_sL, kd_sR, kd_cp, gR_sI, gR_sL, gR_cp, gL_sI, gL_sR, gL_cp, gI_sL, gI_sR, gI_sI, gL_sL, Nat.reduceEqDiff, false_and, and_false, true_and, and_true, Nat.reduceAdd, Nat.reduceLT, Nat.reduceSub, Int32.reduceLT, Int32.reduceAdd, not_false_eq_true, not_true_eq_false, and_self, ji_b_n, if_true, if_false, ↓reduceIte, cz_m100, cz_m19, cz_m18, cz_m17, cz_m16, cz_m15, cz_m14, cz_m13, cz_m12, cz_m11, cz_m4, cz_m3, cz_m2, cz_m1, cz_1, cz_2, cz_3, cz_4, cz_5, cz_6, cz_7, cz_8, cz_9, cz_10, cz_11, cz_12, cz_13, cz_14, cz_15, cz_16, cz_20, cz_24, cz_30, cz_32, cz_33, cz_38, cz_40, cz_41, cz_42, cz_43, cz_45, cz_48, cz_57, cz_59, cz_60, cz_61, cz_63, cz_64, cz_72, cz_96, cz_97, cz_99, cz_100, cz_122, cz_124, cz_126, cz_160, cz_161, cz_168, cz_200, cz_255, cz_300, cz_960, cz_999, cz_1000, cz_1001, cz_1002, cz_1003, cz_1120, cz_2000, cz_2003, cz_2004, cz_2005, cz_3999, cz_9999, cz_14640, mk_0 hN, e71, g]
    exact G
  | succ m ih =>
    intro t N ht oN h49 h
    have hN := ji_offN_MF oN R.mf
    have e71 : ji_gI N 0 71 = ji_gI N0 0 71 := oN.2.1 0 71 rfl
    have e47 : ji_gI N 47 = ji_gI N0 47 := ji_offN_F oN (fun _ => rfl)
    obtain ⟨i1, i2, i3⟩ := jy_ix (Y := t) (m := 6) (by omega) (by omega)
    have g : Int32.ofNat t < ji_gI N0 0 71 := by rw [vi_lt, vi_nn (by omega)]; omega
    have p1 := jx_o1p (k := t) (by omega)
    have p2 : (Int32.ofInt 1) = 1 := rfl
    have fb := hf t (by omega)
    have pb := jy_pc R t (by omega)
    have es : ∀ l, jy_fi (jy_p N0) f (t + 1) l = jy_fi (jy_p N0) f t l + if (f t).toInt = (l : Int) then jy_p N0 t else 0 := fun l => rfl
    by_cases q : f t < Int32.ofNat n
    · have q' : (f t).toInt < (n : Int) := by rw [vi_lt, vi_nn (by omega)] at q; exact q
      obtain ⟨l0, hl0⟩ : ∃ l0 : Nat, (f t).toInt = (l0 : Int) := ⟨(f t).toInt.toNat, by omega⟩
      have c1 : (f t).toNatClampNeg = l0 := by rw [vi_nat, hl0]; exact Int.toNat_natCast _
      have c2 : vp_in (f t) 4 := vi_in.mpr ⟨by omega, by omega⟩
      have fb2 := jy_fi_b (f := f) (jy_pc R) t l0 (by omega)
      have h0 := h l0 (by omega)
      have ea : (ji_gI N 51 l0 + ji_gI N0 47 t).toInt = jy_fi (jy_p N0) f t l0 + jy_p N0 t := by
        have e : (ji_gI N0 47 t).toInt = jy_p N0 t := rfl
        rw [vi_add (by omega) (by omega), h0, e]
      obtain ⟨N', n', h', E⟩ := ih (t + 1) (ji_sI N 51 l0 (ji_gI N 51 l0 + ji_gI N0 47 t)) (by omega) (ji_offN_sI oN rfl) ((gF_sI (by decide)).trans h49) (fun l hl => by
        rw [gI_sI, es]
        by_cases q : l = l0
        · rw [if_pos ⟨rfl, q⟩, if_pos (by omega), ea, q]
        · rw [if_neg (fun z => q z.2), if_neg (by omega), h l hl, Int.add_zero])
      refine ⟨N', jy_nN_t jy_nN_51 n', h', fun d o G => ?_⟩
      have E := E d o G
      simp only [s220_0, s220_1, s220_2, s220_3, s220_4, s220_7, s220_8, s220_11, s220_12, q220_13, q220_14, s220_17, s220_20, s220_21, s220_22, s220_23, s220_24, s220_27, s220_30, s220_31, s220_34, q220_35, s220_36, s220_37, s220_40, s220_41, s220_44, s220_45, s220_48, q220_49, s220_50, q220_51, s220_52, s220_53, s220_56, q220_57, s220_58, q220_59, q220_60, s220_67, s220_68, s220_69, s220_71, s220_73, s220_74, s220_77, s220_78, s220_79, s220_80, s220_83, q220_85, s220_86, s220_87, s220_88, s220_89, s220_90, s220_93, s220_94, q220_95, s220_98, s220_101, s220_102, xIL_1, xIS_1, xQL_2, xQL_3, xAN_1, xAN_2, xAN_3, xCP_1, xC_s, xNC_I, ji_oI1, ji_oIm, kd_sC, gR_sC, gL_sC, ji_rv_s, ji_tl_s, ji_tl_n, ji_s1, ji_s2, ji_kl, List.getD_cons_zero, List.getD_cons_succ, List.set_cons_zero, List.set_cons_succ, List.length_cons, List.length_nil, ji_b_0, ji_b_1, ji_n0, ji_n1, ji_rcb_iff, ji_ok8_0, ji_ok8_1, ji_ok8_2, ji_ok8_3, ji_ok8_4, kd_sI, kd_sL, kd_sR, kd_cp, gR_sI, gR_sL, gR_cp, gL_sI, gL_sR, gL_cp, gI_sL, gI_sR, gI_sI, gL_sL, Nat.reduceEqDiff, false_and, and_false, true_and, and_true, Nat.reduceAdd, Nat.reduceLT, Nat.reduceSub, Int32.reduceLT, Int32.reduceAdd, not_false_eq_true, not_true_eq_false, and_self, ji_b_n, if_true, if_false, ↓reduceIte, cz_m100, cz_m19, cz_m18, cz_m17, cz_m16, cz_m15, cz_m14, cz_m13, cz_m12, cz_m11, cz_m4, cz_m3, cz_m2, cz_m1, cz_1, cz_2, cz_3, cz_4, cz_5, cz_6, cz_7, cz_8, cz_9, cz_10, cz_11, cz_12, cz_13, cz_14, cz_15, cz_16, cz_20, cz_24, cz_30, cz_32, cz_33, cz_38, cz_40, cz_41, cz_42, cz_43, cz_45, cz_48, cz_57, cz_59, cz_60, cz_61, cz_63, cz_64, cz_72, cz_96, cz_97, cz_99, cz_100, cz_122, cz_124, cz_126, cz_160, cz_161, cz_168, cz_200, cz_255, cz_300, cz_960, cz_999, cz_1000, cz_1001, cz_1002, cz_1003, cz_1120, cz_2000, cz_2003, cz_2004, cz_2005, cz_3999, cz_9999, cz_14640, -gI_sI, mk_0 hN, mr_74 hN, mk_49 hN, mr_76 hN, mk_51 hN, mr_72 hN, mk_47 hN, e71, e47, h49, g, q, c1, c2, i2, i3, p1, p2]
      simp only [s220_63]
      exact E
    · have q' : ¬ (f t).toInt < (n : Int) := by rw [vi_lt, vi_nn (by omega)] at q; exact q
      obtain ⟨N', n', h', E⟩ := ih (t + 1) N (by omega) oN h49 (fun l hl => by
        rw [es, if_neg (by omega), h l hl, Int.add_zero])
      refine ⟨N', n', h', fun d o G => ?_⟩
      have E := E d o G
      simp only [s220_0, s220_1, s220_2, s220_3, s220_4, s220_7, s220_8, s220_11, s220_12, q220_13, q220_14, s220_17, s220_20, s220_21, s220_22, s220_23, s220_24, s220_27, s220_30, s220_31, s220_34, q220_35, s220_36, s220_37, s220_40, s220_41, s220_44, s220_45, s220_48, q220_49, s220_50, q220_51, s220_52, s220_53, s220_56, q220_57, s220_58, q220_59, q220_60, s220_67, s220_68, s220_69, s220_71, s220_73, s220_74, s220_77, s220_78, s220_79, s220_80, s220_83, q220_85, s220_86, s220_87, s220_88, s220_89, s220_90, s220_93, s220_94, q220_95, s220_98, s220_101, s220_102, xIL_1, xIS_1, xQL_2, xQL_3, xAN_1, xAN_2, xAN_3, xCP_1, xC_s, xNC_I, ji_oI1, ji_oIm, kd_sC, gR_sC, gL_sC, ji_rv_s, ji_tl_s, ji_tl_n, ji_s1, ji_s2, ji_kl, List.getD_cons_zero, List.getD_cons_succ, List.set_cons_zero, List.set_cons_succ, List.length_cons, List.length_nil, ji_b_0, ji_b_1, ji_n0, ji_n1, ji_rcb_iff, ji_ok8_0, ji_ok8_1, ji_ok8_2, ji_ok8_3, ji_ok8_4, kd_sI, kd_sL, kd_sR, kd_cp, gR_sI, gR_sL, gR_cp, gL_sI, gL_sR, gL_cp, gI_sL, gI_sR, gI_sI, gL_sL, Nat.reduceEqDiff, false_and, and_false, true_and, and_true, Nat.reduceAdd, Nat.reduceLT, Nat.reduceSub, Int32.reduceLT, Int32.reduceAdd, not_false_eq_true, not_true_eq_false, and_self, ji_b_n, if_true, if_false, ↓reduceIte, cz_m100, cz_m19, cz_m18, cz_m17, cz_m16, cz_m15, cz_m14, cz_m13, cz_m12, cz_m11, cz_m4, cz_m3, cz_m2, cz_m1, cz_1, cz_2, cz_3, cz_4, cz_5, cz_6, cz_7, cz_8, cz_9, cz_10, cz_11, cz_12, cz_13, cz_14, cz_15, cz_16, cz_20, cz_24, cz_30, cz_32, cz_33, cz_38, cz_40, cz_41, cz_42, cz_43, cz_45, cz_48, cz_57, cz_59, cz_60, cz_61, cz_63, cz_64, cz_72, cz_96, cz_97, cz_99, cz_100, cz_122, cz_124, cz_126, cz_160, cz_161, cz_168, cz_200, cz_255, cz_300, cz_960, cz_999, cz_1000, cz_1001, cz_1002, cz_1003, cz_1120, cz_2000, cz_2003, cz_2004, cz_2005, cz_3999, cz_9999, cz_14640, -gI_sI, mk_0 hN, mr_74 hN, mk_49 hN, e71, h49, g, q, i2, i3, p1, p2]
      simp only [s220_63]
      exact E
theorem m220C (hN : ji_MF N) (hn : n ≤ 4) {h : Nat → Int} (hb : ∀ y, 0 ≤ h y ∧ h y ≤ 6000) (hc : 0 ≤ y.toInt ∧ y.toInt ≤ 9999) (H : ∀ l, l < n → (ji_gI N 51 l).toInt = h l) : ∀ (m Y : Nat) (s : Int32), Y + m = n → s.toInt = jy_cu y.toInt h Y → ji_Ev (ji_CL d) 220 71 N [some (.ref 0), some (.int (Int32.ofNat n)), some (.int y), some (.int s), some (.int (Int32.ofNat Y))] [] (some (.int (ji_b (∀ Z, Z ≤ n → Y < Z → 0 ≤ jy_cu y.toInt h Z))), N) := by
  have e0 : (0 : Int32).toInt = 0 := rfl
  intro m
  induction m with
  | zero =>
    intro Y s hY hs
    have e : Y = n := by omega
    subst e
    have g : ¬ Int32.ofNat Y < Int32.ofNat Y := Int32.lt_irrefl
    have t : ji_b (∀ Z, Z ≤ Y → Y < Z → 0 ≤ jy_cu y.toInt h Z) = 1 := ji_b_T (fun Z h1 h2 => by omega)
    rw [t]
    simp only [s220_0, s220_1, s220_2, s220_3, s220_4, s220_7, s220_8, s220_11, s220_12, q220_13, q220_14, s220_17, s220_20, s220_21, s220_22, s220_23, s220_24, s220_27, s220_30, s220_31, s220_34, q220_35, s220_36, s220_37, s220_40, s220_41, s220_44, s220_45, s220_48, q220_49, s220_50, q220_51, s220_52, s220_53, s220_56, q220_57, s220_58, q220_59, q220_60, s220_63, s220_66, s220_67, s220_68, s220_69, s220_71, s220_73, s220_74, s220_77, s220_78, s220_79, s220_80, s220_83, q220_85, s220_86, s220_87, s220_88, s220_89, s220_90, s220_93, s220_94, q220_95, s220_101, s220_102, xIL_1, xIS_1, xQL_2, xQL_3, xAN_1, xAN_2, xAN_3, xCP_1, xC_s, xNC_I, ji_oI1, ji_oIm, kd_sC, gR_sC, gL_sC, ji_rv_s, ji_tl_s, ji_tl_n, ji_s1, ji_s2, ji_kl, List.getD_cons_zero, List.getD_cons_succ, List.set_cons_zero, List.set_cons_succ, List.length_cons, List.length_nil, ji_b_0, ji_b_1, ji_n0, ji_n1, ji_rcb_iff, ji_ok8_0, ji_ok8_1, ji_ok8_2, ji_ok8_3, ji_ok8_4, kd_sI, kd_sL, kd_sR, kd_cp, gR_sI, gR_sL, gR_cp, gL_sI, gL_sR, gL_cp, gI_sL, gI_sR, gI_sI, gL_sL, Nat.reduceEqDiff, false_and, and_false, true_and, and_true, Nat.reduceAdd, Nat.reduceLT, Nat.reduceSub, Int32.reduceLT, Int32.reduceAdd, not_false_eq_true, not_true_eq_false, and_self, ji_b_n, if_true, if_false, ↓reduceIte, cz_m100, cz_m19, cz_m18, cz_m17, cz_m16, cz_m15, cz_m14, cz_m13, cz_m12, cz_m11, cz_m4, cz_m3, cz_m2, cz_m1, cz_1, cz_2, cz_3, cz_4, cz_5, cz_6, cz_7, cz_8, cz_9, cz_10, cz_11, cz_12, cz_13, cz_14, cz_15, cz_16, cz_20, cz_24, cz_30, cz_32, cz_33, cz_38, cz_40, cz_41, cz_42, cz_43, cz_45, cz_48, cz_57, cz_59, cz_60, cz_61, cz_63, cz_64, cz_72, cz_96, cz_97, cz_99, cz_100, cz_122, cz_124, cz_126, cz_160, cz_161, cz_168, cz_200, cz_255, cz_300, cz_960, cz_999, cz_1000, cz_1001, cz_1002, cz_1003, cz_1120, cz_2000, cz_2003, cz_2004, cz_2005, cz_3999, cz_9999, cz_14640, g]
  | succ m ih =>
    intro Y s hY hs
    obtain ⟨i1, i2, i3⟩ := jy_ix (Y := Y) (m := 4) (by omega) (by omega)
    have g : Int32.ofNat Y < Int32.ofNat n := by rw [vi_lt, vi_nn (by omega), vi_nn (by omega)]; omega
    have p1 := jx_o1p (k := Y) (by omega)
    have p2 : (Int32.ofInt 1) = 1 := rfl
    have cb := jy_cu_b (c := y.toInt) hb hc Y
    have hb0 := hb Y
    have hY0 := H Y (by omega)
    have e : (s + (y - ji_gI N 51 Y)).toInt = jy_cu y.toInt h (Y + 1) := by
      have s1 : (y - ji_gI N 51 Y).toInt = y.toInt - h Y := by
        rw [vi_sub (by omega) (by omega), hY0]
      have s2 : jy_cu y.toInt h (Y + 1) = jy_cu y.toInt h Y + (y.toInt - h Y) := rfl
      rw [vi_add (by omega) (by omega), s1, s2, hs]
    have I := ih (Y + 1) _ (by omega) e
    obtain ⟨s', es⟩ : ∃ s', s + (y - ji_gI N 51 Y) = s' := ⟨_, rfl⟩
    rw [es] at I e
    by_cases q2 : s' < 0
    · have t : ji_b (∀ Z, Z ≤ n → Y < Z → 0 ≤ jy_cu y.toInt h Z) = 0 := ji_b_F (fun z => by
        have := z (Y + 1) (by omega) (by omega)
        rw [vi_lt] at q2
        omega)
      rw [t]
      simp only [s220_0, s220_1, s220_2, s220_3, s220_4, s220_7, s220_8, s220_11, s220_12, q220_13, q220_14, s220_17, s220_20, s220_21, s220_22, s220_23, s220_24, s220_27, s220_30, s220_31, s220_34, q220_35, s220_36, s220_37, s220_40, s220_41, s220_44, s220_45, s220_48, q220_49, s220_50, q220_51, s220_52, s220_53, s220_56, q220_57, s220_58, q220_59, q220_60, s220_63, s220_66, s220_67, s220_68, s220_69, s220_71, s220_73, s220_74, s220_77, s220_78, s220_79, s220_80, s220_83, q220_85, s220_86, s220_87, s220_88, s220_89, s220_90, s220_93, s220_94, q220_95, s220_101, s220_102, xIL_1, xIS_1, xQL_2, xQL_3, xAN_1, xAN_2, xAN_3, xCP_1, xC_s, xNC_I, ji_oI1, ji_oIm, kd_sC, gR_sC, gL_sC, ji_rv_s, ji_tl_s, ji_tl_n, ji_s1, ji_s2, ji_kl, List.getD_cons_zero, List.getD_cons_succ, List.set_cons_zero, List.set_cons_succ, List.length_cons, List.length_nil, ji_b_0, ji_b_1, ji_n0, ji_n1, ji_rcb_iff, ji_ok8_0, ji_ok8_1, ji_ok8_2, ji_ok8_3, ji_ok8_4, kd_sI, kd_sL, kd_sR, kd_cp, gR_sI, gR_sL, gR_cp, gL_sI, gL_sR, gL_cp, gI_sL, gI_sR, gI_sI, gL_sL, Nat.reduceEqDiff, false_and, and_false, true_and, and_true, Nat.reduceAdd, Nat.reduceLT, Nat.reduceSub, Int32.reduceLT, Int32.reduceAdd, not_false_eq_true, not_true_eq_false, and_self, ji_b_n, if_true, if_false, ↓reduceIte, cz_m100, cz_m19, cz_m18, cz_m17, cz_m16, cz_m15, cz_m14, cz_m13, cz_m12, cz_m11, cz_m4, cz_m3, cz_m2, cz_m1, cz_1, cz_2, cz_3, cz_4, cz_5, cz_6, cz_7, cz_8, cz_9, cz_10, cz_11, cz_12, cz_13, cz_14, cz_15, cz_16, cz_20, cz_24, cz_30, cz_32, cz_33, cz_38, cz_40, cz_41, cz_42, cz_43, cz_45, cz_48, cz_57, cz_59, cz_60, cz_61, cz_63, cz_64, cz_72, cz_96, cz_97, cz_99, cz_100, cz_122, cz_124, cz_126, cz_160, cz_161, cz_168, cz_200, cz_255, cz_300, cz_960, cz_999, cz_1000, cz_1001, cz_1002, cz_1003, cz_1120, cz_2000, cz_2003, cz_2004, cz_2005, cz_3999, cz_9999, cz_14640, mk_0 hN, mr_76 hN, mk_51 hN, g, i2, i3, p1, p2, q2, es]
    · have t : ji_b (∀ Z, Z ≤ n → Y < Z → 0 ≤ jy_cu y.toInt h Z) = ji_b (∀ Z, Z ≤ n → Y + 1 < Z → 0 ≤ jy_cu y.toInt h Z) := by
        congr 1
        refine propext ⟨fun z Z h1 h2 => z Z h1 (by omega), fun z Z h1 h2 => ?_⟩
        by_cases h4 : Z = Y + 1
        · rw [h4]
          rw [vi_lt] at q2
          omega
        · exact z Z h1 (by omega)
      rw [t]
      simp only [s220_0, s220_1, s220_2, s220_3, s220_4, s220_7, s220_8, s220_11, s220_12, q220_13, q220_14, s220_17, s220_20, s220_21, s220_22, s220_23, s220_24, s220_27, s220_30, s220_31, s220_34, q220_35, s220_36, s220_37, s220_40, s220_41, s220_44, s220_45, s220_48, q220_49, s220_50, q220_51, s220_52, s220_53, s220_56, q220_57, s220_58, q220_59, q220_60, s220_63, s220_66, s220_67, s220_68, s220_69, s220_71, s220_73, s220_74, s220_77, s220_78, s220_79, s220_80, s220_83, q220_85, s220_86, s220_87, s220_88, s220_89, s220_90, s220_93, s220_94, q220_95, s220_101, s220_102, xIL_1, xIS_1, xQL_2, xQL_3, xAN_1, xAN_2, xAN_3, xCP_1, xC_s, xNC_I, ji_oI1, ji_oIm, kd_sC, gR_sC, gL_sC, ji_rv_s, ji_tl_s, ji_tl_n, ji_s1, ji_s2, ji_kl, List.getD_cons_zero, List.getD_cons_succ, List.set_cons_zero, List.set_cons_succ, List.length_cons, List.length_nil, ji_b_0, ji_b_1, ji_n0, ji_n1, ji_rcb_iff, ji_ok8_0, ji_ok8_1, ji_ok8_2, ji_ok8_3, ji_ok8_4, kd_sI, kd_sL, kd_sR, kd_cp, gR_sI, gR_sL, gR_cp, gL_sI, gL_sR, gL_cp, gI_sL, gI_sR, gI_sI, gL_sL, Nat.reduceEqDiff, false_and, and_false, true_and, and_true, Nat.reduceAdd, Nat.reduceLT, Nat.reduceSub, Int32.reduceLT, Int32.reduceAdd, not_false_eq_true, not_true_eq_false, and_self, ji_b_n, if_true, if_false, ↓reduceIte, cz_m100, cz_m19, cz_m18, cz_m17, cz_m16, cz_m15, cz_m14, cz_m13, cz_m12, cz_m11, cz_m4, cz_m3, cz_m2, cz_m1, cz_1, cz_2, cz_3, cz_4, cz_5, cz_6, cz_7, cz_8, cz_9, cz_10, cz_11, cz_12, cz_13, cz_14, cz_15, cz_16, cz_20, cz_24, cz_30, cz_32, cz_33, cz_38, cz_40, cz_41, cz_42, cz_43, cz_45, cz_48, cz_57, cz_59, cz_60, cz_61, cz_63, cz_64, cz_72, cz_96, cz_97, cz_99, cz_100, cz_122, cz_124, cz_126, cz_160, cz_161, cz_168, cz_200, cz_255, cz_300, cz_960, cz_999, cz_1000, cz_1001, cz_1002, cz_1003, cz_1120, cz_2000, cz_2003, cz_2004, cz_2005, cz_3999, cz_9999, cz_14640, mk_0 hN, mr_76 hN, mk_51 hN, g, i2, i3, p1, p2, q2, es]
      simp only [s220_98]
      exact I
theorem m220 (R : ji_Rel P M N0) (oN : ji_offN N0 N) (hn : n ≤ 4) (hc : 0 ≤ y.toInt ∧ y.toInt ≤ 9999) (e49 : jy_E jy_qm (n + 1) (ji_gI N 49) (jy_K N0) v) : ∃ N', jy_nN N N' ∧ ∀ d, ji_CL (d + 1) 220 [.ref 0, .int (Int32.ofNat n), .int y] N = some (some (.int (ji_b (jy_ok n y.toInt (jy_si n (jy_p N0) (jy_K N0) v)))), N') := by
  have Kb := jy_Kb R
  have hN := ji_offN_MF oN R.mf
  have fb := jy_E_b _ _ e49
  obtain ⟨N1, n1, z1, E1⟩ := m220A (y := y) hn n 0 N (by omega) hN (fun l hl => absurd hl (by omega))
  obtain ⟨N2, n2, z2, E2⟩ := m220B (y := y) R hn fb (jy_K N0) 0 N1 (by omega) (ji_offN_t oN n1.1) n1.2.1 (fun l hl => by rw [z1 l hl]; rfl)
  have hN2 := ji_offN_MF (ji_offN_t (ji_offN_t oN n1.1) n2.1) R.mf
  have sb := fun y => jy_si_b (n := n) (jy_pc R) (jy_K N0) v y (by omega)
  refine ⟨N2, jy_nN_t n1 n2, fun d => ?_⟩
  have E3 := m220C (d := d) (y := y) hN2 hn (h := jy_si n (jy_p N0) (jy_K N0) v) (fun y => ⟨(sb y).1, by have := (sb y).2; omega⟩) hc (fun l hl => by rw [z2 l hl, jy_E_fi _ _ _ e49]) n 0 0 (by omega) rfl
  have t : ji_b (∀ Z, Z ≤ n → 0 < Z → 0 ≤ jy_cu y.toInt (jy_si n (jy_p N0) (jy_K N0) v) Z) = ji_b (jy_ok n y.toInt (jy_si n (jy_p N0) (jy_K N0) v)) := by
    congr 1
    refine propext ⟨fun z Z h1 => ?_, fun z Z h1 _ => z Z h1⟩
    by_cases h : Z = 0
    · subst h; exact Int.le_refl _
    · exact z Z h1 (by omega)
  rw [t] at E3
  have E3 : ji_Ev (ji_CL d) 220 71 N2 [some (.ref 0), some (.int (Int32.ofNat n)), some (.int y), some (.int 0), some (.int 0)] [] _ := E3
  have E2 := E2 d _ (by
    simp only [s220_66, s220_67, s220_68, s220_69, xIL_1, xIS_1, xQL_2, xQL_3, xAN_1, xAN_2, xAN_3, xCP_1, xC_s, xNC_I, ji_oI1, ji_oIm, kd_sC, gR_sC, gL_sC, ji_rv_s, ji_tl_s, ji_tl_n, ji_s1, ji_s2, ji_kl, List.getD_cons_zero, List.getD_cons_succ, List.set_cons_zero, List.set_cons_succ, List.length_cons, List.length_nil, ji_b_0, ji_b_1, ji_n0, ji_n1, ji_rcb_iff, ji_ok8_0, ji_ok8_1, ji_ok8_2, ji_ok8_3, ji_ok8_4, kd_sI, kd_sL, kd_sR, kd_cp, gR_sI, gR_sL, gR_cp, gL_sI, gL_sR, gL_cp, gI_sL, gI_sR, gI_sI, gL_sL, Nat.reduceEqDiff, false_and, and_false, true_and, and_true, Nat.reduceAdd, Nat.reduceLT, Nat.reduceSub, Int32.reduceLT, Int32.reduceAdd, not_false_eq_true, not_true_eq_false, and_self, ji_b_n, if_true, if_false, ↓reduceIte, cz_m100, cz_m19, cz_m18, cz_m17, cz_m16, cz_m15, cz_m14, cz_m13, cz_m12, cz_m11, cz_m4, cz_m3, cz_m2, cz_m1, cz_1, cz_2, cz_3, cz_4, cz_5, cz_6, cz_7, cz_8, cz_9, cz_10, cz_11, cz_12, cz_13, cz_14, cz_15, cz_16, cz_20, cz_24, cz_30, cz_32, cz_33, cz_38, cz_40, cz_41, cz_42, cz_43, cz_45, cz_48, cz_57, cz_59, cz_60, cz_61, cz_63, cz_64, cz_72, cz_96, cz_97, cz_99, cz_100, cz_122, cz_124, cz_126, cz_160, cz_161, cz_168, cz_200, cz_255, cz_300, cz_960, cz_999, cz_1000, cz_1001, cz_1002, cz_1003, cz_1120, cz_2000, cz_2003, cz_2004, cz_2005, cz_3999, cz_9999, cz_14640]
    exact E3)
  have E2 : ji_Ev (ji_CL d) 220 22 N1 [some (.ref 0), some (.int (Int32.ofNat n)), some (.int y), some (.int 0), none] [] _ := E2
  have E1 := E1 d _ (by
    simp only [s220_20, s220_21, xIL_1, xIS_1, xQL_2, xQL_3, xAN_1, xAN_2, xAN_3, xCP_1, xC_s, xNC_I, ji_oI1, ji_oIm, kd_sC, gR_sC, gL_sC, ji_rv_s, ji_tl_s, ji_tl_n, ji_s1, ji_s2, ji_kl, List.getD_cons_zero, List.getD_cons_succ, List.set_cons_zero, List.set_cons_succ, List.length_cons, List.length_nil, ji_b_0, ji_b_1, ji_n0, ji_n1, ji_rcb_iff, ji_ok8_0, ji_ok8_1, ji_ok8_2, ji_ok8_3, ji_ok8_4, kd_sI, kd_sL, kd_sR, kd_cp, gR_sI, gR_sL, gR_cp, gL_sI, gL_sR, gL_cp, gI_sL, gI_sR, gI_sI, gL_sL, Nat.reduceEqDiff, false_and, and_false, true_and, and_true, Nat.reduceAdd, Nat.reduceLT, Nat.reduceSub, Int32.reduceLT, Int32.reduceAdd, not_false_eq_true, not_true_eq_false, and_self, ji_b_n, if_true, if_false, ↓reduceIte, cz_m100, cz_m19, cz_m18, cz_m17, cz_m16, cz_m15, cz_m14, cz_m13, cz_m12, cz_m11, cz_m4, cz_m3, cz_m2, cz_m1, cz_1, cz_2, cz_3, cz_4, cz_5, cz_6, cz_7, cz_8, cz_9, cz_10, cz_11, cz_12, cz_13, cz_14, cz_15, cz_16, cz_20, cz_24, cz_30, cz_32, cz_33, cz_38, cz_40, cz_41, cz_42, cz_43, cz_45, cz_48, cz_57, cz_59, cz_60, cz_61, cz_63, cz_64, cz_72, cz_96, cz_97, cz_99, cz_100, cz_122, cz_124, cz_126, cz_160, cz_161, cz_168, cz_200, cz_255, cz_300, cz_960, cz_999, cz_1000, cz_1001, cz_1002, cz_1003, cz_1120, cz_2000, cz_2003, cz_2004, cz_2005, cz_3999, cz_9999, cz_14640]
    exact E2)
  have E1 : ji_Ev (ji_CL d) 220 2 N [some (.ref 0), some (.int (Int32.ofNat n)), some (.int y), some (.int 0), none] [] _ := E1
  apply en_220
  simp only [s220_0, s220_1, xIL_1, xIS_1, xQL_2, xQL_3, xAN_1, xAN_2, xAN_3, xCP_1, xC_s, xNC_I, ji_oI1, ji_oIm, kd_sC, gR_sC, gL_sC, ji_rv_s, ji_tl_s, ji_tl_n, ji_s1, ji_s2, ji_kl, List.getD_cons_zero, List.getD_cons_succ, List.set_cons_zero, List.set_cons_succ, List.length_cons, List.length_nil, ji_b_0, ji_b_1, ji_n0, ji_n1, ji_rcb_iff, ji_ok8_0, ji_ok8_1, ji_ok8_2, ji_ok8_3, ji_ok8_4, kd_sI, kd_sL, kd_sR, kd_cp, gR_sI, gR_sL, gR_cp, gL_sI, gL_sR, gL_cp, gI_sL, gI_sR, gI_sI, gL_sL, Nat.reduceEqDiff, false_and, and_false, true_and, and_true, Nat.reduceAdd, Nat.reduceLT, Nat.reduceSub, Int32.reduceLT, Int32.reduceAdd, not_false_eq_true, not_true_eq_false, and_self, ji_b_n, if_true, if_false, ↓reduceIte, cz_m100, cz_m19, cz_m18, cz_m17, cz_m16, cz_m15, cz_m14, cz_m13, cz_m12, cz_m11, cz_m4, cz_m3, cz_m2, cz_m1, cz_1, cz_2, cz_3, cz_4, cz_5, cz_6, cz_7, cz_8, cz_9, cz_10, cz_11, cz_12, cz_13, cz_14, cz_15, cz_16, cz_20, cz_24, cz_30, cz_32, cz_33, cz_38, cz_40, cz_41, cz_42, cz_43, cz_45, cz_48, cz_57, cz_59, cz_60, cz_61, cz_63, cz_64, cz_72, cz_96, cz_97, cz_99, cz_100, cz_122, cz_124, cz_126, cz_160, cz_161, cz_168, cz_200, cz_255, cz_300, cz_960, cz_999, cz_1000, cz_1001, cz_1002, cz_1003, cz_1120, cz_2000, cz_2003, cz_2004, cz_2005, cz_3999, cz_9999, cz_14640]
  exact E1
end JIV
