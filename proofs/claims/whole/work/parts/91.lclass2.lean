/-! ===== lots: the class takes turns ===== -/
section JIV
variable {X X' X'' Y N N' M M' : ji_M} {P : ji_P} {x y z : Int32} {f g : ji_F} {Lm : List Nat} {d a b r c m s p n i j k v u ρ : Nat} {o : Option Value × ji_M} {σ : List Int32 × List Int32 × List Int32} {q : Option (Int64 × Nat)}
/-- what holds of the books that are told -/
def jz_G (Lm : List Nat) (n : Nat) (N : ji_M) : Prop := Lm.Pairwise (· < ·) ∧ (∀ b ∈ Lm, (b : Int) < (ji_gI N 0 4).toInt) ∧ Lm.length ≤ 5 ∧ n ≤ 24 ∧ (0 ≤ (ji_gI N 0 0).toInt ∧ (ji_gI N 0 0).toInt + (Lm.length * n : Nat) ≤ 999) ∧ ji_bt (ji_gI N 0 4) 0 24
def jz_H (P : ji_P) (Lm : List Nat) (n : Nat) (N : ji_M) (σ : List Int32 × List Int32 × List Int32) (ρ k j v : Nat) : Prop := ∀ (q : Option (Int64 × Nat)) (X : ji_M) (x : Int32), jz_IX P Lm n N X j v q → jx_C X (jz_al Lm n N j v) (30 + 3 * j) (31 + 3 * j) (32 + 3 * j) ρ σ → jz_M x (jz_rl Lm j v) → ∃ X', (∀ d, ji_CL (d + k + 6) 106 [.ref 26, .int (Int32.ofNat j), .int x] X = some (none, X')) ∧ jz_IX P Lm n N X' j v (jy_run (jz_st Lm n N σ) (v * jz_fa k) (jz_fa k) q) ∧ jz_F j X X'
theorem jz_lv_lt (C : jx_C X (jz_al Lm n N Lm.length v) s r c ρ σ) : 0 ≤ (jz_lv Lm n N σ v).toInt ∧ (jz_lv Lm n N σ v).toInt ≤ 1000000000000 := by
  obtain ⟨S, h1, h2, h3, h4, h5, h6⟩ := C.2.2.1
  rw [jz_al_f (by decide)] at h5 h6
  have hb := h5.1
  have hb2 := h5.2
  have B := jz_la_b (M := jz_al Lm n N Lm.length v) (σ := σ) (ji_gI N 0 4).toInt.toNat (by omega) (fun i hi => (h6 i (by omega)).2.2.2.2.2.2.1.2)
  unfold jz_lv
  omega
theorem m106z (G : jz_G Lm n N) : jz_H P Lm n N σ ρ 0 Lm.length v := by
  intro q X x I C hm
  have hL := G.2.2.1
  have hX := C.1
  have e : jz_rl Lm Lm.length v = [] := List.eq_nil_of_length_eq_zero (by rw [jz_rl_len _ _ (Nat.le_refl _)]; omega)
  rw [e] at hm
  have hx := jz_M_0 hm
  subst hx
  obtain ⟨R, g4, g5, gb, go⟩ := I
  obtain ⟨X1, N1, w, ⟨f, t, hx⟩, o1, ew, A, -⟩ := m89 C
  rw [jz_al_f (by decide)] at ew
  have ew : w = jz_lv Lm n N σ v := ew
  subst ew
  have F1 : jz_F 5 X X1 ∧ (∀ a, a ≠ 4 → a ≠ 22 → ji_gI X1 a = ji_gI X a) ∧ (∀ a i, ji_gR X1 a i = ji_gR X a i) ∧ ∀ a i, ji_gL X1 a i = ji_gL X a i := by
    rcases hx with hx | hx
    · rw [hx]; exact ⟨jz_F_r, fun _ _ _ => rfl, fun _ _ => rfl, fun _ _ => rfl⟩
    · rw [hx]; exact ⟨⟨xs_off, fun a h1 h2 => xs_a (by omega) (by omega)⟩, fun a h1 h2 => xs_a h1 h2, fun _ _ => rfl, fun _ _ => rfl⟩
  have I1 : jz_IX P Lm n N X1 Lm.length v q := by
    refine ⟨ji_Rel_offX R F1.1.1, by rw [F1.2.2.1]; exact g4, by rw [F1.2.1 26 (by decide) (by decide)]; exact g5, ?_, by rw [F1.2.1 28 (by decide) (by decide)]; exact go⟩
    unfold jz_bx at gb ⊢
    rw [F1.2.2.2, F1.2.1 29 (by decide) (by decide)]
    exact gb
  have lb := jz_lv_lt C
  obtain ⟨X2, B, I2, F2⟩ := m107 (σ := σ) I1 hL (by rw [wl_lt]; have : (9223372036854775807 : Int64).toInt = 9223372036854775807 := rfl; omega)
  refine ⟨X2, fun d => ?_, ?_, ?_⟩
  · obtain ⟨i1, i2, i3⟩ := jy_ix (Y := Lm.length) (m := 6) (by omega) (by omega)
    obtain ⟨T, t27⟩ := jz_bs hX hL
    have A := A (d + 1)
    have A : ji_CL (d + 5) 89 _ X = _ := A
    have B := B (d + 4)
    have B : ji_CL (d + 5) 107 _ X1 = _ := B
    have hX1 := I1.1.xf
    apply en_106
    simp only [s106_0, s106_1, s106_4, s106_5, s106_6, s106_9, s106_10, s106_11, s106_14, s106_15, s106_18, q106_19, q106_20, q106_23, s106_26, s106_27, s106_28, s106_31, q106_32, s106_33, s106_34, s106_35, s106_38, s106_39, s106_40, q106_41, s106_42, s106_44, s106_45, s106_47, s106_49, s106_50, q106_53, s106_56, s106_59, s106_60, s106_62, s106_63, s106_64, s106_65, s106_66, s106_69, s106_71, q106_72, s106_75, s106_77, q106_79, s106_82, s106_84, s106_85, q106_88, s106_91, s106_92, s106_95, s106_96, q106_98, s106_99, s106_100, s106_101, s106_102, s106_103, s106_104, s106_105, s106_107, s106_108, s106_109, s106_110, q106_111, q106_114, s106_117, s106_120, xIL_1, xIS_1, xQL_2, xQL_3, xAN_1, xAN_2, xAN_3, xCP_1, xC_s, xNC_I, ji_oI1, ji_oIm, kd_sC, gR_sC, gL_sC, ji_rv_s, ji_tl_s, ji_tl_n, ji_s1, ji_s2, ji_kl, List.getD_cons_zero, List.getD_cons_succ, List.set_cons_zero, List.set_cons_succ, List.length_cons, List.length_nil, ji_b_0, ji_b_1, ji_n0, ji_n1, ji_rcb_iff, ji_ok8_0, ji_ok8_1, ji_ok8_2, ji_ok8_3, ji_ok8_4, kd_sI, kd_sL, kd_sR, kd_cp, gR_sI, gR_sL, gR_cp, gL_sI, gL_sR, gL_cp, gI_sL, gI_sR, gI_sI, gL_sL, Nat.reduceEqDiff, false_and, and_false, true_and, and_true, Nat.reduceAdd, Nat.reduceLT, Nat.reduceSub, Int32.reduceLT, Int32.reduceAdd, not_false_eq_true, not_true_eq_false, and_self, ji_b_n, if_true, if_false, ↓reduceIte, cz_m100, cz_m19, cz_m18, cz_m17, cz_m16, cz_m15, cz_m14, cz_m13, cz_m12, cz_m11, cz_m4, cz_m3, cz_m2, cz_m1, cz_1, cz_2, cz_3, cz_4, cz_5, cz_6, cz_7, cz_8, cz_9, cz_10, cz_11, cz_12, cz_13, cz_14, cz_15, cz_16, cz_20, cz_24, cz_30, cz_32, cz_33, cz_38, cz_40, cz_41, cz_42, cz_43, cz_45, cz_48, cz_57, cz_59, cz_60, cz_61, cz_63, cz_64, cz_72, cz_96, cz_97, cz_99, cz_100, cz_122, cz_124, cz_126, cz_160, cz_161, cz_168, cz_200, cz_255, cz_300, cz_960, cz_999, cz_1000, cz_1001, cz_1002, cz_1003, cz_1120, cz_2000, cz_2003, cz_2004, cz_2005, cz_3999, cz_9999, cz_14640, xk_26 hX, xk_26 hX1, g4, xk_4 hX, xr_26_0 hX, xk_27 hX, i2, i3, t27, A, B]
  · show jz_IX P Lm n N X2 Lm.length v (jy_run (jz_st Lm n N σ) (v * 1) 1 q)
    rw [Nat.mul_one]
    exact I2
  · exact ⟨(jz_F_t F1.1 F2).1, fun a h1 h2 => (jz_F_t F1.1 F2).2 a h1 (by omega)⟩
/-- the ints of a stock alone have changed -/
theorem jz_F_st (hj : j + 1 ≤ 5) (h1 : X'.1 = X.1) (hR : ∀ a i, ji_gR X' a i = ji_gR X a i) (h : ∀ a, a ≠ 30 + 3 * (j + 1) → a ≠ 31 + 3 * (j + 1) → a ≠ 32 + 3 * (j + 1) → ji_gI X' a = ji_gI X a) (h3 : ∀ i, i ≠ 3 → ji_gI X' (31 + 3 * (j + 1)) i = ji_gI X (31 + 3 * (j + 1)) i) : jz_F j X X' := by
  obtain ⟨x1, x2, x3⟩ := jz_xs (j := j + 1) hj
  refine ⟨jz_offX h1 hR (fun a b hab => ?_), fun a ha hb => h a (by omega) (by omega) (by omega)⟩
  by_cases e1 : a = 30 + 3 * (j + 1)
  · subst e1; rw [x1] at hab; cases hab
  by_cases e3 : a = 32 + 3 * (j + 1)
  · subst e3; rw [x3] at hab; cases hab
  by_cases e2 : a = 31 + 3 * (j + 1)
  · subst e2
    exact h3 b (fun z => by rw [z, x2] at hab; cases hab)
  · rw [h a e1 e2 e3]
theorem m106L (G : jz_G Lm n N) (hk : j + (k + 1) = Lm.length) (hm : jz_M x (jz_rl Lm j v)) (IH : ∀ u, u < Lm.length - j → jz_H P Lm n N σ ρ k (j + 1) (v * (Lm.length - j) + u)) : ∀ (m p u : Nat) (q : Option (Int64 × Nat)) (X : ji_M), p + m = (ji_gI N 0 4).toInt.toNat → jz_cut (jz_rl Lm j v) p u → jz_IX P Lm n N X j v q → jx_C X (jz_al Lm n N j v) (30 + 3 * j) (31 + 3 * j) (32 + 3 * j) ρ σ → ∃ X', jz_IX P Lm n N X' j v (jy_run (fun q u => jy_run (jz_st Lm n N σ) ((v * (Lm.length - j) + u) * jz_fa k) (jz_fa k) q) u (Lm.length - j - u) q) ∧ jz_F j X X' ∧ ∀ d o, ji_Ev (ji_CL (d + k + 6)) 106 120 X' [some (.ref 26), some (.int (Int32.ofNat j)), some (.int x), some (.ref (30 + 3 * j)), some (.ref (30 + 3 * (j + 1))), some (.int (Int32.ofNat (ji_gI N 0 4).toInt.toNat))] [] o → ji_Ev (ji_CL (d + k + 6)) 106 47 X [some (.ref 26), some (.int (Int32.ofNat j)), some (.int x), some (.ref (30 + 3 * j)), some (.ref (30 + 3 * (j + 1))), some (.int (Int32.ofNat p))] [] o := by
  obtain ⟨G1, G2, G3, G4, G5, G6⟩ := G
  have G61 := G6.1
  have G62 := G6.2
  have rlen := jz_rl_len (Lm := Lm) j v (by omega)
  have rsub := jz_rl_sub (Lm := Lm) j v
  have rsrt : (jz_rl Lm j v).Pairwise (· < ·) := G1.sublist rsub
  have rbk : ∀ b ∈ jz_rl Lm j v, (b : Int) < (ji_gI N 0 4).toInt := fun b hb => G2 b (rsub.subset hb)
  intro m
  induction m with
  | zero =>
    intro p u q X hp cut I C
    have hX := C.1
    obtain ⟨T, -⟩ := jz_bs hX (j := j) (by omega)
    have eu : u = Lm.length - j := by
      by_cases h : u < (jz_rl Lm j v).length
      · have h1 := fun z => (cut.2 u h).mpr z
        have h2 := rbk _ (List.getElem_mem h)
        rw [← jz_gD h] at h2
        have := h1 (by omega)
        omega
      · have := cut.1; omega
    have sz : ji_gI X (31 + 3 * j) 3 = ji_gI N 0 4 := by
      have := C.2.2.1.2.2.2.2.1
      rw [jz_al_f (by decide)] at this
      exact this
    have g : ¬ Int32.ofNat (ji_gI N 0 4).toInt.toNat < ji_gI N 0 4 := by rw [vi_lt, vi_nn (by omega)]; omega
    refine ⟨X, by rw [eu, Nat.sub_self]; exact I, jz_F_r, fun d o Gg => ?_⟩
    have ep : p = (ji_gI N 0 4).toInt.toNat := by omega
    rw [ep]
    have mk := m47 (d := d + k + 5) (M := X) (r := 31 + 3 * j) T.1.2.2.1
    rw [sz] at mk
    simp only [s106_0, s106_1, s106_4, s106_5, s106_6, s106_9, s106_10, s106_11, s106_14, s106_15, s106_18, q106_19, q106_20, q106_23, s106_26, s106_27, s106_28, s106_31, q106_32, s106_33, s106_34, s106_35, s106_38, s106_39, s106_40, q106_41, s106_42, s106_44, s106_45, s106_47, s106_49, s106_50, q106_53, s106_56, s106_59, s106_60, s106_62, s106_63, s106_64, s106_65, s106_66, s106_69, s106_71, q106_72, s106_75, s106_77, q106_79, s106_82, s106_84, s106_85, q106_88, s106_91, s106_92, s106_95, s106_96, q106_98, s106_99, s106_100, s106_101, s106_102, s106_103, s106_104, s106_105, s106_107, s106_108, s106_109, s106_110, q106_111, q106_114, xIL_1, xIS_1, xQL_2, xQL_3, xAN_1, xAN_2, xAN_3, xCP_1, xC_s, xNC_I, ji_oI1, ji_oIm, kd_sC, gR_sC, gL_sC, ji_rv_s, ji_tl_s, ji_tl_n, ji_s1, ji_s2, ji_kl, List.getD_cons_zero, List.getD_cons_succ, List.set_cons_zero, List.set_cons_succ, List.length_cons, List.length_nil, ji_b_0, ji_b_1, ji_n0, ji_n1, ji_rcb_iff, ji_ok8_0, ji_ok8_1, ji_ok8_2, ji_ok8_3, ji_ok8_4, kd_sI, kd_sL, kd_sR, kd_cp, gR_sI, gR_sL, gR_cp, gL_sI, gL_sR, gL_cp, gI_sL, gI_sR, gI_sI, gL_sL, Nat.reduceEqDiff, false_and, and_false, true_and, and_true, Nat.reduceAdd, Nat.reduceLT, Nat.reduceSub, Int32.reduceLT, Int32.reduceAdd, not_false_eq_true, not_true_eq_false, and_self, ji_b_n, if_true, if_false, ↓reduceIte, cz_m100, cz_m19, cz_m18, cz_m17, cz_m16, cz_m15, cz_m14, cz_m13, cz_m12, cz_m11, cz_m4, cz_m3, cz_m2, cz_m1, cz_1, cz_2, cz_3, cz_4, cz_5, cz_6, cz_7, cz_8, cz_9, cz_10, cz_11, cz_12, cz_13, cz_14, cz_15, cz_16, cz_20, cz_24, cz_30, cz_32, cz_33, cz_38, cz_40, cz_41, cz_42, cz_43, cz_45, cz_48, cz_57, cz_59, cz_60, cz_61, cz_63, cz_64, cz_72, cz_96, cz_97, cz_99, cz_100, cz_122, cz_124, cz_126, cz_160, cz_161, cz_168, cz_200, cz_255, cz_300, cz_960, cz_999, cz_1000, cz_1001, cz_1002, cz_1003, cz_1120, cz_2000, cz_2003, cz_2004, cz_2005, cz_3999, cz_9999, cz_14640, T.1.1, T.1.2.1, T.1.2.2.1, mk, g]
    exact Gg
  | succ m ih =>
    intro p u q X hp cut I C
    have hX := C.1
    have hj5 : j + 1 ≤ 5 := by omega
    obtain ⟨T, -⟩ := jz_bs hX (j := j) (by omega)
    obtain ⟨T1, -⟩ := jz_bs hX (j := j + 1) hj5
    have sz : ji_gI X (31 + 3 * j) 3 = ji_gI N 0 4 := by
      have := C.2.2.1.2.2.2.2.1
      rw [jz_al_f (by decide)] at this
      exact this
    have g : Int32.ofNat p < ji_gI N 0 4 := by rw [vi_lt, vi_nn (by omega)]; omega
    have p1 := jx_o1p (k := p) (by omega)
    have pj := jx_o1p (k := j) (by omega)
    have p2 : (Int32.ofInt 1) = 1 := rfl
    have mk := fun d => m47 (d := d + k + 5) (M := X) (r := 31 + 3 * j) T.1.2.2.1
    rw [sz] at mk
    have mk : ∀ d, ji_CL (d + k + 6) 47 [.ref (31 + 3 * j)] X = _ := mk
    have bt := jz_bit (x := x) (b := p) (by omega)
    have n01 : ¬ (0 : Int32) = 1 := by decide
    by_cases hin : p ∈ jz_rl Lm j v
    · obtain ⟨hu, eu, cut'⟩ := jz_cut_in rsrt cut hin
      rw [if_pos ((hm p (by omega)).mpr hin)] at bt
      have huK : u < Lm.length - j := by omega
      obtain ⟨R, g4, g5, gb, go⟩ := I
      -- the stock of this turn is the one ahead of it
      have so1 : (30 ≤ 30 + 3 * (j + 1) ∧ 30 ≤ 31 + 3 * (j + 1) ∧ 30 ≤ 32 + 3 * (j + 1)) ∧ ∀ e ∈ ji_XI, e.1 ≠ 30 + 3 * (j + 1) ∧ e.1 ≠ 32 + 3 * (j + 1) := ⟨by omega, jz_XIj hj5⟩
      obtain ⟨K1, C1⟩ := m104 (s' := 30 + 3 * (j + 1)) (r' := 31 + 3 * (j + 1)) (c' := 32 + 3 * (j + 1)) C T1 (by omega) so1 (by omega)
      obtain ⟨X1, eX1⟩ : ∃ X1, X1 = jz_cpy X (30 + 3 * j) (31 + 3 * j) (32 + 3 * j) (30 + 3 * (j + 1)) (31 + 3 * (j + 1)) (32 + 3 * (j + 1)) := ⟨_, rfl⟩
      have F1 : jz_F j X X1 ∧ ji_gI X1 26 = ji_gI X 26 ∧ ji_gI X1 28 = ji_gI X 28 ∧ ji_gI X1 29 = ji_gI X 29 ∧ (∀ a i, ji_gR X1 a i = ji_gR X a i) ∧ ∀ a i, ji_gL X1 a i = ji_gL X a i := by
        have o : ∀ a, a ≠ 30 + 3 * (j + 1) → a ≠ 31 + 3 * (j + 1) → a ≠ 32 + 3 * (j + 1) → ji_gI X1 a = ji_gI X a := fun a h1 h2 h3 => by rw [eX1, jz_cpy_o h1 h2 h3]
        have hR : ∀ a i, ji_gR X1 a i = ji_gR X a i := fun a i => by rw [eX1]; rfl
        exact ⟨jz_F_st hj5 (by rw [eX1]; rfl) hR o (fun i hi => by rw [eX1, jz_cpy_r (by omega) (by omega), if_neg hi]), o 26 (by omega) (by omega) (by omega), o 28 (by omega) (by omega) (by omega), o 29 (by omega) (by omega) (by omega), hR, fun a i => by rw [eX1]; rfl⟩
      rw [← eX1] at K1 C1
      -- the book is put to dry
      have hbM : (p : Int) < (ji_gI (jz_al Lm n N j v) 0 4).toInt := by rw [jz_al_f (by decide)]; omega
      obtain ⟨X2, K2, C2, o2, h2, hR2, hL2⟩ := m108 C1 (jz_soj hj5) hbM
      -- hours
      have hour := jz_al_0 (Lm := Lm) (n := n) (N := N) ⟨G5.1, by omega⟩ G4 j v (by omega)
      have jn : (j + 1) * n ≤ Lm.length * n := Nat.mul_le_mul_right n (by omega)
      have js : (j + 1) * n = j * n + n := Nat.succ_mul ..
      obtain ⟨X3, K3, C3, o3, h3, hR3, hL3⟩ := jz_m46 (n := n) C2 (jz_soj hj5) (by omega) (by rw [jz_dr_a (by decide) (by decide), hour]; omega)
      have eal : jz_al Lm n N (j + 1) (v * (Lm.length - j) + u) = jq_Nj (jz_dr (jz_al Lm n N j v) p) n := by rw [jz_al_s huK, eu]; rfl
      rw [← eal] at C3
      have F3 : jz_F j X X3 := by
        have F2 : jz_F j X1 X2 := jz_F_st hj5 h2 hR2 (fun a q1 _ q3 => o2 a q1 q3) (fun i _ => by rw [o2 _ (by omega) (by omega)])
        have F3 : jz_F j X2 X3 := jz_F_st hj5 h3 hR3 (fun a q1 _ q3 => o3 a q1 q3) (fun i _ => by rw [o3 _ (by omega) (by omega)])
        exact jz_F_t F1.1 (jz_F_t F2 F3)
      -- the order
      obtain ⟨X4, eX4⟩ : ∃ X4, X4 = ji_sI X3 28 j (Int32.ofNat p) := ⟨_, rfl⟩
      have F4 : jz_F 5 X3 X4 := by rw [eX4]; exact ⟨ji_offX_sI ji_offX_r rfl, fun a h1 _ => gF_sI (by omega)⟩
      have C4 : jx_C X4 (jz_al Lm n N (j + 1) (v * (Lm.length - j) + u)) (30 + 3 * (j + 1)) (31 + 3 * (j + 1)) (32 + 3 * (j + 1)) ρ σ := jz_C_fr hj5 C3 ⟨F4.1, fun a h1 h2 => F4.2 a h1 (by omega)⟩
      have F04 : jz_F j X X4 := jz_F_t F3 ⟨F4.1, fun a h1 h2 => F4.2 a h1 (by omega)⟩
      have w26 : ji_gI X4 26 = ji_gI X 26 := by rw [eX4, gF_sI (by decide), o3 26 (by omega) (by omega), o2 26 (by omega) (by omega), F1.2.1]
      have w29 : ji_gI X4 29 = ji_gI X 29 := by rw [eX4, gF_sI (by decide), o3 29 (by omega) (by omega), o2 29 (by omega) (by omega), F1.2.2.2.1]
      have w28 : ∀ l, l ≠ j → ji_gI X4 28 l = ji_gI X 28 l := fun l hl => by rw [eX4, gI_nk hl, o3 28 (by omega) (by omega), o2 28 (by omega) (by omega), F1.2.2.1]
      have wR : ∀ a i, ji_gR X4 a i = ji_gR X a i := fun a i => by rw [eX4, gR_sI, hR3, hR2, F1.2.2.2.2.1]
      have wL : ∀ a i, ji_gL X4 a i = ji_gL X a i := fun a i => by rw [eX4, gL_sI, hL3, hL2, F1.2.2.2.2.2]
      have I4 : jz_IX P Lm n N X4 (j + 1) (v * (Lm.length - j) + u) q := by
        refine ⟨ji_Rel_offX R F04.1, by rw [wR]; exact g4, by rw [w26]; exact g5, ?_, (jz_O_s huK).mpr ⟨jz_O_eq _ _ (fun l hl => (w28 l (by omega)).symm) go, ?_⟩⟩
        · unfold jz_bx at gb ⊢
          rw [wL, w29]
          exact gb
        · rw [eX4, gI_eq, eu]
      have hm' : jz_M (x &&& ((1 <<< (Int32.ofNat p &&& 31)) ^^^ -1)) (jz_rl Lm (j + 1) (v * (Lm.length - j) + u)) := by
        rw [jz_rl_s huK]
        exact jz_M_e hm rsrt hu (by omega) eu
      obtain ⟨X5, K5, I5, F5⟩ := IH u huK q X4 _ I4 C4 hm'
      have F05 := jz_F_t F04 (jz_F_m F5)
      have I5' : jz_IX P Lm n N X5 j v (jy_run (jz_st Lm n N σ) ((v * (Lm.length - j) + u) * jz_fa k) (jz_fa k) q) := ⟨I5.1, I5.2.1, I5.2.2.1, I5.2.2.2.1, ((jz_O_s huK).mp I5.2.2.2.2).1⟩
      have C5 := jz_C_fr (by omega) C F05
      obtain ⟨X', I', F', E'⟩ := ih (p + 1) (u + 1) _ X5 (by omega) cut' I5' C5
      refine ⟨X', ?_, jz_F_t F05 F', fun d o Gg => ?_⟩
      · rw [show Lm.length - j - u = (Lm.length - j - (u + 1)) + 1 by omega]
        exact I'
      · have E' := E' d o Gg
        have K1 := K1 (d + k + 4)
        have K1 : ji_CL (d + k + 6) 104 _ X = _ := K1
        have K2 := K2 (d + k + 2)
        have K2 : ji_CL (d + k + 6) 108 _ X1 = _ := K2
        have K3 := K3 (d + k + 1)
        have K3 : ji_CL (d + k + 6) 46 _ X2 = _ := K3
        have K5 := K5 d
        have hX1 := C1.1
        have hX2 := C2.1
        have hX3 := C3.1
        have k30 := T1.1.1
        have k30' : ji_kd X1 (30 + 3 * (j + 1)) = some (0, 5) := (jz_bs hX1 hj5).1.1.1
        have k30'' : ji_kd X2 (30 + 3 * (j + 1)) = some (0, 5) := (jz_bs hX2 hj5).1.1.1
        have n26 : ji_gI X2 26 5 = Int32.ofNat n := by rw [o2 26 (by omega) (by omega), F1.2.1]; exact g5
        obtain ⟨i1, i2, i3⟩ := jy_ix (Y := j) (m := 5) (by omega) (by omega)
        simp only [s106_0, s106_1, s106_4, s106_5, s106_6, s106_9, s106_10, s106_11, s106_14, s106_15, s106_18, q106_19, q106_20, q106_23, s106_26, s106_27, s106_28, s106_31, q106_32, s106_33, s106_34, s106_35, s106_38, s106_39, s106_40, q106_41, s106_42, s106_44, s106_45, s106_47, s106_49, s106_50, q106_53, s106_56, s106_59, s106_60, s106_62, s106_63, s106_64, s106_65, s106_66, s106_69, s106_71, q106_72, s106_75, s106_77, q106_79, s106_82, s106_84, s106_85, q106_88, s106_91, s106_92, s106_95, s106_96, q106_98, s106_99, s106_100, s106_101, s106_102, s106_103, s106_104, s106_105, s106_107, s106_108, s106_109, s106_110, q106_111, q106_114, xIL_1, xIS_1, xQL_2, xQL_3, xAN_1, xAN_2, xAN_3, xCP_1, xC_s, xNC_I, ji_oI1, ji_oIm, kd_sC, gR_sC, gL_sC, ji_rv_s, ji_tl_s, ji_tl_n, ji_s1, ji_s2, ji_kl, List.getD_cons_zero, List.getD_cons_succ, List.set_cons_zero, List.set_cons_succ, List.length_cons, List.length_nil, ji_b_0, ji_b_1, ji_n0, ji_n1, ji_rcb_iff, ji_ok8_0, ji_ok8_1, ji_ok8_2, ji_ok8_3, ji_ok8_4, kd_sI, kd_sL, kd_sR, kd_cp, gR_sI, gR_sL, gR_cp, gL_sI, gL_sR, gL_cp, gI_sL, gI_sR, gI_sI, gL_sL, Nat.reduceEqDiff, false_and, and_false, true_and, and_true, Nat.reduceAdd, Nat.reduceLT, Nat.reduceSub, Int32.reduceLT, Int32.reduceAdd, not_false_eq_true, not_true_eq_false, and_self, ji_b_n, if_true, if_false, ↓reduceIte, cz_m100, cz_m19, cz_m18, cz_m17, cz_m16, cz_m15, cz_m14, cz_m13, cz_m12, cz_m11, cz_m4, cz_m3, cz_m2, cz_m1, cz_1, cz_2, cz_3, cz_4, cz_5, cz_6, cz_7, cz_8, cz_9, cz_10, cz_11, cz_12, cz_13, cz_14, cz_15, cz_16, cz_20, cz_24, cz_30, cz_32, cz_33, cz_38, cz_40, cz_41, cz_42, cz_43, cz_45, cz_48, cz_57, cz_59, cz_60, cz_61, cz_63, cz_64, cz_72, cz_96, cz_97, cz_99, cz_100, cz_122, cz_124, cz_126, cz_160, cz_161, cz_168, cz_200, cz_255, cz_300, cz_960, cz_999, cz_1000, cz_1001, cz_1002, cz_1003, cz_1120, cz_2000, cz_2003, cz_2004, cz_2005, cz_3999, cz_9999, cz_14640, -gI_sI, T.1.1, T.1.2.1, T.1.2.2.1, mk, g, bt, k30, K1, k30', K2, k30'', K3, xk_26 hX2, n26, xk_26 hX3, xr_26_1 hX3, xk_28 hX3, i2, i3, ← eX4, pj, K5, p1, p2]
        simp only [s106_117]
        exact E'
    · rw [if_neg (fun z => hin ((hm p (by omega)).mp z))] at bt
      obtain ⟨X', I', F', E'⟩ := ih (p + 1) u q X (by omega) (jz_cut_out cut hin) I C
      refine ⟨X', I', F', fun d o Gg => ?_⟩
      have E' := E' d o Gg
      simp only [s106_0, s106_1, s106_4, s106_5, s106_6, s106_9, s106_10, s106_11, s106_14, s106_15, s106_18, q106_19, q106_20, q106_23, s106_26, s106_27, s106_28, s106_31, q106_32, s106_33, s106_34, s106_35, s106_38, s106_39, s106_40, q106_41, s106_42, s106_44, s106_45, s106_47, s106_49, s106_50, q106_53, s106_56, s106_59, s106_60, s106_62, s106_63, s106_64, s106_65, s106_66, s106_69, s106_71, q106_72, s106_75, s106_77, q106_79, s106_82, s106_84, s106_85, q106_88, s106_91, s106_92, s106_95, s106_96, q106_98, s106_99, s106_100, s106_101, s106_102, s106_103, s106_104, s106_105, s106_107, s106_108, s106_109, s106_110, q106_111, q106_114, xIL_1, xIS_1, xQL_2, xQL_3, xAN_1, xAN_2, xAN_3, xCP_1, xC_s, xNC_I, ji_oI1, ji_oIm, kd_sC, gR_sC, gL_sC, ji_rv_s, ji_tl_s, ji_tl_n, ji_s1, ji_s2, ji_kl, List.getD_cons_zero, List.getD_cons_succ, List.set_cons_zero, List.set_cons_succ, List.length_cons, List.length_nil, ji_b_0, ji_b_1, ji_n0, ji_n1, ji_rcb_iff, ji_ok8_0, ji_ok8_1, ji_ok8_2, ji_ok8_3, ji_ok8_4, kd_sI, kd_sL, kd_sR, kd_cp, gR_sI, gR_sL, gR_cp, gL_sI, gL_sR, gL_cp, gI_sL, gI_sR, gI_sI, gL_sL, Nat.reduceEqDiff, false_and, and_false, true_and, and_true, Nat.reduceAdd, Nat.reduceLT, Nat.reduceSub, Int32.reduceLT, Int32.reduceAdd, not_false_eq_true, not_true_eq_false, and_self, ji_b_n, if_true, if_false, ↓reduceIte, cz_m100, cz_m19, cz_m18, cz_m17, cz_m16, cz_m15, cz_m14, cz_m13, cz_m12, cz_m11, cz_m4, cz_m3, cz_m2, cz_m1, cz_1, cz_2, cz_3, cz_4, cz_5, cz_6, cz_7, cz_8, cz_9, cz_10, cz_11, cz_12, cz_13, cz_14, cz_15, cz_16, cz_20, cz_24, cz_30, cz_32, cz_33, cz_38, cz_40, cz_41, cz_42, cz_43, cz_45, cz_48, cz_57, cz_59, cz_60, cz_61, cz_63, cz_64, cz_72, cz_96, cz_97, cz_99, cz_100, cz_122, cz_124, cz_126, cz_160, cz_161, cz_168, cz_200, cz_255, cz_300, cz_960, cz_999, cz_1000, cz_1001, cz_1002, cz_1003, cz_1120, cz_2000, cz_2003, cz_2004, cz_2005, cz_3999, cz_9999, cz_14640, T.1.1, T.1.2.1, T.1.2.2.1, mk, g, bt, n01, p1, p2]
      simp only [s106_117]
      exact E'
theorem m106 (G : jz_G Lm n N) : ∀ (k j v : Nat), j + k = Lm.length → jz_H P Lm n N σ ρ k j v := by
  intro k
  induction k with
  | zero =>
    intro j v hj
    have e : j = Lm.length := by omega
    subst e
    exact m106z G
  | succ k ih =>
    intro j v hj q X x I C hm
    have G3 := G.2.2.1
    have hX := C.1
    have rlen := jz_rl_len (Lm := Lm) j v (by omega)
    have hne : ¬ x = 0 := jz_M_n hm (by
      have h0 : 0 < (jz_rl Lm j v).length := by omega
      refine ⟨(jz_rl Lm j v)[0], List.getElem_mem h0, ?_⟩
      have := G.2.1 _ ((jz_rl_sub (Lm := Lm) j v).subset (List.getElem_mem h0))
      have := G.2.2.2.2.2.2
      omega)
    have cut0 : jz_cut (jz_rl Lm j v) 0 0 := ⟨by omega, fun i hi => ⟨fun h => absurd h (by omega), fun h => absurd h (by omega)⟩⟩
    obtain ⟨X', I', F', E'⟩ := m106L G hj hm (fun u hu => ih (j + 1) _ (by omega)) (ji_gI N 0 4).toInt.toNat 0 0 q X (by omega) cut0 I C
    refine ⟨X', fun d => ?_, ?_, F'⟩
    · have E' := E' d (none, X') (by simp only [s106_120, xIL_1, xIS_1, xQL_2, xQL_3, xAN_1, xAN_2, xAN_3, xCP_1, xC_s, xNC_I, ji_oI1, ji_oIm, kd_sC, gR_sC, gL_sC, ji_rv_s, ji_tl_s, ji_tl_n, ji_s1, ji_s2, ji_kl, List.getD_cons_zero, List.getD_cons_succ, List.set_cons_zero, List.set_cons_succ, List.length_cons, List.length_nil, ji_b_0, ji_b_1, ji_n0, ji_n1, ji_rcb_iff, ji_ok8_0, ji_ok8_1, ji_ok8_2, ji_ok8_3, ji_ok8_4, kd_sI, kd_sL, kd_sR, kd_cp, gR_sI, gR_sL, gR_cp, gL_sI, gL_sR, gL_cp, gI_sL, gI_sR, gI_sI, gL_sL, Nat.reduceEqDiff, false_and, and_false, true_and, and_true, Nat.reduceAdd, Nat.reduceLT, Nat.reduceSub, Int32.reduceLT, Int32.reduceAdd, not_false_eq_true, not_true_eq_false, and_self, ji_b_n, if_true, if_false, ↓reduceIte, cz_m100, cz_m19, cz_m18, cz_m17, cz_m16, cz_m15, cz_m14, cz_m13, cz_m12, cz_m11, cz_m4, cz_m3, cz_m2, cz_m1, cz_1, cz_2, cz_3, cz_4, cz_5, cz_6, cz_7, cz_8, cz_9, cz_10, cz_11, cz_12, cz_13, cz_14, cz_15, cz_16, cz_20, cz_24, cz_30, cz_32, cz_33, cz_38, cz_40, cz_41, cz_42, cz_43, cz_45, cz_48, cz_57, cz_59, cz_60, cz_61, cz_63, cz_64, cz_72, cz_96, cz_97, cz_99, cz_100, cz_122, cz_124, cz_126, cz_160, cz_161, cz_168, cz_200, cz_255, cz_300, cz_960, cz_999, cz_1000, cz_1001, cz_1002, cz_1003, cz_1120, cz_2000, cz_2003, cz_2004, cz_2005, cz_3999, cz_9999, cz_14640])
      have E' : ji_Ev (ji_CL (d + k + 6)) 106 47 X [some (.ref 26), some (.int (Int32.ofNat j)), some (.int x), some (.ref (30 + 3 * j)), some (.ref (30 + 3 * (j + 1))), some (.int 0)] [] _ := E'
      obtain ⟨i1, i2, i3⟩ := jy_ix (Y := j) (m := 6) (by omega) (by omega)
      obtain ⟨j1, j2, j3⟩ := jy_ix (Y := j + 1) (m := 6) (by omega) (by omega)
      have t1 := (jz_bs hX (j := j) (by omega)).2
      have t2 := (jz_bs hX (j := j + 1) (by omega)).2
      have g5 : Int32.ofNat j < 5 := by rw [vi_lt, i1]; show (j : Int) < 5; omega
      have pj := jx_o1p (k := j) (by omega)
      apply en_106
      simp only [s106_0, s106_1, s106_4, s106_5, s106_6, s106_9, s106_10, s106_11, s106_14, s106_15, s106_18, q106_19, q106_20, q106_23, s106_26, s106_27, s106_28, s106_31, q106_32, s106_33, s106_34, s106_35, s106_38, s106_39, s106_40, q106_41, s106_42, s106_44, s106_45, s106_49, s106_50, q106_53, s106_56, s106_59, s106_60, s106_62, s106_63, s106_64, s106_65, s106_66, s106_69, s106_71, q106_72, s106_75, s106_77, q106_79, s106_82, s106_84, s106_85, q106_88, s106_91, s106_92, s106_95, s106_96, q106_98, s106_99, s106_100, s106_101, s106_102, s106_103, s106_104, s106_105, s106_107, s106_108, s106_109, s106_110, q106_111, q106_114, s106_117, s106_120, xIL_1, xIS_1, xQL_2, xQL_3, xAN_1, xAN_2, xAN_3, xCP_1, xC_s, xNC_I, ji_oI1, ji_oIm, kd_sC, gR_sC, gL_sC, ji_rv_s, ji_tl_s, ji_tl_n, ji_s1, ji_s2, ji_kl, List.getD_cons_zero, List.getD_cons_succ, List.set_cons_zero, List.set_cons_succ, List.length_cons, List.length_nil, ji_b_0, ji_b_1, ji_n0, ji_n1, ji_rcb_iff, ji_ok8_0, ji_ok8_1, ji_ok8_2, ji_ok8_3, ji_ok8_4, kd_sI, kd_sL, kd_sR, kd_cp, gR_sI, gR_sL, gR_cp, gL_sI, gL_sR, gL_cp, gI_sL, gI_sR, gI_sI, gL_sL, Nat.reduceEqDiff, false_and, and_false, true_and, and_true, Nat.reduceAdd, Nat.reduceLT, Nat.reduceSub, Int32.reduceLT, Int32.reduceAdd, not_false_eq_true, not_true_eq_false, and_self, ji_b_n, if_true, if_false, ↓reduceIte, cz_m100, cz_m19, cz_m18, cz_m17, cz_m16, cz_m15, cz_m14, cz_m13, cz_m12, cz_m11, cz_m4, cz_m3, cz_m2, cz_m1, cz_1, cz_2, cz_3, cz_4, cz_5, cz_6, cz_7, cz_8, cz_9, cz_10, cz_11, cz_12, cz_13, cz_14, cz_15, cz_16, cz_20, cz_24, cz_30, cz_32, cz_33, cz_38, cz_40, cz_41, cz_42, cz_43, cz_45, cz_48, cz_57, cz_59, cz_60, cz_61, cz_63, cz_64, cz_72, cz_96, cz_97, cz_99, cz_100, cz_122, cz_124, cz_126, cz_160, cz_161, cz_168, cz_200, cz_255, cz_300, cz_960, cz_999, cz_1000, cz_1001, cz_1002, cz_1003, cz_1120, cz_2000, cz_2003, cz_2004, cz_2005, cz_3999, cz_9999, cz_14640, hne, g5, xk_26 hX, xr_26_0 hX, xk_27 hX, i2, i3, t1, pj, j2, j3, t2]
      exact E'
    · have e : Lm.length - j = k + 1 := by omega
      rw [jz_tree]
      rw [e] at I'
      exact I'
end JIV
