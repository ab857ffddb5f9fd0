/-! ===== lost ===== -/
/-- a stock of the class, the model, and the rule both go by -/
def jx_C (X N : ji_M) (s r c ρ : Nat) (σ : List Int32 × List Int32 × List Int32) : Prop := ji_XF X ∧ ji_MF N ∧ jq_SR X N s r c ∧ ((s ≠ 4 ∧ s ≠ 22) ∧ (r ≠ 4 ∧ r ≠ 22) ∧ (c ≠ 4 ∧ c ≠ 22)) ∧ ρ ≤ 5 ∧ ji_gI X 4 7 = Int32.ofNat ρ ∧ ji_gI N 0 16 = Int32.ofNat ρ ∧ Int32.ofNat ρ < ji_gI X 4 6 ∧ jx_hl X ρ σ ∧ jx_hm N ρ σ
def jx_lo (v h : Int32) : Int64 := if v < 0 then 0 else v.toInt64 * h.toInt64 / 100
def jx_la (N : ji_M) (σ : List Int32 × List Int32 × List Int32) : Nat → Int64
  | 0 => 0
  | b + 1 => jx_la N σ b + jx_lo (jx_v (jx_fN N b) (jx_pt σ 2)) (ji_gI N 6 b)
section JIV
variable {X Y N N' M : ji_M} {P : ji_P} {x y z v k : Int32} {f g sf t : ji_F} {d a b r c m s p n i j sc ec q l en ρ : Nat} {o : Option Value × ji_M} {F : Int32 → Int32} {σ : List Int32 × List Int32 × List Int32}
theorem jx_C_R (R : ji_Rel jx_P X N) : ∃ ρ σ, jx_C X N 1 2 3 ρ σ := by
  obtain ⟨ρ, σ, h⟩ := jx_rule R
  exact ⟨ρ, σ, R.xf, R.mf, ⟨stk_1 R, R.hour, R.sets, R.coin, R.books⟩, by decide, h⟩
theorem jx_C_k (C : jx_C X N s r c ρ σ) (o : jx_oN N N') : jx_C (jx_XS X f n) N' s r c ρ σ := by
  obtain ⟨hX, hN, S, hh, h5, q1, q2, q3, q4, q5⟩ := C
  obtain ⟨h1, h2, h3⟩ := hh
  have hX' := ji_offX_XF (xs_off (X := X) (f := f) (n := n)) hX
  have e := o.2.1
  have fN := fun a hs => jx_oN_F (a := a) o hs
  have r' := fun _ : Nat => (rfl : false = false)
  have es := xs_a (X := X) (f := f) (n := n) h1.1 h1.2
  have er := xs_a (X := X) (f := f) (n := n) h2.1 h2.2
  have ec := xs_a (X := X) (f := f) (n := n) h3.1 h3.2
  have S1 := (xs_stk (f := f) (n := n) S.1 h1 h2 h3).1
  refine ⟨hX', jx_oN_MF o hN, ⟨S1, ?_⟩, ⟨h1, h2, h3⟩, h5, ?_, ?_, ?_, ?_, ?_⟩
  · have S2 := S.2
    rw [es, er, ec, e 0 0 rfl, e 0 1 rfl, e 0 2 rfl, e 0 3 rfl, e 0 4 rfl, o.2.2.1 0 5, fN 1 r', fN 2 r', fN 3 r', fN 4 r', fN 5 r', fN 6 r', fN 7 r', fN 8 r']
    exact S2
  · rw [xs_4 (by decide)]; exact q1
  · rw [e 0 16 rfl]; exact q2
  · rw [xs_4 (by decide)]; exact q3
  · obtain ⟨g1, g2, g3, g4, g5⟩ := q4
    refine ⟨g1, g2, g3, g4, ?_⟩
    rw [xs_a (by omega) (by omega), xs_a (by omega) (by omega)]
    exact g5
  · refine ⟨q5.1, fun h => ?_⟩
    rw [fN 11 r', fN 10 r']
    exact q5.2 h
theorem jx_fN_k (o : jx_oN N N') : jx_fN N' b = jx_fN N b := by
  have fN := fun a hs => jx_oN_F (a := a) o hs
  have r' := fun _ : Nat => (rfl : false = false)
  unfold jx_fN
  rw [fN 5 r', fN 2 r', fN 1 r', fN 4 r', fN 8 r', fN 3 r', o.2.1 0 0 rfl]
theorem jx_C_b (C : jx_C X N s r c ρ σ) (hb : (b : Int) < (ji_gI N 0 4).toInt) : b < 24 ∧ ji_at X r c 8 (Int32.ofNat b) 6 = ji_gI N 6 b ∧ jx_fx (ji_at X r c 8 (Int32.ofNat b) 5) (ji_at X r c 8 (Int32.ofNat b) 2) (ji_at X r c 8 (Int32.ofNat b) 1) (ji_at X r c 8 (Int32.ofNat b) 4) (ji_gI X s 1 - ji_at X r c 8 (Int32.ofNat b) 7) (ji_at X r c 8 (Int32.ofNat b) 3) = jx_fN N b ∧ ji_at X r c 8 (Int32.ofNat b) 0 = ji_gI N 7 b := by
  obtain ⟨hX, hN, ⟨S, hh, -, -, e1, e2, e3⟩, -⟩ := C
  have hb2 := e2.2
  have eb := vi_nn (n := b) (by omega)
  have hx : 0 ≤ (Int32.ofNat b).toInt ∧ (Int32.ofNat b).toInt < (ji_gI X r 3).toInt := by rw [e1]; omega
  have E := e3 b hb
  have et : (Int32.ofNat b).toInt.toNat = b := by rw [eb]; exact Int.toNat_natCast _
  have A := fun (y : Int32) (j : Nat) (h1 : y.toInt = (j : Int)) (h2 : j < 8) => ji_at_in (M := X) (r := r) (c := c) (w := 8) (x := Int32.ofNat b) (y := y) (j := j) hx h1 h2 (Nat.le_refl _)
  rw [et] at A
  refine ⟨by omega, (A 6 6 rfl (by decide)).trans E.2.2.2.2.2.2.1.1, ?_, (A 0 0 rfl (by decide)).trans E.1.1⟩
  unfold jx_fN
  rw [A 5 5 rfl (by decide), A 2 2 rfl (by decide), A 1 1 rfl (by decide), A 4 4 rfl (by decide), A 7 7 rfl (by decide), A 3 3 rfl (by decide), E.2.2.2.2.2.1.1, E.2.2.1.1, E.2.1.1, E.2.2.2.2.1.1, E.2.2.2.2.2.2.2.1, E.2.2.2.1.1, hh.1]
theorem jx_C_p (C : jx_C X N s r c ρ σ) (hb : (b : Int) < (ji_gI N 0 4).toInt) (hp : p ≤ 2) : ∃ f n N', jx_oN N N' ∧ (∀ d, ji_CL (d + 3) 74 [.ref 4, .ref s, .int (Int32.ofNat b), .int (Int32.ofNat p)] X = some (some (.int (jx_v (jx_fN N b) (jx_pt σ p))), jx_XS X f n)) ∧ ∀ d, ji_CL (d + 7) 171 [.ref 0, .int (ji_gI N 0 16), .int (Int32.ofNat b), .int (Int32.ofNat p)] N = some (some (.int (jx_v (jx_fN N b) (jx_pt σ p))), N') := by
  obtain ⟨b24, -, eF, -⟩ := jx_C_b C hb
  obtain ⟨hX, hN, S, ⟨h1, h2, h3⟩, h5, q1, q2, q3, q4, q5⟩ := C
  obtain ⟨f, n, A⟩ := m74 (x := Int32.ofNat b) (p := p) hX S.1 h1 h2 h3 h5 q1 q3 q4 hp
  obtain ⟨N', o1, B⟩ := m171 (b := b) hN h5 b24 q5 hp
  rw [eF] at A
  rw [← q2] at B
  exact ⟨f, n, N', o1, A, B⟩
theorem m90 : ji_CL (d + 1) 90 [.int v, .int x] M = some (some (.long (jx_lo v x)), M) := by
  apply en_90
  unfold jx_lo
  have n1 : ¬ (100 : Int64) = 0 := by decide
  by_cases h : v < 0
  · rw [if_pos h]
    by_cases g : 0 < v
    · exact absurd (Int32.lt_trans g h) Int32.lt_irrefl
    · have e : (0 : Int32).toInt64 * x.toInt64 / 100 = 0 := by
        rw [show (0 : Int32).toInt64 = 0 from rfl, Int64.zero_mul, Int64.zero_div]
      simp only [s90_0, s90_1, s90_2, s90_5, s90_6, s90_7, s90_8, s90_9, s90_12, s90_13, xIL_1, xIS_1, xQL_2, xQL_3, xAN_1, xAN_2, xAN_3, xCP_1, xC_s, xNC_I, ji_oI1, ji_oIm, kd_sC, gR_sC, gL_sC, ji_rv_s, ji_tl_s, ji_tl_n, ji_s1, ji_s2, ji_kl, List.getD_cons_zero, List.getD_cons_succ, List.set_cons_zero, List.set_cons_succ, List.length_cons, List.length_nil, ji_b_0, ji_b_1, ji_n0, ji_n1, ji_rcb_iff, ji_ok8_0, ji_ok8_1, ji_ok8_2, ji_ok8_3, ji_ok8_4, kd_sI, kd_sL, kd_sR, kd_cp, gR_sI, gR_sL, gR_cp, gL_sI, gL_sR, gL_cp, gI_sL, gI_sR, gI_sI, gL_sL, Nat.reduceEqDiff, false_and, and_false, true_and, and_true, Nat.reduceAdd, Nat.reduceLT, Nat.reduceSub, Int32.reduceLT, Int32.reduceAdd, not_false_eq_true, not_true_eq_false, and_self, ji_b_n, if_true, if_false, ↓reduceIte, cz_m100, cz_m19, cz_m18, cz_m17, cz_m16, cz_m15, cz_m14, cz_m13, cz_m12, cz_m11, cz_m4, cz_m3, cz_m2, cz_m1, cz_1, cz_2, cz_3, cz_4, cz_5, cz_6, cz_7, cz_8, cz_9, cz_10, cz_11, cz_12, cz_13, cz_14, cz_15, cz_16, cz_20, cz_24, cz_30, cz_32, cz_33, cz_38, cz_40, cz_41, cz_42, cz_43, cz_45, cz_48, cz_57, cz_59, cz_60, cz_61, cz_63, cz_64, cz_72, cz_96, cz_97, cz_99, cz_100, cz_122, cz_124, cz_126, cz_160, cz_161, cz_168, cz_200, cz_255, cz_300, cz_960, cz_999, cz_1000, cz_1001, cz_1002, cz_1003, cz_1120, cz_2000, cz_2003, cz_2004, cz_2005, cz_3999, cz_9999, cz_14640, g, n1, e]
  · rw [if_neg h]
    by_cases g : 0 < v
    · simp only [s90_0, s90_1, s90_2, s90_5, s90_6, s90_7, s90_8, s90_9, s90_12, s90_13, xIL_1, xIS_1, xQL_2, xQL_3, xAN_1, xAN_2, xAN_3, xCP_1, xC_s, xNC_I, ji_oI1, ji_oIm, kd_sC, gR_sC, gL_sC, ji_rv_s, ji_tl_s, ji_tl_n, ji_s1, ji_s2, ji_kl, List.getD_cons_zero, List.getD_cons_succ, List.set_cons_zero, List.set_cons_succ, List.length_cons, List.length_nil, ji_b_0, ji_b_1, ji_n0, ji_n1, ji_rcb_iff, ji_ok8_0, ji_ok8_1, ji_ok8_2, ji_ok8_3, ji_ok8_4, kd_sI, kd_sL, kd_sR, kd_cp, gR_sI, gR_sL, gR_cp, gL_sI, gL_sR, gL_cp, gI_sL, gI_sR, gI_sI, gL_sL, Nat.reduceEqDiff, false_and, and_false, true_and, and_true, Nat.reduceAdd, Nat.reduceLT, Nat.reduceSub, Int32.reduceLT, Int32.reduceAdd, not_false_eq_true, not_true_eq_false, and_self, ji_b_n, if_true, if_false, ↓reduceIte, cz_m100, cz_m19, cz_m18, cz_m17, cz_m16, cz_m15, cz_m14, cz_m13, cz_m12, cz_m11, cz_m4, cz_m3, cz_m2, cz_m1, cz_1, cz_2, cz_3, cz_4, cz_5, cz_6, cz_7, cz_8, cz_9, cz_10, cz_11, cz_12, cz_13, cz_14, cz_15, cz_16, cz_20, cz_24, cz_30, cz_32, cz_33, cz_38, cz_40, cz_41, cz_42, cz_43, cz_45, cz_48, cz_57, cz_59, cz_60, cz_61, cz_63, cz_64, cz_72, cz_96, cz_97, cz_99, cz_100, cz_122, cz_124, cz_126, cz_160, cz_161, cz_168, cz_200, cz_255, cz_300, cz_960, cz_999, cz_1000, cz_1001, cz_1002, cz_1003, cz_1120, cz_2000, cz_2003, cz_2004, cz_2005, cz_3999, cz_9999, cz_14640, g, n1]
    · have e : v = 0 := by
        rw [vi_lt] at h g
        exact vi_eq.mpr (by have : (0 : Int32).toInt = 0 := rfl; omega)
      subst e
      simp only [s90_0, s90_1, s90_2, s90_5, s90_6, s90_7, s90_8, s90_9, s90_12, s90_13, xIL_1, xIS_1, xQL_2, xQL_3, xAN_1, xAN_2, xAN_3, xCP_1, xC_s, xNC_I, ji_oI1, ji_oIm, kd_sC, gR_sC, gL_sC, ji_rv_s, ji_tl_s, ji_tl_n, ji_s1, ji_s2, ji_kl, List.getD_cons_zero, List.getD_cons_succ, List.set_cons_zero, List.set_cons_succ, List.length_cons, List.length_nil, ji_b_0, ji_b_1, ji_n0, ji_n1, ji_rcb_iff, ji_ok8_0, ji_ok8_1, ji_ok8_2, ji_ok8_3, ji_ok8_4, kd_sI, kd_sL, kd_sR, kd_cp, gR_sI, gR_sL, gR_cp, gL_sI, gL_sR, gL_cp, gI_sL, gI_sR, gI_sI, gL_sL, Nat.reduceEqDiff, false_and, and_false, true_and, and_true, Nat.reduceAdd, Nat.reduceLT, Nat.reduceSub, Int32.reduceLT, Int32.reduceAdd, not_false_eq_true, not_true_eq_false, and_self, ji_b_n, if_true, if_false, ↓reduceIte, cz_m100, cz_m19, cz_m18, cz_m17, cz_m16, cz_m15, cz_m14, cz_m13, cz_m12, cz_m11, cz_m4, cz_m3, cz_m2, cz_m1, cz_1, cz_2, cz_3, cz_4, cz_5, cz_6, cz_7, cz_8, cz_9, cz_10, cz_11, cz_12, cz_13, cz_14, cz_15, cz_16, cz_20, cz_24, cz_30, cz_32, cz_33, cz_38, cz_40, cz_41, cz_42, cz_43, cz_45, cz_48, cz_57, cz_59, cz_60, cz_61, cz_63, cz_64, cz_72, cz_96, cz_97, cz_99, cz_100, cz_122, cz_124, cz_126, cz_160, cz_161, cz_168, cz_200, cz_255, cz_300, cz_960, cz_999, cz_1000, cz_1001, cz_1002, cz_1003, cz_1120, cz_2000, cz_2003, cz_2004, cz_2005, cz_3999, cz_9999, cz_14640, g, n1]
theorem m91 (C : jx_C X N s r c ρ σ) (hb : (b : Int) < (ji_gI N 0 4).toInt) : ∃ f n N', jx_oN N N' ∧ (∀ d, ji_CL (d + 4) 91 [.ref 4, .ref s, .int (Int32.ofNat b)] X = some (some (.long (jx_lo (jx_v (jx_fN N b) (jx_pt σ 2)) (ji_gI N 6 b))), jx_XS X f n)) ∧ (∀ d, ji_CL (d + 8) 195 [.ref 0, .int (Int32.ofNat b)] N = some (some (.long (jx_lo (jx_v (jx_fN N b) (jx_pt σ 2)) (ji_gI N 6 b))), N')) ∧ (∀ d, ji_CL (d + 3) 74 [.ref 4, .ref s, .int (Int32.ofNat b), .int 2] X = some (some (.int (jx_v (jx_fN N b) (jx_pt σ 2))), jx_XS X f n)) := by
  obtain ⟨f, n, N', o1, A, B⟩ := jx_C_p (p := 2) C hb (by omega)
  obtain ⟨b24, e6, -, -⟩ := jx_C_b C hb
  have hX := C.1
  have hN := C.2.1
  have S := C.2.2.1.1
  have hh := C.2.2.2.1
  have eb := vi_nn (n := b) (by omega)
  have hN' := jx_oN_MF o1 hN
  have A : ∀ d, ji_CL (d + 3) 74 [.ref 4, .ref s, .int (Int32.ofNat b), .int 2] X = _ := A
  have B : ∀ d, ji_CL (d + 7) 171 [.ref 0, .int (ji_gI N 0 16), .int (Int32.ofNat b), .int 2] N = _ := B
  obtain ⟨S2, a2, -⟩ := xs_stk (f := f) (n := n) S hh.1 hh.2.1 hh.2.2
  refine ⟨f, n, N', o1, fun d => ?_, fun d => ?_, A⟩
  · apply en_91
    simp only [s91_0, s91_1, s91_2, s91_3, q91_4, s91_7, s91_8, s91_11, s91_12, q91_14, q91_17, s91_20, xIL_1, xIS_1, xQL_2, xQL_3, xAN_1, xAN_2, xAN_3, xCP_1, xC_s, xNC_I, ji_oI1, ji_oIm, kd_sC, gR_sC, gL_sC, ji_rv_s, ji_tl_s, ji_tl_n, ji_s1, ji_s2, ji_kl, List.getD_cons_zero, List.getD_cons_succ, List.set_cons_zero, List.set_cons_succ, List.length_cons, List.length_nil, ji_b_0, ji_b_1, ji_n0, ji_n1, ji_rcb_iff, ji_ok8_0, ji_ok8_1, ji_ok8_2, ji_ok8_3, ji_ok8_4, kd_sI, kd_sL, kd_sR, kd_cp, gR_sI, gR_sL, gR_cp, gL_sI, gL_sR, gL_cp, gI_sL, gI_sR, gI_sI, gL_sL, Nat.reduceEqDiff, false_and, and_false, true_and, and_true, Nat.reduceAdd, Nat.reduceLT, Nat.reduceSub, Int32.reduceLT, Int32.reduceAdd, not_false_eq_true, not_true_eq_false, and_self, ji_b_n, if_true, if_false, ↓reduceIte, cz_m100, cz_m19, cz_m18, cz_m17, cz_m16, cz_m15, cz_m14, cz_m13, cz_m12, cz_m11, cz_m4, cz_m3, cz_m2, cz_m1, cz_1, cz_2, cz_3, cz_4, cz_5, cz_6, cz_7, cz_8, cz_9, cz_10, cz_11, cz_12, cz_13, cz_14, cz_15, cz_16, cz_20, cz_24, cz_30, cz_32, cz_33, cz_38, cz_40, cz_41, cz_42, cz_43, cz_45, cz_48, cz_57, cz_59, cz_60, cz_61, cz_63, cz_64, cz_72, cz_96, cz_97, cz_99, cz_100, cz_122, cz_124, cz_126, cz_160, cz_161, cz_168, cz_200, cz_255, cz_300, cz_960, cz_999, cz_1000, cz_1001, cz_1002, cz_1003, cz_1120, cz_2000, cz_2003, cz_2004, cz_2005, cz_3999, cz_9999, cz_14640, xk_4 hX, S.1, A, S2.1, S2.2.1, S2.2.2.1, m49 S2.2.2, a2, e6, m90]
  · have zb : vp_in (Int32.ofNat b) 24 := vi_in.mpr ⟨by omega, by omega⟩
    have zb2 : (Int32.ofNat b).toNatClampNeg = b := by rw [vi_nat, eb]; exact Int.toNat_natCast _
    have h6 : ji_gI N' 6 b = ji_gI N 6 b := o1.2.1 6 b rfl
    have n1 : ¬ (100 : Int64) = 0 := by decide
    apply en_195
    unfold jx_lo
    by_cases g : jx_v (jx_fN N b) (jx_pt σ 2) < 0
    · rw [if_pos g]
      simp only [s195_0, s195_1, s195_2, s195_5, s195_6, q195_7, s195_10, s195_11, s195_12, s195_15, s195_16, s195_19, s195_20, s195_21, s195_22, s195_25, q195_26, s195_27, s195_28, s195_29, s195_32, s195_33, xIL_1, xIS_1, xQL_2, xQL_3, xAN_1, xAN_2, xAN_3, xCP_1, xC_s, xNC_I, ji_oI1, ji_oIm, kd_sC, gR_sC, gL_sC, ji_rv_s, ji_tl_s, ji_tl_n, ji_s1, ji_s2, ji_kl, List.getD_cons_zero, List.getD_cons_succ, List.set_cons_zero, List.set_cons_succ, List.length_cons, List.length_nil, ji_b_0, ji_b_1, ji_n0, ji_n1, ji_rcb_iff, ji_ok8_0, ji_ok8_1, ji_ok8_2, ji_ok8_3, ji_ok8_4, kd_sI, kd_sL, kd_sR, kd_cp, gR_sI, gR_sL, gR_cp, gL_sI, gL_sR, gL_cp, gI_sL, gI_sR, gI_sI, gL_sL, Nat.reduceEqDiff, false_and, and_false, true_and, and_true, Nat.reduceAdd, Nat.reduceLT, Nat.reduceSub, Int32.reduceLT, Int32.reduceAdd, not_false_eq_true, not_true_eq_false, and_self, ji_b_n, if_true, if_false, ↓reduceIte, cz_m100, cz_m19, cz_m18, cz_m17, cz_m16, cz_m15, cz_m14, cz_m13, cz_m12, cz_m11, cz_m4, cz_m3, cz_m2, cz_m1, cz_1, cz_2, cz_3, cz_4, cz_5, cz_6, cz_7, cz_8, cz_9, cz_10, cz_11, cz_12, cz_13, cz_14, cz_15, cz_16, cz_20, cz_24, cz_30, cz_32, cz_33, cz_38, cz_40, cz_41, cz_42, cz_43, cz_45, cz_48, cz_57, cz_59, cz_60, cz_61, cz_63, cz_64, cz_72, cz_96, cz_97, cz_99, cz_100, cz_122, cz_124, cz_126, cz_160, cz_161, cz_168, cz_200, cz_255, cz_300, cz_960, cz_999, cz_1000, cz_1001, cz_1002, cz_1003, cz_1120, cz_2000, cz_2003, cz_2004, cz_2005, cz_3999, cz_9999, cz_14640, mk_0 hN, B, g]
    · rw [if_neg g]
      simp only [s195_0, s195_1, s195_2, s195_5, s195_6, q195_7, s195_10, s195_11, s195_12, s195_15, s195_16, s195_19, s195_20, s195_21, s195_22, s195_25, q195_26, s195_27, s195_28, s195_29, s195_32, s195_33, xIL_1, xIS_1, xQL_2, xQL_3, xAN_1, xAN_2, xAN_3, xCP_1, xC_s, xNC_I, ji_oI1, ji_oIm, kd_sC, gR_sC, gL_sC, ji_rv_s, ji_tl_s, ji_tl_n, ji_s1, ji_s2, ji_kl, List.getD_cons_zero, List.getD_cons_succ, List.set_cons_zero, List.set_cons_succ, List.length_cons, List.length_nil, ji_b_0, ji_b_1, ji_n0, ji_n1, ji_rcb_iff, ji_ok8_0, ji_ok8_1, ji_ok8_2, ji_ok8_3, ji_ok8_4, kd_sI, kd_sL, kd_sR, kd_cp, gR_sI, gR_sL, gR_cp, gL_sI, gL_sR, gL_cp, gI_sL, gI_sR, gI_sI, gL_sL, Nat.reduceEqDiff, false_and, and_false, true_and, and_true, Nat.reduceAdd, Nat.reduceLT, Nat.reduceSub, Int32.reduceLT, Int32.reduceAdd, not_false_eq_true, not_true_eq_false, and_self, ji_b_n, if_true, if_false, ↓reduceIte, cz_m100, cz_m19, cz_m18, cz_m17, cz_m16, cz_m15, cz_m14, cz_m13, cz_m12, cz_m11, cz_m4, cz_m3, cz_m2, cz_m1, cz_1, cz_2, cz_3, cz_4, cz_5, cz_6, cz_7, cz_8, cz_9, cz_10, cz_11, cz_12, cz_13, cz_14, cz_15, cz_16, cz_20, cz_24, cz_30, cz_32, cz_33, cz_38, cz_40, cz_41, cz_42, cz_43, cz_45, cz_48, cz_57, cz_59, cz_60, cz_61, cz_63, cz_64, cz_72, cz_96, cz_97, cz_99, cz_100, cz_122, cz_124, cz_126, cz_160, cz_161, cz_168, cz_200, cz_255, cz_300, cz_960, cz_999, cz_1000, cz_1001, cz_1002, cz_1003, cz_1120, cz_2000, cz_2003, cz_2004, cz_2005, cz_3999, cz_9999, cz_14640, mk_0 hN, B, g, mk_0 hN', mk_6 hN', mr_11 hN', zb, zb2, h6, n1]
theorem jx_la_k (o : jx_oN N N') : ∀ b, jx_la N' σ b = jx_la N σ b := by
  intro b
  induction b with
  | zero => rfl
  | succ b ih =>
    show jx_la N' σ b + _ = jx_la N σ b + _
    rw [ih, jx_fN_k o, o.2.1 6 b rfl]
theorem m89L : ∀ (m b : Nat) (X N : ji_M), jx_C X N s r c ρ σ → ((b + m : Nat) : Int) = (ji_gI N 0 4).toInt → ∃ X' N', (∃ f n, X' = X ∨ X' = jx_XS X f n) ∧ jx_oN N N' ∧ (∀ d l, ji_Ev (ji_CL (d + 3)) 89 5 X [some (.ref 4), some (.ref s), some (.long (jx_la N σ b)), l, some (.int (Int32.ofNat b))] [] (some (.long (jx_la N σ (b + m))), X')) ∧ ∀ d l, ji_Ev (ji_CL (d + 8)) 194 4 N [some (.ref 0), some (.long (jx_la N σ b)), l, some (.int (Int32.ofNat b))] [] (some (.long (jx_la N σ (b + m))), N') := by
  intro m
  induction m with
  | zero =>
    intro b X N C hb
    have S := C.2.2.1.1
    have hN := C.2.1
    have e1 := C.2.2.1.2.2.2.2.1
    have hbb := C.2.2.1.2.2.2.2.2.1
    have h2 := hbb.2
    have eb := vi_nn (n := b) (by omega)
    have g : ¬ Int32.ofNat b < ji_gI N 0 4 := by rw [vi_lt]; omega
    refine ⟨X, N, ⟨ji_zf, 0, Or.inl rfl⟩, jx_oN_r, fun d l => ?_, fun d l => ?_⟩
    · simp only [s89_0, s89_1, s89_2, s89_3, s89_5, s89_7, s89_8, q89_11, s89_14, s89_17, s89_18, s89_19, s89_20, s89_22, q89_23, s89_26, s89_27, s89_30, s89_32, q89_34, q89_37, s89_40, s89_41, q89_42, s89_48, s89_49, xIL_1, xIS_1, xQL_2, xQL_3, xAN_1, xAN_2, xAN_3, xCP_1, xC_s, xNC_I, ji_oI1, ji_oIm, kd_sC, gR_sC, gL_sC, ji_rv_s, ji_tl_s, ji_tl_n, ji_s1, ji_s2, ji_kl, List.getD_cons_zero, List.getD_cons_succ, List.set_cons_zero, List.set_cons_succ, List.length_cons, List.length_nil, ji_b_0, ji_b_1, ji_n0, ji_n1, ji_rcb_iff, ji_ok8_0, ji_ok8_1, ji_ok8_2, ji_ok8_3, ji_ok8_4, kd_sI, kd_sL, kd_sR, kd_cp, gR_sI, gR_sL, gR_cp, gL_sI, gL_sR, gL_cp, gI_sL, gI_sR, gI_sI, gL_sL, Nat.reduceEqDiff, false_and, and_false, true_and, and_true, Nat.reduceAdd, Nat.reduceLT, Nat.reduceSub, Int32.reduceLT, Int32.reduceAdd, not_false_eq_true, not_true_eq_false, and_self, ji_b_n, if_true, if_false, ↓reduceIte, cz_m100, cz_m19, cz_m18, cz_m17, cz_m16, cz_m15, cz_m14, cz_m13, cz_m12, cz_m11, cz_m4, cz_m3, cz_m2, cz_m1, cz_1, cz_2, cz_3, cz_4, cz_5, cz_6, cz_7, cz_8, cz_9, cz_10, cz_11, cz_12, cz_13, cz_14, cz_15, cz_16, cz_20, cz_24, cz_30, cz_32, cz_33, cz_38, cz_40, cz_41, cz_42, cz_43, cz_45, cz_48, cz_57, cz_59, cz_60, cz_61, cz_63, cz_64, cz_72, cz_96, cz_97, cz_99, cz_100, cz_122, cz_124, cz_126, cz_160, cz_161, cz_168, cz_200, cz_255, cz_300, cz_960, cz_999, cz_1000, cz_1001, cz_1002, cz_1003, cz_1120, cz_2000, cz_2003, cz_2004, cz_2005, cz_3999, cz_9999, cz_14640, S.1, S.2.1, S.2.2.1, m47 S.2.2.1, e1, g]
      rfl
    · simp only [s194_0, s194_1, s194_2, s194_3, s194_4, s194_5, s194_6, s194_9, s194_12, s194_13, s194_14, q194_15, s194_18, s194_19, q194_20, s194_26, s194_27, xIL_1, xIS_1, xQL_2, xQL_3, xAN_1, xAN_2, xAN_3, xCP_1, xC_s, xNC_I, ji_oI1, ji_oIm, kd_sC, gR_sC, gL_sC, ji_rv_s, ji_tl_s, ji_tl_n, ji_s1, ji_s2, ji_kl, List.getD_cons_zero, List.getD_cons_succ, List.set_cons_zero, List.set_cons_succ, List.length_cons, List.length_nil, ji_b_0, ji_b_1, ji_n0, ji_n1, ji_rcb_iff, ji_ok8_0, ji_ok8_1, ji_ok8_2, ji_ok8_3, ji_ok8_4, kd_sI, kd_sL, kd_sR, kd_cp, gR_sI, gR_sL, gR_cp, gL_sI, gL_sR, gL_cp, gI_sL, gI_sR, gI_sI, gL_sL, Nat.reduceEqDiff, false_and, and_false, true_and, and_true, Nat.reduceAdd, Nat.reduceLT, Nat.reduceSub, Int32.reduceLT, Int32.reduceAdd, not_false_eq_true, not_true_eq_false, and_self, ji_b_n, if_true, if_false, ↓reduceIte, cz_m100, cz_m19, cz_m18, cz_m17, cz_m16, cz_m15, cz_m14, cz_m13, cz_m12, cz_m11, cz_m4, cz_m3, cz_m2, cz_m1, cz_1, cz_2, cz_3, cz_4, cz_5, cz_6, cz_7, cz_8, cz_9, cz_10, cz_11, cz_12, cz_13, cz_14, cz_15, cz_16, cz_20, cz_24, cz_30, cz_32, cz_33, cz_38, cz_40, cz_41, cz_42, cz_43, cz_45, cz_48, cz_57, cz_59, cz_60, cz_61, cz_63, cz_64, cz_72, cz_96, cz_97, cz_99, cz_100, cz_122, cz_124, cz_126, cz_160, cz_161, cz_168, cz_200, cz_255, cz_300, cz_960, cz_999, cz_1000, cz_1001, cz_1002, cz_1003, cz_1120, cz_2000, cz_2003, cz_2004, cz_2005, cz_3999, cz_9999, cz_14640, mk_0 hN, g]
      rfl
  | succ m ih =>
    intro b X N C hb
    have S := C.2.2.1.1
    have hX := C.1
    have hN := C.2.1
    have e1 := C.2.2.1.2.2.2.2.1
    have hbb := C.2.2.1.2.2.2.2.2.1
    have h2 := hbb.2
    have eb := vi_nn (n := b) (by omega)
    have g : Int32.ofNat b < ji_gI N 0 4 := by rw [vi_lt]; omega
    have hh := C.2.2.2.1
    obtain ⟨f, n, N1, o1, -, A2, A1⟩ := m91 C (b := b) (by omega)
    obtain ⟨-, e6, -, -⟩ := jx_C_b C (b := b) (by omega)
    obtain ⟨S2, a2, -⟩ := xs_stk (f := f) (n := n) S hh.1 hh.2.1 hh.2.2
    obtain ⟨X', N', ⟨f', n', hx⟩, o2, B1, B2⟩ := ih (b + 1) (jx_XS X f n) N1 (jx_C_k C o1) (by rw [o1.2.1 0 4 rfl]; omega)
    have xx : ∀ f' n', jx_XS (jx_XS X f n) f' n' = jx_XS X f' n' := by
      intro f' n'
      unfold jx_XS
      refine ji_M_ext rfl (fun i j => ?_) (fun _ _ => rfl) (fun _ _ => rfl)
      by_cases h1 : i = 4 ∧ j = 5
      · rw [gI_sI, if_pos h1, gI_sI, if_pos h1]
      · rw [gI_sI, if_neg h1, gI_sI, if_neg h1]
        by_cases h2 : i = 22
        · subst h2; rw [gI_sC, gI_sC]
        · rw [gI_sCn h2, gI_sCn h2, gI_sI, if_neg h1, gI_sCn h2]
    have p1 := jx_o1p (k := b) (by omega)
    have p2 : (Int32.ofInt 1) = 1 := rfl
    have la : jx_la N1 σ (b + 1) = jx_la N σ b + jx_lo (jx_v (jx_fN N b) (jx_pt σ 2)) (ji_gI N 6 b) := jx_la_k o1 (b + 1)
    have lb : jx_la N1 σ (b + 1 + m) = jx_la N σ (b + (m + 1)) := by
      rw [jx_la_k o1, show b + 1 + m = b + (m + 1) by omega]
    rw [la, lb] at B1 B2
    refine ⟨X', N', ?_, jx_oN_t o1 o2, fun d l => ?_, fun d l => ?_⟩
    · rcases hx with hx | hx
      · exact ⟨f, n, Or.inr hx⟩
      · exact ⟨f', n', Or.inr (hx.trans (xx f' n'))⟩
    · have B1 := B1 d none
      simp only [s89_0, s89_1, s89_2, s89_3, s89_5, s89_7, s89_8, q89_11, s89_14, s89_17, s89_18, s89_19, s89_20, s89_22, q89_23, s89_26, s89_27, s89_30, s89_32, q89_34, q89_37, s89_40, s89_41, q89_42, s89_48, s89_49, xIL_1, xIS_1, xQL_2, xQL_3, xAN_1, xAN_2, xAN_3, xCP_1, xC_s, xNC_I, ji_oI1, ji_oIm, kd_sC, gR_sC, gL_sC, ji_rv_s, ji_tl_s, ji_tl_n, ji_s1, ji_s2, ji_kl, List.getD_cons_zero, List.getD_cons_succ, List.set_cons_zero, List.set_cons_succ, List.length_cons, List.length_nil, ji_b_0, ji_b_1, ji_n0, ji_n1, ji_rcb_iff, ji_ok8_0, ji_ok8_1, ji_ok8_2, ji_ok8_3, ji_ok8_4, kd_sI, kd_sL, kd_sR, kd_cp, gR_sI, gR_sL, gR_cp, gL_sI, gL_sR, gL_cp, gI_sL, gI_sR, gI_sI, gL_sL, Nat.reduceEqDiff, false_and, and_false, true_and, and_true, Nat.reduceAdd, Nat.reduceLT, Nat.reduceSub, Int32.reduceLT, Int32.reduceAdd, not_false_eq_true, not_true_eq_false, and_self, ji_b_n, if_true, if_false, ↓reduceIte, cz_m100, cz_m19, cz_m18, cz_m17, cz_m16, cz_m15, cz_m14, cz_m13, cz_m12, cz_m11, cz_m4, cz_m3, cz_m2, cz_m1, cz_1, cz_2, cz_3, cz_4, cz_5, cz_6, cz_7, cz_8, cz_9, cz_10, cz_11, cz_12, cz_13, cz_14, cz_15, cz_16, cz_20, cz_24, cz_30, cz_32, cz_33, cz_38, cz_40, cz_41, cz_42, cz_43, cz_45, cz_48, cz_57, cz_59, cz_60, cz_61, cz_63, cz_64, cz_72, cz_96, cz_97, cz_99, cz_100, cz_122, cz_124, cz_126, cz_160, cz_161, cz_168, cz_200, cz_255, cz_300, cz_960, cz_999, cz_1000, cz_1001, cz_1002, cz_1003, cz_1120, cz_2000, cz_2003, cz_2004, cz_2005, cz_3999, cz_9999, cz_14640, xk_4 hX, S.1, S.2.1, S.2.2.1, m47 S.2.2.1, e1, g, A1, S2.1, S2.2.1, S2.2.2.1, m49 S2.2.2, a2, e6, m90, p1, p2]
      simp only [s89_45]
      exact B1
    · have B2 := B2 d none
      have A2 := A2 d
      simp only [s194_0, s194_1, s194_2, s194_3, s194_4, s194_5, s194_6, s194_9, s194_12, s194_13, s194_14, q194_15, s194_18, s194_19, q194_20, s194_26, s194_27, xIL_1, xIS_1, xQL_2, xQL_3, xAN_1, xAN_2, xAN_3, xCP_1, xC_s, xNC_I, ji_oI1, ji_oIm, kd_sC, gR_sC, gL_sC, ji_rv_s, ji_tl_s, ji_tl_n, ji_s1, ji_s2, ji_kl, List.getD_cons_zero, List.getD_cons_succ, List.set_cons_zero, List.set_cons_succ, List.length_cons, List.length_nil, ji_b_0, ji_b_1, ji_n0, ji_n1, ji_rcb_iff, ji_ok8_0, ji_ok8_1, ji_ok8_2, ji_ok8_3, ji_ok8_4, kd_sI, kd_sL, kd_sR, kd_cp, gR_sI, gR_sL, gR_cp, gL_sI, gL_sR, gL_cp, gI_sL, gI_sR, gI_sI, gL_sL, Nat.reduceEqDiff, false_and, and_false, true_and, and_true, Nat.reduceAdd, Nat.reduceLT, Nat.reduceSub, Int32.reduceLT, Int32.reduceAdd, not_false_eq_true, not_true_eq_false, and_self, ji_b_n, if_true, if_false, ↓reduceIte, cz_m100, cz_m19, cz_m18, cz_m17, cz_m16, cz_m15, cz_m14, cz_m13, cz_m12, cz_m11, cz_m4, cz_m3, cz_m2, cz_m1, cz_1, cz_2, cz_3, cz_4, cz_5, cz_6, cz_7, cz_8, cz_9, cz_10, cz_11, cz_12, cz_13, cz_14, cz_15, cz_16, cz_20, cz_24, cz_30, cz_32, cz_33, cz_38, cz_40, cz_41, cz_42, cz_43, cz_45, cz_48, cz_57, cz_59, cz_60, cz_61, cz_63, cz_64, cz_72, cz_96, cz_97, cz_99, cz_100, cz_122, cz_124, cz_126, cz_160, cz_161, cz_168, cz_200, cz_255, cz_300, cz_960, cz_999, cz_1000, cz_1001, cz_1002, cz_1003, cz_1120, cz_2000, cz_2003, cz_2004, cz_2005, cz_3999, cz_9999, cz_14640, mk_0 hN, g, A2, p1, p2]
      simp only [s194_23]
      exact B2
/-- all that is lost -/
theorem m89 (C : jx_C X N s r c ρ σ) : ∃ X' N' v, (∃ f n, X' = X ∨ X' = jx_XS X f n) ∧ jx_oN N N' ∧ v = jx_la N σ (ji_gI N 0 4).toInt.toNat ∧ (∀ d, ji_CL (d + 4) 89 [.ref 4, .ref s] X = some (some (.long v), X')) ∧ ∀ d, ji_CL (d + 9) 194 [.ref 0] N = some (some (.long v), N') := by
  have hbb := C.2.2.1.2.2.2.2.2.1
  have h1 := hbb.1
  obtain ⟨X', N', hx, o1, B1, B2⟩ := m89L (ji_gI N 0 4).toInt.toNat 0 X N C (by omega)
  rw [Nat.zero_add] at B1 B2
  refine ⟨X', N', _, hx, o1, rfl, fun d => ?_, fun d => ?_⟩
  · have B1 : ji_Ev (ji_CL (d + 3)) 89 5 X [some (.ref 4), some (.ref s), some (.long 0), none, some (.int 0)] [] _ := B1 d none
    apply en_89
    simp only [s89_0, s89_1, s89_2, s89_3, xIL_1, xIS_1, xQL_2, xQL_3, xAN_1, xAN_2, xAN_3, xCP_1, xC_s, xNC_I, ji_oI1, ji_oIm, kd_sC, gR_sC, gL_sC, ji_rv_s, ji_tl_s, ji_tl_n, ji_s1, ji_s2, ji_kl, List.getD_cons_zero, List.getD_cons_succ, List.set_cons_zero, List.set_cons_succ, List.length_cons, List.length_nil, ji_b_0, ji_b_1, ji_n0, ji_n1, ji_rcb_iff, ji_ok8_0, ji_ok8_1, ji_ok8_2, ji_ok8_3, ji_ok8_4, kd_sI, kd_sL, kd_sR, kd_cp, gR_sI, gR_sL, gR_cp, gL_sI, gL_sR, gL_cp, gI_sL, gI_sR, gI_sI, gL_sL, Nat.reduceEqDiff, false_and, and_false, true_and, and_true, Nat.reduceAdd, Nat.reduceLT, Nat.reduceSub, Int32.reduceLT, Int32.reduceAdd, not_false_eq_true, not_true_eq_false, and_self, ji_b_n, if_true, if_false, ↓reduceIte, cz_m100, cz_m19, cz_m18, cz_m17, cz_m16, cz_m15, cz_m14, cz_m13, cz_m12, cz_m11, cz_m4, cz_m3, cz_m2, cz_m1, cz_1, cz_2, cz_3, cz_4, cz_5, cz_6, cz_7, cz_8, cz_9, cz_10, cz_11, cz_12, cz_13, cz_14, cz_15, cz_16, cz_20, cz_24, cz_30, cz_32, cz_33, cz_38, cz_40, cz_41, cz_42, cz_43, cz_45, cz_48, cz_57, cz_59, cz_60, cz_61, cz_63, cz_64, cz_72, cz_96, cz_97, cz_99, cz_100, cz_122, cz_124, cz_126, cz_160, cz_161, cz_168, cz_200, cz_255, cz_300, cz_960, cz_999, cz_1000, cz_1001, cz_1002, cz_1003, cz_1120, cz_2000, cz_2003, cz_2004, cz_2005, cz_3999, cz_9999, cz_14640]
    exact B1
  · have B2 : ji_Ev (ji_CL (d + 8)) 194 4 N [some (.ref 0), some (.long 0), none, some (.int 0)] [] _ := B2 d none
    apply en_194
    simp only [s194_0, s194_1, s194_2, s194_3, xIL_1, xIS_1, xQL_2, xQL_3, xAN_1, xAN_2, xAN_3, xCP_1, xC_s, xNC_I, ji_oI1, ji_oIm, kd_sC, gR_sC, gL_sC, ji_rv_s, ji_tl_s, ji_tl_n, ji_s1, ji_s2, ji_kl, List.getD_cons_zero, List.getD_cons_succ, List.set_cons_zero, List.set_cons_succ, List.length_cons, List.length_nil, ji_b_0, ji_b_1, ji_n0, ji_n1, ji_rcb_iff, ji_ok8_0, ji_ok8_1, ji_ok8_2, ji_ok8_3, ji_ok8_4, kd_sI, kd_sL, kd_sR, kd_cp, gR_sI, gR_sL, gR_cp, gL_sI, gL_sR, gL_cp, gI_sL, gI_sR, gI_sI, gL_sL, Nat.reduceEqDiff, false_and, and_false, true_and, and_true, Nat.reduceAdd, Nat.reduceLT, Nat.reduceSub, Int32.reduceLT, Int32.reduceAdd, not_false_eq_true, not_true_eq_false, and_self, ji_b_n, if_true, if_false, ↓reduceIte, cz_m100, cz_m19, cz_m18, cz_m17, cz_m16, cz_m15, cz_m14, cz_m13, cz_m12, cz_m11, cz_m4, cz_m3, cz_m2, cz_m1, cz_1, cz_2, cz_3, cz_4, cz_5, cz_6, cz_7, cz_8, cz_9, cz_10, cz_11, cz_12, cz_13, cz_14, cz_15, cz_16, cz_20, cz_24, cz_30, cz_32, cz_33, cz_38, cz_40, cz_41, cz_42, cz_43, cz_45, cz_48, cz_57, cz_59, cz_60, cz_61, cz_63, cz_64, cz_72, cz_96, cz_97, cz_99, cz_100, cz_122, cz_124, cz_126, cz_160, cz_161, cz_168, cz_200, cz_255, cz_300, cz_960, cz_999, cz_1000, cz_1001, cz_1002, cz_1003, cz_1120, cz_2000, cz_2003, cz_2004, cz_2005, cz_3999, cz_9999, cz_14640]
    exact B2
theorem call_7 (R : ji_Rel jx_P X N) : ji_same jx_P 88 193 [.int x] X N := by
  intro d
  have hX := R.xf
  have hN := R.mf
  obtain ⟨ρ, σ, C⟩ := jx_C_R R
  by_cases h1 : x = -1
  · obtain ⟨X', N', v, ⟨f, n, hx⟩, o1, -, A, B⟩ := m89 C
    have A := cl_le A (e := d + 59) (by omega)
    have B := cl_le B (e := d + 59) (by omega)
    apply ji_same_of (v := some (.long v)) (X' := X') (N' := N')
    case h1 =>
      apply en_88
      simp only [s88_0, s88_1, s88_2, s88_5, s88_6, s88_9, s88_10, q88_13, s88_16, s88_17, s88_18, s88_21, s88_24, q88_25, s88_28, s88_31, s88_32, s88_35, s88_36, s88_39, q88_40, s88_43, s88_46, s88_49, xIL_1, xIS_1, xQL_2, xQL_3, xAN_1, xAN_2, xAN_3, xCP_1, xC_s, xNC_I, ji_oI1, ji_oIm, kd_sC, gR_sC, gL_sC, ji_rv_s, ji_tl_s, ji_tl_n, ji_s1, ji_s2, ji_kl, List.getD_cons_zero, List.getD_cons_succ, List.set_cons_zero, List.set_cons_succ, List.length_cons, List.length_nil, ji_b_0, ji_b_1, ji_n0, ji_n1, ji_rcb_iff, ji_ok8_0, ji_ok8_1, ji_ok8_2, ji_ok8_3, ji_ok8_4, kd_sI, kd_sL, kd_sR, kd_cp, gR_sI, gR_sL, gR_cp, gL_sI, gL_sR, gL_cp, gI_sL, gI_sR, gI_sI, gL_sL, Nat.reduceEqDiff, false_and, and_false, true_and, and_true, Nat.reduceAdd, Nat.reduceLT, Nat.reduceSub, Int32.reduceLT, Int32.reduceAdd, not_false_eq_true, not_true_eq_false, and_self, ji_b_n, if_true, if_false, ↓reduceIte, cz_m100, cz_m19, cz_m18, cz_m17, cz_m16, cz_m15, cz_m14, cz_m13, cz_m12, cz_m11, cz_m4, cz_m3, cz_m2, cz_m1, cz_1, cz_2, cz_3, cz_4, cz_5, cz_6, cz_7, cz_8, cz_9, cz_10, cz_11, cz_12, cz_13, cz_14, cz_15, cz_16, cz_20, cz_24, cz_30, cz_32, cz_33, cz_38, cz_40, cz_41, cz_42, cz_43, cz_45, cz_48, cz_57, cz_59, cz_60, cz_61, cz_63, cz_64, cz_72, cz_96, cz_97, cz_99, cz_100, cz_122, cz_124, cz_126, cz_160, cz_161, cz_168, cz_200, cz_255, cz_300, cz_960, cz_999, cz_1000, cz_1001, cz_1002, cz_1003, cz_1120, cz_2000, cz_2003, cz_2004, cz_2005, cz_3999, cz_9999, cz_14640, (xk_0 hX), (xk_1 hX), (xk_2 hX), (xk_3 hX), (xk_4 hX), (xk_5 hX), (xk_6 hX), (xk_7 hX), (xk_8 hX), (xk_9 hX), (xk_10 hX), (xk_11 hX), (xk_12 hX), (xk_13 hX), (xk_14 hX), (xk_15 hX), (xk_16 hX), (xk_17 hX), (xk_18 hX), (xk_19 hX), (xk_20 hX), (xk_21 hX), (xk_22 hX), (xk_23 hX), (xk_24 hX), (xk_25 hX), (xk_26 hX), (xk_27 hX), (xk_28 hX), (xk_29 hX), (xk_30 hX), (xk_31 hX), (xk_32 hX), (xk_33 hX), (xk_34 hX), (xk_35 hX), (xk_36 hX), (xk_37 hX), (xk_38 hX), (xk_39 hX), (xk_40 hX), (xk_41 hX), (xk_42 hX), (xk_43 hX), (xk_44 hX), (xk_45 hX), (xk_46 hX), (xk_47 hX), (xk_48 hX), (xk_49 hX), (xk_50 hX), (xk_51 hX), (xk_52 hX), (xk_53 hX), (xk_54 hX), (xk_55 hX), (xk_56 hX), (xk_57 hX), (xk_58 hX), (xk_59 hX), (xk_60 hX), (xk_61 hX), (xk_62 hX), (xk_63 hX), (xk_64 hX), (xk_65 hX), (xk_66 hX), (xk_67 hX), (xk_68 hX), (xk_69 hX), (xk_70 hX), (xk_71 hX), (xk_72 hX), (xk_73 hX), (xk_74 hX), (xk_75 hX), (xk_76 hX), (xk_77 hX), (xk_78 hX), (xk_79 hX), (xk_80 hX), (xk_81 hX), (xk_82 hX), (xk_83 hX), (xk_84 hX), (xk_85 hX), (xk_86 hX), (xk_87 hX), (xk_88 hX), (xk_89 hX), (xr_0_0 hX), (xr_0_1 hX), (xr_0_2 hX), (xr_0_3 hX), (xr_0_4 hX), (xr_0_5 hX), (xr_0_6 hX), (xr_0_7 hX), (xr_0_8 hX), (xr_0_9 hX), (xr_0_10 hX), (xr_0_11 hX), (xr_0_12 hX), (xr_0_13 hX), (xr_1_0 hX), (xr_2_2 hX), (xr_4_0 hX), (xr_4_1 hX), (xr_4_2 hX), (xr_4_3 hX), (xr_4_4 hX), (xr_5_0 hX), (xr_8_0 hX), (xr_8_1 hX), (xr_8_2 hX), (xr_8_3 hX), (xr_8_4 hX), (xr_8_5 hX), (xr_15_0 hX), (xr_15_1 hX), (xr_15_2 hX), (xr_15_3 hX), (xr_15_4 hX), (xr_15_5 hX), (xr_24_2 hX), (xr_26_0 hX), (xr_26_1 hX), (xr_26_2 hX), (xr_27_0 hX), (xr_27_1 hX), (xr_27_2 hX), (xr_27_3 hX), (xr_27_4 hX), (xr_27_5 hX), (xr_30_0 hX), (xr_31_2 hX), (xr_33_0 hX), (xr_34_2 hX), (xr_36_0 hX), (xr_37_2 hX), (xr_39_0 hX), (xr_40_2 hX), (xr_42_0 hX), (xr_43_2 hX), (xr_45_0 hX), (xr_46_2 hX), (xr_48_2 hX), (xr_50_2 hX), (xr_52_2 hX), (xr_70_2 hX), (xr_72_2 hX), (xr_74_2 hX), (xr_76_2 hX), (xr_54_0 hX), (xr_54_1 hX), (xr_55_0 hX), (xr_55_1 hX), (xr_55_2 hX), (xr_55_3 hX), (xr_55_4 hX), (xr_55_5 hX), (xr_62_0 hX), (xr_62_1 hX), (xr_62_2 hX), (xr_62_3 hX), (xr_62_4 hX), (xr_62_5 hX), (xr_62_6 hX), (xr_78_0 hX), (xr_78_1 hX), (xr_78_2 hX), (xr_82_0 hX), (xr_82_1 hX), (xr_82_2 hX), (xr_83_0 hX), (xr_83_1 hX), (xr_83_2 hX), (xr_83_3 hX), (xi_2_0 hX), (xi_24_0 hX), (xi_31_0 hX), (xi_34_0 hX), (xi_37_0 hX), (xi_40_0 hX), (xi_43_0 hX), (xi_46_0 hX), (xi_48_0 hX), (xi_50_0 hX), (xi_52_0 hX), (xi_70_0 hX), (xi_72_0 hX), (xi_74_0 hX), (xi_76_0 hX), (xi_2_1 hX), (xi_24_1 hX), (xi_31_1 hX), (xi_34_1 hX), (xi_37_1 hX), (xi_40_1 hX), (xi_43_1 hX), (xi_46_1 hX), (xi_48_1 hX), (xi_50_1 hX), (xi_52_1 hX), (xi_70_1 hX), (xi_72_1 hX), (xi_74_1 hX), (xi_76_1 hX), eq_true h1, A]
    case h2 =>
      apply en_193
      simp only [s193_0, s193_1, s193_2, s193_5, q193_6, s193_9, s193_12, s193_13, q193_14, s193_17, s193_20, s193_21, q193_22, s193_25, s193_28, s193_31, xIL_1, xIS_1, xQL_2, xQL_3, xAN_1, xAN_2, xAN_3, xCP_1, xC_s, xNC_I, ji_oI1, ji_oIm, kd_sC, gR_sC, gL_sC, ji_rv_s, ji_tl_s, ji_tl_n, ji_s1, ji_s2, ji_kl, List.getD_cons_zero, List.getD_cons_succ, List.set_cons_zero, List.set_cons_succ, List.length_cons, List.length_nil, ji_b_0, ji_b_1, ji_n0, ji_n1, ji_rcb_iff, ji_ok8_0, ji_ok8_1, ji_ok8_2, ji_ok8_3, ji_ok8_4, kd_sI, kd_sL, kd_sR, kd_cp, gR_sI, gR_sL, gR_cp, gL_sI, gL_sR, gL_cp, gI_sL, gI_sR, gI_sI, gL_sL, Nat.reduceEqDiff, false_and, and_false, true_and, and_true, Nat.reduceAdd, Nat.reduceLT, Nat.reduceSub, Int32.reduceLT, Int32.reduceAdd, not_false_eq_true, not_true_eq_false, and_self, ji_b_n, if_true, if_false, ↓reduceIte, cz_m100, cz_m19, cz_m18, cz_m17, cz_m16, cz_m15, cz_m14, cz_m13, cz_m12, cz_m11, cz_m4, cz_m3, cz_m2, cz_m1, cz_1, cz_2, cz_3, cz_4, cz_5, cz_6, cz_7, cz_8, cz_9, cz_10, cz_11, cz_12, cz_13, cz_14, cz_15, cz_16, cz_20, cz_24, cz_30, cz_32, cz_33, cz_38, cz_40, cz_41, cz_42, cz_43, cz_45, cz_48, cz_57, cz_59, cz_60, cz_61, cz_63, cz_64, cz_72, cz_96, cz_97, cz_99, cz_100, cz_122, cz_124, cz_126, cz_160, cz_161, cz_168, cz_200, cz_255, cz_300, cz_960, cz_999, cz_1000, cz_1001, cz_1002, cz_1003, cz_1120, cz_2000, cz_2003, cz_2004, cz_2005, cz_3999, cz_9999, cz_14640, mk_0 hN, eq_true h1, B]
    case h3 =>
      rcases hx with rfl | rfl
      · exact ji_Rel_offN R (jx_oN_off o1)
      · exact ji_Rel_off R xs_off (jx_oN_off o1)
  by_cases h2 : ji_in x 0 (ji_gI N 0 4 - 1)
  case neg =>
    apply ji_same_of (v := some (.long (-4611686018427387904))) (X' := X) (N' := N)
    case h1 =>
      apply en_88
      simp only [s88_0, s88_1, s88_2, s88_5, s88_6, s88_9, s88_10, q88_13, s88_16, s88_17, s88_18, s88_21, s88_24, q88_25, s88_28, s88_31, s88_32, s88_35, s88_36, s88_39, q88_40, s88_43, s88_46, s88_49, xIL_1, xIS_1, xQL_2, xQL_3, xAN_1, xAN_2, xAN_3, xCP_1, xC_s, xNC_I, ji_oI1, ji_oIm, kd_sC, gR_sC, gL_sC, ji_rv_s, ji_tl_s, ji_tl_n, ji_s1, ji_s2, ji_kl, List.getD_cons_zero, List.getD_cons_succ, List.set_cons_zero, List.set_cons_succ, List.length_cons, List.length_nil, ji_b_0, ji_b_1, ji_n0, ji_n1, ji_rcb_iff, ji_ok8_0, ji_ok8_1, ji_ok8_2, ji_ok8_3, ji_ok8_4, kd_sI, kd_sL, kd_sR, kd_cp, gR_sI, gR_sL, gR_cp, gL_sI, gL_sR, gL_cp, gI_sL, gI_sR, gI_sI, gL_sL, Nat.reduceEqDiff, false_and, and_false, true_and, and_true, Nat.reduceAdd, Nat.reduceLT, Nat.reduceSub, Int32.reduceLT, Int32.reduceAdd, not_false_eq_true, not_true_eq_false, and_self, ji_b_n, if_true, if_false, ↓reduceIte, cz_m100, cz_m19, cz_m18, cz_m17, cz_m16, cz_m15, cz_m14, cz_m13, cz_m12, cz_m11, cz_m4, cz_m3, cz_m2, cz_m1, cz_1, cz_2, cz_3, cz_4, cz_5, cz_6, cz_7, cz_8, cz_9, cz_10, cz_11, cz_12, cz_13, cz_14, cz_15, cz_16, cz_20, cz_24, cz_30, cz_32, cz_33, cz_38, cz_40, cz_41, cz_42, cz_43, cz_45, cz_48, cz_57, cz_59, cz_60, cz_61, cz_63, cz_64, cz_72, cz_96, cz_97, cz_99, cz_100, cz_122, cz_124, cz_126, cz_160, cz_161, cz_168, cz_200, cz_255, cz_300, cz_960, cz_999, cz_1000, cz_1001, cz_1002, cz_1003, cz_1120, cz_2000, cz_2003, cz_2004, cz_2005, cz_3999, cz_9999, cz_14640, (xk_0 hX), (xk_1 hX), (xk_2 hX), (xk_3 hX), (xk_4 hX), (xk_5 hX), (xk_6 hX), (xk_7 hX), (xk_8 hX), (xk_9 hX), (xk_10 hX), (xk_11 hX), (xk_12 hX), (xk_13 hX), (xk_14 hX), (xk_15 hX), (xk_16 hX), (xk_17 hX), (xk_18 hX), (xk_19 hX), (xk_20 hX), (xk_21 hX), (xk_22 hX), (xk_23 hX), (xk_24 hX), (xk_25 hX), (xk_26 hX), (xk_27 hX), (xk_28 hX), (xk_29 hX), (xk_30 hX), (xk_31 hX), (xk_32 hX), (xk_33 hX), (xk_34 hX), (xk_35 hX), (xk_36 hX), (xk_37 hX), (xk_38 hX), (xk_39 hX), (xk_40 hX), (xk_41 hX), (xk_42 hX), (xk_43 hX), (xk_44 hX), (xk_45 hX), (xk_46 hX), (xk_47 hX), (xk_48 hX), (xk_49 hX), (xk_50 hX), (xk_51 hX), (xk_52 hX), (xk_53 hX), (xk_54 hX), (xk_55 hX), (xk_56 hX), (xk_57 hX), (xk_58 hX), (xk_59 hX), (xk_60 hX), (xk_61 hX), (xk_62 hX), (xk_63 hX), (xk_64 hX), (xk_65 hX), (xk_66 hX), (xk_67 hX), (xk_68 hX), (xk_69 hX), (xk_70 hX), (xk_71 hX), (xk_72 hX), (xk_73 hX), (xk_74 hX), (xk_75 hX), (xk_76 hX), (xk_77 hX), (xk_78 hX), (xk_79 hX), (xk_80 hX), (xk_81 hX), (xk_82 hX), (xk_83 hX), (xk_84 hX), (xk_85 hX), (xk_86 hX), (xk_87 hX), (xk_88 hX), (xk_89 hX), (xr_0_0 hX), (xr_0_1 hX), (xr_0_2 hX), (xr_0_3 hX), (xr_0_4 hX), (xr_0_5 hX), (xr_0_6 hX), (xr_0_7 hX), (xr_0_8 hX), (xr_0_9 hX), (xr_0_10 hX), (xr_0_11 hX), (xr_0_12 hX), (xr_0_13 hX), (xr_1_0 hX), (xr_2_2 hX), (xr_4_0 hX), (xr_4_1 hX), (xr_4_2 hX), (xr_4_3 hX), (xr_4_4 hX), (xr_5_0 hX), (xr_8_0 hX), (xr_8_1 hX), (xr_8_2 hX), (xr_8_3 hX), (xr_8_4 hX), (xr_8_5 hX), (xr_15_0 hX), (xr_15_1 hX), (xr_15_2 hX), (xr_15_3 hX), (xr_15_4 hX), (xr_15_5 hX), (xr_24_2 hX), (xr_26_0 hX), (xr_26_1 hX), (xr_26_2 hX), (xr_27_0 hX), (xr_27_1 hX), (xr_27_2 hX), (xr_27_3 hX), (xr_27_4 hX), (xr_27_5 hX), (xr_30_0 hX), (xr_31_2 hX), (xr_33_0 hX), (xr_34_2 hX), (xr_36_0 hX), (xr_37_2 hX), (xr_39_0 hX), (xr_40_2 hX), (xr_42_0 hX), (xr_43_2 hX), (xr_45_0 hX), (xr_46_2 hX), (xr_48_2 hX), (xr_50_2 hX), (xr_52_2 hX), (xr_70_2 hX), (xr_72_2 hX), (xr_74_2 hX), (xr_76_2 hX), (xr_54_0 hX), (xr_54_1 hX), (xr_55_0 hX), (xr_55_1 hX), (xr_55_2 hX), (xr_55_3 hX), (xr_55_4 hX), (xr_55_5 hX), (xr_62_0 hX), (xr_62_1 hX), (xr_62_2 hX), (xr_62_3 hX), (xr_62_4 hX), (xr_62_5 hX), (xr_62_6 hX), (xr_78_0 hX), (xr_78_1 hX), (xr_78_2 hX), (xr_82_0 hX), (xr_82_1 hX), (xr_82_2 hX), (xr_83_0 hX), (xr_83_1 hX), (xr_83_2 hX), (xr_83_3 hX), (xi_2_0 hX), (xi_24_0 hX), (xi_31_0 hX), (xi_34_0 hX), (xi_37_0 hX), (xi_40_0 hX), (xi_43_0 hX), (xi_46_0 hX), (xi_48_0 hX), (xi_50_0 hX), (xi_52_0 hX), (xi_70_0 hX), (xi_72_0 hX), (xi_74_0 hX), (xi_76_0 hX), (xi_2_1 hX), (xi_24_1 hX), (xi_31_1 hX), (xi_34_1 hX), (xi_37_1 hX), (xi_40_1 hX), (xi_43_1 hX), (xi_46_1 hX), (xi_48_1 hX), (xi_50_1 hX), (xi_52_1 hX), (xi_70_1 hX), (xi_72_1 hX), (xi_74_1 hX), (xi_76_1 hX), h1, m65b R, h2]
    case h2 =>
      apply en_193
      simp only [s193_0, s193_1, s193_2, s193_5, q193_6, s193_9, s193_12, s193_13, q193_14, s193_17, s193_20, s193_21, q193_22, s193_25, s193_28, s193_31, xIL_1, xIS_1, xQL_2, xQL_3, xAN_1, xAN_2, xAN_3, xCP_1, xC_s, xNC_I, ji_oI1, ji_oIm, kd_sC, gR_sC, gL_sC, ji_rv_s, ji_tl_s, ji_tl_n, ji_s1, ji_s2, ji_kl, List.getD_cons_zero, List.getD_cons_succ, List.set_cons_zero, List.set_cons_succ, List.length_cons, List.length_nil, ji_b_0, ji_b_1, ji_n0, ji_n1, ji_rcb_iff, ji_ok8_0, ji_ok8_1, ji_ok8_2, ji_ok8_3, ji_ok8_4, kd_sI, kd_sL, kd_sR, kd_cp, gR_sI, gR_sL, gR_cp, gL_sI, gL_sR, gL_cp, gI_sL, gI_sR, gI_sI, gL_sL, Nat.reduceEqDiff, false_and, and_false, true_and, and_true, Nat.reduceAdd, Nat.reduceLT, Nat.reduceSub, Int32.reduceLT, Int32.reduceAdd, not_false_eq_true, not_true_eq_false, and_self, ji_b_n, if_true, if_false, ↓reduceIte, cz_m100, cz_m19, cz_m18, cz_m17, cz_m16, cz_m15, cz_m14, cz_m13, cz_m12, cz_m11, cz_m4, cz_m3, cz_m2, cz_m1, cz_1, cz_2, cz_3, cz_4, cz_5, cz_6, cz_7, cz_8, cz_9, cz_10, cz_11, cz_12, cz_13, cz_14, cz_15, cz_16, cz_20, cz_24, cz_30, cz_32, cz_33, cz_38, cz_40, cz_41, cz_42, cz_43, cz_45, cz_48, cz_57, cz_59, cz_60, cz_61, cz_63, cz_64, cz_72, cz_96, cz_97, cz_99, cz_100, cz_122, cz_124, cz_126, cz_160, cz_161, cz_168, cz_200, cz_255, cz_300, cz_960, cz_999, cz_1000, cz_1001, cz_1002, cz_1003, cz_1120, cz_2000, cz_2003, cz_2004, cz_2005, cz_3999, cz_9999, cz_14640, mk_0 hN, h1, m166 hN, h2]
    case h3 => exact R
  obtain ⟨B0, B1, -⟩ := ji_book R h2
  have hb := R.books.2.1.2
  have ex : Int32.ofNat x.toInt.toNat = x := by rw [vi_eq, vi_nn (by omega)]; omega
  obtain ⟨f, n, N', o1, A, B, -⟩ := m91 C (b := x.toInt.toNat) (by omega)
  rw [ex] at A B
  have A := cl_le A (e := d + 59) (by omega)
  have B := cl_le B (e := d + 59) (by omega)
  apply ji_same_of (v := some (.long (jx_lo (jx_v (jx_fN N x.toInt.toNat) (jx_pt σ 2)) (ji_gI N 6 x.toInt.toNat)))) (X' := jx_XS X f n) (N' := N')
  case h1 =>
    apply en_88
    simp only [s88_0, s88_1, s88_2, s88_5, s88_6, s88_9, s88_10, q88_13, s88_16, s88_17, s88_18, s88_21, s88_24, q88_25, s88_28, s88_31, s88_32, s88_35, s88_36, s88_39, q88_40, s88_43, s88_46, s88_49, xIL_1, xIS_1, xQL_2, xQL_3, xAN_1, xAN_2, xAN_3, xCP_1, xC_s, xNC_I, ji_oI1, ji_oIm, kd_sC, gR_sC, gL_sC, ji_rv_s, ji_tl_s, ji_tl_n, ji_s1, ji_s2, ji_kl, List.getD_cons_zero, List.getD_cons_succ, List.set_cons_zero, List.set_cons_succ, List.length_cons, List.length_nil, ji_b_0, ji_b_1, ji_n0, ji_n1, ji_rcb_iff, ji_ok8_0, ji_ok8_1, ji_ok8_2, ji_ok8_3, ji_ok8_4, kd_sI, kd_sL, kd_sR, kd_cp, gR_sI, gR_sL, gR_cp, gL_sI, gL_sR, gL_cp, gI_sL, gI_sR, gI_sI, gL_sL, Nat.reduceEqDiff, false_and, and_false, true_and, and_true, Nat.reduceAdd, Nat.reduceLT, Nat.reduceSub, Int32.reduceLT, Int32.reduceAdd, not_false_eq_true, not_true_eq_false, and_self, ji_b_n, if_true, if_false, ↓reduceIte, cz_m100, cz_m19, cz_m18, cz_m17, cz_m16, cz_m15, cz_m14, cz_m13, cz_m12, cz_m11, cz_m4, cz_m3, cz_m2, cz_m1, cz_1, cz_2, cz_3, cz_4, cz_5, cz_6, cz_7, cz_8, cz_9, cz_10, cz_11, cz_12, cz_13, cz_14, cz_15, cz_16, cz_20, cz_24, cz_30, cz_32, cz_33, cz_38, cz_40, cz_41, cz_42, cz_43, cz_45, cz_48, cz_57, cz_59, cz_60, cz_61, cz_63, cz_64, cz_72, cz_96, cz_97, cz_99, cz_100, cz_122, cz_124, cz_126, cz_160, cz_161, cz_168, cz_200, cz_255, cz_300, cz_960, cz_999, cz_1000, cz_1001, cz_1002, cz_1003, cz_1120, cz_2000, cz_2003, cz_2004, cz_2005, cz_3999, cz_9999, cz_14640, (xk_0 hX), (xk_1 hX), (xk_2 hX), (xk_3 hX), (xk_4 hX), (xk_5 hX), (xk_6 hX), (xk_7 hX), (xk_8 hX), (xk_9 hX), (xk_10 hX), (xk_11 hX), (xk_12 hX), (xk_13 hX), (xk_14 hX), (xk_15 hX), (xk_16 hX), (xk_17 hX), (xk_18 hX), (xk_19 hX), (xk_20 hX), (xk_21 hX), (xk_22 hX), (xk_23 hX), (xk_24 hX), (xk_25 hX), (xk_26 hX), (xk_27 hX), (xk_28 hX), (xk_29 hX), (xk_30 hX), (xk_31 hX), (xk_32 hX), (xk_33 hX), (xk_34 hX), (xk_35 hX), (xk_36 hX), (xk_37 hX), (xk_38 hX), (xk_39 hX), (xk_40 hX), (xk_41 hX), (xk_42 hX), (xk_43 hX), (xk_44 hX), (xk_45 hX), (xk_46 hX), (xk_47 hX), (xk_48 hX), (xk_49 hX), (xk_50 hX), (xk_51 hX), (xk_52 hX), (xk_53 hX), (xk_54 hX), (xk_55 hX), (xk_56 hX), (xk_57 hX), (xk_58 hX), (xk_59 hX), (xk_60 hX), (xk_61 hX), (xk_62 hX), (xk_63 hX), (xk_64 hX), (xk_65 hX), (xk_66 hX), (xk_67 hX), (xk_68 hX), (xk_69 hX), (xk_70 hX), (xk_71 hX), (xk_72 hX), (xk_73 hX), (xk_74 hX), (xk_75 hX), (xk_76 hX), (xk_77 hX), (xk_78 hX), (xk_79 hX), (xk_80 hX), (xk_81 hX), (xk_82 hX), (xk_83 hX), (xk_84 hX), (xk_85 hX), (xk_86 hX), (xk_87 hX), (xk_88 hX), (xk_89 hX), (xr_0_0 hX), (xr_0_1 hX), (xr_0_2 hX), (xr_0_3 hX), (xr_0_4 hX), (xr_0_5 hX), (xr_0_6 hX), (xr_0_7 hX), (xr_0_8 hX), (xr_0_9 hX), (xr_0_10 hX), (xr_0_11 hX), (xr_0_12 hX), (xr_0_13 hX), (xr_1_0 hX), (xr_2_2 hX), (xr_4_0 hX), (xr_4_1 hX), (xr_4_2 hX), (xr_4_3 hX), (xr_4_4 hX), (xr_5_0 hX), (xr_8_0 hX), (xr_8_1 hX), (xr_8_2 hX), (xr_8_3 hX), (xr_8_4 hX), (xr_8_5 hX), (xr_15_0 hX), (xr_15_1 hX), (xr_15_2 hX), (xr_15_3 hX), (xr_15_4 hX), (xr_15_5 hX), (xr_24_2 hX), (xr_26_0 hX), (xr_26_1 hX), (xr_26_2 hX), (xr_27_0 hX), (xr_27_1 hX), (xr_27_2 hX), (xr_27_3 hX), (xr_27_4 hX), (xr_27_5 hX), (xr_30_0 hX), (xr_31_2 hX), (xr_33_0 hX), (xr_34_2 hX), (xr_36_0 hX), (xr_37_2 hX), (xr_39_0 hX), (xr_40_2 hX), (xr_42_0 hX), (xr_43_2 hX), (xr_45_0 hX), (xr_46_2 hX), (xr_48_2 hX), (xr_50_2 hX), (xr_52_2 hX), (xr_70_2 hX), (xr_72_2 hX), (xr_74_2 hX), (xr_76_2 hX), (xr_54_0 hX), (xr_54_1 hX), (xr_55_0 hX), (xr_55_1 hX), (xr_55_2 hX), (xr_55_3 hX), (xr_55_4 hX), (xr_55_5 hX), (xr_62_0 hX), (xr_62_1 hX), (xr_62_2 hX), (xr_62_3 hX), (xr_62_4 hX), (xr_62_5 hX), (xr_62_6 hX), (xr_78_0 hX), (xr_78_1 hX), (xr_78_2 hX), (xr_82_0 hX), (xr_82_1 hX), (xr_82_2 hX), (xr_83_0 hX), (xr_83_1 hX), (xr_83_2 hX), (xr_83_3 hX), (xi_2_0 hX), (xi_24_0 hX), (xi_31_0 hX), (xi_34_0 hX), (xi_37_0 hX), (xi_40_0 hX), (xi_43_0 hX), (xi_46_0 hX), (xi_48_0 hX), (xi_50_0 hX), (xi_52_0 hX), (xi_70_0 hX), (xi_72_0 hX), (xi_74_0 hX), (xi_76_0 hX), (xi_2_1 hX), (xi_24_1 hX), (xi_31_1 hX), (xi_34_1 hX), (xi_37_1 hX), (xi_40_1 hX), (xi_43_1 hX), (xi_46_1 hX), (xi_48_1 hX), (xi_50_1 hX), (xi_52_1 hX), (xi_70_1 hX), (xi_72_1 hX), (xi_74_1 hX), (xi_76_1 hX), h1, m65b R, h2, A]
  case h2 =>
    apply en_193
    simp only [s193_0, s193_1, s193_2, s193_5, q193_6, s193_9, s193_12, s193_13, q193_14, s193_17, s193_20, s193_21, q193_22, s193_25, s193_28, s193_31, xIL_1, xIS_1, xQL_2, xQL_3, xAN_1, xAN_2, xAN_3, xCP_1, xC_s, xNC_I, ji_oI1, ji_oIm, kd_sC, gR_sC, gL_sC, ji_rv_s, ji_tl_s, ji_tl_n, ji_s1, ji_s2, ji_kl, List.getD_cons_zero, List.getD_cons_succ, List.set_cons_zero, List.set_cons_succ, List.length_cons, List.length_nil, ji_b_0, ji_b_1, ji_n0, ji_n1, ji_rcb_iff, ji_ok8_0, ji_ok8_1, ji_ok8_2, ji_ok8_3, ji_ok8_4, kd_sI, kd_sL, kd_sR, kd_cp, gR_sI, gR_sL, gR_cp, gL_sI, gL_sR, gL_cp, gI_sL, gI_sR, gI_sI, gL_sL, Nat.reduceEqDiff, false_and, and_false, true_and, and_true, Nat.reduceAdd, Nat.reduceLT, Nat.reduceSub, Int32.reduceLT, Int32.reduceAdd, not_false_eq_true, not_true_eq_false, and_self, ji_b_n, if_true, if_false, ↓reduceIte, cz_m100, cz_m19, cz_m18, cz_m17, cz_m16, cz_m15, cz_m14, cz_m13, cz_m12, cz_m11, cz_m4, cz_m3, cz_m2, cz_m1, cz_1, cz_2, cz_3, cz_4, cz_5, cz_6, cz_7, cz_8, cz_9, cz_10, cz_11, cz_12, cz_13, cz_14, cz_15, cz_16, cz_20, cz_24, cz_30, cz_32, cz_33, cz_38, cz_40, cz_41, cz_42, cz_43, cz_45, cz_48, cz_57, cz_59, cz_60, cz_61, cz_63, cz_64, cz_72, cz_96, cz_97, cz_99, cz_100, cz_122, cz_124, cz_126, cz_160, cz_161, cz_168, cz_200, cz_255, cz_300, cz_960, cz_999, cz_1000, cz_1001, cz_1002, cz_1003, cz_1120, cz_2000, cz_2003, cz_2004, cz_2005, cz_3999, cz_9999, cz_14640, mk_0 hN, h1, m166 hN, h2, B]
  case h3 => exact ji_Rel_off R xs_off (jx_oN_off o1)
end JIV
