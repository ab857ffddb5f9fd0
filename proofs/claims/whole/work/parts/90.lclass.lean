/-! ===== lots: the class ===== -/
theorem jz_cm1 {u v : Int64} : (lg_cmp u v < 0) ↔ u < v := by
  unfold lg_cmp
  by_cases h : v < u
  · rw [if_pos h]
    constructor
    · intro q; exact absurd q (by decide)
    · intro q; rw [Int64.lt_iff_toInt_lt] at h q; omega
  · rw [if_neg h]
    by_cases e : u = v
    · rw [if_pos e]
      constructor
      · intro q; exact absurd q (by decide)
      · intro q; rw [e, Int64.lt_iff_toInt_lt] at q; omega
    · rw [if_neg e]
      constructor
      · intro _
        rw [Int64.lt_iff_toInt_lt] at h ⊢
        have : ¬ u.toInt = v.toInt := fun z => e (Int64.toInt_inj.mp z)
        omega
      · intro _; decide
theorem jz_cm2 {u v : Int64} : (0 < lg_cmp u v) ↔ v < u := by
  unfold lg_cmp
  by_cases h : v < u
  · rw [if_pos h]
    exact ⟨fun _ => h, fun _ => by decide⟩
  · rw [if_neg h]
    by_cases e : u = v
    · rw [if_pos e]
      exact ⟨fun q => absurd q (by decide), fun q => absurd q h⟩
    · rw [if_neg e]
      exact ⟨fun q => absurd q (by decide), fun q => absurd q h⟩
theorem wl_bm {n : Int} (h1 : -9223372036854775808 ≤ n) (h2 : n ≤ 9223372036854775807) : n.bmod (2 ^ 64) = n := by
  rw [Int.bmod_eq_of_le (by omega) (by omega)]
theorem wl_lt {x y : Int64} : x < y ↔ x.toInt < y.toInt := Int64.lt_iff_toInt_lt
theorem jz_lo_b {v h : Int32} (hh : ji_bt h 0 1000) : 0 ≤ (jx_lo v h).toInt ∧ (jx_lo v h).toInt ≤ 21474836480 := by
  have v1 := vi_lo v
  have v2 := vi_hi v
  unfold ji_bt at hh
  unfold jx_lo
  by_cases g : v < 0
  · rw [if_pos g]
    exact ⟨by decide, by decide⟩
  · rw [if_neg g]
    have g' : 0 ≤ v.toInt := by
      rw [vi_lt] at g
      have : (0 : Int32).toInt = 0 := rfl
      omega
    have e1 : v.toInt64.toInt = v.toInt := Int32.toInt_toInt64 v
    have e2 : h.toInt64.toInt = h.toInt := Int32.toInt_toInt64 h
    have m0 := Int.mul_nonneg g' hh.1
    have m1 : v.toInt * h.toInt ≤ 2147483648 * 1000 := Int.mul_le_mul (by omega) hh.2 hh.1 (by omega)
    have em : (v.toInt64 * h.toInt64).toInt = v.toInt * h.toInt := by
      rw [Int64.toInt_mul, e1, e2, wl_bm (by omega) (by omega)]
    have e100 : (100 : Int64).toInt = 100 := rfl
    have ed : (v.toInt64 * h.toInt64 / 100).toInt = v.toInt * h.toInt / 100 := by
      rw [Int64.toInt_div, em, e100, Int.tdiv_eq_ediv_of_nonneg m0, wl_bm (by omega) (by omega)]
    rw [ed]
    omega
theorem jz_la_b {M : ji_M} {σ : List Int32 × List Int32 × List Int32} : ∀ b : Nat, b ≤ 24 → (∀ i, i < b → ji_bt (ji_gI M 6 i) 0 1000) → 0 ≤ (jx_la M σ b).toInt ∧ (jx_la M σ b).toInt ≤ 21474836480 * (b : Int) := by
  intro b
  induction b with
  | zero => intro _ _; exact ⟨by show 0 ≤ (0 : Int64).toInt; decide, by show (0 : Int64).toInt ≤ 21474836480 * ((0 : Nat) : Int); decide⟩
  | succ b ih =>
    intro hb h
    have i := ih (by omega) (fun i hi => h i (by omega))
    have l := jz_lo_b (v := jx_v (jx_fN M b) (jx_pt σ 2)) (h b (by omega))
    have e : (jx_la M σ (b + 1)).toInt = (jx_la M σ b).toInt + (jx_lo (jx_v (jx_fN M b) (jx_pt σ 2)) (ji_gI M 6 b)).toInt := by
      show (jx_la M σ b + jx_lo (jx_v (jx_fN M b) (jx_pt σ 2)) (ji_gI M 6 b)).toInt = _
      rw [Int64.toInt_add, wl_bm (by omega) (by omega)]
    omega
def jz_bx (Lm : List Nat) (X : ji_M) (x : Option (Int64 × Nat)) : Prop := match x with
  | none => ji_gL X 26 3 = 9223372036854775807
  | some q => ji_gL X 26 3 = q.1 ∧ jz_O Lm (ji_gI X 29) Lm.length q.2
def jz_IX (P : ji_P) (Lm : List Nat) (n : Nat) (N X : ji_M) (j v : Nat) (x : Option (Int64 × Nat)) : Prop := ji_Rel P X N ∧ ji_gR X 26 4 = some 4 ∧ ji_gI X 26 5 = Int32.ofNat n ∧ jz_bx Lm X x ∧ jz_O Lm (ji_gI X 28) j v
/-- the ints that stay: the relation's, and the stocks to a depth -/
def jz_F (j : Nat) (X X' : ji_M) : Prop := ji_offX X X' ∧ ∀ a, 30 ≤ a → a < 33 + 3 * j → ji_gI X' a = ji_gI X a
section JIV
variable {X X' X'' Y N N' M M' : ji_M} {P : ji_P} {x y z : Int32} {f g : ji_F} {Lm : List Nat} {d a b r c m s p n i j k v u ρ : Nat} {o : Option Value × ji_M} {σ : List Int32 × List Int32 × List Int32} {q : Option (Int64 × Nat)}
theorem jz_F_r : jz_F j X X := ⟨ji_offX_r, fun _ _ _ => rfl⟩
theorem jz_F_t (h : jz_F j X X') (h' : jz_F j X' X'') : jz_F j X X'' := ⟨ji_offX_t h.1 h'.1, fun a q1 q2 => (h'.2 a q1 q2).trans (h.2 a q1 q2)⟩
theorem jz_F_m (h : jz_F (j + 1) X X') : jz_F j X X' := ⟨h.1, fun a q1 q2 => h.2 a q1 (by omega)⟩
theorem jz_bs (hX : ji_XF X) (hj : j ≤ 5) : jz_tg X (30 + 3 * j) (31 + 3 * j) (32 + 3 * j) ∧ ji_gR X 27 j = some (30 + 3 * j) := by
  match j, hj with
  | 0, _ => exact ⟨⟨⟨xk_30 hX, xr_30_0 hX, xk_31 hX, xr_31_2 hX, xk_32 hX⟩, xi_31_0 hX, xi_31_1 hX⟩, xr_27_0 hX⟩
  | 1, _ => exact ⟨⟨⟨xk_33 hX, xr_33_0 hX, xk_34 hX, xr_34_2 hX, xk_35 hX⟩, xi_34_0 hX, xi_34_1 hX⟩, xr_27_1 hX⟩
  | 2, _ => exact ⟨⟨⟨xk_36 hX, xr_36_0 hX, xk_37 hX, xr_37_2 hX, xk_38 hX⟩, xi_37_0 hX, xi_37_1 hX⟩, xr_27_2 hX⟩
  | 3, _ => exact ⟨⟨⟨xk_39 hX, xr_39_0 hX, xk_40 hX, xr_40_2 hX, xk_41 hX⟩, xi_40_0 hX, xi_40_1 hX⟩, xr_27_3 hX⟩
  | 4, _ => exact ⟨⟨⟨xk_42 hX, xr_42_0 hX, xk_43 hX, xr_43_2 hX, xk_44 hX⟩, xi_43_0 hX, xi_43_1 hX⟩, xr_27_4 hX⟩
  | 5, _ => exact ⟨⟨⟨xk_45 hX, xr_45_0 hX, xk_46 hX, xr_46_2 hX, xk_47 hX⟩, xi_46_0 hX, xi_46_1 hX⟩, xr_27_5 hX⟩
theorem jz_xs (hj : j ≤ 5) : (∀ k, ji_xs (30 + 3 * j) k = true) ∧ ji_xs (31 + 3 * j) 3 = true ∧ ∀ k, ji_xs (32 + 3 * j) k = true := by
  match j, hj with
  | 0, _ => exact ⟨fun _ => rfl, rfl, fun _ => rfl⟩
  | 1, _ => exact ⟨fun _ => rfl, rfl, fun _ => rfl⟩
  | 2, _ => exact ⟨fun _ => rfl, rfl, fun _ => rfl⟩
  | 3, _ => exact ⟨fun _ => rfl, rfl, fun _ => rfl⟩
  | 4, _ => exact ⟨fun _ => rfl, rfl, fun _ => rfl⟩
  | 5, _ => exact ⟨fun _ => rfl, rfl, fun _ => rfl⟩
theorem jz_XIj (hj : j ≤ 5) : ∀ e ∈ ji_XI, e.1 ≠ 30 + 3 * j ∧ e.1 ≠ 32 + 3 * j := by
  match j, hj with
  | 0, _ => decide +kernel
  | 1, _ => decide +kernel
  | 2, _ => decide +kernel
  | 3, _ => decide +kernel
  | 4, _ => decide +kernel
  | 5, _ => decide +kernel
theorem jz_soj (hj : j ≤ 5) : jz_so (30 + 3 * j) (32 + 3 * j) := ⟨Or.inr (by omega), Or.inr (by omega), jz_XIj hj⟩
theorem jz_xs4 (h : i ≠ 5) : ji_xs 4 i = false := by
  have e : Nat.beq i 5 = false := by
    cases q : Nat.beq i 5 with
    | false => rfl
    | true => exact absurd (Nat.eq_of_beq_eq_true q) h
  unfold ji_xs
  rw [e]
  rfl
theorem jz_xs9 (h1 : 9 ≤ a) (h2 : a ≤ 21) : ∀ k, ji_xs a k = false := by
  obtain ⟨t, ht⟩ : ∃ t, a = 9 + t := ⟨a - 9, by omega⟩
  subst ht
  have ht : t ≤ 12 := by omega
  match t, ht with
  | 0, _ => exact fun _ => rfl
  | 1, _ => exact fun _ => rfl
  | 2, _ => exact fun _ => rfl
  | 3, _ => exact fun _ => rfl
  | 4, _ => exact fun _ => rfl
  | 5, _ => exact fun _ => rfl
  | 6, _ => exact fun _ => rfl
  | 7, _ => exact fun _ => rfl
  | 8, _ => exact fun _ => rfl
  | 9, _ => exact fun _ => rfl
  | 10, _ => exact fun _ => rfl
  | 11, _ => exact fun _ => rfl
  | 12, _ => exact fun _ => rfl
theorem jz_C_fr (hj : j ≤ 5) (C : jx_C X M (30 + 3 * j) (31 + 3 * j) (32 + 3 * j) ρ σ) (F : jz_F j X X') : jx_C X' M (30 + 3 * j) (31 + 3 * j) (32 + 3 * j) ρ σ := by
  have hX := C.1
  have hX' := ji_offX_XF F.1 hX
  obtain ⟨⟨⟨t1, t2, t3, t4, t5⟩, t6, t7⟩, -⟩ := jz_bs hX' hj
  obtain ⟨S, h1, h2, h3, h4, h5, h6⟩ := C.2.2.1
  have es := F.2 (30 + 3 * j) (by omega) (by omega)
  have er := F.2 (31 + 3 * j) (by omega) (by omega)
  have ec := F.2 (32 + 3 * j) (by omega) (by omega)
  have SR : jq_SR X' M (30 + 3 * j) (31 + 3 * j) (32 + 3 * j) := by
    refine ⟨⟨t1, t2, t3, t4, t5, t6, t7, by omega, by omega, ?_, ?_⟩, ?_, ?_, ?_, ?_, h5, ?_⟩
    · rw [er, h4]; exact h5.1
    · rw [er, h4]; exact h5.2
    · rw [es]; exact h1
    · rw [es]; exact h2
    · rw [es]; exact h3
    · rw [er]; exact h4
    · rw [ec]; exact h6
  exact jz_C_mk C C.2.2.2.1 hX' C.2.1 SR (fun i hi => F.1.2.1 4 i (jz_xs4 hi)) (fun a h1 h2 => ji_offX_F F.1 (jz_xs9 h1 h2)) rfl rfl rfl
theorem jz_offX (h1 : X'.1 = X.1) (hR : ∀ a i, ji_gR X' a i = ji_gR X a i) (h : ∀ a b, ji_xs a b = false → ji_gI X' a b = ji_gI X a b) : ji_offX X X' := ⟨h1, h, fun e _ => hR e.1 e.2.1⟩
/-- a whole order -/
theorem m107 (I : jz_IX P Lm n N X Lm.length v q) (hL : Lm.length ≤ 5) (h0 : jz_lv Lm n N σ v < 9223372036854775807) : ∃ X', (∀ d, ji_CL (d + 1) 107 [.ref 26, .long (jz_lv Lm n N σ v)] X = some (none, X')) ∧ jz_IX P Lm n N X' Lm.length v (jz_st Lm n N σ q v) ∧ jz_F 5 X X' := by
  have I0 := I
  obtain ⟨R, g4, g5, gb, go⟩ := I
  have hX := R.xf
  have w1 : 0 + 5 ≤ 5 := by omega
  have w2 : ¬ (5 : Int32) < 0 := by decide
  have w3 : ¬ (0 : Int32) < 0 := by decide
  obtain ⟨X', eX⟩ : ∃ X', X' = ji_cp (ji_sL X 26 3 (jz_lv Lm n N σ v)) 28 0 29 0 5 := ⟨_, rfl⟩
  have oX : ji_offX X X' := by rw [eX]; exact ji_offX_cp (ji_offX_sL ji_offX_r) (fun _ => rfl)
  have xo : ∀ a, a ≠ 29 → ji_gI X' a = ji_gI X a := fun a ha => by
    rw [eX]
    exact funext fun i => by rw [gI_cp, if_neg (fun z => ha z.1)]; rfl
  have x29 : ∀ l, l < 5 → ji_gI X' 29 l = ji_gI X 28 l := fun l hl => by
    rw [eX, gI_cp, if_pos ⟨rfl, by omega, by omega⟩, show 0 + (l - 0) = l by omega]
    rfl
  have xL : ji_gL X' 26 3 = jz_lv Lm n N σ v := by rw [eX, gL_cp, gL_sL, if_pos ⟨rfl, rfl⟩]
  have new : jz_IX P Lm n N X' Lm.length v (some (jz_lv Lm n N σ v, v)) := by
    refine ⟨ji_Rel_offX R oX, by rw [eX]; exact g4, by rw [xo 26 (by decide)]; exact g5, ⟨xL, jz_O_eq _ _ (fun l hl => (x29 l (by omega)).symm) go⟩, ?_⟩
    rw [xo 28 (by decide)]; exact go
  have fr : jz_F 5 X X' := ⟨oX, fun a h1 _ => xo a (by omega)⟩
  have better : ∀ d, jz_lv Lm n N σ v < ji_gL X 26 3 → ji_CL (d + 1) 107 [.ref 26, .long (jz_lv Lm n N σ v)] X = some (none, X') := by
    intro d h
    apply en_107
    simp only [s107_0, s107_1, s107_2, s107_5, s107_6, s107_9, s107_10, s107_11, s107_14, s107_15, s107_18, s107_19, s107_20, s107_23, s107_24, q107_25, s107_28, xIL_1, xIS_1, xQL_2, xQL_3, xAN_1, xAN_2, xAN_3, xCP_1, xC_s, xNC_I, ji_oI1, ji_oIm, kd_sC, gR_sC, gL_sC, ji_rv_s, ji_tl_s, ji_tl_n, ji_s1, ji_s2, ji_kl, List.getD_cons_zero, List.getD_cons_succ, List.set_cons_zero, List.set_cons_succ, List.length_cons, List.length_nil, ji_b_0, ji_b_1, ji_n0, ji_n1, ji_rcb_iff, ji_ok8_0, ji_ok8_1, ji_ok8_2, ji_ok8_3, ji_ok8_4, kd_sI, kd_sL, kd_sR, kd_cp, gR_sI, gR_sL, gR_cp, gL_sI, gL_sR, gL_cp, gI_sL, gI_sR, gI_sI, gL_sL, Nat.reduceEqDiff, false_and, and_false, true_and, and_true, Nat.reduceAdd, Nat.reduceLT, Nat.reduceSub, Int32.reduceLT, Int32.reduceAdd, not_false_eq_true, not_true_eq_false, and_self, ji_b_n, if_true, if_false, ↓reduceIte, cz_m100, cz_m19, cz_m18, cz_m17, cz_m16, cz_m15, cz_m14, cz_m13, cz_m12, cz_m11, cz_m4, cz_m3, cz_m2, cz_m1, cz_1, cz_2, cz_3, cz_4, cz_5, cz_6, cz_7, cz_8, cz_9, cz_10, cz_11, cz_12, cz_13, cz_14, cz_15, cz_16, cz_20, cz_24, cz_30, cz_32, cz_33, cz_38, cz_40, cz_41, cz_42, cz_43, cz_45, cz_48, cz_57, cz_59, cz_60, cz_61, cz_63, cz_64, cz_72, cz_96, cz_97, cz_99, cz_100, cz_122, cz_124, cz_126, cz_160, cz_161, cz_168, cz_200, cz_255, cz_300, cz_960, cz_999, cz_1000, cz_1001, cz_1002, cz_1003, cz_1120, cz_2000, cz_2003, cz_2004, cz_2005, cz_3999, cz_9999, cz_14640, xk_26 hX, jz_cm1, h, xr_26_1 hX, xr_26_2 hX, xk_28 hX, xk_29 hX, tn_0, tn_5, w1, w2, w3, ← eX]
  cases q with
  | none =>
    have gb : ji_gL X 26 3 = 9223372036854775807 := gb
    exact ⟨X', fun d => better d (by rw [gb]; exact h0), new, fr⟩
  | some t =>
    obtain ⟨gb, gq⟩ : ji_gL X 26 3 = t.1 ∧ jz_O Lm (ji_gI X 29) Lm.length t.2 := gb
    have es : jz_st Lm n N σ (some t) v = if jz_lv Lm n N σ v < t.1 then some (jz_lv Lm n N σ v, v) else some t := rfl
    by_cases h : jz_lv Lm n N σ v < t.1
    · rw [es, if_pos h]
      exact ⟨X', fun d => better d (by rw [gb]; exact h), new, fr⟩
    · rw [es, if_neg h]
      refine ⟨X, fun d => ?_, I0, jz_F_r⟩
      apply en_107
      simp only [s107_0, s107_1, s107_2, s107_5, s107_6, s107_9, s107_10, s107_11, s107_14, s107_15, s107_18, s107_19, s107_20, s107_23, s107_24, q107_25, s107_28, xIL_1, xIS_1, xQL_2, xQL_3, xAN_1, xAN_2, xAN_3, xCP_1, xC_s, xNC_I, ji_oI1, ji_oIm, kd_sC, gR_sC, gL_sC, ji_rv_s, ji_tl_s, ji_tl_n, ji_s1, ji_s2, ji_kl, List.getD_cons_zero, List.getD_cons_succ, List.set_cons_zero, List.set_cons_succ, List.length_cons, List.length_nil, ji_b_0, ji_b_1, ji_n0, ji_n1, ji_rcb_iff, ji_ok8_0, ji_ok8_1, ji_ok8_2, ji_ok8_3, ji_ok8_4, kd_sI, kd_sL, kd_sR, kd_cp, gR_sI, gR_sL, gR_cp, gL_sI, gL_sR, gL_cp, gI_sL, gI_sR, gI_sI, gL_sL, Nat.reduceEqDiff, false_and, and_false, true_and, and_true, Nat.reduceAdd, Nat.reduceLT, Nat.reduceSub, Int32.reduceLT, Int32.reduceAdd, not_false_eq_true, not_true_eq_false, and_self, ji_b_n, if_true, if_false, ↓reduceIte, cz_m100, cz_m19, cz_m18, cz_m17, cz_m16, cz_m15, cz_m14, cz_m13, cz_m12, cz_m11, cz_m4, cz_m3, cz_m2, cz_m1, cz_1, cz_2, cz_3, cz_4, cz_5, cz_6, cz_7, cz_8, cz_9, cz_10, cz_11, cz_12, cz_13, cz_14, cz_15, cz_16, cz_20, cz_24, cz_30, cz_32, cz_33, cz_38, cz_40, cz_41, cz_42, cz_43, cz_45, cz_48, cz_57, cz_59, cz_60, cz_61, cz_63, cz_64, cz_72, cz_96, cz_97, cz_99, cz_100, cz_122, cz_124, cz_126, cz_160, cz_161, cz_168, cz_200, cz_255, cz_300, cz_960, cz_999, cz_1000, cz_1001, cz_1002, cz_1003, cz_1120, cz_2000, cz_2003, cz_2004, cz_2005, cz_3999, cz_9999, cz_14640, xk_26 hX, jz_cm1, gb, h]
/-- a set of books, as a list -/
def jz_M (x : Int32) (R : List Nat) : Prop := ∀ b, b < 32 → (jz_bt x b = true ↔ b ∈ R)
theorem jz_M_0 (h : jz_M x []) : x = 0 := jz_ze.mpr (fun b hb => by
  cases q : jz_bt x b with
  | false => rfl
  | true => exact absurd ((h b hb).mp q) (by simp))
theorem jz_M_n {R : List Nat} (h : jz_M x R) (hR : ∃ b ∈ R, b < 32) : ¬ x = 0 := by
  intro e
  obtain ⟨b, h1, h2⟩ := hR
  have := (h b h2).mpr h1
  rw [jz_ze.mp e b h2] at this
  cases this
theorem jz_M_e {R : List Nat} (h : jz_M x R) (hR : R.Pairwise (· < ·)) (hu : u < R.length) (hb : b < 32) (eb : R.getD u 0 = b) : jz_M (x &&& ((1 <<< (Int32.ofNat b &&& 31)) ^^^ -1)) (R.eraseIdx u) := by
  intro i hi
  rw [jz_clr hb hi]
  have srt : ∀ a b (ha : a < R.length) (hb : b < R.length), a < b → R[a] < R[b] := fun a b ha hb hab => List.pairwise_iff_getElem.mp hR a b ha hb hab
  have eu : R[u] = b := by rw [← eb, List.getD_eq_getElem?_getD, List.getElem?_eq_getElem hu]; rfl
  rw [List.mem_eraseIdx_iff_getElem, Bool.and_eq_true, h i hi, decide_eq_true_iff]
  constructor
  · rintro ⟨q1, q2⟩
    obtain ⟨t, ht, et⟩ := List.mem_iff_getElem.mp q1
    exact ⟨t, ht, fun z => q2 (by subst z; rw [← et, eu]), et⟩
  · rintro ⟨t, ht, q2, et⟩
    refine ⟨List.mem_iff_getElem.mpr ⟨t, ht, et⟩, fun z => ?_⟩
    rcases Nat.lt_or_gt_of_ne q2 with w | w
    · have := srt t u ht hu w; omega
    · have := srt u t hu ht w; omega
/-- so many of a list are below a book -/
def jz_cut (R : List Nat) (p u : Nat) : Prop := u ≤ R.length ∧ ∀ i, i < R.length → (i < u ↔ R.getD i 0 < p)
theorem jz_gD {R : List Nat} (hi : i < R.length) : R.getD i 0 = R[i] := by rw [List.getD_eq_getElem?_getD, List.getElem?_eq_getElem hi]; rfl
theorem jz_cut_in {R : List Nat} (hR : R.Pairwise (· < ·)) (h : jz_cut R p u) (hp : p ∈ R) : u < R.length ∧ R.getD u 0 = p ∧ jz_cut R (p + 1) (u + 1) := by
  obtain ⟨i, hi, ei⟩ := List.mem_iff_getElem.mp hp
  have srt : ∀ a b (ha : a < R.length) (hb : b < R.length), a < b → R.getD a 0 < R.getD b 0 := fun a b ha hb hab => by
    rw [jz_gD ha, jz_gD hb]
    exact List.pairwise_iff_getElem.mp hR a b ha hb hab
  have gi : R.getD i 0 = p := by rw [jz_gD hi, ei]
  have iu : ¬ i < u := fun z => by have := (h.2 i hi).mp z; omega
  have eu : i = u := by
    by_cases q : u < i
    · have h1 := srt u i (by omega) hi q
      have h2 := (h.2 u (by omega)).mpr (by omega)
      omega
    · omega
  subst eu
  refine ⟨hi, gi, by omega, fun t ht => ⟨fun z => ?_, fun z => ?_⟩⟩
  · by_cases e : t = i
    · subst e; omega
    · have := (h.2 t ht).mp (by omega); omega
  · by_cases e : i < t
    · have := srt i t hi ht e
      omega
    · omega
theorem jz_cut_out {R : List Nat} (h : jz_cut R p u) (hp : ¬ p ∈ R) : jz_cut R (p + 1) u := by
  refine ⟨h.1, fun i hi => ?_⟩
  rw [h.2 i hi]
  have : R.getD i 0 ≠ p := fun z => hp (by rw [← z, jz_gD hi]; exact List.getElem_mem hi)
  omega
end JIV
