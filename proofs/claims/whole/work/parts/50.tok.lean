/-! ===== tokens ===== -/
def jx_B (c : Int32) : Bool := decide (c.toInt = 32) || decide (c.toInt = 10)
def jx_L (c : Int32) : Bool := decide (97 ≤ c.toInt) && decide (c.toInt ≤ 122)
def jx_D (c : Int32) : Bool := decide (48 ≤ c.toInt) && decide (c.toInt ≤ 57)
def jx_S (c : Int32) : Bool := decide (c.toInt = 40) || decide (c.toInt = 41) || decide (c.toInt = 59) || decide (c.toInt = 43) || decide (c.toInt = 45) || decide (c.toInt = 42) || decide (c.toInt = 60) || decide (c.toInt = 61)
def jx_rn (q : Int32 → Bool) (t : ji_F) (n : Nat) : Nat → Nat → Nat
  | 0, p => p
  | f + 1, p => if p < n ∧ q (t p) = true then jx_rn q t n f (p + 1) else p
/-- where a run ends -/
def jx_en (q : Int32 → Bool) (t : ji_F) (n p : Nat) : Nat := jx_rn q t n (n - p) p
theorem jx_en_s {q : Int32 → Bool} {t : ji_F} {n p : Nat} (h : p < n) (hq : q (t p) = true) : jx_en q t n p = jx_en q t n (p + 1) := by
  unfold jx_en
  rw [show n - p = (n - (p + 1)) + 1 by omega, jx_rn, if_pos ⟨h, hq⟩]
theorem jx_en_e {q : Int32 → Bool} {t : ji_F} {n p : Nat} (h : ¬ (p < n ∧ q (t p) = true)) : jx_en q t n p = p := by
  unfold jx_en
  cases hk : n - p with
  | zero => rfl
  | succ k => rw [jx_rn, if_neg h]
theorem jx_en_b {q : Int32 → Bool} {t : ji_F} {n : Nat} : ∀ m p : Nat, n - p ≤ m → p ≤ n → p ≤ jx_en q t n p ∧ jx_en q t n p ≤ n := by
  intro m
  induction m with
  | zero =>
    intro p hm hp
    rw [jx_en_e (by omega)]
    omega
  | succ m ih =>
    intro p hm hp
    by_cases h : p < n ∧ q (t p) = true
    · rw [jx_en_s h.1 h.2]
      have := ih (p + 1) (by omega) (by omega)
      omega
    · rw [jx_en_e h]
      omega
theorem jx_en_q {q : Int32 → Bool} {t : ji_F} {n : Nat} : ∀ m p : Nat, n - p ≤ m → ∀ i, p ≤ i → i < jx_en q t n p → q (t i) = true := by
  intro m
  induction m with
  | zero =>
    intro p hm i h1 h2
    rw [jx_en_e (by omega)] at h2
    omega
  | succ m ih =>
    intro p hm i h1 h2
    by_cases h : p < n ∧ q (t p) = true
    · rw [jx_en_s h.1 h.2] at h2
      by_cases e : i = p
      · rw [e]; exact h.2
      · exact ih (p + 1) (by omega) i (by omega) h2
    · rw [jx_en_e h] at h2
      omega
def jx_ws : List (List Int32) := [[109, 111, 117, 108, 100], [105, 110, 107], [112, 97, 112, 101, 114], [119, 111, 114, 116, 104], [97, 103, 101], [115, 105, 122, 101], [102, 105, 114, 115, 116], [109, 97, 121], [118, 97, 108, 117, 101], [111, 114], [97, 110, 100], [110, 111, 116]]
def jx_ru (t : ji_F) (s k : Nat) : List Int32 := (List.range k).map (fun i => t (s + i))
/-- the word of a run, the last that fits -/
def jx_wt (l : List Int32) : Nat → Int32 × Int32
  | 0 => (1001, 0)
  | w + 1 => if l = jx_ws.getD w [] then (if w < 6 then 1003 else 2000 + Int32.ofNat w - 6, Int32.ofNat w) else jx_wt l w
def jx_nv (t : ji_F) (s : Nat) : Nat → Int32
  | 0 => 0
  | k + 1 => jx_nv t s k * 10 + t (s + k) - 48
/-- the token ahead: what it is, its value, where it begins, where it ends -/
def jx_tok (t : ji_F) (n p : Nat) : Int32 × Int32 × Nat × Nat :=
  if jx_en jx_B t n p < n then
    if jx_L (t (jx_en jx_B t n p)) = true then ((jx_wt (jx_ru t (jx_en jx_B t n p) (jx_en jx_L t n (jx_en jx_B t n p) - jx_en jx_B t n p)) 12).1, (jx_wt (jx_ru t (jx_en jx_B t n p) (jx_en jx_L t n (jx_en jx_B t n p) - jx_en jx_B t n p)) 12).2, jx_en jx_B t n p, jx_en jx_L t n (jx_en jx_B t n p))
    else if jx_D (t (jx_en jx_B t n p)) = true then (if 4 < jx_en jx_D t n (jx_en jx_B t n p) - jx_en jx_B t n p then 1001 else 1002, jx_nv t (jx_en jx_B t n p) (jx_en jx_D t n (jx_en jx_B t n p) - jx_en jx_B t n p), jx_en jx_B t n p, jx_en jx_D t n (jx_en jx_B t n p))
    else (if jx_S (t (jx_en jx_B t n p)) = true then t (jx_en jx_B t n p) else 1001, 0, jx_en jx_B t n p, jx_en jx_B t n p + 1)
  else (1000, 0, jx_en jx_B t n p, jx_en jx_B t n p)
theorem jx_tok_b {t : ji_F} {n p : Nat} (hp : p ≤ n) : p ≤ (jx_tok t n p).2.2.1 ∧ (jx_tok t n p).2.2.1 ≤ (jx_tok t n p).2.2.2 ∧ (jx_tok t n p).2.2.2 ≤ n := by
  have a := jx_en_b (q := jx_B) (t := t) (n := n) _ p (Nat.le_refl _) hp
  unfold jx_tok
  generalize jx_en jx_B t n p = s at a
  have b := jx_en_b (q := jx_L) (t := t) (n := n) _ s (Nat.le_refl _) a.2
  have c := jx_en_b (q := jx_D) (t := t) (n := n) _ s (Nat.le_refl _) a.2
  split
  · split
    · dsimp only; omega
    · split
      · dsimp only; omega
      · dsimp only; omega
  · dsimp only; omega
theorem jx_tok_1 {t : ji_F} {n p : Nat} (hp : p ≤ n) (h : (jx_tok t n p).1 ≠ 1000) : (jx_tok t n p).2.2.1 < (jx_tok t n p).2.2.2 := by
  have a := jx_en_b (q := jx_B) (t := t) (n := n) _ p (Nat.le_refl _) hp
  revert h
  unfold jx_tok
  generalize jx_en jx_B t n p = s at a
  intro h
  split at h
  · rename_i h1
    rw [if_pos h1]
    split at h
    · rename_i h2
      rw [if_pos h2]
      have b := jx_en_b (q := jx_L) (t := t) (n := n) _ (s + 1) (Nat.le_refl _) (by omega)
      dsimp only
      rw [jx_en_s h1 h2]
      omega
    · rename_i h2
      rw [if_neg h2]
      split at h
      · rename_i h3
        rw [if_pos h3]
        have b := jx_en_b (q := jx_D) (t := t) (n := n) _ (s + 1) (Nat.le_refl _) (by omega)
        dsimp only
        rw [jx_en_s h1 h3]
        omega
      · rename_i h3
        rw [if_neg h3]
        dsimp only; omega
  · exact absurd rfl h
/-! the class's reader -/
def jx_xf (pl st tk vl op fa le : Int32) (g : ji_F) : ji_F := fun k => if k = 2 then pl else if k = 3 then st else if k = 4 then tk else if k = 5 then vl else if k = 6 then op else if k = 7 then fa else if k = 9 then le else g k
def jx_XM (X : ji_M) (pl st tk vl op fa le : Int32) (sc : Nat) (sf : ji_F) : ji_M := ji_sC (ji_sC X sc sf) 5 (jx_xf pl st tk vl op fa le (ji_gI X 5))
section JIV
variable {X N M : ji_M} {P : ji_P} {x y z v t k k' : Int32} {pl st tk vl op fa le pl' st' tk' vl' op' fa' le' : Int32} {f g sf : ji_F} {d a b r c m w s n i j sc : Nat} {o : Option Value × ji_M}
theorem jx_XM_kd : ji_kd (jx_XM X pl st tk vl op fa le sc sf) a = ji_kd X a := rfl
theorem jx_XM_gR : ji_gR (jx_XM X pl st tk vl op fa le sc sf) a b = ji_gR X a b := rfl
theorem jx_XM_sz : ji_gI (jx_XM X pl st tk vl op fa le sc sf) 5 1 = ji_gI X 5 1 := rfl
theorem jx_XM_pl : ji_gI (jx_XM X pl st tk vl op fa le sc sf) 5 2 = pl := rfl
theorem jx_XM_st : ji_gI (jx_XM X pl st tk vl op fa le sc sf) 5 3 = st := rfl
theorem jx_XM_tk : ji_gI (jx_XM X pl st tk vl op fa le sc sf) 5 4 = tk := rfl
theorem jx_XM_vl : ji_gI (jx_XM X pl st tk vl op fa le sc sf) 5 5 = vl := rfl
theorem jx_XM_op : ji_gI (jx_XM X pl st tk vl op fa le sc sf) 5 6 = op := rfl
theorem jx_XM_fa : ji_gI (jx_XM X pl st tk vl op fa le sc sf) 5 7 = fa := rfl
theorem jx_XM_le : ji_gI (jx_XM X pl st tk vl op fa le sc sf) 5 9 = le := rfl
theorem jx_XW_pl : ji_sI (jx_XM X pl st tk vl op fa le sc sf) 5 2 pl' = jx_XM X pl' st tk vl op fa le sc sf := by
  unfold jx_XM
  rw [sI_sC]
  congr 1
  funext k
  unfold ji_up jx_xf
  by_cases h : k = 2
  · subst h; rfl
  · simp only [h, if_false]
theorem jx_XW_st : ji_sI (jx_XM X pl st tk vl op fa le sc sf) 5 3 st' = jx_XM X pl st' tk vl op fa le sc sf := by
  unfold jx_XM
  rw [sI_sC]
  congr 1
  funext k
  unfold ji_up jx_xf
  by_cases h : k = 3
  · subst h; rfl
  · simp only [h, if_false]
theorem jx_XW_tk : ji_sI (jx_XM X pl st tk vl op fa le sc sf) 5 4 tk' = jx_XM X pl st tk' vl op fa le sc sf := by
  unfold jx_XM
  rw [sI_sC]
  congr 1
  funext k
  unfold ji_up jx_xf
  by_cases h : k = 4
  · subst h; rfl
  · simp only [h, if_false]
theorem jx_XW_vl : ji_sI (jx_XM X pl st tk vl op fa le sc sf) 5 5 vl' = jx_XM X pl st tk vl' op fa le sc sf := by
  unfold jx_XM
  rw [sI_sC]
  congr 1
  funext k
  unfold ji_up jx_xf
  by_cases h : k = 5
  · subst h; rfl
  · simp only [h, if_false]
theorem jx_XW_op : ji_sI (jx_XM X pl st tk vl op fa le sc sf) 5 6 op' = jx_XM X pl st tk vl op' fa le sc sf := by
  unfold jx_XM
  rw [sI_sC]
  congr 1
  funext k
  unfold ji_up jx_xf
  by_cases h : k = 6
  · subst h; rfl
  · simp only [h, if_false]
theorem jx_XW_fa : ji_sI (jx_XM X pl st tk vl op fa le sc sf) 5 7 fa' = jx_XM X pl st tk vl op fa' le sc sf := by
  unfold jx_XM
  rw [sI_sC]
  congr 1
  funext k
  unfold ji_up jx_xf
  by_cases h : k = 7
  · subst h; rfl
  · simp only [h, if_false]
theorem jx_XW_le : ji_sI (jx_XM X pl st tk vl op fa le sc sf) 5 9 le' = jx_XM X pl st tk vl op fa le' sc sf := by
  unfold jx_XM
  rw [sI_sC]
  congr 1
  funext k
  unfold ji_up jx_xf
  by_cases h : k = 9
  · subst h; rfl
  · simp only [h, if_false]
theorem jx_XM_o (h5 : a ≠ 5) (hc : a ≠ sc) : ji_gI (jx_XM X pl st tk vl op fa le sc sf) a = ji_gI X a := by
  unfold jx_XM
  rw [gF_sCn h5, gF_sCn hc]
theorem jx_XM_c (h5 : sc ≠ 5) : ji_gI (jx_XM X pl st tk vl op fa le sc sf) sc = sf := by
  unfold jx_XM
  rw [gF_sCn h5, gF_sC]
theorem jx_XW_c (h5 : sc ≠ 5) : ji_sI (jx_XM X pl st tk vl op fa le sc sf) sc i v = jx_XM X pl st tk vl op fa le sc (ji_up sf i v) := by
  unfold jx_XM
  rw [sI_sC_comm h5, sI_sC]
/-- the tape as the model has it -/
def jx_tp (X : ji_M) : ji_F := fun k => (ji_gI X 6 k).toInt8.toInt32
/-- the class may read -/
def jx_OK (X : ji_M) (n sc : Nat) : Prop := ji_XF X ∧ (ji_gI X 5 1).toInt = (n : Int) ∧ n ≤ 160 ∧ (∀ k, k < n → ji_bt (ji_gI X 6 k) 0 255) ∧ ji_gR X 5 8 = some sc ∧ ji_kd X sc = some (1, 160) ∧ 9 ≤ sc ∧ sc ≤ 14
theorem jx_cv {b : Int32} (h : ji_bt b 0 255) : b.toInt8.toInt32.toInt = if b.toInt < 128 then b.toInt else b.toInt - 256 := by
  obtain ⟨h1, h2⟩ := h
  rw [Int8.toInt_toInt32, Int32.toInt_toInt8]
  have e : ((2 ^ 8 : Nat) : Int) = 256 := rfl
  split
  · rw [Int.bmod_eq_of_le (by omega) (by omega)]
  · rename_i q
    have : (b.toInt).bmod (2 ^ 8) = (b.toInt - 256).bmod (2 ^ 8) := by
      rw [show b.toInt - 256 = b.toInt - ((2 ^ 8 : Nat) : Int) by omega, Int.sub_bmod_right]
    rw [this, Int.bmod_eq_of_le (by omega) (by omega)]
theorem jx_tp_v (H : jx_OK X n sc) (hi : i < n) : (jx_tp X i).toInt = if (ji_gI X 6 i).toInt < 128 then (ji_gI X 6 i).toInt else (ji_gI X 6 i).toInt - 256 := jx_cv (H.2.2.2.1 i hi)
theorem m21 (H : jx_OK X n sc) (hv : v.toInt = (i : Int)) (hi : i < n) : ji_CL (d + 1) 21 [.ref 5, .int v] (jx_XM X pl st tk vl op fa le sc sf) = some (some (.int (ji_gI X 6 i)), jx_XM X pl st tk vl op fa le sc sf) := by
  obtain ⟨hX, h1, h2, h3, h4, h5, h6, h7⟩ := H
  have e0 : (0 : Int32).toInt = 0 := rfl
  have e160 : (160 : Int32).toInt = 160 := rfl
  have q1 : ¬ v < 0 := by rw [vi_lt]; omega
  have q2 : v < ji_gI X 5 1 := by rw [vi_lt]; omega
  have q3 : v < 160 := by rw [vi_lt]; omega
  have q4 : vp_in v 160 := vi_in.mpr ⟨by omega, by omega⟩
  have q5 : v.toNatClampNeg = i := by rw [vi_nat]; omega
  have e6 : ji_gI (jx_XM X pl st tk vl op fa le sc sf) 6 = ji_gI X 6 := jx_XM_o (by decide) (by omega)
  apply en_21
  simp only [s21_0, s21_1, s21_4, s21_5, s21_6, s21_9, s21_12, s21_13, s21_16, s21_19, s21_20, s21_23, q21_24, s21_25, s21_28, s21_29, xIL_1, xIS_1, xQL_2, xQL_3, xAN_1, xAN_2, xAN_3, xCP_1, xC_s, xNC_I, ji_oI1, ji_oIm, kd_sC, gR_sC, gL_sC, ji_rv_s, ji_tl_s, ji_tl_n, ji_s1, ji_s2, ji_kl, List.getD_cons_zero, List.getD_cons_succ, List.set_cons_zero, List.set_cons_succ, List.length_cons, List.length_nil, ji_b_0, ji_b_1, ji_n0, ji_n1, ji_rcb_iff, ji_ok8_0, ji_ok8_1, ji_ok8_2, ji_ok8_3, ji_ok8_4, kd_sI, kd_sL, kd_sR, kd_cp, gR_sI, gR_sL, gR_cp, gL_sI, gL_sR, gL_cp, gI_sL, gI_sR, gI_sI, gL_sL, Nat.reduceEqDiff, false_and, and_false, true_and, and_true, Nat.reduceAdd, Nat.reduceLT, Nat.reduceSub, Int32.reduceLT, Int32.reduceAdd, not_false_eq_true, not_true_eq_false, and_self, ji_b_n, if_true, if_false, ↓reduceIte, cz_m100, cz_m19, cz_m18, cz_m17, cz_m16, cz_m15, cz_m14, cz_m13, cz_m12, cz_m11, cz_m4, cz_m3, cz_m2, cz_m1, cz_1, cz_2, cz_3, cz_4, cz_5, cz_6, cz_7, cz_8, cz_9, cz_10, cz_11, cz_12, cz_13, cz_14, cz_15, cz_16, cz_20, cz_24, cz_30, cz_32, cz_33, cz_38, cz_40, cz_41, cz_42, cz_43, cz_45, cz_48, cz_57, cz_59, cz_60, cz_61, cz_63, cz_64, cz_72, cz_96, cz_97, cz_99, cz_100, cz_122, cz_124, cz_126, cz_160, cz_161, cz_168, cz_200, cz_255, cz_300, cz_960, cz_999, cz_1000, cz_1001, cz_1002, cz_1003, cz_1120, cz_2000, cz_2003, cz_2004, cz_2005, cz_3999, cz_9999, cz_14640, jx_XM_kd, jx_XM_gR, xk_5 hX, xr_5_0 hX, xk_6 hX, jx_XM_sz, q1, q2, q3, q4, q5, e6]
theorem m21n (H : jx_OK X n sc) (hv : (n : Int) ≤ v.toInt) : ji_CL (d + 1) 21 [.ref 5, .int v] (jx_XM X pl st tk vl op fa le sc sf) = some (some (.int 0), jx_XM X pl st tk vl op fa le sc sf) := by
  obtain ⟨hX, h1, h2, h3, h4, h5, h6, h7⟩ := H
  have e0 : (0 : Int32).toInt = 0 := rfl
  have q1 : ¬ v < 0 := by rw [vi_lt]; omega
  have q2 : ¬ v < ji_gI X 5 1 := by rw [vi_lt]; omega
  apply en_21
  simp only [s21_0, s21_1, s21_4, s21_5, s21_6, s21_9, s21_12, s21_13, s21_16, s21_19, s21_20, s21_23, q21_24, s21_25, s21_28, s21_29, xIL_1, xIS_1, xQL_2, xQL_3, xAN_1, xAN_2, xAN_3, xCP_1, xC_s, xNC_I, ji_oI1, ji_oIm, kd_sC, gR_sC, gL_sC, ji_rv_s, ji_tl_s, ji_tl_n, ji_s1, ji_s2, ji_kl, List.getD_cons_zero, List.getD_cons_succ, List.set_cons_zero, List.set_cons_succ, List.length_cons, List.length_nil, ji_b_0, ji_b_1, ji_n0, ji_n1, ji_rcb_iff, ji_ok8_0, ji_ok8_1, ji_ok8_2, ji_ok8_3, ji_ok8_4, kd_sI, kd_sL, kd_sR, kd_cp, gR_sI, gR_sL, gR_cp, gL_sI, gL_sR, gL_cp, gI_sL, gI_sR, gI_sI, gL_sL, Nat.reduceEqDiff, false_and, and_false, true_and, and_true, Nat.reduceAdd, Nat.reduceLT, Nat.reduceSub, Int32.reduceLT, Int32.reduceAdd, not_false_eq_true, not_true_eq_false, and_self, ji_b_n, if_true, if_false, ↓reduceIte, cz_m100, cz_m19, cz_m18, cz_m17, cz_m16, cz_m15, cz_m14, cz_m13, cz_m12, cz_m11, cz_m4, cz_m3, cz_m2, cz_m1, cz_1, cz_2, cz_3, cz_4, cz_5, cz_6, cz_7, cz_8, cz_9, cz_10, cz_11, cz_12, cz_13, cz_14, cz_15, cz_16, cz_20, cz_24, cz_30, cz_32, cz_33, cz_38, cz_40, cz_41, cz_42, cz_43, cz_45, cz_48, cz_57, cz_59, cz_60, cz_61, cz_63, cz_64, cz_72, cz_96, cz_97, cz_99, cz_100, cz_122, cz_124, cz_126, cz_160, cz_161, cz_168, cz_200, cz_255, cz_300, cz_960, cz_999, cz_1000, cz_1001, cz_1002, cz_1003, cz_1120, cz_2000, cz_2003, cz_2004, cz_2005, cz_3999, cz_9999, cz_14640, jx_XM_kd, xk_5 hX, jx_XM_sz, q1, q2]
theorem m22 : ji_CL (d + 1) 22 [.int x] M = some (some (.int (ji_b (ji_in x 97 122))), M) := by
  apply en_22
  by_cases h1 : x < 97
  · rw [ji_b_F (fun q => q.1 h1)]
    simp only [s22_0, s22_1, s22_3, s22_6, s22_7, s22_9, s22_12, s22_13, s22_16, s22_17, xIL_1, xIS_1, xQL_2, xQL_3, xAN_1, xAN_2, xAN_3, xCP_1, xC_s, xNC_I, ji_oI1, ji_oIm, kd_sC, gR_sC, gL_sC, ji_rv_s, ji_tl_s, ji_tl_n, ji_s1, ji_s2, ji_kl, List.getD_cons_zero, List.getD_cons_succ, List.set_cons_zero, List.set_cons_succ, List.length_cons, List.length_nil, ji_b_0, ji_b_1, ji_n0, ji_n1, ji_rcb_iff, ji_ok8_0, ji_ok8_1, ji_ok8_2, ji_ok8_3, ji_ok8_4, kd_sI, kd_sL, kd_sR, kd_cp, gR_sI, gR_sL, gR_cp, gL_sI, gL_sR, gL_cp, gI_sL, gI_sR, gI_sI, gL_sL, Nat.reduceEqDiff, false_and, and_false, true_and, and_true, Nat.reduceAdd, Nat.reduceLT, Nat.reduceSub, Int32.reduceLT, Int32.reduceAdd, not_false_eq_true, not_true_eq_false, and_self, ji_b_n, if_true, if_false, ↓reduceIte, cz_m100, cz_m19, cz_m18, cz_m17, cz_m16, cz_m15, cz_m14, cz_m13, cz_m12, cz_m11, cz_m4, cz_m3, cz_m2, cz_m1, cz_1, cz_2, cz_3, cz_4, cz_5, cz_6, cz_7, cz_8, cz_9, cz_10, cz_11, cz_12, cz_13, cz_14, cz_15, cz_16, cz_20, cz_24, cz_30, cz_32, cz_33, cz_38, cz_40, cz_41, cz_42, cz_43, cz_45, cz_48, cz_57, cz_59, cz_60, cz_61, cz_63, cz_64, cz_72, cz_96, cz_97, cz_99, cz_100, cz_122, cz_124, cz_126, cz_160, cz_161, cz_168, cz_200, cz_255, cz_300, cz_960, cz_999, cz_1000, cz_1001, cz_1002, cz_1003, cz_1120, cz_2000, cz_2003, cz_2004, cz_2005, cz_3999, cz_9999, cz_14640, h1]
  by_cases h2 : 122 < x
  · rw [ji_b_F (fun q => q.2 h2)]
    simp only [s22_0, s22_1, s22_3, s22_6, s22_7, s22_9, s22_12, s22_13, s22_16, s22_17, xIL_1, xIS_1, xQL_2, xQL_3, xAN_1, xAN_2, xAN_3, xCP_1, xC_s, xNC_I, ji_oI1, ji_oIm, kd_sC, gR_sC, gL_sC, ji_rv_s, ji_tl_s, ji_tl_n, ji_s1, ji_s2, ji_kl, List.getD_cons_zero, List.getD_cons_succ, List.set_cons_zero, List.set_cons_succ, List.length_cons, List.length_nil, ji_b_0, ji_b_1, ji_n0, ji_n1, ji_rcb_iff, ji_ok8_0, ji_ok8_1, ji_ok8_2, ji_ok8_3, ji_ok8_4, kd_sI, kd_sL, kd_sR, kd_cp, gR_sI, gR_sL, gR_cp, gL_sI, gL_sR, gL_cp, gI_sL, gI_sR, gI_sI, gL_sL, Nat.reduceEqDiff, false_and, and_false, true_and, and_true, Nat.reduceAdd, Nat.reduceLT, Nat.reduceSub, Int32.reduceLT, Int32.reduceAdd, not_false_eq_true, not_true_eq_false, and_self, ji_b_n, if_true, if_false, ↓reduceIte, cz_m100, cz_m19, cz_m18, cz_m17, cz_m16, cz_m15, cz_m14, cz_m13, cz_m12, cz_m11, cz_m4, cz_m3, cz_m2, cz_m1, cz_1, cz_2, cz_3, cz_4, cz_5, cz_6, cz_7, cz_8, cz_9, cz_10, cz_11, cz_12, cz_13, cz_14, cz_15, cz_16, cz_20, cz_24, cz_30, cz_32, cz_33, cz_38, cz_40, cz_41, cz_42, cz_43, cz_45, cz_48, cz_57, cz_59, cz_60, cz_61, cz_63, cz_64, cz_72, cz_96, cz_97, cz_99, cz_100, cz_122, cz_124, cz_126, cz_160, cz_161, cz_168, cz_200, cz_255, cz_300, cz_960, cz_999, cz_1000, cz_1001, cz_1002, cz_1003, cz_1120, cz_2000, cz_2003, cz_2004, cz_2005, cz_3999, cz_9999, cz_14640, h1, h2]
  rw [ji_b_T (show ji_in x 97 122 from ⟨h1, h2⟩)]
  simp only [s22_0, s22_1, s22_3, s22_6, s22_7, s22_9, s22_12, s22_13, s22_16, s22_17, xIL_1, xIS_1, xQL_2, xQL_3, xAN_1, xAN_2, xAN_3, xCP_1, xC_s, xNC_I, ji_oI1, ji_oIm, kd_sC, gR_sC, gL_sC, ji_rv_s, ji_tl_s, ji_tl_n, ji_s1, ji_s2, ji_kl, List.getD_cons_zero, List.getD_cons_succ, List.set_cons_zero, List.set_cons_succ, List.length_cons, List.length_nil, ji_b_0, ji_b_1, ji_n0, ji_n1, ji_rcb_iff, ji_ok8_0, ji_ok8_1, ji_ok8_2, ji_ok8_3, ji_ok8_4, kd_sI, kd_sL, kd_sR, kd_cp, gR_sI, gR_sL, gR_cp, gL_sI, gL_sR, gL_cp, gI_sL, gI_sR, gI_sI, gL_sL, Nat.reduceEqDiff, false_and, and_false, true_and, and_true, Nat.reduceAdd, Nat.reduceLT, Nat.reduceSub, Int32.reduceLT, Int32.reduceAdd, not_false_eq_true, not_true_eq_false, and_self, ji_b_n, if_true, if_false, ↓reduceIte, cz_m100, cz_m19, cz_m18, cz_m17, cz_m16, cz_m15, cz_m14, cz_m13, cz_m12, cz_m11, cz_m4, cz_m3, cz_m2, cz_m1, cz_1, cz_2, cz_3, cz_4, cz_5, cz_6, cz_7, cz_8, cz_9, cz_10, cz_11, cz_12, cz_13, cz_14, cz_15, cz_16, cz_20, cz_24, cz_30, cz_32, cz_33, cz_38, cz_40, cz_41, cz_42, cz_43, cz_45, cz_48, cz_57, cz_59, cz_60, cz_61, cz_63, cz_64, cz_72, cz_96, cz_97, cz_99, cz_100, cz_122, cz_124, cz_126, cz_160, cz_161, cz_168, cz_200, cz_255, cz_300, cz_960, cz_999, cz_1000, cz_1001, cz_1002, cz_1003, cz_1120, cz_2000, cz_2003, cz_2004, cz_2005, cz_3999, cz_9999, cz_14640, h1, h2]
theorem m25 : ji_CL (d + 1) 25 [.int x] M = some (some (.int (ji_b (ji_in x 48 57))), M) := by
  apply en_25
  by_cases h1 : x < 48
  · rw [ji_b_F (fun q => q.1 h1)]
    simp only [s25_0, s25_1, s25_3, s25_6, s25_7, s25_9, s25_12, s25_13, s25_16, s25_17, xIL_1, xIS_1, xQL_2, xQL_3, xAN_1, xAN_2, xAN_3, xCP_1, xC_s, xNC_I, ji_oI1, ji_oIm, kd_sC, gR_sC, gL_sC, ji_rv_s, ji_tl_s, ji_tl_n, ji_s1, ji_s2, ji_kl, List.getD_cons_zero, List.getD_cons_succ, List.set_cons_zero, List.set_cons_succ, List.length_cons, List.length_nil, ji_b_0, ji_b_1, ji_n0, ji_n1, ji_rcb_iff, ji_ok8_0, ji_ok8_1, ji_ok8_2, ji_ok8_3, ji_ok8_4, kd_sI, kd_sL, kd_sR, kd_cp, gR_sI, gR_sL, gR_cp, gL_sI, gL_sR, gL_cp, gI_sL, gI_sR, gI_sI, gL_sL, Nat.reduceEqDiff, false_and, and_false, true_and, and_true, Nat.reduceAdd, Nat.reduceLT, Nat.reduceSub, Int32.reduceLT, Int32.reduceAdd, not_false_eq_true, not_true_eq_false, and_self, ji_b_n, if_true, if_false, ↓reduceIte, cz_m100, cz_m19, cz_m18, cz_m17, cz_m16, cz_m15, cz_m14, cz_m13, cz_m12, cz_m11, cz_m4, cz_m3, cz_m2, cz_m1, cz_1, cz_2, cz_3, cz_4, cz_5, cz_6, cz_7, cz_8, cz_9, cz_10, cz_11, cz_12, cz_13, cz_14, cz_15, cz_16, cz_20, cz_24, cz_30, cz_32, cz_33, cz_38, cz_40, cz_41, cz_42, cz_43, cz_45, cz_48, cz_57, cz_59, cz_60, cz_61, cz_63, cz_64, cz_72, cz_96, cz_97, cz_99, cz_100, cz_122, cz_124, cz_126, cz_160, cz_161, cz_168, cz_200, cz_255, cz_300, cz_960, cz_999, cz_1000, cz_1001, cz_1002, cz_1003, cz_1120, cz_2000, cz_2003, cz_2004, cz_2005, cz_3999, cz_9999, cz_14640, h1]
  by_cases h2 : 57 < x
  · rw [ji_b_F (fun q => q.2 h2)]
    simp only [s25_0, s25_1, s25_3, s25_6, s25_7, s25_9, s25_12, s25_13, s25_16, s25_17, xIL_1, xIS_1, xQL_2, xQL_3, xAN_1, xAN_2, xAN_3, xCP_1, xC_s, xNC_I, ji_oI1, ji_oIm, kd_sC, gR_sC, gL_sC, ji_rv_s, ji_tl_s, ji_tl_n, ji_s1, ji_s2, ji_kl, List.getD_cons_zero, List.getD_cons_succ, List.set_cons_zero, List.set_cons_succ, List.length_cons, List.length_nil, ji_b_0, ji_b_1, ji_n0, ji_n1, ji_rcb_iff, ji_ok8_0, ji_ok8_1, ji_ok8_2, ji_ok8_3, ji_ok8_4, kd_sI, kd_sL, kd_sR, kd_cp, gR_sI, gR_sL, gR_cp, gL_sI, gL_sR, gL_cp, gI_sL, gI_sR, gI_sI, gL_sL, Nat.reduceEqDiff, false_and, and_false, true_and, and_true, Nat.reduceAdd, Nat.reduceLT, Nat.reduceSub, Int32.reduceLT, Int32.reduceAdd, not_false_eq_true, not_true_eq_false, and_self, ji_b_n, if_true, if_false, ↓reduceIte, cz_m100, cz_m19, cz_m18, cz_m17, cz_m16, cz_m15, cz_m14, cz_m13, cz_m12, cz_m11, cz_m4, cz_m3, cz_m2, cz_m1, cz_1, cz_2, cz_3, cz_4, cz_5, cz_6, cz_7, cz_8, cz_9, cz_10, cz_11, cz_12, cz_13, cz_14, cz_15, cz_16, cz_20, cz_24, cz_30, cz_32, cz_33, cz_38, cz_40, cz_41, cz_42, cz_43, cz_45, cz_48, cz_57, cz_59, cz_60, cz_61, cz_63, cz_64, cz_72, cz_96, cz_97, cz_99, cz_100, cz_122, cz_124, cz_126, cz_160, cz_161, cz_168, cz_200, cz_255, cz_300, cz_960, cz_999, cz_1000, cz_1001, cz_1002, cz_1003, cz_1120, cz_2000, cz_2003, cz_2004, cz_2005, cz_3999, cz_9999, cz_14640, h1, h2]
  rw [ji_b_T (show ji_in x 48 57 from ⟨h1, h2⟩)]
  simp only [s25_0, s25_1, s25_3, s25_6, s25_7, s25_9, s25_12, s25_13, s25_16, s25_17, xIL_1, xIS_1, xQL_2, xQL_3, xAN_1, xAN_2, xAN_3, xCP_1, xC_s, xNC_I, ji_oI1, ji_oIm, kd_sC, gR_sC, gL_sC, ji_rv_s, ji_tl_s, ji_tl_n, ji_s1, ji_s2, ji_kl, List.getD_cons_zero, List.getD_cons_succ, List.set_cons_zero, List.set_cons_succ, List.length_cons, List.length_nil, ji_b_0, ji_b_1, ji_n0, ji_n1, ji_rcb_iff, ji_ok8_0, ji_ok8_1, ji_ok8_2, ji_ok8_3, ji_ok8_4, kd_sI, kd_sL, kd_sR, kd_cp, gR_sI, gR_sL, gR_cp, gL_sI, gL_sR, gL_cp, gI_sL, gI_sR, gI_sI, gL_sL, Nat.reduceEqDiff, false_and, and_false, true_and, and_true, Nat.reduceAdd, Nat.reduceLT, Nat.reduceSub, Int32.reduceLT, Int32.reduceAdd, not_false_eq_true, not_true_eq_false, and_self, ji_b_n, if_true, if_false, ↓reduceIte, cz_m100, cz_m19, cz_m18, cz_m17, cz_m16, cz_m15, cz_m14, cz_m13, cz_m12, cz_m11, cz_m4, cz_m3, cz_m2, cz_m1, cz_1, cz_2, cz_3, cz_4, cz_5, cz_6, cz_7, cz_8, cz_9, cz_10, cz_11, cz_12, cz_13, cz_14, cz_15, cz_16, cz_20, cz_24, cz_30, cz_32, cz_33, cz_38, cz_40, cz_41, cz_42, cz_43, cz_45, cz_48, cz_57, cz_59, cz_60, cz_61, cz_63, cz_64, cz_72, cz_96, cz_97, cz_99, cz_100, cz_122, cz_124, cz_126, cz_160, cz_161, cz_168, cz_200, cz_255, cz_300, cz_960, cz_999, cz_1000, cz_1001, cz_1002, cz_1003, cz_1120, cz_2000, cz_2003, cz_2004, cz_2005, cz_3999, cz_9999, cz_14640, h1, h2]
theorem jx_iL (H : jx_OK X n sc) (hi : i < n) : ji_in (ji_gI X 6 i) 97 122 ↔ jx_L (jx_tp X i) = true := by
  have v := jx_tp_v H hi
  have b := H.2.2.2.1 i hi
  have e1 : (97 : Int32).toInt = 97 := rfl
  have e2 : (122 : Int32).toInt = 122 := rfl
  unfold ji_bt at b
  unfold jx_L
  rw [vi_inb, e1, e2, v, Bool.and_eq_true, decide_eq_true_eq, decide_eq_true_eq]
  split <;> omega
theorem jx_iD (H : jx_OK X n sc) (hi : i < n) : ji_in (ji_gI X 6 i) 48 57 ↔ jx_D (jx_tp X i) = true := by
  have v := jx_tp_v H hi
  have b := H.2.2.2.1 i hi
  have e1 : (48 : Int32).toInt = 48 := rfl
  have e2 : (57 : Int32).toInt = 57 := rfl
  unfold ji_bt at b
  unfold jx_D
  rw [vi_inb, e1, e2, v, Bool.and_eq_true, decide_eq_true_eq, decide_eq_true_eq]
  split <;> omega
theorem jx_iB (H : jx_OK X n sc) (hi : i < n) : (ji_gI X 6 i = 32 ∨ ji_gI X 6 i = 10) ↔ jx_B (jx_tp X i) = true := by
  have v := jx_tp_v H hi
  have b := H.2.2.2.1 i hi
  have e1 : (32 : Int32).toInt = 32 := rfl
  have e2 : (10 : Int32).toInt = 10 := rfl
  unfold ji_bt at b
  unfold jx_B
  rw [vi_eq, vi_eq, e1, e2, v, Bool.or_eq_true, decide_eq_true_eq, decide_eq_true_eq]
  split <;> omega
/-- a byte that is a letter or a digit is itself -/
theorem jx_tp_id (H : jx_OK X n sc) (hi : i < n) (h : 0 ≤ (jx_tp X i).toInt) : jx_tp X i = ji_gI X 6 i := by
  have v := jx_tp_v H hi
  have b := H.2.2.2.1 i hi
  unfold ji_bt at b
  rw [vi_eq, v]
  rw [v] at h
  split <;> split at h <;> omega
/-- blanks -/
theorem m20B (H : jx_OK X n sc) {l1 : Option Value} : ∀ (m p : Nat) (q : Int32), n - p ≤ m → p ≤ n → q.toInt = (p : Int) → (∀ q', q'.toInt = (jx_en jx_B (jx_tp X) n p : Int) → ji_Ev (ji_CL (d + 1)) 20 50 (jx_XM X q' st tk vl op fa le sc sf) [some (.ref 5), l1] [] o) → ji_Ev (ji_CL (d + 1)) 20 0 (jx_XM X q st tk vl op fa le sc sf) [some (.ref 5), l1] [] o := by
  have hX := H.1
  have h1 := H.2.1
  have h2 := H.2.2.1
  have t1 : (1 : Int32).toInt = 1 := rfl
  intro m
  induction m with
  | zero =>
    intro p q hm hp hq F
    have g : ¬ q < ji_gI X 5 1 := by rw [vi_lt]; omega
    have G := F q (by rw [jx_en_e (by omega)]; exact hq)
    simp only [s20_0, s20_1, s20_4, s20_5, s20_8, s20_11, s20_12, s20_13, q20_16, s20_19, s20_21, s20_24, s20_25, s20_26, q20_29, s20_32, s20_34, s20_37, s20_38, s20_38r, s20_39, s20_42, s20_43, s20_44, s20_51, s20_52, s20_55, s20_58, s20_59, s20_60, q20_63, s20_66, s20_67, s20_68, s20_71, s20_72, s20_75, s20_78, s20_79, s20_82, s20_85, s20_88, q20_89, s20_92, s20_95, q20_96, s20_99, s20_102, q20_103, s20_106, s20_109, q20_110, s20_113, s20_116, s20_117, s20_119, s20_120, q20_121x, s20_124, s20_127, s20_128, s20_131, s20_134, s20_137, s20_138, s20_138r, s20_139, s20_142, s20_143, s20_144, s20_147, xIL_1, xIS_1, xQL_2, xQL_3, xAN_1, xAN_2, xAN_3, xCP_1, xC_s, xNC_I, ji_oI1, ji_oIm, kd_sC, gR_sC, gL_sC, ji_rv_s, ji_tl_s, ji_tl_n, ji_s1, ji_s2, ji_kl, List.getD_cons_zero, List.getD_cons_succ, List.set_cons_zero, List.set_cons_succ, List.length_cons, List.length_nil, ji_b_0, ji_b_1, ji_n0, ji_n1, ji_rcb_iff, ji_ok8_0, ji_ok8_1, ji_ok8_2, ji_ok8_3, ji_ok8_4, kd_sI, kd_sL, kd_sR, kd_cp, gR_sI, gR_sL, gR_cp, gL_sI, gL_sR, gL_cp, gI_sL, gI_sR, gI_sI, gL_sL, Nat.reduceEqDiff, false_and, and_false, true_and, and_true, Nat.reduceAdd, Nat.reduceLT, Nat.reduceSub, Int32.reduceLT, Int32.reduceAdd, not_false_eq_true, not_true_eq_false, and_self, ji_b_n, if_true, if_false, ↓reduceIte, cz_m100, cz_m19, cz_m18, cz_m17, cz_m16, cz_m15, cz_m14, cz_m13, cz_m12, cz_m11, cz_m4, cz_m3, cz_m2, cz_m1, cz_1, cz_2, cz_3, cz_4, cz_5, cz_6, cz_7, cz_8, cz_9, cz_10, cz_11, cz_12, cz_13, cz_14, cz_15, cz_16, cz_20, cz_24, cz_30, cz_32, cz_33, cz_38, cz_40, cz_41, cz_42, cz_43, cz_45, cz_48, cz_57, cz_59, cz_60, cz_61, cz_63, cz_64, cz_72, cz_96, cz_97, cz_99, cz_100, cz_122, cz_124, cz_126, cz_160, cz_161, cz_168, cz_200, cz_255, cz_300, cz_960, cz_999, cz_1000, cz_1001, cz_1002, cz_1003, cz_1120, cz_2000, cz_2003, cz_2004, cz_2005, cz_3999, cz_9999, cz_14640, jx_XM_kd, xk_5 hX, jx_XM_pl, jx_XM_sz, g]
    exact G
  | succ m ih =>
    intro p q hm hp hq F
    by_cases hn : p < n
    · have g : q < ji_gI X 5 1 := by rw [vi_lt]; omega
      have B := fun pl => m21 (d := d) (pl := pl) (st := st) (tk := tk) (vl := vl) (op := op) (fa := fa) (le := le) (sf := sf) H hq hn
      by_cases hb : ji_gI X 6 p = 32 ∨ ji_gI X 6 p = 10
      · have hb' := (jx_iB H hn).mp hb
        have I := ih (p + 1) (q + 1) (by omega) (by omega) (by rw [vi_add (by omega) (by omega), t1]; omega) (fun q' hq' => F q' (by rw [jx_en_s hn hb']; exact hq'))
        by_cases k1 : ji_gI X 6 p = 32
        · simp only [s20_0, s20_1, s20_4, s20_5, s20_8, s20_11, s20_12, s20_13, q20_16, s20_19, s20_21, s20_24, s20_25, s20_26, q20_29, s20_32, s20_34, s20_37, s20_38, s20_38r, s20_39, s20_42, s20_43, s20_44, s20_51, s20_52, s20_55, s20_58, s20_59, s20_60, q20_63, s20_66, s20_67, s20_68, s20_71, s20_72, s20_75, s20_78, s20_79, s20_82, s20_85, s20_88, q20_89, s20_92, s20_95, q20_96, s20_99, s20_102, q20_103, s20_106, s20_109, q20_110, s20_113, s20_116, s20_117, s20_119, s20_120, q20_121x, s20_124, s20_127, s20_128, s20_131, s20_134, s20_137, s20_138, s20_138r, s20_139, s20_142, s20_143, s20_144, s20_147, xIL_1, xIS_1, xQL_2, xQL_3, xAN_1, xAN_2, xAN_3, xCP_1, xC_s, xNC_I, ji_oI1, ji_oIm, kd_sC, gR_sC, gL_sC, ji_rv_s, ji_tl_s, ji_tl_n, ji_s1, ji_s2, ji_kl, List.getD_cons_zero, List.getD_cons_succ, List.set_cons_zero, List.set_cons_succ, List.length_cons, List.length_nil, ji_b_0, ji_b_1, ji_n0, ji_n1, ji_rcb_iff, ji_ok8_0, ji_ok8_1, ji_ok8_2, ji_ok8_3, ji_ok8_4, kd_sI, kd_sL, kd_sR, kd_cp, gR_sI, gR_sL, gR_cp, gL_sI, gL_sR, gL_cp, gI_sL, gI_sR, gI_sI, gL_sL, Nat.reduceEqDiff, false_and, and_false, true_and, and_true, Nat.reduceAdd, Nat.reduceLT, Nat.reduceSub, Int32.reduceLT, Int32.reduceAdd, not_false_eq_true, not_true_eq_false, and_self, ji_b_n, if_true, if_false, ↓reduceIte, cz_m100, cz_m19, cz_m18, cz_m17, cz_m16, cz_m15, cz_m14, cz_m13, cz_m12, cz_m11, cz_m4, cz_m3, cz_m2, cz_m1, cz_1, cz_2, cz_3, cz_4, cz_5, cz_6, cz_7, cz_8, cz_9, cz_10, cz_11, cz_12, cz_13, cz_14, cz_15, cz_16, cz_20, cz_24, cz_30, cz_32, cz_33, cz_38, cz_40, cz_41, cz_42, cz_43, cz_45, cz_48, cz_57, cz_59, cz_60, cz_61, cz_63, cz_64, cz_72, cz_96, cz_97, cz_99, cz_100, cz_122, cz_124, cz_126, cz_160, cz_161, cz_168, cz_200, cz_255, cz_300, cz_960, cz_999, cz_1000, cz_1001, cz_1002, cz_1003, cz_1120, cz_2000, cz_2003, cz_2004, cz_2005, cz_3999, cz_9999, cz_14640, jx_XM_kd, xk_5 hX, jx_XM_pl, jx_XM_sz, g, B, k1, jx_XW_pl]
          simp only [s20_47]
          exact I
        · have k2 := hb.resolve_left k1
          simp only [s20_0, s20_1, s20_4, s20_5, s20_8, s20_11, s20_12, s20_13, q20_16, s20_19, s20_21, s20_24, s20_25, s20_26, q20_29, s20_32, s20_34, s20_37, s20_38, s20_38r, s20_39, s20_42, s20_43, s20_44, s20_51, s20_52, s20_55, s20_58, s20_59, s20_60, q20_63, s20_66, s20_67, s20_68, s20_71, s20_72, s20_75, s20_78, s20_79, s20_82, s20_85, s20_88, q20_89, s20_92, s20_95, q20_96, s20_99, s20_102, q20_103, s20_106, s20_109, q20_110, s20_113, s20_116, s20_117, s20_119, s20_120, q20_121x, s20_124, s20_127, s20_128, s20_131, s20_134, s20_137, s20_138, s20_138r, s20_139, s20_142, s20_143, s20_144, s20_147, xIL_1, xIS_1, xQL_2, xQL_3, xAN_1, xAN_2, xAN_3, xCP_1, xC_s, xNC_I, ji_oI1, ji_oIm, kd_sC, gR_sC, gL_sC, ji_rv_s, ji_tl_s, ji_tl_n, ji_s1, ji_s2, ji_kl, List.getD_cons_zero, List.getD_cons_succ, List.set_cons_zero, List.set_cons_succ, List.length_cons, List.length_nil, ji_b_0, ji_b_1, ji_n0, ji_n1, ji_rcb_iff, ji_ok8_0, ji_ok8_1, ji_ok8_2, ji_ok8_3, ji_ok8_4, kd_sI, kd_sL, kd_sR, kd_cp, gR_sI, gR_sL, gR_cp, gL_sI, gL_sR, gL_cp, gI_sL, gI_sR, gI_sI, gL_sL, Nat.reduceEqDiff, false_and, and_false, true_and, and_true, Nat.reduceAdd, Nat.reduceLT, Nat.reduceSub, Int32.reduceLT, Int32.reduceAdd, not_false_eq_true, not_true_eq_false, and_self, ji_b_n, if_true, if_false, ↓reduceIte, cz_m100, cz_m19, cz_m18, cz_m17, cz_m16, cz_m15, cz_m14, cz_m13, cz_m12, cz_m11, cz_m4, cz_m3, cz_m2, cz_m1, cz_1, cz_2, cz_3, cz_4, cz_5, cz_6, cz_7, cz_8, cz_9, cz_10, cz_11, cz_12, cz_13, cz_14, cz_15, cz_16, cz_20, cz_24, cz_30, cz_32, cz_33, cz_38, cz_40, cz_41, cz_42, cz_43, cz_45, cz_48, cz_57, cz_59, cz_60, cz_61, cz_63, cz_64, cz_72, cz_96, cz_97, cz_99, cz_100, cz_122, cz_124, cz_126, cz_160, cz_161, cz_168, cz_200, cz_255, cz_300, cz_960, cz_999, cz_1000, cz_1001, cz_1002, cz_1003, cz_1120, cz_2000, cz_2003, cz_2004, cz_2005, cz_3999, cz_9999, cz_14640, jx_XM_kd, xk_5 hX, jx_XM_pl, jx_XM_sz, g, B, k1, eq_true k2, jx_XW_pl]
          simp only [s20_47]
          exact I
      · have hb' : ¬ (p < n ∧ jx_B (jx_tp X p) = true) := fun u => hb ((jx_iB H hn).mpr u.2)
        have G := F q (by rw [jx_en_e hb']; exact hq)
        have k1 : ¬ ji_gI X 6 p = 32 := fun u => hb (Or.inl u)
        have k2 : ¬ ji_gI X 6 p = 10 := fun u => hb (Or.inr u)
        simp only [s20_0, s20_1, s20_4, s20_5, s20_8, s20_11, s20_12, s20_13, q20_16, s20_19, s20_21, s20_24, s20_25, s20_26, q20_29, s20_32, s20_34, s20_37, s20_38, s20_38r, s20_39, s20_42, s20_43, s20_44, s20_51, s20_52, s20_55, s20_58, s20_59, s20_60, q20_63, s20_66, s20_67, s20_68, s20_71, s20_72, s20_75, s20_78, s20_79, s20_82, s20_85, s20_88, q20_89, s20_92, s20_95, q20_96, s20_99, s20_102, q20_103, s20_106, s20_109, q20_110, s20_113, s20_116, s20_117, s20_119, s20_120, q20_121x, s20_124, s20_127, s20_128, s20_131, s20_134, s20_137, s20_138, s20_138r, s20_139, s20_142, s20_143, s20_144, s20_147, xIL_1, xIS_1, xQL_2, xQL_3, xAN_1, xAN_2, xAN_3, xCP_1, xC_s, xNC_I, ji_oI1, ji_oIm, kd_sC, gR_sC, gL_sC, ji_rv_s, ji_tl_s, ji_tl_n, ji_s1, ji_s2, ji_kl, List.getD_cons_zero, List.getD_cons_succ, List.set_cons_zero, List.set_cons_succ, List.length_cons, List.length_nil, ji_b_0, ji_b_1, ji_n0, ji_n1, ji_rcb_iff, ji_ok8_0, ji_ok8_1, ji_ok8_2, ji_ok8_3, ji_ok8_4, kd_sI, kd_sL, kd_sR, kd_cp, gR_sI, gR_sL, gR_cp, gL_sI, gL_sR, gL_cp, gI_sL, gI_sR, gI_sI, gL_sL, Nat.reduceEqDiff, false_and, and_false, true_and, and_true, Nat.reduceAdd, Nat.reduceLT, Nat.reduceSub, Int32.reduceLT, Int32.reduceAdd, not_false_eq_true, not_true_eq_false, and_self, ji_b_n, if_true, if_false, ↓reduceIte, cz_m100, cz_m19, cz_m18, cz_m17, cz_m16, cz_m15, cz_m14, cz_m13, cz_m12, cz_m11, cz_m4, cz_m3, cz_m2, cz_m1, cz_1, cz_2, cz_3, cz_4, cz_5, cz_6, cz_7, cz_8, cz_9, cz_10, cz_11, cz_12, cz_13, cz_14, cz_15, cz_16, cz_20, cz_24, cz_30, cz_32, cz_33, cz_38, cz_40, cz_41, cz_42, cz_43, cz_45, cz_48, cz_57, cz_59, cz_60, cz_61, cz_63, cz_64, cz_72, cz_96, cz_97, cz_99, cz_100, cz_122, cz_124, cz_126, cz_160, cz_161, cz_168, cz_200, cz_255, cz_300, cz_960, cz_999, cz_1000, cz_1001, cz_1002, cz_1003, cz_1120, cz_2000, cz_2003, cz_2004, cz_2005, cz_3999, cz_9999, cz_14640, jx_XM_kd, xk_5 hX, jx_XM_pl, jx_XM_sz, g, B, k1, k2]
        exact G
    · have g : ¬ q < ji_gI X 5 1 := by rw [vi_lt]; omega
      have G := F q (by rw [jx_en_e (by omega)]; exact hq)
      simp only [s20_0, s20_1, s20_4, s20_5, s20_8, s20_11, s20_12, s20_13, q20_16, s20_19, s20_21, s20_24, s20_25, s20_26, q20_29, s20_32, s20_34, s20_37, s20_38, s20_38r, s20_39, s20_42, s20_43, s20_44, s20_51, s20_52, s20_55, s20_58, s20_59, s20_60, q20_63, s20_66, s20_67, s20_68, s20_71, s20_72, s20_75, s20_78, s20_79, s20_82, s20_85, s20_88, q20_89, s20_92, s20_95, q20_96, s20_99, s20_102, q20_103, s20_106, s20_109, q20_110, s20_113, s20_116, s20_117, s20_119, s20_120, q20_121x, s20_124, s20_127, s20_128, s20_131, s20_134, s20_137, s20_138, s20_138r, s20_139, s20_142, s20_143, s20_144, s20_147, xIL_1, xIS_1, xQL_2, xQL_3, xAN_1, xAN_2, xAN_3, xCP_1, xC_s, xNC_I, ji_oI1, ji_oIm, kd_sC, gR_sC, gL_sC, ji_rv_s, ji_tl_s, ji_tl_n, ji_s1, ji_s2, ji_kl, List.getD_cons_zero, List.getD_cons_succ, List.set_cons_zero, List.set_cons_succ, List.length_cons, List.length_nil, ji_b_0, ji_b_1, ji_n0, ji_n1, ji_rcb_iff, ji_ok8_0, ji_ok8_1, ji_ok8_2, ji_ok8_3, ji_ok8_4, kd_sI, kd_sL, kd_sR, kd_cp, gR_sI, gR_sL, gR_cp, gL_sI, gL_sR, gL_cp, gI_sL, gI_sR, gI_sI, gL_sL, Nat.reduceEqDiff, false_and, and_false, true_and, and_true, Nat.reduceAdd, Nat.reduceLT, Nat.reduceSub, Int32.reduceLT, Int32.reduceAdd, not_false_eq_true, not_true_eq_false, and_self, ji_b_n, if_true, if_false, ↓reduceIte, cz_m100, cz_m19, cz_m18, cz_m17, cz_m16, cz_m15, cz_m14, cz_m13, cz_m12, cz_m11, cz_m4, cz_m3, cz_m2, cz_m1, cz_1, cz_2, cz_3, cz_4, cz_5, cz_6, cz_7, cz_8, cz_9, cz_10, cz_11, cz_12, cz_13, cz_14, cz_15, cz_16, cz_20, cz_24, cz_30, cz_32, cz_33, cz_38, cz_40, cz_41, cz_42, cz_43, cz_45, cz_48, cz_57, cz_59, cz_60, cz_61, cz_63, cz_64, cz_72, cz_96, cz_97, cz_99, cz_100, cz_122, cz_124, cz_126, cz_160, cz_161, cz_168, cz_200, cz_255, cz_300, cz_960, cz_999, cz_1000, cz_1001, cz_1002, cz_1003, cz_1120, cz_2000, cz_2003, cz_2004, cz_2005, cz_3999, cz_9999, cz_14640, jx_XM_kd, xk_5 hX, jx_XM_pl, jx_XM_sz, g]
      exact G
/-- letters -/
theorem m23A (H : jx_OK X n sc) {l1 : Option Value} : ∀ (m p : Nat) (q : Int32), n - p ≤ m → p ≤ n → q.toInt = (p : Int) → (∀ q', q'.toInt = (jx_en jx_L (jx_tp X) n p : Int) → ji_Ev (ji_CL (d + 1)) 23 38 (jx_XM X q' st tk vl op fa le sc sf) [some (.ref 5), l1] [] o) → ji_Ev (ji_CL (d + 1)) 23 0 (jx_XM X q st tk vl op fa le sc sf) [some (.ref 5), l1] [] o := by
  have hX := H.1
  have h1 := H.2.1
  have h2 := H.2.2.1
  have t1 : (1 : Int32).toInt = 1 := rfl
  intro m
  induction m with
  | zero =>
    intro p q hm hp hq F
    have g : ¬ q < ji_gI X 5 1 := by rw [vi_lt]; omega
    have G := F q (by rw [jx_en_e (by omega)]; exact hq)
    simp only [s23_0, s23_1, s23_4, s23_5, s23_8, s23_11, s23_12, s23_13, q23_16, q23_19, s23_22, s23_25, s23_26, s23_26r, s23_27, s23_30, s23_31, s23_32, s23_39, s23_42, s23_45, s23_46, s23_47, s23_48, s23_50, s23_53, s23_54, q23_55, s23_58, s23_61, s23_62, s23_63, s23_65, s23_68, s23_71, s23_74, s23_77, s23_78, s23_79, s23_81, s23_82, s23_85, s23_86, s23_87, q23_90, s23_93, s23_96, xIL_1, xIS_1, xQL_2, xQL_3, xAN_1, xAN_2, xAN_3, xCP_1, xC_s, xNC_I, ji_oI1, ji_oIm, kd_sC, gR_sC, gL_sC, ji_rv_s, ji_tl_s, ji_tl_n, ji_s1, ji_s2, ji_kl, List.getD_cons_zero, List.getD_cons_succ, List.set_cons_zero, List.set_cons_succ, List.length_cons, List.length_nil, ji_b_0, ji_b_1, ji_n0, ji_n1, ji_rcb_iff, ji_ok8_0, ji_ok8_1, ji_ok8_2, ji_ok8_3, ji_ok8_4, kd_sI, kd_sL, kd_sR, kd_cp, gR_sI, gR_sL, gR_cp, gL_sI, gL_sR, gL_cp, gI_sL, gI_sR, gI_sI, gL_sL, Nat.reduceEqDiff, false_and, and_false, true_and, and_true, Nat.reduceAdd, Nat.reduceLT, Nat.reduceSub, Int32.reduceLT, Int32.reduceAdd, not_false_eq_true, not_true_eq_false, and_self, ji_b_n, if_true, if_false, ↓reduceIte, cz_m100, cz_m19, cz_m18, cz_m17, cz_m16, cz_m15, cz_m14, cz_m13, cz_m12, cz_m11, cz_m4, cz_m3, cz_m2, cz_m1, cz_1, cz_2, cz_3, cz_4, cz_5, cz_6, cz_7, cz_8, cz_9, cz_10, cz_11, cz_12, cz_13, cz_14, cz_15, cz_16, cz_20, cz_24, cz_30, cz_32, cz_33, cz_38, cz_40, cz_41, cz_42, cz_43, cz_45, cz_48, cz_57, cz_59, cz_60, cz_61, cz_63, cz_64, cz_72, cz_96, cz_97, cz_99, cz_100, cz_122, cz_124, cz_126, cz_160, cz_161, cz_168, cz_200, cz_255, cz_300, cz_960, cz_999, cz_1000, cz_1001, cz_1002, cz_1003, cz_1120, cz_2000, cz_2003, cz_2004, cz_2005, cz_3999, cz_9999, cz_14640, jx_XM_kd, xk_5 hX, jx_XM_pl, jx_XM_sz, g]
    exact G
  | succ m ih =>
    intro p q hm hp hq F
    by_cases hn : p < n
    · have g : q < ji_gI X 5 1 := by rw [vi_lt]; omega
      have B := fun pl => m21 (d := d) (pl := pl) (st := st) (tk := tk) (vl := vl) (op := op) (fa := fa) (le := le) (sf := sf) H hq hn
      by_cases hb : ji_in (ji_gI X 6 p) 97 122
      · have hb' := (jx_iL H hn).mp hb
        have I := ih (p + 1) (q + 1) (by omega) (by omega) (by rw [vi_add (by omega) (by omega), t1]; omega) (fun q' hq' => F q' (by rw [jx_en_s hn hb']; exact hq'))
        simp only [s23_0, s23_1, s23_4, s23_5, s23_8, s23_11, s23_12, s23_13, q23_16, q23_19, s23_22, s23_25, s23_26, s23_26r, s23_27, s23_30, s23_31, s23_32, s23_39, s23_42, s23_45, s23_46, s23_47, s23_48, s23_50, s23_53, s23_54, q23_55, s23_58, s23_61, s23_62, s23_63, s23_65, s23_68, s23_71, s23_74, s23_77, s23_78, s23_79, s23_81, s23_82, s23_85, s23_86, s23_87, q23_90, s23_93, s23_96, xIL_1, xIS_1, xQL_2, xQL_3, xAN_1, xAN_2, xAN_3, xCP_1, xC_s, xNC_I, ji_oI1, ji_oIm, kd_sC, gR_sC, gL_sC, ji_rv_s, ji_tl_s, ji_tl_n, ji_s1, ji_s2, ji_kl, List.getD_cons_zero, List.getD_cons_succ, List.set_cons_zero, List.set_cons_succ, List.length_cons, List.length_nil, ji_b_0, ji_b_1, ji_n0, ji_n1, ji_rcb_iff, ji_ok8_0, ji_ok8_1, ji_ok8_2, ji_ok8_3, ji_ok8_4, kd_sI, kd_sL, kd_sR, kd_cp, gR_sI, gR_sL, gR_cp, gL_sI, gL_sR, gL_cp, gI_sL, gI_sR, gI_sI, gL_sL, Nat.reduceEqDiff, false_and, and_false, true_and, and_true, Nat.reduceAdd, Nat.reduceLT, Nat.reduceSub, Int32.reduceLT, Int32.reduceAdd, not_false_eq_true, not_true_eq_false, and_self, ji_b_n, if_true, if_false, ↓reduceIte, cz_m100, cz_m19, cz_m18, cz_m17, cz_m16, cz_m15, cz_m14, cz_m13, cz_m12, cz_m11, cz_m4, cz_m3, cz_m2, cz_m1, cz_1, cz_2, cz_3, cz_4, cz_5, cz_6, cz_7, cz_8, cz_9, cz_10, cz_11, cz_12, cz_13, cz_14, cz_15, cz_16, cz_20, cz_24, cz_30, cz_32, cz_33, cz_38, cz_40, cz_41, cz_42, cz_43, cz_45, cz_48, cz_57, cz_59, cz_60, cz_61, cz_63, cz_64, cz_72, cz_96, cz_97, cz_99, cz_100, cz_122, cz_124, cz_126, cz_160, cz_161, cz_168, cz_200, cz_255, cz_300, cz_960, cz_999, cz_1000, cz_1001, cz_1002, cz_1003, cz_1120, cz_2000, cz_2003, cz_2004, cz_2005, cz_3999, cz_9999, cz_14640, jx_XM_kd, xk_5 hX, jx_XM_pl, jx_XM_sz, g, B, m22, hb, jx_XW_pl]
        simp only [s23_35]
        exact I
      · have hb' : ¬ (p < n ∧ jx_L (jx_tp X p) = true) := fun u => hb ((jx_iL H hn).mpr u.2)
        have G := F q (by rw [jx_en_e hb']; exact hq)
        simp only [s23_0, s23_1, s23_4, s23_5, s23_8, s23_11, s23_12, s23_13, q23_16, q23_19, s23_22, s23_25, s23_26, s23_26r, s23_27, s23_30, s23_31, s23_32, s23_39, s23_42, s23_45, s23_46, s23_47, s23_48, s23_50, s23_53, s23_54, q23_55, s23_58, s23_61, s23_62, s23_63, s23_65, s23_68, s23_71, s23_74, s23_77, s23_78, s23_79, s23_81, s23_82, s23_85, s23_86, s23_87, q23_90, s23_93, s23_96, xIL_1, xIS_1, xQL_2, xQL_3, xAN_1, xAN_2, xAN_3, xCP_1, xC_s, xNC_I, ji_oI1, ji_oIm, kd_sC, gR_sC, gL_sC, ji_rv_s, ji_tl_s, ji_tl_n, ji_s1, ji_s2, ji_kl, List.getD_cons_zero, List.getD_cons_succ, List.set_cons_zero, List.set_cons_succ, List.length_cons, List.length_nil, ji_b_0, ji_b_1, ji_n0, ji_n1, ji_rcb_iff, ji_ok8_0, ji_ok8_1, ji_ok8_2, ji_ok8_3, ji_ok8_4, kd_sI, kd_sL, kd_sR, kd_cp, gR_sI, gR_sL, gR_cp, gL_sI, gL_sR, gL_cp, gI_sL, gI_sR, gI_sI, gL_sL, Nat.reduceEqDiff, false_and, and_false, true_and, and_true, Nat.reduceAdd, Nat.reduceLT, Nat.reduceSub, Int32.reduceLT, Int32.reduceAdd, not_false_eq_true, not_true_eq_false, and_self, ji_b_n, if_true, if_false, ↓reduceIte, cz_m100, cz_m19, cz_m18, cz_m17, cz_m16, cz_m15, cz_m14, cz_m13, cz_m12, cz_m11, cz_m4, cz_m3, cz_m2, cz_m1, cz_1, cz_2, cz_3, cz_4, cz_5, cz_6, cz_7, cz_8, cz_9, cz_10, cz_11, cz_12, cz_13, cz_14, cz_15, cz_16, cz_20, cz_24, cz_30, cz_32, cz_33, cz_38, cz_40, cz_41, cz_42, cz_43, cz_45, cz_48, cz_57, cz_59, cz_60, cz_61, cz_63, cz_64, cz_72, cz_96, cz_97, cz_99, cz_100, cz_122, cz_124, cz_126, cz_160, cz_161, cz_168, cz_200, cz_255, cz_300, cz_960, cz_999, cz_1000, cz_1001, cz_1002, cz_1003, cz_1120, cz_2000, cz_2003, cz_2004, cz_2005, cz_3999, cz_9999, cz_14640, jx_XM_kd, xk_5 hX, jx_XM_pl, jx_XM_sz, g, B, m22, hb]
        exact G
    · have g : ¬ q < ji_gI X 5 1 := by rw [vi_lt]; omega
      have G := F q (by rw [jx_en_e (by omega)]; exact hq)
      simp only [s23_0, s23_1, s23_4, s23_5, s23_8, s23_11, s23_12, s23_13, q23_16, q23_19, s23_22, s23_25, s23_26, s23_26r, s23_27, s23_30, s23_31, s23_32, s23_39, s23_42, s23_45, s23_46, s23_47, s23_48, s23_50, s23_53, s23_54, q23_55, s23_58, s23_61, s23_62, s23_63, s23_65, s23_68, s23_71, s23_74, s23_77, s23_78, s23_79, s23_81, s23_82, s23_85, s23_86, s23_87, q23_90, s23_93, s23_96, xIL_1, xIS_1, xQL_2, xQL_3, xAN_1, xAN_2, xAN_3, xCP_1, xC_s, xNC_I, ji_oI1, ji_oIm, kd_sC, gR_sC, gL_sC, ji_rv_s, ji_tl_s, ji_tl_n, ji_s1, ji_s2, ji_kl, List.getD_cons_zero, List.getD_cons_succ, List.set_cons_zero, List.set_cons_succ, List.length_cons, List.length_nil, ji_b_0, ji_b_1, ji_n0, ji_n1, ji_rcb_iff, ji_ok8_0, ji_ok8_1, ji_ok8_2, ji_ok8_3, ji_ok8_4, kd_sI, kd_sL, kd_sR, kd_cp, gR_sI, gR_sL, gR_cp, gL_sI, gL_sR, gL_cp, gI_sL, gI_sR, gI_sI, gL_sL, Nat.reduceEqDiff, false_and, and_false, true_and, and_true, Nat.reduceAdd, Nat.reduceLT, Nat.reduceSub, Int32.reduceLT, Int32.reduceAdd, not_false_eq_true, not_true_eq_false, and_self, ji_b_n, if_true, if_false, ↓reduceIte, cz_m100, cz_m19, cz_m18, cz_m17, cz_m16, cz_m15, cz_m14, cz_m13, cz_m12, cz_m11, cz_m4, cz_m3, cz_m2, cz_m1, cz_1, cz_2, cz_3, cz_4, cz_5, cz_6, cz_7, cz_8, cz_9, cz_10, cz_11, cz_12, cz_13, cz_14, cz_15, cz_16, cz_20, cz_24, cz_30, cz_32, cz_33, cz_38, cz_40, cz_41, cz_42, cz_43, cz_45, cz_48, cz_57, cz_59, cz_60, cz_61, cz_63, cz_64, cz_72, cz_96, cz_97, cz_99, cz_100, cz_122, cz_124, cz_126, cz_160, cz_161, cz_168, cz_200, cz_255, cz_300, cz_960, cz_999, cz_1000, cz_1001, cz_1002, cz_1003, cz_1120, cz_2000, cz_2003, cz_2004, cz_2005, cz_3999, cz_9999, cz_14640, jx_XM_kd, xk_5 hX, jx_XM_pl, jx_XM_sz, g]
      exact G
/-- digits -/
theorem m26L (H : jx_OK X n sc) {s0 : Nat} : ∀ (m p : Nat) (q : Int32) (k : Nat), n - p ≤ m → p ≤ n → q.toInt = (p : Int) → s0 + k = p → (∀ q', q'.toInt = (jx_en jx_D (jx_tp X) n p : Int) → ji_Ev (ji_CL (d + 1)) 26 66 (jx_XM X q' st tk (jx_nv (jx_tp X) s0 (jx_en jx_D (jx_tp X) n p - s0)) op fa le sc sf) [some (.ref 5)] [] o) → ji_Ev (ji_CL (d + 1)) 26 5 (jx_XM X q st tk (jx_nv (jx_tp X) s0 k) op fa le sc sf) [some (.ref 5)] [] o := by
  have hX := H.1
  have h1 := H.2.1
  have h2 := H.2.2.1
  have t1 : (1 : Int32).toInt = 1 := rfl
  intro m
  induction m with
  | zero =>
    intro p q k hm hp hq hk F
    have g : ¬ q < ji_gI X 5 1 := by rw [vi_lt]; omega
    have G := F q (by rw [jx_en_e (by omega)]; exact hq)
    rw [jx_en_e (by omega), show p - s0 = k by omega] at G
    simp only [s26_0, s26_1, s26_2, s26_5, s26_6, s26_9, s26_10, s26_13, s26_16, s26_17, s26_18, q26_21, q26_24, s26_27, s26_30, s26_31, s26_32, s26_35, s26_37, s26_38, s26_39, s26_40, q26_43, s26_46, s26_47, s26_49, s26_50, s26_53, s26_54, s26_54r, s26_55, s26_58, s26_59, s26_60, s26_67, s26_68, s26_71, s26_72, s26_75, s26_76, s26_77, s26_80, s26_83, s26_86, s26_89, s26_92, xIL_1, xIS_1, xQL_2, xQL_3, xAN_1, xAN_2, xAN_3, xCP_1, xC_s, xNC_I, ji_oI1, ji_oIm, kd_sC, gR_sC, gL_sC, ji_rv_s, ji_tl_s, ji_tl_n, ji_s1, ji_s2, ji_kl, List.getD_cons_zero, List.getD_cons_succ, List.set_cons_zero, List.set_cons_succ, List.length_cons, List.length_nil, ji_b_0, ji_b_1, ji_n0, ji_n1, ji_rcb_iff, ji_ok8_0, ji_ok8_1, ji_ok8_2, ji_ok8_3, ji_ok8_4, kd_sI, kd_sL, kd_sR, kd_cp, gR_sI, gR_sL, gR_cp, gL_sI, gL_sR, gL_cp, gI_sL, gI_sR, gI_sI, gL_sL, Nat.reduceEqDiff, false_and, and_false, true_and, and_true, Nat.reduceAdd, Nat.reduceLT, Nat.reduceSub, Int32.reduceLT, Int32.reduceAdd, not_false_eq_true, not_true_eq_false, and_self, ji_b_n, if_true, if_false, ↓reduceIte, cz_m100, cz_m19, cz_m18, cz_m17, cz_m16, cz_m15, cz_m14, cz_m13, cz_m12, cz_m11, cz_m4, cz_m3, cz_m2, cz_m1, cz_1, cz_2, cz_3, cz_4, cz_5, cz_6, cz_7, cz_8, cz_9, cz_10, cz_11, cz_12, cz_13, cz_14, cz_15, cz_16, cz_20, cz_24, cz_30, cz_32, cz_33, cz_38, cz_40, cz_41, cz_42, cz_43, cz_45, cz_48, cz_57, cz_59, cz_60, cz_61, cz_63, cz_64, cz_72, cz_96, cz_97, cz_99, cz_100, cz_122, cz_124, cz_126, cz_160, cz_161, cz_168, cz_200, cz_255, cz_300, cz_960, cz_999, cz_1000, cz_1001, cz_1002, cz_1003, cz_1120, cz_2000, cz_2003, cz_2004, cz_2005, cz_3999, cz_9999, cz_14640, jx_XM_kd, xk_5 hX, jx_XM_pl, jx_XM_sz, g]
    exact G
  | succ m ih =>
    intro p q k hm hp hq hk F
    by_cases hn : p < n
    · have g : q < ji_gI X 5 1 := by rw [vi_lt]; omega
      have B := fun vl => m21 (d := d) (pl := q) (st := st) (tk := tk) (vl := vl) (op := op) (fa := fa) (le := le) (sf := sf) H hq hn
      by_cases hb : ji_in (ji_gI X 6 p) 48 57
      · have hb' := (jx_iD H hn).mp hb
        have hid : ji_gI X 6 p = jx_tp X (s0 + k) := by
          rw [hk]
          refine (jx_tp_id H hn ?_).symm
          unfold jx_D at hb'
          rw [Bool.and_eq_true, decide_eq_true_eq] at hb'
          omega
        have I := ih (p + 1) (q + 1) (k + 1) (by omega) (by omega) (by rw [vi_add (by omega) (by omega), t1]; omega) (by omega) (fun q' hq' => by
          have := F q' (by rw [jx_en_s hn hb']; exact hq')
          rw [jx_en_s hn hb'] at this
          exact this)
        simp only [s26_0, s26_1, s26_2, s26_5, s26_6, s26_9, s26_10, s26_13, s26_16, s26_17, s26_18, q26_21, q26_24, s26_27, s26_30, s26_31, s26_32, s26_35, s26_37, s26_38, s26_39, s26_40, q26_43, s26_46, s26_47, s26_49, s26_50, s26_53, s26_54, s26_54r, s26_55, s26_58, s26_59, s26_60, s26_67, s26_68, s26_71, s26_72, s26_75, s26_76, s26_77, s26_80, s26_83, s26_86, s26_89, s26_92, xIL_1, xIS_1, xQL_2, xQL_3, xAN_1, xAN_2, xAN_3, xCP_1, xC_s, xNC_I, ji_oI1, ji_oIm, kd_sC, gR_sC, gL_sC, ji_rv_s, ji_tl_s, ji_tl_n, ji_s1, ji_s2, ji_kl, List.getD_cons_zero, List.getD_cons_succ, List.set_cons_zero, List.set_cons_succ, List.length_cons, List.length_nil, ji_b_0, ji_b_1, ji_n0, ji_n1, ji_rcb_iff, ji_ok8_0, ji_ok8_1, ji_ok8_2, ji_ok8_3, ji_ok8_4, kd_sI, kd_sL, kd_sR, kd_cp, gR_sI, gR_sL, gR_cp, gL_sI, gL_sR, gL_cp, gI_sL, gI_sR, gI_sI, gL_sL, Nat.reduceEqDiff, false_and, and_false, true_and, and_true, Nat.reduceAdd, Nat.reduceLT, Nat.reduceSub, Int32.reduceLT, Int32.reduceAdd, not_false_eq_true, not_true_eq_false, and_self, ji_b_n, if_true, if_false, ↓reduceIte, cz_m100, cz_m19, cz_m18, cz_m17, cz_m16, cz_m15, cz_m14, cz_m13, cz_m12, cz_m11, cz_m4, cz_m3, cz_m2, cz_m1, cz_1, cz_2, cz_3, cz_4, cz_5, cz_6, cz_7, cz_8, cz_9, cz_10, cz_11, cz_12, cz_13, cz_14, cz_15, cz_16, cz_20, cz_24, cz_30, cz_32, cz_33, cz_38, cz_40, cz_41, cz_42, cz_43, cz_45, cz_48, cz_57, cz_59, cz_60, cz_61, cz_63, cz_64, cz_72, cz_96, cz_97, cz_99, cz_100, cz_122, cz_124, cz_126, cz_160, cz_161, cz_168, cz_200, cz_255, cz_300, cz_960, cz_999, cz_1000, cz_1001, cz_1002, cz_1003, cz_1120, cz_2000, cz_2003, cz_2004, cz_2005, cz_3999, cz_9999, cz_14640, jx_XM_kd, xk_5 hX, jx_XM_pl, jx_XM_sz, g, B, m25, hb, jx_XM_vl, jx_XW_vl, jx_XW_pl]
        simp only [s26_63]
        rw [hid]
        exact I
      · have hb' : ¬ (p < n ∧ jx_D (jx_tp X p) = true) := fun u => hb ((jx_iD H hn).mpr u.2)
        have G := F q (by rw [jx_en_e hb']; exact hq)
        rw [jx_en_e hb', show p - s0 = k by omega] at G
        simp only [s26_0, s26_1, s26_2, s26_5, s26_6, s26_9, s26_10, s26_13, s26_16, s26_17, s26_18, q26_21, q26_24, s26_27, s26_30, s26_31, s26_32, s26_35, s26_37, s26_38, s26_39, s26_40, q26_43, s26_46, s26_47, s26_49, s26_50, s26_53, s26_54, s26_54r, s26_55, s26_58, s26_59, s26_60, s26_67, s26_68, s26_71, s26_72, s26_75, s26_76, s26_77, s26_80, s26_83, s26_86, s26_89, s26_92, xIL_1, xIS_1, xQL_2, xQL_3, xAN_1, xAN_2, xAN_3, xCP_1, xC_s, xNC_I, ji_oI1, ji_oIm, kd_sC, gR_sC, gL_sC, ji_rv_s, ji_tl_s, ji_tl_n, ji_s1, ji_s2, ji_kl, List.getD_cons_zero, List.getD_cons_succ, List.set_cons_zero, List.set_cons_succ, List.length_cons, List.length_nil, ji_b_0, ji_b_1, ji_n0, ji_n1, ji_rcb_iff, ji_ok8_0, ji_ok8_1, ji_ok8_2, ji_ok8_3, ji_ok8_4, kd_sI, kd_sL, kd_sR, kd_cp, gR_sI, gR_sL, gR_cp, gL_sI, gL_sR, gL_cp, gI_sL, gI_sR, gI_sI, gL_sL, Nat.reduceEqDiff, false_and, and_false, true_and, and_true, Nat.reduceAdd, Nat.reduceLT, Nat.reduceSub, Int32.reduceLT, Int32.reduceAdd, not_false_eq_true, not_true_eq_false, and_self, ji_b_n, if_true, if_false, ↓reduceIte, cz_m100, cz_m19, cz_m18, cz_m17, cz_m16, cz_m15, cz_m14, cz_m13, cz_m12, cz_m11, cz_m4, cz_m3, cz_m2, cz_m1, cz_1, cz_2, cz_3, cz_4, cz_5, cz_6, cz_7, cz_8, cz_9, cz_10, cz_11, cz_12, cz_13, cz_14, cz_15, cz_16, cz_20, cz_24, cz_30, cz_32, cz_33, cz_38, cz_40, cz_41, cz_42, cz_43, cz_45, cz_48, cz_57, cz_59, cz_60, cz_61, cz_63, cz_64, cz_72, cz_96, cz_97, cz_99, cz_100, cz_122, cz_124, cz_126, cz_160, cz_161, cz_168, cz_200, cz_255, cz_300, cz_960, cz_999, cz_1000, cz_1001, cz_1002, cz_1003, cz_1120, cz_2000, cz_2003, cz_2004, cz_2005, cz_3999, cz_9999, cz_14640, jx_XM_kd, xk_5 hX, jx_XM_pl, jx_XM_sz, g, B, m25, hb]
        exact G
    · have g : ¬ q < ji_gI X 5 1 := by rw [vi_lt]; omega
      have G := F q (by rw [jx_en_e (by omega)]; exact hq)
      rw [jx_en_e (by omega), show p - s0 = k by omega] at G
      simp only [s26_0, s26_1, s26_2, s26_5, s26_6, s26_9, s26_10, s26_13, s26_16, s26_17, s26_18, q26_21, q26_24, s26_27, s26_30, s26_31, s26_32, s26_35, s26_37, s26_38, s26_39, s26_40, q26_43, s26_46, s26_47, s26_49, s26_50, s26_53, s26_54, s26_54r, s26_55, s26_58, s26_59, s26_60, s26_67, s26_68, s26_71, s26_72, s26_75, s26_76, s26_77, s26_80, s26_83, s26_86, s26_89, s26_92, xIL_1, xIS_1, xQL_2, xQL_3, xAN_1, xAN_2, xAN_3, xCP_1, xC_s, xNC_I, ji_oI1, ji_oIm, kd_sC, gR_sC, gL_sC, ji_rv_s, ji_tl_s, ji_tl_n, ji_s1, ji_s2, ji_kl, List.getD_cons_zero, List.getD_cons_succ, List.set_cons_zero, List.set_cons_succ, List.length_cons, List.length_nil, ji_b_0, ji_b_1, ji_n0, ji_n1, ji_rcb_iff, ji_ok8_0, ji_ok8_1, ji_ok8_2, ji_ok8_3, ji_ok8_4, kd_sI, kd_sL, kd_sR, kd_cp, gR_sI, gR_sL, gR_cp, gL_sI, gL_sR, gL_cp, gI_sL, gI_sR, gI_sI, gL_sL, Nat.reduceEqDiff, false_and, and_false, true_and, and_true, Nat.reduceAdd, Nat.reduceLT, Nat.reduceSub, Int32.reduceLT, Int32.reduceAdd, not_false_eq_true, not_true_eq_false, and_self, ji_b_n, if_true, if_false, ↓reduceIte, cz_m100, cz_m19, cz_m18, cz_m17, cz_m16, cz_m15, cz_m14, cz_m13, cz_m12, cz_m11, cz_m4, cz_m3, cz_m2, cz_m1, cz_1, cz_2, cz_3, cz_4, cz_5, cz_6, cz_7, cz_8, cz_9, cz_10, cz_11, cz_12, cz_13, cz_14, cz_15, cz_16, cz_20, cz_24, cz_30, cz_32, cz_33, cz_38, cz_40, cz_41, cz_42, cz_43, cz_45, cz_48, cz_57, cz_59, cz_60, cz_61, cz_63, cz_64, cz_72, cz_96, cz_97, cz_99, cz_100, cz_122, cz_124, cz_126, cz_160, cz_161, cz_168, cz_200, cz_255, cz_300, cz_960, cz_999, cz_1000, cz_1001, cz_1002, cz_1003, cz_1120, cz_2000, cz_2003, cz_2004, cz_2005, cz_3999, cz_9999, cz_14640, jx_XM_kd, xk_5 hX, jx_XM_pl, jx_XM_sz, g]
      exact G
end JIV
