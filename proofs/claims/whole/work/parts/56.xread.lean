/-! ===== the class's reader, dead and alive ===== -/
def jx_rk (lev : Nat) : Nat := if lev = 0 then 1 else if lev = 1 then 2 else if lev = 2 then 3 else if lev = 3 then 4 else if lev = 4 then 5 else if lev = 5 then 6 else 1
section JIV
variable {t : ji_F} {n f op lev : Nat} {acc : List Int32} {σ : jx_T} {r : jx_R}
theorem jx_fuel : ∀ (f lev op : Nat) (acc : List Int32) (σ : jx_T), (lev ≤ 5 ∨ lev = 11 ∨ lev = 12 ∨ lev = 14 ∨ lev = 15) → jx_wf n σ → (lev ≤ 5 → acc = []) → 20 * (n - σ.2.2.1) + jx_rk lev ≤ f → jx_p t n f lev op acc σ ≠ none := by
  have n42 : (42 : Int32) ≠ 1000 := by decide
  have n40 : (40 : Int32) ≠ 1000 := by decide
  have n43 : (43 : Int32) ≠ 1000 := by decide
  have n45 : (45 : Int32) ≠ 1000 := by decide
  have n60 : (60 : Int32) ≠ 1000 := by decide
  have n61 : (61 : Int32) ≠ 1000 := by decide
  have n2003 : (2003 : Int32) ≠ 1000 := by decide
  have n2004 : (2004 : Int32) ≠ 1000 := by decide
  have n2005 : (2005 : Int32) ≠ 1000 := by decide
  have r0 : jx_rk 0 = 1 := rfl
  have r1 : jx_rk 1 = 2 := rfl
  have r2 : jx_rk 2 = 3 := rfl
  have r3 : jx_rk 3 = 4 := rfl
  have r4 : jx_rk 4 = 5 := rfl
  have r5 : jx_rk 5 = 6 := rfl
  have r11 : jx_rk 11 = 1 := rfl
  have r12 : jx_rk 12 = 1 := rfl
  have r14 : jx_rk 14 = 1 := rfl
  have r15 : jx_rk 15 = 1 := rfl
  intro f
  induction f with
  | zero =>
    intro lev op acc σ hl w ha hf
    have : 1 ≤ jx_rk lev := by unfold jx_rk; repeat' split
                               all_goals omega
    omega
  | succ f ih =>
    intro lev op acc σ hl w ha hf h
    have K : ∀ (l1 op1 : Nat) (σ1 : jx_T) (g : List Int32 → jx_T → jx_R), l1 ≤ 5 → jx_wf n σ1 → 20 * (n - σ1.2.2.1) + jx_rk l1 ≤ f → (∀ s σ', jx_wf n σ' → σ1.2.2.1 ≤ σ'.2.2.1 → g s σ' ≠ none) → jx_bd (jx_p t n f l1 op1 [] σ1) g = none → False := by
      intro l1 op1 σ1 g hl1 w1 hf1 G hb
      rcases jx_bd_none hb with h1 | ⟨s, σ', h1, h2⟩
      · exact ih l1 op1 [] σ1 (Or.inl hl1) w1 (fun _ => rfl) hf1 h1
      · obtain ⟨p1, p2, p3⟩ := jx_pl _ _ _ _ _ _ h1 w1 (fun _ => rfl)
        exact G s σ' p1 p3 h2
    have hst : σ.2.2.1 ≤ n := by have := w.1; have := w.2.1; omega
    by_cases q0 : lev = 0
    · subst q0
      rw [jx_p_0] at h
      split at h
      · cases h
      split at h
      · cases h
      split at h
      · rename_i e
        have a := jx_wf_1 (t := t) w (by rw [e]; exact n45)
        have b := a.1.1
        have c := a.1.2.1
        split at h
        · cases h
        · exact K 0 _ _ _ (by omega) a.1 (by omega) (fun s σ' _ _ q => by cases q) h
      split at h
      · rename_i e
        have a := jx_wf_1 (t := t) w (by rw [e]; exact n40)
        have b := a.1.1
        have c := a.1.2.1
        split at h
        · cases h
        · refine K 5 _ _ _ (by omega) a.1 (by omega) (fun s σ' _ _ q => ?_) h
          split at q <;> cases q
      · cases h
    by_cases q1 : lev = 1
    · subst q1
      rw [jx_p_1] at h
      exact K 0 _ _ _ (by omega) w (by omega) (fun s σ' w' hs q => ih 11 _ _ _ (by omega) w' (fun q => absurd q (by omega)) (by omega) q) h
    by_cases q11 : lev = 11
    · subst q11
      rw [jx_p_11] at h
      split at h
      · rename_i e
        have a := jx_wf_1 (t := t) w (by rw [e]; exact n42)
        have b := a.1.1
        have c := a.1.2.1
        exact K 0 _ _ _ (by omega) a.1 (by omega) (fun s σ' w' hs q => ih 11 _ _ _ (by omega) w' (fun q => absurd q (by omega)) (by have := w'.1; have := w'.2.1; omega) q) h
      · cases h
    by_cases q2 : lev = 2
    · subst q2
      rw [jx_p_2] at h
      exact K 1 _ _ _ (by omega) w (by omega) (fun s σ' w' hs q => ih 12 _ _ _ (by omega) w' (fun q => absurd q (by omega)) (by omega) q) h
    by_cases q12 : lev = 12
    · subst q12
      rw [jx_p_12] at h
      split at h
      · rename_i e
        have a := jx_wf_1 (t := t) w (e.elim (fun e => by rw [e]; exact n43) (fun e => by rw [e]; exact n45))
        have b := a.1.1
        have c := a.1.2.1
        exact K 1 _ _ _ (by omega) a.1 (by omega) (fun s σ' w' hs q => ih 12 _ _ _ (by omega) w' (fun q => absurd q (by omega)) (by have := w'.1; have := w'.2.1; omega) q) h
      · cases h
    by_cases q3 : lev = 3
    · subst q3
      rw [jx_p_3] at h
      split at h
      · rename_i e
        have a := jx_wf_1 (t := t) w (by rw [e]; exact n2005)
        have b := a.1.1
        have c := a.1.2.1
        split at h
        · cases h
        · exact K 3 _ _ _ (by omega) a.1 (by omega) (fun s σ' _ _ q => by cases q) h
      · refine K 2 _ _ _ (by omega) w (by omega) (fun s σ' w' hs q => ?_) h
        split at q
        · rename_i e
          have a := jx_wf_1 (t := t) w' (e.elim (fun e => by rw [e]; exact n60) (fun e => by rw [e]; exact n61))
          have b := a.1.1
          have c := a.1.2.1
          exact K 2 _ _ _ (by omega) a.1 (by omega) (fun s σ' _ _ q => by cases q) q
        · cases q
    by_cases q4 : lev = 4
    · subst q4
      rw [jx_p_4] at h
      exact K 3 _ _ _ (by omega) w (by omega) (fun s σ' w' hs q => ih 14 _ _ _ (by omega) w' (fun q => absurd q (by omega)) (by omega) q) h
    by_cases q14 : lev = 14
    · subst q14
      rw [jx_p_14] at h
      split at h
      · rename_i e
        have a := jx_wf_1 (t := t) w (by rw [e]; exact n2004)
        have b := a.1.1
        have c := a.1.2.1
        exact K 3 _ _ _ (by omega) a.1 (by omega) (fun s σ' w' hs q => ih 14 _ _ _ (by omega) w' (fun q => absurd q (by omega)) (by have := w'.1; have := w'.2.1; omega) q) h
      · cases h
    by_cases q5 : lev = 5
    · subst q5
      rw [jx_p_5] at h
      exact K 4 _ _ _ (by omega) w (by omega) (fun s σ' w' hs q => ih 15 _ _ _ (by omega) w' (fun q => absurd q (by omega)) (by omega) q) h
    by_cases q15 : lev = 15
    · subst q15
      rw [jx_p_15] at h
      split at h
      · rename_i e
        have a := jx_wf_1 (t := t) w (by rw [e]; exact n2003)
        have b := a.1.1
        have c := a.1.2.1
        exact K 4 _ _ _ (by omega) a.1 (by omega) (fun s σ' w' hs q => ih 15 _ _ _ (by omega) w' (fun q => absurd q (by omega)) (by have := w'.1; have := w'.2.1; omega) q) h
      · cases h
    omega
end JIV
/-- steps written into a row -/
def jx_wr (sf : ji_F) (le : Nat) (s : List Int32) : ji_F := fun j => if le ≤ j ∧ j < le + s.length then s.getD (j - le) 0 else sf j
theorem jx_wr_nil {sf : ji_F} {le : Nat} : jx_wr sf le [] = sf := funext fun j => if_neg (by simp only [List.length_nil]; omega)
theorem jx_wr_app {sf : ji_F} {le : Nat} {a b : List Int32} : jx_wr (jx_wr sf le a) (le + a.length) b = jx_wr sf le (a ++ b) := by
  funext j
  unfold jx_wr
  rw [List.length_append]
  by_cases h1 : le + a.length ≤ j ∧ j < le + a.length + b.length
  · rw [if_pos h1, if_pos (by omega), List.getD_eq_getElem?_getD, List.getD_eq_getElem?_getD, List.getElem?_append_right (by omega), show j - le - a.length = j - (le + a.length) by omega]
  · rw [if_neg h1]
    by_cases h2 : le ≤ j ∧ j < le + a.length
    · rw [if_pos h2, if_pos (by omega), List.getD_eq_getElem?_getD, List.getD_eq_getElem?_getD, List.getElem?_append_left (by omega)]
    · rw [if_neg h2, if_neg (by omega)]
theorem jx_wr_1 {sf : ji_F} {le : Nat} {x : Int32} : jx_wr sf le [x] = ji_up sf le x := by
  funext j
  unfold jx_wr
  simp only [List.length_cons, List.length_nil]
  by_cases h : j = le
  · rw [up_at h, if_pos (by omega), h, Nat.sub_self]; rfl
  · rw [up_ne h, if_neg (by omega)]
theorem jx_wr_s {sf : ji_F} {le : Nat} {a : List Int32} {x : Int32} : ji_up (jx_wr sf le a) (le + a.length) x = jx_wr sf le (a ++ [x]) := by
  rw [← jx_wr_1, jx_wr_app]
/-- alive, dead -/
def jx_AL (X : ji_M) (sc : Nat) (σ : jx_T) (v : Int32) (op le : Nat) (sf : ji_F) : ji_M := jx_XM X (Int32.ofNat σ.2.2.2) (Int32.ofNat σ.2.2.1) σ.1 v (Int32.ofNat op) (-1) (Int32.ofNat le) sc sf
def jx_DD (X : ji_M) (sc q : Nat) (M : ji_M) : Prop := ∃ (pl st vl op : Int32) (le : Nat) (sf : ji_F), M = jx_XM X pl st 1001 vl op (Int32.ofNat q) (Int32.ofNat le) sc sf ∧ le ≤ 160 ∧ q ≤ 160
def jx_XQ (X : ji_M) (sc : Nat) (r : (List Int32 × jx_T) ⊕ Nat) (le : Nat) (sf : ji_F) (op : Nat) (M' : ji_M) : Prop := match r with
  | .inl q => ∃ v, jx_vok q.2.1 q.2.2.1 v ∧ M' = jx_AL X sc q.2 v op (le + q.1.length) (jx_wr sf le q.1)
  | .inr z => jx_DD X sc z M'
section JIV
variable {X N M : ji_M} {P : ji_P} {x y z v : Int32} {pl st tk vl op fa le : Int32} {f sf : ji_F} {d a b r c m s p n i j sc q l : Nat} {o : Option Value × ji_M}
theorem m38 (H : jx_OK X n sc) (hl : l < 160) : ji_CL (d + 1) 38 [.ref 5, .int x] (jx_XM X pl st tk vl op fa (Int32.ofNat l) sc sf) = some (none, jx_XM X pl st tk vl op fa (Int32.ofNat (l + 1)) sc (ji_up sf l x)) := by
  obtain ⟨hX, h1, h2, h3, h4, h5, h6, h7⟩ := H
  have el := vi_nn (n := l) (by omega)
  have e160 : (160 : Int32).toInt = 160 := rfl
  have o160 : Int32.ofNat 160 = 160 := rfl
  have g : Int32.ofNat l < 160 := by rw [vi_lt]; omega
  have g2 : vp_in (Int32.ofNat l) 160 := vi_in.mpr ⟨by omega, by omega⟩
  have g3 : (Int32.ofNat l).toNatClampNeg = l := by rw [vi_nat]; omega
  have e1 : Int32.ofNat l + 1 = Int32.ofNat (l + 1) := (Int32.ofNat_add l 1).symm
  apply en_38
  simp only [s38_0, s38_1, s38_4, s38_5, q38_8, s38_9, s38_12, s38_13, s38_16, s38_17, s38_20, q38_21, s38_22, s38_23, s38_23r, s38_24, s38_27, s38_28, s38_29, s38_32, xIL_1, xIS_1, xQL_2, xQL_3, xAN_1, xAN_2, xAN_3, xCP_1, xC_s, xNC_I, ji_oI1, ji_oIm, kd_sC, gR_sC, gL_sC, ji_rv_s, ji_tl_s, ji_tl_n, ji_s1, ji_s2, ji_kl, List.getD_cons_zero, List.getD_cons_succ, List.set_cons_zero, List.set_cons_succ, List.length_cons, List.length_nil, ji_b_0, ji_b_1, ji_n0, ji_n1, ji_rcb_iff, ji_ok8_0, ji_ok8_1, ji_ok8_2, ji_ok8_3, ji_ok8_4, kd_sI, kd_sL, kd_sR, kd_cp, gR_sI, gR_sL, gR_cp, gL_sI, gL_sR, gL_cp, gI_sL, gI_sR, gI_sI, gL_sL, Nat.reduceEqDiff, false_and, and_false, true_and, and_true, Nat.reduceAdd, Nat.reduceLT, Nat.reduceSub, Int32.reduceLT, Int32.reduceAdd, not_false_eq_true, not_true_eq_false, and_self, ji_b_n, if_true, if_false, ↓reduceIte, cz_m100, cz_m19, cz_m18, cz_m17, cz_m16, cz_m15, cz_m14, cz_m13, cz_m12, cz_m11, cz_m4, cz_m3, cz_m2, cz_m1, cz_1, cz_2, cz_3, cz_4, cz_5, cz_6, cz_7, cz_8, cz_9, cz_10, cz_11, cz_12, cz_13, cz_14, cz_15, cz_16, cz_20, cz_24, cz_30, cz_32, cz_33, cz_38, cz_40, cz_41, cz_42, cz_43, cz_45, cz_48, cz_57, cz_59, cz_60, cz_61, cz_63, cz_64, cz_72, cz_96, cz_97, cz_99, cz_100, cz_122, cz_124, cz_126, cz_160, cz_161, cz_168, cz_200, cz_255, cz_300, cz_960, cz_999, cz_1000, cz_1001, cz_1002, cz_1003, cz_1120, cz_2000, cz_2003, cz_2004, cz_2005, cz_3999, cz_9999, cz_14640, jx_XM_kd, jx_XM_gR, xk_5 hX, h4, h5, o160, jx_XM_le, g, g2, g3, jx_XW_c (show sc ≠ 5 by omega), jx_XW_le, e1]
theorem m38f (H : jx_OK X n sc) : ji_CL (d + 1) 38 [.ref 5, .int x] (jx_XM X pl st tk vl op fa (Int32.ofNat 160) sc sf) = some (none, jx_XM X pl st tk vl op fa (Int32.ofNat 160) sc sf) := by
  obtain ⟨hX, h1, h2, h3, h4, h5, h6, h7⟩ := H
  have o160 : Int32.ofNat 160 = 160 := rfl
  rw [o160]
  apply en_38
  simp only [s38_0, s38_1, s38_4, s38_5, q38_8, s38_9, s38_12, s38_13, s38_16, s38_17, s38_20, q38_21, s38_22, s38_23, s38_23r, s38_24, s38_27, s38_28, s38_29, s38_32, xIL_1, xIS_1, xQL_2, xQL_3, xAN_1, xAN_2, xAN_3, xCP_1, xC_s, xNC_I, ji_oI1, ji_oIm, kd_sC, gR_sC, gL_sC, ji_rv_s, ji_tl_s, ji_tl_n, ji_s1, ji_s2, ji_kl, List.getD_cons_zero, List.getD_cons_succ, List.set_cons_zero, List.set_cons_succ, List.length_cons, List.length_nil, ji_b_0, ji_b_1, ji_n0, ji_n1, ji_rcb_iff, ji_ok8_0, ji_ok8_1, ji_ok8_2, ji_ok8_3, ji_ok8_4, kd_sI, kd_sL, kd_sR, kd_cp, gR_sI, gR_sL, gR_cp, gL_sI, gL_sR, gL_cp, gI_sL, gI_sR, gI_sI, gL_sL, Nat.reduceEqDiff, false_and, and_false, true_and, and_true, Nat.reduceAdd, Nat.reduceLT, Nat.reduceSub, Int32.reduceLT, Int32.reduceAdd, not_false_eq_true, not_true_eq_false, and_self, ji_b_n, if_true, if_false, ↓reduceIte, cz_m100, cz_m19, cz_m18, cz_m17, cz_m16, cz_m15, cz_m14, cz_m13, cz_m12, cz_m11, cz_m4, cz_m3, cz_m2, cz_m1, cz_1, cz_2, cz_3, cz_4, cz_5, cz_6, cz_7, cz_8, cz_9, cz_10, cz_11, cz_12, cz_13, cz_14, cz_15, cz_16, cz_20, cz_24, cz_30, cz_32, cz_33, cz_38, cz_40, cz_41, cz_42, cz_43, cz_45, cz_48, cz_57, cz_59, cz_60, cz_61, cz_63, cz_64, cz_72, cz_96, cz_97, cz_99, cz_100, cz_122, cz_124, cz_126, cz_160, cz_161, cz_168, cz_200, cz_255, cz_300, cz_960, cz_999, cz_1000, cz_1001, cz_1002, cz_1003, cz_1120, cz_2000, cz_2003, cz_2004, cz_2005, cz_3999, cz_9999, cz_14640, jx_XM_kd, jx_XM_gR, xk_5 hX, h4, h5, o160, jx_XM_le, Int32.lt_irrefl]
theorem m33a (H : jx_OK X n sc) : ji_CL (d + 1) 33 [.ref 5] (jx_XM X pl st tk vl op (-1) le sc sf) = some (none, jx_XM X pl st 1001 vl op st le sc sf) := by
  have hX := H.1
  apply en_33
  simp only [s33_0, s33_1, s33_4, s33_5, s33_8, s33_9, s33_10, s33_13, s33_16, s33_17, s33_20, s33_23, xIL_1, xIS_1, xQL_2, xQL_3, xAN_1, xAN_2, xAN_3, xCP_1, xC_s, xNC_I, ji_oI1, ji_oIm, kd_sC, gR_sC, gL_sC, ji_rv_s, ji_tl_s, ji_tl_n, ji_s1, ji_s2, ji_kl, List.getD_cons_zero, List.getD_cons_succ, List.set_cons_zero, List.set_cons_succ, List.length_cons, List.length_nil, ji_b_0, ji_b_1, ji_n0, ji_n1, ji_rcb_iff, ji_ok8_0, ji_ok8_1, ji_ok8_2, ji_ok8_3, ji_ok8_4, kd_sI, kd_sL, kd_sR, kd_cp, gR_sI, gR_sL, gR_cp, gL_sI, gL_sR, gL_cp, gI_sL, gI_sR, gI_sI, gL_sL, Nat.reduceEqDiff, false_and, and_false, true_and, and_true, Nat.reduceAdd, Nat.reduceLT, Nat.reduceSub, Int32.reduceLT, Int32.reduceAdd, not_false_eq_true, not_true_eq_false, and_self, ji_b_n, if_true, if_false, ↓reduceIte, cz_m100, cz_m19, cz_m18, cz_m17, cz_m16, cz_m15, cz_m14, cz_m13, cz_m12, cz_m11, cz_m4, cz_m3, cz_m2, cz_m1, cz_1, cz_2, cz_3, cz_4, cz_5, cz_6, cz_7, cz_8, cz_9, cz_10, cz_11, cz_12, cz_13, cz_14, cz_15, cz_16, cz_20, cz_24, cz_30, cz_32, cz_33, cz_38, cz_40, cz_41, cz_42, cz_43, cz_45, cz_48, cz_57, cz_59, cz_60, cz_61, cz_63, cz_64, cz_72, cz_96, cz_97, cz_99, cz_100, cz_122, cz_124, cz_126, cz_160, cz_161, cz_168, cz_200, cz_255, cz_300, cz_960, cz_999, cz_1000, cz_1001, cz_1002, cz_1003, cz_1120, cz_2000, cz_2003, cz_2004, cz_2005, cz_3999, cz_9999, cz_14640, jx_XM_kd, xk_5 hX, jx_XM_fa, jx_XM_st, jx_XW_fa, jx_XW_tk]
theorem m33d (H : jx_OK X n sc) (hq : q ≤ 160) : ji_CL (d + 1) 33 [.ref 5] (jx_XM X pl st tk vl op (Int32.ofNat q) le sc sf) = some (none, jx_XM X pl st 1001 vl op (Int32.ofNat q) le sc sf) := by
  have hX := H.1
  have e : ¬ Int32.ofNat q = -1 := by
    have e1 := vi_nn (n := q) (by omega)
    have e2 : (-1 : Int32).toInt = -1 := rfl
    rw [vi_eq, e1, e2]; omega
  apply en_33
  simp only [s33_0, s33_1, s33_4, s33_5, s33_8, s33_9, s33_10, s33_13, s33_16, s33_17, s33_20, s33_23, xIL_1, xIS_1, xQL_2, xQL_3, xAN_1, xAN_2, xAN_3, xCP_1, xC_s, xNC_I, ji_oI1, ji_oIm, kd_sC, gR_sC, gL_sC, ji_rv_s, ji_tl_s, ji_tl_n, ji_s1, ji_s2, ji_kl, List.getD_cons_zero, List.getD_cons_succ, List.set_cons_zero, List.set_cons_succ, List.length_cons, List.length_nil, ji_b_0, ji_b_1, ji_n0, ji_n1, ji_rcb_iff, ji_ok8_0, ji_ok8_1, ji_ok8_2, ji_ok8_3, ji_ok8_4, kd_sI, kd_sL, kd_sR, kd_cp, gR_sI, gR_sL, gR_cp, gL_sI, gL_sR, gL_cp, gI_sL, gI_sR, gI_sI, gL_sL, Nat.reduceEqDiff, false_and, and_false, true_and, and_true, Nat.reduceAdd, Nat.reduceLT, Nat.reduceSub, Int32.reduceLT, Int32.reduceAdd, not_false_eq_true, not_true_eq_false, and_self, ji_b_n, if_true, if_false, ↓reduceIte, cz_m100, cz_m19, cz_m18, cz_m17, cz_m16, cz_m15, cz_m14, cz_m13, cz_m12, cz_m11, cz_m4, cz_m3, cz_m2, cz_m1, cz_1, cz_2, cz_3, cz_4, cz_5, cz_6, cz_7, cz_8, cz_9, cz_10, cz_11, cz_12, cz_13, cz_14, cz_15, cz_16, cz_20, cz_24, cz_30, cz_32, cz_33, cz_38, cz_40, cz_41, cz_42, cz_43, cz_45, cz_48, cz_57, cz_59, cz_60, cz_61, cz_63, cz_64, cz_72, cz_96, cz_97, cz_99, cz_100, cz_122, cz_124, cz_126, cz_160, cz_161, cz_168, cz_200, cz_255, cz_300, cz_960, cz_999, cz_1000, cz_1001, cz_1002, cz_1003, cz_1120, cz_2000, cz_2003, cz_2004, cz_2005, cz_3999, cz_9999, cz_14640, jx_XM_kd, xk_5 hX, jx_XM_fa, e, jx_XW_tk]
theorem dd_38 (H : jx_OK X n sc) (D : jx_DD X sc q M) : ∃ M', jx_DD X sc q M' ∧ ∀ d, ji_CL (d + 1) 38 [.ref 5, .int x] M = some (none, M') := by
  obtain ⟨pl, st, vl, op, le, sf, rfl, h1, h2⟩ := D
  by_cases h : le < 160
  · exact ⟨_, ⟨pl, st, vl, op, le + 1, _, rfl, by omega, h2⟩, fun d => m38 H h⟩
  · obtain rfl : le = 160 := by omega
    exact ⟨_, ⟨pl, st, vl, op, 160, _, rfl, by omega, h2⟩, fun d => m38f H⟩
theorem dd_op (H : jx_OK X n sc) (D : jx_DD X sc q M) : jx_DD X sc q (ji_sI M 5 6 x) := by
  obtain ⟨pl, st, vl, op, le, sf, rfl, h1, h2⟩ := D
  exact ⟨pl, st, vl, x, le, sf, jx_XW_op, h1, h2⟩
theorem dd_tk (D : jx_DD X sc q M) : ji_gI M 5 4 = 1001 := by
  obtain ⟨pl, st, vl, op, le, sf, rfl, h1, h2⟩ := D
  rfl
theorem dd_kd (H : jx_OK X n sc) (D : jx_DD X sc q M) : ji_kd M 5 = some (0, 6) := by
  obtain ⟨pl, st, vl, op, le, sf, rfl, h1, h2⟩ := D
  exact (xk_5 H.1 : ji_kd X 5 = some (0, 6))
theorem dd_33 (H : jx_OK X n sc) (D : jx_DD X sc q M) : ∃ M', jx_DD X sc q M' ∧ ∀ d, ji_CL (d + 1) 33 [.ref 5] M = some (none, M') := by
  obtain ⟨pl, st, vl, op, le, sf, rfl, h1, h2⟩ := D
  exact ⟨_, ⟨pl, st, vl, op, le, _, rfl, h1, h2⟩, fun d => m33d H h2⟩
theorem dd_32 (H : jx_OK X n sc) (D : jx_DD X sc q M) (hx : ¬ (1001 : Int32) = x) : ∃ M', jx_DD X sc q M' ∧ ∀ d, ji_CL (d + 2) 32 [.ref 5, .int x] M = some (none, M') := by
  obtain ⟨M', D', h⟩ := dd_33 H D
  refine ⟨M', D', fun d => ?_⟩
  apply en_32
  simp only [s32_0, s32_1, s32_4, s32_5, s32_8, q32_9, s32_12, s32_15, s32_16, s32_19, s32_22, q32_23, s32_26, xIL_1, xIS_1, xQL_2, xQL_3, xAN_1, xAN_2, xAN_3, xCP_1, xC_s, xNC_I, ji_oI1, ji_oIm, kd_sC, gR_sC, gL_sC, ji_rv_s, ji_tl_s, ji_tl_n, ji_s1, ji_s2, ji_kl, List.getD_cons_zero, List.getD_cons_succ, List.set_cons_zero, List.set_cons_succ, List.length_cons, List.length_nil, ji_b_0, ji_b_1, ji_n0, ji_n1, ji_rcb_iff, ji_ok8_0, ji_ok8_1, ji_ok8_2, ji_ok8_3, ji_ok8_4, kd_sI, kd_sL, kd_sR, kd_cp, gR_sI, gR_sL, gR_cp, gL_sI, gL_sR, gL_cp, gI_sL, gI_sR, gI_sI, gL_sL, Nat.reduceEqDiff, false_and, and_false, true_and, and_true, Nat.reduceAdd, Nat.reduceLT, Nat.reduceSub, Int32.reduceLT, Int32.reduceAdd, not_false_eq_true, not_true_eq_false, and_self, ji_b_n, if_true, if_false, ↓reduceIte, cz_m100, cz_m19, cz_m18, cz_m17, cz_m16, cz_m15, cz_m14, cz_m13, cz_m12, cz_m11, cz_m4, cz_m3, cz_m2, cz_m1, cz_1, cz_2, cz_3, cz_4, cz_5, cz_6, cz_7, cz_8, cz_9, cz_10, cz_11, cz_12, cz_13, cz_14, cz_15, cz_16, cz_20, cz_24, cz_30, cz_32, cz_33, cz_38, cz_40, cz_41, cz_42, cz_43, cz_45, cz_48, cz_57, cz_59, cz_60, cz_61, cz_63, cz_64, cz_72, cz_96, cz_97, cz_99, cz_100, cz_122, cz_124, cz_126, cz_160, cz_161, cz_168, cz_200, cz_255, cz_300, cz_960, cz_999, cz_1000, cz_1001, cz_1002, cz_1003, cz_1120, cz_2000, cz_2003, cz_2004, cz_2005, cz_3999, cz_9999, cz_14640, dd_kd H D, dd_tk D, hx, h]
theorem dd_38o (H : jx_OK X n sc) (D : jx_DD X sc q M) : ∃ M', jx_DD X sc q M' ∧ ji_gI M' 5 6 = ji_gI M 5 6 ∧ ∀ d, ji_CL (d + 1) 38 [.ref 5, .int x] M = some (none, M') := by
  obtain ⟨pl, st, vl, op, le, sf, rfl, h1, h2⟩ := D
  by_cases h : le < 160
  · exact ⟨_, ⟨pl, st, vl, op, le + 1, ji_up sf le x, rfl, by omega, h2⟩, rfl, fun d => m38 H h⟩
  · obtain rfl : le = 160 := by omega
    exact ⟨_, ⟨pl, st, vl, op, 160, sf, rfl, by omega, h2⟩, rfl, fun d => m38f H⟩
/-! what stays open ends: one (41), notOrCompared (36) -/
theorem dd_lp41 (H : jx_OK X n sc) {b y : Int32} : ∀ (m : Nat) (M : ji_M), jx_DD X sc q M → (ji_gI M 5 6).toInt - b.toInt ≤ m → ∃ M', jx_DD X sc q M' ∧ ∀ d, ji_Ev (ji_CL (d + 1)) 41 146 M [some (.ref 5), some (.int b), some (.int y)] [] (none, M') := by
  intro m
  induction m with
  | zero =>
    intro M D h
    have g : ¬ b < ji_gI M 5 6 := by rw [vi_lt]; omega
    refine ⟨M, D, fun d => ?_⟩
    simp only [s41_0, s41_1, s41_4, s41_5, s41_6, s41_7, s41_8, s41_9, s41_12, s41_13, s41_16, s41_18, s41_21, q41_22, s41_25, s41_28, q41_29, q41_32, s41_35, s41_38, s41_39, s41_42, s41_76, s41_77, s41_78, q41_81, s41_84, q41_85, s41_88, s41_91, s41_92, s41_93, s41_94, s41_97, q41_98, s41_101, q41_102, s41_105, s41_108, q41_109, s41_112, s41_115, q41_116, s41_119, q41_120, s41_123, s41_124, s41_124r, s41_125, s41_128, s41_129, s41_130, s41_133, s41_134, q41_136, s41_139, s41_142, q41_143, s41_146, s41_147, s41_150, s41_151, s41_154, s41_155, q41_157, s41_160, s41_161, s41_161r, s41_162, s41_165, s41_166, s41_167, s41_173, xIL_1, xIS_1, xQL_2, xQL_3, xAN_1, xAN_2, xAN_3, xCP_1, xC_s, xNC_I, ji_oI1, ji_oIm, kd_sC, gR_sC, gL_sC, ji_rv_s, ji_tl_s, ji_tl_n, ji_s1, ji_s2, ji_kl, List.getD_cons_zero, List.getD_cons_succ, List.set_cons_zero, List.set_cons_succ, List.length_cons, List.length_nil, ji_b_0, ji_b_1, ji_n0, ji_n1, ji_rcb_iff, ji_ok8_0, ji_ok8_1, ji_ok8_2, ji_ok8_3, ji_ok8_4, kd_sI, kd_sL, kd_sR, kd_cp, gR_sI, gR_sL, gR_cp, gL_sI, gL_sR, gL_cp, gI_sL, gI_sR, gI_sI, gL_sL, Nat.reduceEqDiff, false_and, and_false, true_and, and_true, Nat.reduceAdd, Nat.reduceLT, Nat.reduceSub, Int32.reduceLT, Int32.reduceAdd, not_false_eq_true, not_true_eq_false, and_self, ji_b_n, if_true, if_false, ↓reduceIte, cz_m100, cz_m19, cz_m18, cz_m17, cz_m16, cz_m15, cz_m14, cz_m13, cz_m12, cz_m11, cz_m4, cz_m3, cz_m2, cz_m1, cz_1, cz_2, cz_3, cz_4, cz_5, cz_6, cz_7, cz_8, cz_9, cz_10, cz_11, cz_12, cz_13, cz_14, cz_15, cz_16, cz_20, cz_24, cz_30, cz_32, cz_33, cz_38, cz_40, cz_41, cz_42, cz_43, cz_45, cz_48, cz_57, cz_59, cz_60, cz_61, cz_63, cz_64, cz_72, cz_96, cz_97, cz_99, cz_100, cz_122, cz_124, cz_126, cz_160, cz_161, cz_168, cz_200, cz_255, cz_300, cz_960, cz_999, cz_1000, cz_1001, cz_1002, cz_1003, cz_1120, cz_2000, cz_2003, cz_2004, cz_2005, cz_3999, cz_9999, cz_14640, dd_kd H D, g]
  | succ m ih =>
    intro M D h
    by_cases g : b < ji_gI M 5 6
    · obtain ⟨M1, D1, e1, C1⟩ := dd_38o (x := -14) H D
      have hb := vi_lo b
      have hg := vi_lt.mp g
      have ho := vi_hi (ji_gI M 5 6)
      have o1 : (1 : Int32).toInt = 1 := rfl
      have e2 : (ji_gI M 5 6 - 1).toInt = (ji_gI M 5 6).toInt - 1 := by rw [vi_sub (by rw [o1]; omega) (by rw [o1]; omega), o1]
      have e3 : ji_gI (ji_sI M1 5 6 (ji_gI M1 5 6 - 1)) 5 6 = ji_gI M 5 6 - 1 := by rw [gI_sI, if_pos ⟨rfl, rfl⟩, e1]
      obtain ⟨M2, D2, C2⟩ := ih _ (dd_op (x := ji_gI M1 5 6 - 1) H D1) (by rw [e3, e2]; omega)
      refine ⟨M2, D2, fun d => ?_⟩
      simp only [s41_0, s41_1, s41_4, s41_5, s41_6, s41_7, s41_8, s41_9, s41_12, s41_13, s41_16, s41_18, s41_21, q41_22, s41_25, s41_28, q41_29, q41_32, s41_35, s41_38, s41_39, s41_42, s41_76, s41_77, s41_78, q41_81, s41_84, q41_85, s41_88, s41_91, s41_92, s41_93, s41_94, s41_97, q41_98, s41_101, q41_102, s41_105, s41_108, q41_109, s41_112, s41_115, q41_116, s41_119, q41_120, s41_123, s41_124, s41_124r, s41_125, s41_128, s41_129, s41_130, s41_133, s41_134, q41_136, s41_139, s41_142, q41_143, s41_146, s41_147, s41_150, s41_151, s41_154, s41_155, q41_157, s41_160, s41_161, s41_161r, s41_162, s41_165, s41_166, s41_167, s41_173, xIL_1, xIS_1, xQL_2, xQL_3, xAN_1, xAN_2, xAN_3, xCP_1, xC_s, xNC_I, ji_oI1, ji_oIm, kd_sC, gR_sC, gL_sC, ji_rv_s, ji_tl_s, ji_tl_n, ji_s1, ji_s2, ji_kl, List.getD_cons_zero, List.getD_cons_succ, List.set_cons_zero, List.set_cons_succ, List.length_cons, List.length_nil, ji_b_0, ji_b_1, ji_n0, ji_n1, ji_rcb_iff, ji_ok8_0, ji_ok8_1, ji_ok8_2, ji_ok8_3, ji_ok8_4, kd_sI, kd_sL, kd_sR, kd_cp, gR_sI, gR_sL, gR_cp, gL_sI, gL_sR, gL_cp, gI_sL, gI_sR, gI_sI, gL_sL, Nat.reduceEqDiff, false_and, and_false, true_and, and_true, Nat.reduceAdd, Nat.reduceLT, Nat.reduceSub, Int32.reduceLT, Int32.reduceAdd, not_false_eq_true, not_true_eq_false, and_self, ji_b_n, if_true, if_false, ↓reduceIte, cz_m100, cz_m19, cz_m18, cz_m17, cz_m16, cz_m15, cz_m14, cz_m13, cz_m12, cz_m11, cz_m4, cz_m3, cz_m2, cz_m1, cz_1, cz_2, cz_3, cz_4, cz_5, cz_6, cz_7, cz_8, cz_9, cz_10, cz_11, cz_12, cz_13, cz_14, cz_15, cz_16, cz_20, cz_24, cz_30, cz_32, cz_33, cz_38, cz_40, cz_41, cz_42, cz_43, cz_45, cz_48, cz_57, cz_59, cz_60, cz_61, cz_63, cz_64, cz_72, cz_96, cz_97, cz_99, cz_100, cz_122, cz_124, cz_126, cz_160, cz_161, cz_168, cz_200, cz_255, cz_300, cz_960, cz_999, cz_1000, cz_1001, cz_1002, cz_1003, cz_1120, cz_2000, cz_2003, cz_2004, cz_2005, cz_3999, cz_9999, cz_14640, dd_kd H D, g, C1 d, dd_kd H D1]
      simp only [s41_170]
      exact C2 d
    · refine ⟨M, D, fun d => ?_⟩
      simp only [s41_0, s41_1, s41_4, s41_5, s41_6, s41_7, s41_8, s41_9, s41_12, s41_13, s41_16, s41_18, s41_21, q41_22, s41_25, s41_28, q41_29, q41_32, s41_35, s41_38, s41_39, s41_42, s41_76, s41_77, s41_78, q41_81, s41_84, q41_85, s41_88, s41_91, s41_92, s41_93, s41_94, s41_97, q41_98, s41_101, q41_102, s41_105, s41_108, q41_109, s41_112, s41_115, q41_116, s41_119, q41_120, s41_123, s41_124, s41_124r, s41_125, s41_128, s41_129, s41_130, s41_133, s41_134, q41_136, s41_139, s41_142, q41_143, s41_146, s41_147, s41_150, s41_151, s41_154, s41_155, q41_157, s41_160, s41_161, s41_161r, s41_162, s41_165, s41_166, s41_167, s41_173, xIL_1, xIS_1, xQL_2, xQL_3, xAN_1, xAN_2, xAN_3, xCP_1, xC_s, xNC_I, ji_oI1, ji_oIm, kd_sC, gR_sC, gL_sC, ji_rv_s, ji_tl_s, ji_tl_n, ji_s1, ji_s2, ji_kl, List.getD_cons_zero, List.getD_cons_succ, List.set_cons_zero, List.set_cons_succ, List.length_cons, List.length_nil, ji_b_0, ji_b_1, ji_n0, ji_n1, ji_rcb_iff, ji_ok8_0, ji_ok8_1, ji_ok8_2, ji_ok8_3, ji_ok8_4, kd_sI, kd_sL, kd_sR, kd_cp, gR_sI, gR_sL, gR_cp, gL_sI, gL_sR, gL_cp, gI_sL, gI_sR, gI_sI, gL_sL, Nat.reduceEqDiff, false_and, and_false, true_and, and_true, Nat.reduceAdd, Nat.reduceLT, Nat.reduceSub, Int32.reduceLT, Int32.reduceAdd, not_false_eq_true, not_true_eq_false, and_self, ji_b_n, if_true, if_false, ↓reduceIte, cz_m100, cz_m19, cz_m18, cz_m17, cz_m16, cz_m15, cz_m14, cz_m13, cz_m12, cz_m11, cz_m4, cz_m3, cz_m2, cz_m1, cz_1, cz_2, cz_3, cz_4, cz_5, cz_6, cz_7, cz_8, cz_9, cz_10, cz_11, cz_12, cz_13, cz_14, cz_15, cz_16, cz_20, cz_24, cz_30, cz_32, cz_33, cz_38, cz_40, cz_41, cz_42, cz_43, cz_45, cz_48, cz_57, cz_59, cz_60, cz_61, cz_63, cz_64, cz_72, cz_96, cz_97, cz_99, cz_100, cz_122, cz_124, cz_126, cz_160, cz_161, cz_168, cz_200, cz_255, cz_300, cz_960, cz_999, cz_1000, cz_1001, cz_1002, cz_1003, cz_1120, cz_2000, cz_2003, cz_2004, cz_2005, cz_3999, cz_9999, cz_14640, dd_kd H D, g]
theorem dd_lp36 (H : jx_OK X n sc) {b y : Int32} : ∀ (m : Nat) (M : ji_M), jx_DD X sc q M → (ji_gI M 5 6).toInt - b.toInt ≤ m → ∃ M', jx_DD X sc q M' ∧ ∀ d, ji_Ev (ji_CL (d + 1)) 36 91 M [some (.ref 5), some (.int b), some (.int y)] [] (none, M') := by
  intro m
  induction m with
  | zero =>
    intro M D h
    have g : ¬ b < ji_gI M 5 6 := by rw [vi_lt]; omega
    refine ⟨M, D, fun d => ?_⟩
    simp only [s36_0, s36_1, s36_4, s36_5, s36_6, s36_7, s36_8, s36_9, s36_12, s36_13, s36_16, s36_19, s36_22, q36_23, s36_26, s36_29, q36_30, q36_33, s36_36, s36_39, q36_40, s36_43, s36_44, s36_47, s36_49, s36_52, s36_53, s36_56, s36_58, s36_61, s36_62, s36_65, s36_67, s36_70, s36_72, s36_75, s36_77, s36_78, q36_79, s36_82, q36_83, s36_86, s36_87, q36_88, s36_91, s36_92, s36_95, s36_96, s36_99, s36_100, q36_102, s36_105, s36_106, s36_106r, s36_107, s36_110, s36_111, s36_112, s36_118, xIL_1, xIS_1, xQL_2, xQL_3, xAN_1, xAN_2, xAN_3, xCP_1, xC_s, xNC_I, ji_oI1, ji_oIm, kd_sC, gR_sC, gL_sC, ji_rv_s, ji_tl_s, ji_tl_n, ji_s1, ji_s2, ji_kl, List.getD_cons_zero, List.getD_cons_succ, List.set_cons_zero, List.set_cons_succ, List.length_cons, List.length_nil, ji_b_0, ji_b_1, ji_n0, ji_n1, ji_rcb_iff, ji_ok8_0, ji_ok8_1, ji_ok8_2, ji_ok8_3, ji_ok8_4, kd_sI, kd_sL, kd_sR, kd_cp, gR_sI, gR_sL, gR_cp, gL_sI, gL_sR, gL_cp, gI_sL, gI_sR, gI_sI, gL_sL, Nat.reduceEqDiff, false_and, and_false, true_and, and_true, Nat.reduceAdd, Nat.reduceLT, Nat.reduceSub, Int32.reduceLT, Int32.reduceAdd, not_false_eq_true, not_true_eq_false, and_self, ji_b_n, if_true, if_false, ↓reduceIte, cz_m100, cz_m19, cz_m18, cz_m17, cz_m16, cz_m15, cz_m14, cz_m13, cz_m12, cz_m11, cz_m4, cz_m3, cz_m2, cz_m1, cz_1, cz_2, cz_3, cz_4, cz_5, cz_6, cz_7, cz_8, cz_9, cz_10, cz_11, cz_12, cz_13, cz_14, cz_15, cz_16, cz_20, cz_24, cz_30, cz_32, cz_33, cz_38, cz_40, cz_41, cz_42, cz_43, cz_45, cz_48, cz_57, cz_59, cz_60, cz_61, cz_63, cz_64, cz_72, cz_96, cz_97, cz_99, cz_100, cz_122, cz_124, cz_126, cz_160, cz_161, cz_168, cz_200, cz_255, cz_300, cz_960, cz_999, cz_1000, cz_1001, cz_1002, cz_1003, cz_1120, cz_2000, cz_2003, cz_2004, cz_2005, cz_3999, cz_9999, cz_14640, dd_kd H D, g]
  | succ m ih =>
    intro M D h
    by_cases g : b < ji_gI M 5 6
    · obtain ⟨M1, D1, e1, C1⟩ := dd_38o (x := -13) H D
      have hb := vi_lo b
      have hg := vi_lt.mp g
      have ho := vi_hi (ji_gI M 5 6)
      have o1 : (1 : Int32).toInt = 1 := rfl
      have e2 : (ji_gI M 5 6 - 1).toInt = (ji_gI M 5 6).toInt - 1 := by rw [vi_sub (by rw [o1]; omega) (by rw [o1]; omega), o1]
      have e3 : ji_gI (ji_sI M1 5 6 (ji_gI M1 5 6 - 1)) 5 6 = ji_gI M 5 6 - 1 := by rw [gI_sI, if_pos ⟨rfl, rfl⟩, e1]
      obtain ⟨M2, D2, C2⟩ := ih _ (dd_op (x := ji_gI M1 5 6 - 1) H D1) (by rw [e3, e2]; omega)
      refine ⟨M2, D2, fun d => ?_⟩
      simp only [s36_0, s36_1, s36_4, s36_5, s36_6, s36_7, s36_8, s36_9, s36_12, s36_13, s36_16, s36_19, s36_22, q36_23, s36_26, s36_29, q36_30, q36_33, s36_36, s36_39, q36_40, s36_43, s36_44, s36_47, s36_49, s36_52, s36_53, s36_56, s36_58, s36_61, s36_62, s36_65, s36_67, s36_70, s36_72, s36_75, s36_77, s36_78, q36_79, s36_82, q36_83, s36_86, s36_87, q36_88, s36_91, s36_92, s36_95, s36_96, s36_99, s36_100, q36_102, s36_105, s36_106, s36_106r, s36_107, s36_110, s36_111, s36_112, s36_118, xIL_1, xIS_1, xQL_2, xQL_3, xAN_1, xAN_2, xAN_3, xCP_1, xC_s, xNC_I, ji_oI1, ji_oIm, kd_sC, gR_sC, gL_sC, ji_rv_s, ji_tl_s, ji_tl_n, ji_s1, ji_s2, ji_kl, List.getD_cons_zero, List.getD_cons_succ, List.set_cons_zero, List.set_cons_succ, List.length_cons, List.length_nil, ji_b_0, ji_b_1, ji_n0, ji_n1, ji_rcb_iff, ji_ok8_0, ji_ok8_1, ji_ok8_2, ji_ok8_3, ji_ok8_4, kd_sI, kd_sL, kd_sR, kd_cp, gR_sI, gR_sL, gR_cp, gL_sI, gL_sR, gL_cp, gI_sL, gI_sR, gI_sI, gL_sL, Nat.reduceEqDiff, false_and, and_false, true_and, and_true, Nat.reduceAdd, Nat.reduceLT, Nat.reduceSub, Int32.reduceLT, Int32.reduceAdd, not_false_eq_true, not_true_eq_false, and_self, ji_b_n, if_true, if_false, ↓reduceIte, cz_m100, cz_m19, cz_m18, cz_m17, cz_m16, cz_m15, cz_m14, cz_m13, cz_m12, cz_m11, cz_m4, cz_m3, cz_m2, cz_m1, cz_1, cz_2, cz_3, cz_4, cz_5, cz_6, cz_7, cz_8, cz_9, cz_10, cz_11, cz_12, cz_13, cz_14, cz_15, cz_16, cz_20, cz_24, cz_30, cz_32, cz_33, cz_38, cz_40, cz_41, cz_42, cz_43, cz_45, cz_48, cz_57, cz_59, cz_60, cz_61, cz_63, cz_64, cz_72, cz_96, cz_97, cz_99, cz_100, cz_122, cz_124, cz_126, cz_160, cz_161, cz_168, cz_200, cz_255, cz_300, cz_960, cz_999, cz_1000, cz_1001, cz_1002, cz_1003, cz_1120, cz_2000, cz_2003, cz_2004, cz_2005, cz_3999, cz_9999, cz_14640, dd_kd H D, g, C1 d, dd_kd H D1]
      simp only [s36_115]
      exact C2 d
    · refine ⟨M, D, fun d => ?_⟩
      simp only [s36_0, s36_1, s36_4, s36_5, s36_6, s36_7, s36_8, s36_9, s36_12, s36_13, s36_16, s36_19, s36_22, q36_23, s36_26, s36_29, q36_30, q36_33, s36_36, s36_39, q36_40, s36_43, s36_44, s36_47, s36_49, s36_52, s36_53, s36_56, s36_58, s36_61, s36_62, s36_65, s36_67, s36_70, s36_72, s36_75, s36_77, s36_78, q36_79, s36_82, q36_83, s36_86, s36_87, q36_88, s36_91, s36_92, s36_95, s36_96, s36_99, s36_100, q36_102, s36_105, s36_106, s36_106r, s36_107, s36_110, s36_111, s36_112, s36_118, xIL_1, xIS_1, xQL_2, xQL_3, xAN_1, xAN_2, xAN_3, xCP_1, xC_s, xNC_I, ji_oI1, ji_oIm, kd_sC, gR_sC, gL_sC, ji_rv_s, ji_tl_s, ji_tl_n, ji_s1, ji_s2, ji_kl, List.getD_cons_zero, List.getD_cons_succ, List.set_cons_zero, List.set_cons_succ, List.length_cons, List.length_nil, ji_b_0, ji_b_1, ji_n0, ji_n1, ji_rcb_iff, ji_ok8_0, ji_ok8_1, ji_ok8_2, ji_ok8_3, ji_ok8_4, kd_sI, kd_sL, kd_sR, kd_cp, gR_sI, gR_sL, gR_cp, gL_sI, gL_sR, gL_cp, gI_sL, gI_sR, gI_sI, gL_sL, Nat.reduceEqDiff, false_and, and_false, true_and, and_true, Nat.reduceAdd, Nat.reduceLT, Nat.reduceSub, Int32.reduceLT, Int32.reduceAdd, not_false_eq_true, not_true_eq_false, and_self, ji_b_n, if_true, if_false, ↓reduceIte, cz_m100, cz_m19, cz_m18, cz_m17, cz_m16, cz_m15, cz_m14, cz_m13, cz_m12, cz_m11, cz_m4, cz_m3, cz_m2, cz_m1, cz_1, cz_2, cz_3, cz_4, cz_5, cz_6, cz_7, cz_8, cz_9, cz_10, cz_11, cz_12, cz_13, cz_14, cz_15, cz_16, cz_20, cz_24, cz_30, cz_32, cz_33, cz_38, cz_40, cz_41, cz_42, cz_43, cz_45, cz_48, cz_57, cz_59, cz_60, cz_61, cz_63, cz_64, cz_72, cz_96, cz_97, cz_99, cz_100, cz_122, cz_124, cz_126, cz_160, cz_161, cz_168, cz_200, cz_255, cz_300, cz_960, cz_999, cz_1000, cz_1001, cz_1002, cz_1003, cz_1120, cz_2000, cz_2003, cz_2004, cz_2005, cz_3999, cz_9999, cz_14640, dd_kd H D, g]
theorem dd_41 (H : jx_OK X n sc) (D : jx_DD X sc q M) : ∃ M', jx_DD X sc q M' ∧ ∀ d, ji_CL (d + 2) 41 [.ref 5] M = some (none, M') := by
  have n1 : ((1001 : Int32) = 40) = False := eq_false (by decide)
  have n2 : ((1001 : Int32) = 45) = False := eq_false (by decide)
  have n3 : ((1001 : Int32) = 1002) = False := eq_false (by decide)
  have n4 : ((1001 : Int32) = 1003) = False := eq_false (by decide)
  have g : ((5 : Int32) < 0) = False := eq_false (by decide)
  obtain ⟨M1, D1, h⟩ := dd_33 H D
  obtain ⟨M', D', L⟩ := dd_lp41 (b := ji_gI M 5 6) (y := 0) H _ M1 D1 (Int.self_le_toNat _)
  refine ⟨M', D', fun d => ?_⟩
  apply en_41
  simp only [s41_0, s41_1, s41_4, s41_5, s41_6, s41_7, s41_8, s41_9, s41_12, s41_13, s41_16, s41_18, s41_21, q41_22, s41_25, s41_28, q41_29, q41_32, s41_35, s41_38, s41_39, s41_42, s41_76, s41_77, s41_78, q41_81, s41_84, q41_85, s41_88, s41_91, s41_92, s41_93, s41_94, s41_97, q41_98, s41_101, q41_102, s41_105, s41_108, q41_109, s41_112, s41_115, q41_116, s41_119, q41_120, s41_123, s41_124, s41_124r, s41_125, s41_128, s41_129, s41_130, s41_133, s41_134, q41_136, s41_139, s41_142, q41_143, s41_147, s41_150, s41_151, s41_154, s41_155, q41_157, s41_160, s41_161, s41_161r, s41_162, s41_165, s41_166, s41_167, s41_170, s41_173, xIL_1, xIS_1, xQL_2, xQL_3, xAN_1, xAN_2, xAN_3, xCP_1, xC_s, xNC_I, ji_oI1, ji_oIm, kd_sC, gR_sC, gL_sC, ji_rv_s, ji_tl_s, ji_tl_n, ji_s1, ji_s2, ji_kl, List.getD_cons_zero, List.getD_cons_succ, List.set_cons_zero, List.set_cons_succ, List.length_cons, List.length_nil, ji_b_0, ji_b_1, ji_n0, ji_n1, ji_rcb_iff, ji_ok8_0, ji_ok8_1, ji_ok8_2, ji_ok8_3, ji_ok8_4, kd_sI, kd_sL, kd_sR, kd_cp, gR_sI, gR_sL, gR_cp, gL_sI, gL_sR, gL_cp, gI_sL, gI_sR, gI_sI, gL_sL, Nat.reduceEqDiff, false_and, and_false, true_and, and_true, Nat.reduceAdd, Nat.reduceLT, Nat.reduceSub, Int32.reduceLT, Int32.reduceAdd, not_false_eq_true, not_true_eq_false, and_self, ji_b_n, if_true, if_false, ↓reduceIte, cz_m100, cz_m19, cz_m18, cz_m17, cz_m16, cz_m15, cz_m14, cz_m13, cz_m12, cz_m11, cz_m4, cz_m3, cz_m2, cz_m1, cz_1, cz_2, cz_3, cz_4, cz_5, cz_6, cz_7, cz_8, cz_9, cz_10, cz_11, cz_12, cz_13, cz_14, cz_15, cz_16, cz_20, cz_24, cz_30, cz_32, cz_33, cz_38, cz_40, cz_41, cz_42, cz_43, cz_45, cz_48, cz_57, cz_59, cz_60, cz_61, cz_63, cz_64, cz_72, cz_96, cz_97, cz_99, cz_100, cz_122, cz_124, cz_126, cz_160, cz_161, cz_168, cz_200, cz_255, cz_300, cz_960, cz_999, cz_1000, cz_1001, cz_1002, cz_1003, cz_1120, cz_2000, cz_2003, cz_2004, cz_2005, cz_3999, cz_9999, cz_14640, dd_kd H D, dd_tk D, g, n1, n2, n3, n4, h]
  exact L d
theorem dd_40 (H : jx_OK X n sc) (D : jx_DD X sc q M) : ∃ M', jx_DD X sc q M' ∧ ∀ d, ji_CL (d + 3) 40 [.ref 5] M = some (none, M') := by
  have n1 : ((1001 : Int32) = 42) = False := eq_false (by decide)
  have g : ((0 : Int32) < 160) = True := eq_true (by decide)
  obtain ⟨M', D', h⟩ := dd_41 H D
  refine ⟨M', D', fun d => ?_⟩
  apply en_40
  simp only [s40_0, q40_1, s40_4, s40_5, s40_6, s40_7, s40_10, s40_13, s40_14, s40_17, s40_19, s40_22, q40_23, s40_26, q40_27, s40_30, s40_31, q40_33, q40_36, s40_39, s40_42, xIL_1, xIS_1, xQL_2, xQL_3, xAN_1, xAN_2, xAN_3, xCP_1, xC_s, xNC_I, ji_oI1, ji_oIm, kd_sC, gR_sC, gL_sC, ji_rv_s, ji_tl_s, ji_tl_n, ji_s1, ji_s2, ji_kl, List.getD_cons_zero, List.getD_cons_succ, List.set_cons_zero, List.set_cons_succ, List.length_cons, List.length_nil, ji_b_0, ji_b_1, ji_n0, ji_n1, ji_rcb_iff, ji_ok8_0, ji_ok8_1, ji_ok8_2, ji_ok8_3, ji_ok8_4, kd_sI, kd_sL, kd_sR, kd_cp, gR_sI, gR_sL, gR_cp, gL_sI, gL_sR, gL_cp, gI_sL, gI_sR, gI_sI, gL_sL, Nat.reduceEqDiff, false_and, and_false, true_and, and_true, Nat.reduceAdd, Nat.reduceLT, Nat.reduceSub, Int32.reduceLT, Int32.reduceAdd, not_false_eq_true, not_true_eq_false, and_self, ji_b_n, if_true, if_false, ↓reduceIte, cz_m100, cz_m19, cz_m18, cz_m17, cz_m16, cz_m15, cz_m14, cz_m13, cz_m12, cz_m11, cz_m4, cz_m3, cz_m2, cz_m1, cz_1, cz_2, cz_3, cz_4, cz_5, cz_6, cz_7, cz_8, cz_9, cz_10, cz_11, cz_12, cz_13, cz_14, cz_15, cz_16, cz_20, cz_24, cz_30, cz_32, cz_33, cz_38, cz_40, cz_41, cz_42, cz_43, cz_45, cz_48, cz_57, cz_59, cz_60, cz_61, cz_63, cz_64, cz_72, cz_96, cz_97, cz_99, cz_100, cz_122, cz_124, cz_126, cz_160, cz_161, cz_168, cz_200, cz_255, cz_300, cz_960, cz_999, cz_1000, cz_1001, cz_1002, cz_1003, cz_1120, cz_2000, cz_2003, cz_2004, cz_2005, cz_3999, cz_9999, cz_14640, dd_kd H D, h, g, dd_kd H D', dd_tk D', n1]
theorem dd_39 (H : jx_OK X n sc) (D : jx_DD X sc q M) : ∃ M', jx_DD X sc q M' ∧ ∀ d, ji_CL (d + 4) 39 [.ref 5] M = some (none, M') := by
  have n1 : ((1001 : Int32) = 43) = False := eq_false (by decide)
  have n2 : ((1001 : Int32) = 45) = False := eq_false (by decide)
  have g : ((0 : Int32) < 160) = True := eq_true (by decide)
  obtain ⟨M', D', h⟩ := dd_40 H D
  refine ⟨M', D', fun d => ?_⟩
  apply en_39
  simp only [s39_0, q39_1, s39_4, s39_5, s39_6, s39_7, s39_10, s39_13, s39_14, s39_17, s39_19, s39_22, s39_23, s39_26, s39_28, s39_31, s39_32, s39_35, s39_37, s39_40, s39_42, s39_45, s39_47, s39_48, q39_49, s39_52, q39_53, s39_56, s39_57, q39_58, q39_61, s39_64, s39_67, xIL_1, xIS_1, xQL_2, xQL_3, xAN_1, xAN_2, xAN_3, xCP_1, xC_s, xNC_I, ji_oI1, ji_oIm, kd_sC, gR_sC, gL_sC, ji_rv_s, ji_tl_s, ji_tl_n, ji_s1, ji_s2, ji_kl, List.getD_cons_zero, List.getD_cons_succ, List.set_cons_zero, List.set_cons_succ, List.length_cons, List.length_nil, ji_b_0, ji_b_1, ji_n0, ji_n1, ji_rcb_iff, ji_ok8_0, ji_ok8_1, ji_ok8_2, ji_ok8_3, ji_ok8_4, kd_sI, kd_sL, kd_sR, kd_cp, gR_sI, gR_sL, gR_cp, gL_sI, gL_sR, gL_cp, gI_sL, gI_sR, gI_sI, gL_sL, Nat.reduceEqDiff, false_and, and_false, true_and, and_true, Nat.reduceAdd, Nat.reduceLT, Nat.reduceSub, Int32.reduceLT, Int32.reduceAdd, not_false_eq_true, not_true_eq_false, and_self, ji_b_n, if_true, if_false, ↓reduceIte, cz_m100, cz_m19, cz_m18, cz_m17, cz_m16, cz_m15, cz_m14, cz_m13, cz_m12, cz_m11, cz_m4, cz_m3, cz_m2, cz_m1, cz_1, cz_2, cz_3, cz_4, cz_5, cz_6, cz_7, cz_8, cz_9, cz_10, cz_11, cz_12, cz_13, cz_14, cz_15, cz_16, cz_20, cz_24, cz_30, cz_32, cz_33, cz_38, cz_40, cz_41, cz_42, cz_43, cz_45, cz_48, cz_57, cz_59, cz_60, cz_61, cz_63, cz_64, cz_72, cz_96, cz_97, cz_99, cz_100, cz_122, cz_124, cz_126, cz_160, cz_161, cz_168, cz_200, cz_255, cz_300, cz_960, cz_999, cz_1000, cz_1001, cz_1002, cz_1003, cz_1120, cz_2000, cz_2003, cz_2004, cz_2005, cz_3999, cz_9999, cz_14640, dd_kd H D, h, g, dd_kd H D', dd_tk D', n1, n2]
theorem dd_36 (H : jx_OK X n sc) (D : jx_DD X sc q M) : ∃ M', jx_DD X sc q M' ∧ ∀ d, ji_CL (d + 5) 36 [.ref 5] M = some (none, M') := by
  have n1 : ((1001 : Int32) = 2005) = False := eq_false (by decide)
  have n2 : ((1001 : Int32) = 60) = False := eq_false (by decide)
  have n3 : ((1001 : Int32) = 61) = False := eq_false (by decide)
  have g : ((5 : Int32) < 0) = False := eq_false (by decide)
  obtain ⟨M1, D1, h⟩ := dd_39 H D
  obtain ⟨M', D', L⟩ := dd_lp36 (b := ji_gI M 5 6) (y := 0) H _ M1 D1 (Int.self_le_toNat _)
  refine ⟨M', D', fun d => ?_⟩
  apply en_36
  simp only [s36_0, s36_1, s36_4, s36_5, s36_6, s36_7, s36_8, s36_9, s36_12, s36_13, s36_16, s36_19, s36_22, q36_23, s36_26, s36_29, q36_30, q36_33, s36_36, s36_39, q36_40, s36_43, s36_44, s36_47, s36_49, s36_52, s36_53, s36_56, s36_58, s36_61, s36_62, s36_65, s36_67, s36_70, s36_72, s36_75, s36_77, s36_78, q36_79, s36_82, q36_83, s36_86, s36_87, q36_88, s36_92, s36_95, s36_96, s36_99, s36_100, q36_102, s36_105, s36_106, s36_106r, s36_107, s36_110, s36_111, s36_112, s36_115, s36_118, xIL_1, xIS_1, xQL_2, xQL_3, xAN_1, xAN_2, xAN_3, xCP_1, xC_s, xNC_I, ji_oI1, ji_oIm, kd_sC, gR_sC, gL_sC, ji_rv_s, ji_tl_s, ji_tl_n, ji_s1, ji_s2, ji_kl, List.getD_cons_zero, List.getD_cons_succ, List.set_cons_zero, List.set_cons_succ, List.length_cons, List.length_nil, ji_b_0, ji_b_1, ji_n0, ji_n1, ji_rcb_iff, ji_ok8_0, ji_ok8_1, ji_ok8_2, ji_ok8_3, ji_ok8_4, kd_sI, kd_sL, kd_sR, kd_cp, gR_sI, gR_sL, gR_cp, gL_sI, gL_sR, gL_cp, gI_sL, gI_sR, gI_sI, gL_sL, Nat.reduceEqDiff, false_and, and_false, true_and, and_true, Nat.reduceAdd, Nat.reduceLT, Nat.reduceSub, Int32.reduceLT, Int32.reduceAdd, not_false_eq_true, not_true_eq_false, and_self, ji_b_n, if_true, if_false, ↓reduceIte, cz_m100, cz_m19, cz_m18, cz_m17, cz_m16, cz_m15, cz_m14, cz_m13, cz_m12, cz_m11, cz_m4, cz_m3, cz_m2, cz_m1, cz_1, cz_2, cz_3, cz_4, cz_5, cz_6, cz_7, cz_8, cz_9, cz_10, cz_11, cz_12, cz_13, cz_14, cz_15, cz_16, cz_20, cz_24, cz_30, cz_32, cz_33, cz_38, cz_40, cz_41, cz_42, cz_43, cz_45, cz_48, cz_57, cz_59, cz_60, cz_61, cz_63, cz_64, cz_72, cz_96, cz_97, cz_99, cz_100, cz_122, cz_124, cz_126, cz_160, cz_161, cz_168, cz_200, cz_255, cz_300, cz_960, cz_999, cz_1000, cz_1001, cz_1002, cz_1003, cz_1120, cz_2000, cz_2003, cz_2004, cz_2005, cz_3999, cz_9999, cz_14640, dd_kd H D, dd_tk D, g, h, dd_kd H D1, dd_tk D1, n1, n2, n3]
  exact L (d + 3)
theorem dd_35 (H : jx_OK X n sc) (D : jx_DD X sc q M) : ∃ M', jx_DD X sc q M' ∧ ∀ d, ji_CL (d + 6) 35 [.ref 5] M = some (none, M') := by
  have n1 : ((1001 : Int32) = 2004) = False := eq_false (by decide)
  have g : ((0 : Int32) < 160) = True := eq_true (by decide)
  obtain ⟨M', D', h⟩ := dd_36 H D
  refine ⟨M', D', fun d => ?_⟩
  apply en_35
  simp only [s35_0, q35_1, s35_4, s35_5, s35_6, s35_7, s35_10, s35_13, s35_14, s35_17, s35_20, s35_23, q35_24, s35_27, q35_28, s35_31, s35_32, q35_34, q35_37, s35_40, s35_43, xIL_1, xIS_1, xQL_2, xQL_3, xAN_1, xAN_2, xAN_3, xCP_1, xC_s, xNC_I, ji_oI1, ji_oIm, kd_sC, gR_sC, gL_sC, ji_rv_s, ji_tl_s, ji_tl_n, ji_s1, ji_s2, ji_kl, List.getD_cons_zero, List.getD_cons_succ, List.set_cons_zero, List.set_cons_succ, List.length_cons, List.length_nil, ji_b_0, ji_b_1, ji_n0, ji_n1, ji_rcb_iff, ji_ok8_0, ji_ok8_1, ji_ok8_2, ji_ok8_3, ji_ok8_4, kd_sI, kd_sL, kd_sR, kd_cp, gR_sI, gR_sL, gR_cp, gL_sI, gL_sR, gL_cp, gI_sL, gI_sR, gI_sI, gL_sL, Nat.reduceEqDiff, false_and, and_false, true_and, and_true, Nat.reduceAdd, Nat.reduceLT, Nat.reduceSub, Int32.reduceLT, Int32.reduceAdd, not_false_eq_true, not_true_eq_false, and_self, ji_b_n, if_true, if_false, ↓reduceIte, cz_m100, cz_m19, cz_m18, cz_m17, cz_m16, cz_m15, cz_m14, cz_m13, cz_m12, cz_m11, cz_m4, cz_m3, cz_m2, cz_m1, cz_1, cz_2, cz_3, cz_4, cz_5, cz_6, cz_7, cz_8, cz_9, cz_10, cz_11, cz_12, cz_13, cz_14, cz_15, cz_16, cz_20, cz_24, cz_30, cz_32, cz_33, cz_38, cz_40, cz_41, cz_42, cz_43, cz_45, cz_48, cz_57, cz_59, cz_60, cz_61, cz_63, cz_64, cz_72, cz_96, cz_97, cz_99, cz_100, cz_122, cz_124, cz_126, cz_160, cz_161, cz_168, cz_200, cz_255, cz_300, cz_960, cz_999, cz_1000, cz_1001, cz_1002, cz_1003, cz_1120, cz_2000, cz_2003, cz_2004, cz_2005, cz_3999, cz_9999, cz_14640, dd_kd H D, h, g, dd_kd H D', dd_tk D', n1]
theorem dd_34 (H : jx_OK X n sc) (D : jx_DD X sc q M) : ∃ M', jx_DD X sc q M' ∧ ∀ d, ji_CL (d + 7) 34 [.ref 5] M = some (none, M') := by
  have n1 : ((1001 : Int32) = 2003) = False := eq_false (by decide)
  have g : ((0 : Int32) < 160) = True := eq_true (by decide)
  obtain ⟨M', D', h⟩ := dd_35 H D
  refine ⟨M', D', fun d => ?_⟩
  apply en_34
  simp only [s34_0, q34_1, s34_4, s34_5, s34_6, s34_7, s34_10, s34_13, s34_14, s34_17, s34_20, s34_23, q34_24, s34_27, q34_28, s34_31, s34_32, q34_34, q34_37, s34_40, s34_43, xIL_1, xIS_1, xQL_2, xQL_3, xAN_1, xAN_2, xAN_3, xCP_1, xC_s, xNC_I, ji_oI1, ji_oIm, kd_sC, gR_sC, gL_sC, ji_rv_s, ji_tl_s, ji_tl_n, ji_s1, ji_s2, ji_kl, List.getD_cons_zero, List.getD_cons_succ, List.set_cons_zero, List.set_cons_succ, List.length_cons, List.length_nil, ji_b_0, ji_b_1, ji_n0, ji_n1, ji_rcb_iff, ji_ok8_0, ji_ok8_1, ji_ok8_2, ji_ok8_3, ji_ok8_4, kd_sI, kd_sL, kd_sR, kd_cp, gR_sI, gR_sL, gR_cp, gL_sI, gL_sR, gL_cp, gI_sL, gI_sR, gI_sI, gL_sL, Nat.reduceEqDiff, false_and, and_false, true_and, and_true, Nat.reduceAdd, Nat.reduceLT, Nat.reduceSub, Int32.reduceLT, Int32.reduceAdd, not_false_eq_true, not_true_eq_false, and_self, ji_b_n, if_true, if_false, ↓reduceIte, cz_m100, cz_m19, cz_m18, cz_m17, cz_m16, cz_m15, cz_m14, cz_m13, cz_m12, cz_m11, cz_m4, cz_m3, cz_m2, cz_m1, cz_1, cz_2, cz_3, cz_4, cz_5, cz_6, cz_7, cz_8, cz_9, cz_10, cz_11, cz_12, cz_13, cz_14, cz_15, cz_16, cz_20, cz_24, cz_30, cz_32, cz_33, cz_38, cz_40, cz_41, cz_42, cz_43, cz_45, cz_48, cz_57, cz_59, cz_60, cz_61, cz_63, cz_64, cz_72, cz_96, cz_97, cz_99, cz_100, cz_122, cz_124, cz_126, cz_160, cz_161, cz_168, cz_200, cz_255, cz_300, cz_960, cz_999, cz_1000, cz_1001, cz_1002, cz_1003, cz_1120, cz_2000, cz_2003, cz_2004, cz_2005, cz_3999, cz_9999, cz_14640, dd_kd H D, h, g, dd_kd H D', dd_tk D', n1]
end JIV
