/-! ===== the class reads a text ===== -/
section JIV
variable {t t' : ji_F} {n f op lev p s k : Nat} {acc : List Int32} {σ : jx_T} {r : jx_R} {q : Int32 → Bool}
theorem jx_en_cg (h : ∀ k, k < n → t k = t' k) : ∀ m p : Nat, n - p ≤ m → jx_en q t n p = jx_en q t' n p := by
  intro m
  induction m with
  | zero => intro p hm; rw [jx_en_e (by omega), jx_en_e (by omega)]
  | succ m ih =>
    intro p hm
    by_cases c : p < n ∧ q (t p) = true
    · rw [jx_en_s c.1 c.2, jx_en_s c.1 (by rw [← h p c.1]; exact c.2), ih (p + 1) (by omega)]
    · rw [jx_en_e c, jx_en_e (fun z => c ⟨z.1, by rw [h p z.1]; exact z.2⟩)]
theorem jx_ru_cg (h : ∀ k, k < n → t k = t' k) (hs : s + k ≤ n) : jx_ru t s k = jx_ru t' s k := by
  unfold jx_ru
  apply List.map_congr_left
  intro i hi
  have := List.mem_range.mp hi
  exact h _ (by omega)
theorem jx_nv_cg (h : ∀ k, k < n → t k = t' k) : ∀ k, s + k ≤ n → jx_nv t s k = jx_nv t' s k := by
  intro k
  induction k with
  | zero => intro _; rfl
  | succ k ih =>
    intro hs
    show jx_nv t s k * 10 + t (s + k) - 48 = jx_nv t' s k * 10 + t' (s + k) - 48
    rw [ih (by omega), h (s + k) (by omega)]
theorem jx_tok_cg (h : ∀ k, k < n → t k = t' k) (hp : p ≤ n) : jx_tok t n p = jx_tok t' n p := by
  have a := jx_en_b (q := jx_B) (t := t) (n := n) _ p (Nat.le_refl _) hp
  unfold jx_tok
  rw [← jx_en_cg (t := t) (t' := t') h _ p (Nat.le_refl _)]
  generalize jx_en jx_B t n p = s at a
  have b := jx_en_b (q := jx_L) (t := t) (n := n) _ s (Nat.le_refl _) a.2
  have c := jx_en_b (q := jx_D) (t := t) (n := n) _ s (Nat.le_refl _) a.2
  rw [← jx_en_cg (t := t) (t' := t') h _ s (Nat.le_refl _), ← jx_en_cg (t := t) (t' := t') h _ s (Nat.le_refl _)]
  by_cases hs : s < n
  · rw [if_pos hs, if_pos hs, ← h s hs, ← jx_ru_cg h (by omega), ← jx_nv_cg h _ (by omega)]
  · rw [if_neg hs, if_neg hs]
theorem jx_av_cg (h : ∀ k, k < n → t k = t' k) (w : jx_wf n σ) : jx_av t n σ = jx_av t' n σ := jx_tok_cg h w.2.1
/-- a reader that stays in n -/
def jx_cl (n : Nat) (t : ji_F) : ji_F := fun k => if k < n then t k else 0
theorem jx_tok_e (h : ∀ k, k < n → t k = t' k) : jx_tok t n = jx_tok t' n := by
  funext p
  by_cases hp : p ≤ n
  · exact jx_tok_cg h hp
  · have e1 : ∀ t : ji_F, jx_tok t n p = (1000, 0, p, p) := by
      intro t
      unfold jx_tok
      rw [jx_en_e (by omega), if_neg (by omega)]
    rw [e1, e1]
theorem jx_av_e (h : ∀ k, k < n → t k = t' k) : jx_av t n = jx_av t' n := by
  funext σ
  unfold jx_av
  rw [jx_tok_e h]
theorem jx_p_cg (h : ∀ k, k < n → t k = t' k) : ∀ f, jx_p t n f = jx_p t' n f := by
  intro f
  induction f with
  | zero => rfl
  | succ f ih =>
    funext lev op acc σ
    unfold jx_p
    rw [jx_av_e h, ih]
theorem jx_rd_cg (h : ∀ k, k < n → t k = t' k) : jx_rd t n = jx_rd t' n := by
  have e : ∀ i, jx_r1 t n i = jx_r1 t' n i := by
    intro i
    funext σ
    unfold jx_r1
    rw [jx_p_cg h, jx_av_e h]
  unfold jx_rd
  rw [e 0, e 1, e 2, jx_tok_e h]
/-- a text as a list -/
def jx_P : ji_P := fun l => if (∀ c ∈ l, -128 ≤ c.toInt ∧ c.toInt ≤ 127) then (match jx_rd (fun k => l.getD k 0) l.length with
  | .inl s => some s
  | .inr _ => none) else none
end JIV
section JIV
variable {X Y N M : ji_M} {P : ji_P} {x y z v : Int32} {pl st tk vl op fa le : Int32} {f sf t : ji_F} {d a b r c m s p n i j sc ec q l : Nat} {o : Option Value × ji_M} {σ : jx_T}
theorem jx_XM_id (h5 : sc ≠ 5) : jx_XM X (ji_gI X 5 2) (ji_gI X 5 3) (ji_gI X 5 4) (ji_gI X 5 5) (ji_gI X 5 6) (ji_gI X 5 7) (ji_gI X 5 9) sc (ji_gI X sc) = X := by
  refine ji_M_ext rfl (fun i j => ?_) (fun _ _ => rfl) (fun _ _ => rfl)
  by_cases h0 : i = 5
  · subst h0
    unfold jx_XM
    rw [gF_sC]
    unfold jx_xf
    by_cases h : j = 2
    · rw [if_pos h, h]
    rw [if_neg h]
    by_cases h : j = 3
    · rw [if_pos h, h]
    rw [if_neg h]
    by_cases h : j = 4
    · rw [if_pos h, h]
    rw [if_neg h]
    by_cases h : j = 5
    · rw [if_pos h, h]
    rw [if_neg h]
    by_cases h : j = 6
    · rw [if_pos h, h]
    rw [if_neg h]
    by_cases h : j = 7
    · rw [if_pos h, h]
    rw [if_neg h]
    by_cases h : j = 9
    · rw [if_pos h, h]
    rw [if_neg h]
  · unfold jx_XM
    rw [gF_sCn h0]
    by_cases h : i = sc
    · subst h; rw [gF_sC]
    · rw [gF_sCn h]
theorem jx_XW_ec (h1 : ec ≠ sc) (h2 : ec ≠ 5) : ji_sI (jx_XM X pl st tk vl op fa le sc sf) ec i v = jx_XM (ji_sI X ec i v) pl st tk vl op fa le sc sf := by
  unfold jx_XM
  rw [sI_sC_comm h2, sI_sC_comm h1, gF_sI (Ne.symm h2)]
theorem jx_OK_ec (H : jx_OK X n sc) (h2 : 16 ≤ ec) (h3 : ec ≤ 21) : jx_OK (ji_sI X ec i v) n sc := by
  obtain ⟨a1, a2, a3, a4, a5, a6⟩ := H
  refine ⟨⟨a1.1, a1.2.1, fun e he => ?_⟩, ?_, a3, ?_, a5, a6⟩
  · have q : ∀ e ∈ ji_XI, e.1 < 16 ∨ 21 < e.1 := by decide +kernel
    have q := q e he
    rw [gI_sI, if_neg (by omega)]
    exact a1.2.2 e he
  · rw [gF_sI (by omega)]; exact a2
  · rw [gF_sI (by omega)]; exact a4
theorem jx_tp_ec (h2 : 16 ≤ ec) : jx_tp (ji_sI X ec i v) = jx_tp X := by
  unfold jx_tp
  rw [gF_sI (by omega)]
theorem jx_2000 (hi : i < 3) : ¬ (2000 + Int32.ofNat i : Int32) = 1000 ∧ ¬ (1001 : Int32) = 2000 + Int32.ofNat i ∧ ¬ (59 : Int32) = 1000 ∧ ¬ (1001 : Int32) = 59 := by
  have r : ∀ j : Fin 3, ¬ (2000 + Int32.ofNat j.val : Int32) = 1000 ∧ ¬ (1001 : Int32) = 2000 + Int32.ofNat j.val ∧ ¬ (59 : Int32) = 1000 ∧ ¬ (1001 : Int32) = 59 := by decide
  exact r ⟨i, hi⟩
/-- a dead turn -/
theorem m19D (H : jx_OK Y n sc) (hs2 : sc ≤ 14) (h2 : 16 ≤ ec) (h3 : ec ≤ 21) (hk : ji_kd Y ec = some (1, 3)) (hi : i < 3) (D : jx_DD Y sc q M) : ∃ M' x, jx_DD (ji_sI Y ec i x) sc q M' ∧ ∀ d o, ji_Ev (ji_CL (d + 44)) 19 31 M' [some (.ref 5), some (.ref sc), some (.ref ec), some (.int (Int32.ofNat (i + 1)))] [] o → ji_Ev (ji_CL (d + 44)) 19 31 M [some (.ref 5), some (.ref sc), some (.ref ec), some (.int (Int32.ofNat i))] [] o := by
  obtain ⟨k1, k2, k3, k4⟩ := jx_2000 hi
  obtain ⟨M1, D1, C1⟩ := dd_32 H D k2
  obtain ⟨M2, D2, C2⟩ := dd_34 H D1
  obtain ⟨M3, D3, C3⟩ := dd_32 H D2 k4
  have K0 := dd_kd H D
  have K1 := dd_kd H D1
  have K2 := dd_kd H D2
  have K3 := dd_kd H D3
  obtain ⟨pl, st, vl, op, le, sf, rfl, y1, y2⟩ := D3
  have e3 : (3 : Int32).toInt = 3 := rfl
  have ei := vi_nn (n := i) (by omega)
  have g : Int32.ofNat i < 3 := by rw [vi_lt]; omega
  have g2 : Int32.ofNat i < Int32.ofNat 3 := g
  have z1 : vp_in (Int32.ofNat i) 3 := vi_in.mpr ⟨by omega, by omega⟩
  have z2 : (Int32.ofNat i).toNatClampNeg = i := by rw [vi_nat, ei]; exact Int.toNat_natCast _
  have p1 := jx_o1p (k := i) (by omega)
  have p2 : (Int32.ofInt 1) = 1 := rfl
  have hkM : ji_kd M ec = some (1, 3) := by
    obtain ⟨_, _, _, _, _, _, rfl, _, _⟩ := D
    exact hk
  refine ⟨_, Int32.ofNat le, ⟨pl, st, vl, op, le, sf, rfl, y1, y2⟩, fun d o G => ?_⟩
  have C1 := cl_le C1 (e := d + 44) (by omega)
  have C2 := cl_le C2 (e := d + 44) (by omega)
  have C3 := cl_le C3 (e := d + 44) (by omega)
  simp only [s19_0, s19_1, s19_2, s19_5, s19_6, s19_7, s19_10, s19_11, s19_12, s19_15, s19_16, s19_17, s19_20, s19_21, s19_22, s19_25, q19_26, s19_29, s19_30, s19_31, s19_32, s19_33, s19_36, s19_37, q19_38, s19_39, s19_42, s19_43, s19_46, s19_47, q19_48, s19_51, q19_52, s19_55, s19_56, q19_58, s19_61, s19_62, s19_63, s19_64, q19_67, q19_68, s19_74, s19_75, q19_78, s19_81, s19_82, s19_83, s19_86, s19_87, s19_90, xIL_1, xIS_1, xQL_2, xQL_3, xAN_1, xAN_2, xAN_3, xCP_1, xC_s, xNC_I, ji_oI1, ji_oIm, kd_sC, gR_sC, gL_sC, ji_rv_s, ji_tl_s, ji_tl_n, ji_s1, ji_s2, ji_kl, List.getD_cons_zero, List.getD_cons_succ, List.set_cons_zero, List.set_cons_succ, List.length_cons, List.length_nil, ji_b_0, ji_b_1, ji_n0, ji_n1, ji_rcb_iff, ji_ok8_0, ji_ok8_1, ji_ok8_2, ji_ok8_3, ji_ok8_4, kd_sI, kd_sL, kd_sR, kd_cp, gR_sI, gR_sL, gR_cp, gL_sI, gL_sR, gL_cp, gI_sL, gI_sR, gI_sI, gL_sL, Nat.reduceEqDiff, false_and, and_false, true_and, and_true, Nat.reduceAdd, Nat.reduceLT, Nat.reduceSub, Int32.reduceLT, Int32.reduceAdd, not_false_eq_true, not_true_eq_false, and_self, ji_b_n, if_true, if_false, ↓reduceIte, cz_m100, cz_m19, cz_m18, cz_m17, cz_m16, cz_m15, cz_m14, cz_m13, cz_m12, cz_m11, cz_m4, cz_m3, cz_m2, cz_m1, cz_1, cz_2, cz_3, cz_4, cz_5, cz_6, cz_7, cz_8, cz_9, cz_10, cz_11, cz_12, cz_13, cz_14, cz_15, cz_16, cz_20, cz_24, cz_30, cz_32, cz_33, cz_38, cz_40, cz_41, cz_42, cz_43, cz_45, cz_48, cz_57, cz_59, cz_60, cz_61, cz_63, cz_64, cz_72, cz_96, cz_97, cz_99, cz_100, cz_122, cz_124, cz_126, cz_160, cz_161, cz_168, cz_200, cz_255, cz_300, cz_960, cz_999, cz_1000, cz_1001, cz_1002, cz_1003, cz_1120, cz_2000, cz_2003, cz_2004, cz_2005, cz_3999, cz_9999, cz_14640, g, g2, hk, hkM, K0, K1, K2, K3, C1, C2, C3, jx_XM_kd, jx_XM_le, z1, z2, p1, p2, jx_XW_ec (show ec ≠ sc by omega) (show ec ≠ 5 by omega)]
  simp only [s19_71]
  exact G
/-- a living turn -/
theorem m19A (H : jx_OK Y n sc) (ht : jx_tp Y = t) (hs2 : sc ≤ 14) (h2 : 16 ≤ ec) (h3 : ec ≤ 21) (hk : ji_kd Y ec = some (1, 3)) (hi : i < 3) (w : jx_wf n σ) (hv : jx_vok σ.1 σ.2.1 v) (hle : l ≤ σ.2.2.1) : (∀ s σ', jx_r1 t n i σ = .inl (s, σ') → ∃ v', jx_wf n σ' ∧ jx_vok σ'.1 σ'.2.1 v' ∧ l + s.length ≤ σ'.2.2.1 ∧ ∀ d o, ji_Ev (ji_CL (d + 44)) 19 31 (jx_AL (ji_sI Y ec i (Int32.ofNat (l + s.length))) sc σ' v' 0 (l + s.length) (jx_wr sf l s)) [some (.ref 5), some (.ref sc), some (.ref ec), some (.int (Int32.ofNat (i + 1)))] [] o → ji_Ev (ji_CL (d + 44)) 19 31 (jx_AL Y sc σ v 0 l sf) [some (.ref 5), some (.ref sc), some (.ref ec), some (.int (Int32.ofNat i))] [] o) ∧ (∀ q, jx_r1 t n i σ = .inr q → ∃ M' x, jx_DD (ji_sI Y ec i x) sc q M' ∧ ∀ d o, ji_Ev (ji_CL (d + 44)) 19 31 M' [some (.ref 5), some (.ref sc), some (.ref ec), some (.int (Int32.ofNat (i + 1)))] [] o → ji_Ev (ji_CL (d + 44)) 19 31 (jx_AL Y sc σ v 0 l sf) [some (.ref 5), some (.ref sc), some (.ref ec), some (.int (Int32.ofNat i))] [] o) := by
  obtain ⟨k1, k2, k3, k4⟩ := jx_2000 hi
  have hn := H.2.2.1
  have w1 := w.1
  have w2 := w.2.1
  have e3 : (3 : Int32).toInt = 3 := rfl
  have ei := vi_nn (n := i) (by omega)
  have g : Int32.ofNat i < 3 := by rw [vi_lt]; omega
  have g2 : Int32.ofNat i < Int32.ofNat 3 := g
  have z1 : vp_in (Int32.ofNat i) 3 := vi_in.mpr ⟨by omega, by omega⟩
  have z2 : (Int32.ofNat i).toNatClampNeg = i := by rw [vi_nat, ei]; exact Int.toNat_natCast _
  have p1 := jx_o1p (k := i) (by omega)
  have p2 : (Int32.ofInt 1) = 1 := rfl
  have kAL : ∀ σ v op le sf, ji_kd (jx_AL Y sc σ v op le sf) ec = some (1, 3) := fun _ _ _ _ _ => hk
  have XE : ∀ {pl st tk vl op fa le : Int32} {sf : ji_F} {x : Int32}, ji_sI (jx_XM Y pl st tk vl op fa le sc sf) ec i x = jx_XM (ji_sI Y ec i x) pl st tk vl op fa le sc sf := jx_XW_ec (show ec ≠ sc by omega) (show ec ≠ 5 by omega)
  have dead : ∀ {M1 : ji_M} {q : Nat}, jx_DD Y sc q M1 → (∀ d, ∃ M0, (ji_CL (d + 44) 32 [.ref 5, .int (2000 + Int32.ofNat i)] (jx_AL Y sc σ v 0 l sf) = some (none, M0) ∧ ji_kd M0 5 = some (0, 6) ∧ ∃ M00, ji_CL (d + 44) 34 [.ref 5] M0 = some (none, M00) ∧ ji_kd M00 5 = some (0, 6) ∧ ji_CL (d + 44) 32 [.ref 5, .int 59] M00 = some (none, M1))) → ∃ M' x, jx_DD (ji_sI Y ec i x) sc q M' ∧ ∀ d o, ji_Ev (ji_CL (d + 44)) 19 31 M' [some (.ref 5), some (.ref sc), some (.ref ec), some (.int (Int32.ofNat (i + 1)))] [] o → ji_Ev (ji_CL (d + 44)) 19 31 (jx_AL Y sc σ v 0 l sf) [some (.ref 5), some (.ref sc), some (.ref ec), some (.int (Int32.ofNat i))] [] o := by
    intro M1 q D C
    have K1 := dd_kd H D
    obtain ⟨pl, st, vl, op, le, sf', rfl, y1, y2⟩ := D
    refine ⟨_, Int32.ofNat le, ⟨pl, st, vl, op, le, sf', rfl, y1, y2⟩, fun d o G => ?_⟩
    obtain ⟨M0, C0, K0, M00, C00, K00, C1⟩ := C d
    simp only [s19_0, s19_1, s19_2, s19_5, s19_6, s19_7, s19_10, s19_11, s19_12, s19_15, s19_16, s19_17, s19_20, s19_21, s19_22, s19_25, q19_26, s19_29, s19_30, s19_31, s19_32, s19_33, s19_36, s19_37, q19_38, s19_39, s19_42, s19_43, s19_46, s19_47, q19_48, s19_51, q19_52, s19_55, s19_56, q19_58, s19_61, s19_62, s19_63, s19_64, q19_67, q19_68, s19_74, s19_75, q19_78, s19_81, s19_82, s19_83, s19_86, s19_87, s19_90, xIL_1, xIS_1, xQL_2, xQL_3, xAN_1, xAN_2, xAN_3, xCP_1, xC_s, xNC_I, ji_oI1, ji_oIm, kd_sC, gR_sC, gL_sC, ji_rv_s, ji_tl_s, ji_tl_n, ji_s1, ji_s2, ji_kl, List.getD_cons_zero, List.getD_cons_succ, List.set_cons_zero, List.set_cons_succ, List.length_cons, List.length_nil, ji_b_0, ji_b_1, ji_n0, ji_n1, ji_rcb_iff, ji_ok8_0, ji_ok8_1, ji_ok8_2, ji_ok8_3, ji_ok8_4, kd_sI, kd_sL, kd_sR, kd_cp, gR_sI, gR_sL, gR_cp, gL_sI, gL_sR, gL_cp, gI_sL, gI_sR, gI_sI, gL_sL, Nat.reduceEqDiff, false_and, and_false, true_and, and_true, Nat.reduceAdd, Nat.reduceLT, Nat.reduceSub, Int32.reduceLT, Int32.reduceAdd, not_false_eq_true, not_true_eq_false, and_self, ji_b_n, if_true, if_false, ↓reduceIte, cz_m100, cz_m19, cz_m18, cz_m17, cz_m16, cz_m15, cz_m14, cz_m13, cz_m12, cz_m11, cz_m4, cz_m3, cz_m2, cz_m1, cz_1, cz_2, cz_3, cz_4, cz_5, cz_6, cz_7, cz_8, cz_9, cz_10, cz_11, cz_12, cz_13, cz_14, cz_15, cz_16, cz_20, cz_24, cz_30, cz_32, cz_33, cz_38, cz_40, cz_41, cz_42, cz_43, cz_45, cz_48, cz_57, cz_59, cz_60, cz_61, cz_63, cz_64, cz_72, cz_96, cz_97, cz_99, cz_100, cz_122, cz_124, cz_126, cz_160, cz_161, cz_168, cz_200, cz_255, cz_300, cz_960, cz_999, cz_1000, cz_1001, cz_1002, cz_1003, cz_1120, cz_2000, cz_2003, cz_2004, cz_2005, cz_3999, cz_9999, cz_14640, g, g2, kAL, al_kd H, K0, K00, K1, C0, C00, C1, hk, jx_XM_kd, jx_XM_le, z1, z2, p1, p2, XE]
    simp only [s19_71]
    exact G
  unfold jx_r1
  by_cases h1 : σ.1 = 2000 + Int32.ofNat i
  case neg =>
    rw [if_neg h1]
    refine ⟨fun s σ' e => (by cases e), fun q e => ?_⟩
    have e : σ.2.2.1 = q := Sum.inr.inj e
    subst e
    obtain ⟨M1, D1, C1⟩ := al_32f (v := v) (op := 0) (sf := sf) H w (le := l) (by omega) h1
    obtain ⟨M2, D2, C2⟩ := dd_34 H D1
    obtain ⟨M3, D3, C3⟩ := dd_32 H D2 k4
    exact dead D3 (fun d => ⟨M1, cl_le C1 (e := d + 44) (by omega), dd_kd H D1, M2, cl_le C2 (e := d + 44) (by omega), dd_kd H D2, cl_le C3 (e := d + 44) (by omega)⟩)
  rw [if_pos h1]
  obtain ⟨v1, hv1, C1⟩ := al_32 (v := v) (op := 0) (le := l) (sf := sf) H w h1 k1
  have a := jx_wf_1 (t := t) w (by rw [h1]; exact k1)
  rw [ht] at hv1 C1
  have ne := jx_fuel (t := t) (n := n) 4000 5 0 [] (jx_av t n σ) (Or.inl (by omega)) a.1 (fun _ => rfl) (by
    have : jx_rk 5 = 6 := rfl
    omega)
  have SX := (sx_all H 4000).2.2.2.2.2 4000 (Nat.le_refl _)
  cases hp : jx_p t n 4000 5 0 [] (jx_av t n σ) with
  | none => exact absurd hp ne
  | some r =>
    have hp' := hp
    rw [← ht] at hp'
    obtain ⟨M2, Q, C2⟩ := SX 0 _ r v1 l sf hp' (by omega) (by rw [ht]; exact a.1) (by rw [ht]; exact hv1) (by rw [ht]; omega)
    rw [ht] at C2
    have C2 : ∀ d, ji_CL (d + 44) 34 [.ref 5] (jx_AL Y sc (jx_av t n σ) v1 0 l sf) = some (none, M2) := C2
    cases r with
    | inl q =>
      obtain ⟨s2, σ2⟩ := q
      obtain ⟨v2, hv2, rfl⟩ := Q
      dsimp only at hv2 C2 ⊢
      have pl := jx_pl _ _ _ _ _ _ hp a.1 (fun _ => rfl)
      have pl1 : jx_wf n σ2 := pl.1
      have pl2 : s2.length + (jx_av t n σ).2.2.1 ≤ 0 + σ2.2.2.1 := pl.2.1
      have pw1 := pl1.1
      have pw2 := pl1.2.1
      by_cases h59 : σ2.1 = 59
      · rw [if_pos h59]
        refine ⟨fun s σ' e => ?_, fun q e => (by cases e)⟩
        cases e
        obtain ⟨v3, hv3, C3⟩ := al_32 (v := v2) (op := 0) (le := l + s2.length) (sf := jx_wr sf l s2) H pl1 h59 k3
        rw [ht] at hv3 C3
        have a2 := jx_wf_1 (t := t) pl1 (by rw [h59]; exact k3)
        refine ⟨v3, a2.1, hv3, by omega, fun d o G => ?_⟩
        have C1 := cl_le C1 (e := d + 44) (by omega)
        have C2 := C2 d
        have C3 := cl_le C3 (e := d + 44) (by omega)
        have LE : ∀ σ v op le sf, ji_gI (jx_AL Y sc σ v op le sf) 5 9 = Int32.ofNat le := fun _ _ _ _ _ => rfl
        have XA : ∀ σ v op le sf x, ji_sI (jx_AL Y sc σ v op le sf) ec i x = jx_AL (ji_sI Y ec i x) sc σ v op le sf := fun _ _ _ _ _ _ => XE
        simp only [s19_0, s19_1, s19_2, s19_5, s19_6, s19_7, s19_10, s19_11, s19_12, s19_15, s19_16, s19_17, s19_20, s19_21, s19_22, s19_25, q19_26, s19_29, s19_30, s19_31, s19_32, s19_33, s19_36, s19_37, q19_38, s19_39, s19_42, s19_43, s19_46, s19_47, q19_48, s19_51, q19_52, s19_55, s19_56, q19_58, s19_61, s19_62, s19_63, s19_64, q19_67, q19_68, s19_74, s19_75, q19_78, s19_81, s19_82, s19_83, s19_86, s19_87, s19_90, xIL_1, xIS_1, xQL_2, xQL_3, xAN_1, xAN_2, xAN_3, xCP_1, xC_s, xNC_I, ji_oI1, ji_oIm, kd_sC, gR_sC, gL_sC, ji_rv_s, ji_tl_s, ji_tl_n, ji_s1, ji_s2, ji_kl, List.getD_cons_zero, List.getD_cons_succ, List.set_cons_zero, List.set_cons_succ, List.length_cons, List.length_nil, ji_b_0, ji_b_1, ji_n0, ji_n1, ji_rcb_iff, ji_ok8_0, ji_ok8_1, ji_ok8_2, ji_ok8_3, ji_ok8_4, kd_sI, kd_sL, kd_sR, kd_cp, gR_sI, gR_sL, gR_cp, gL_sI, gL_sR, gL_cp, gI_sL, gI_sR, gI_sI, gL_sL, Nat.reduceEqDiff, false_and, and_false, true_and, and_true, Nat.reduceAdd, Nat.reduceLT, Nat.reduceSub, Int32.reduceLT, Int32.reduceAdd, not_false_eq_true, not_true_eq_false, and_self, ji_b_n, if_true, if_false, ↓reduceIte, cz_m100, cz_m19, cz_m18, cz_m17, cz_m16, cz_m15, cz_m14, cz_m13, cz_m12, cz_m11, cz_m4, cz_m3, cz_m2, cz_m1, cz_1, cz_2, cz_3, cz_4, cz_5, cz_6, cz_7, cz_8, cz_9, cz_10, cz_11, cz_12, cz_13, cz_14, cz_15, cz_16, cz_20, cz_24, cz_30, cz_32, cz_33, cz_38, cz_40, cz_41, cz_42, cz_43, cz_45, cz_48, cz_57, cz_59, cz_60, cz_61, cz_63, cz_64, cz_72, cz_96, cz_97, cz_99, cz_100, cz_122, cz_124, cz_126, cz_160, cz_161, cz_168, cz_200, cz_255, cz_300, cz_960, cz_999, cz_1000, cz_1001, cz_1002, cz_1003, cz_1120, cz_2000, cz_2003, cz_2004, cz_2005, cz_3999, cz_9999, cz_14640, g, g2, kAL, al_kd H, C1, C2, C3, LE, z1, z2, p1, p2, XA]
        simp only [s19_71]
        exact G
      · rw [if_neg h59]
        refine ⟨fun s σ' e => (by cases e), fun q e => ?_⟩
        have e : σ2.2.2.1 = q := Sum.inr.inj e
        subst e
        obtain ⟨M3, D3, C3⟩ := al_32f (v := v2) (op := 0) (sf := jx_wr sf l s2) H pl1 (le := l + s2.length) (by omega) h59
        exact dead D3 (fun d => ⟨_, cl_le C1 (e := d + 44) (by omega), al_kd H, _, C2 d, al_kd H, cl_le C3 (e := d + 44) (by omega)⟩)
    | inr z =>
      dsimp only
      refine ⟨fun s σ' e => (by cases e), fun q e => ?_⟩
      have e : z = q := Sum.inr.inj e
      subst e
      obtain ⟨M3, D3, C3⟩ := dd_32 H Q k4
      exact dead D3 (fun d => ⟨_, cl_le C1 (e := d + 44) (by omega), al_kd H, _, C2 d, dd_kd H Q, cl_le C3 (e := d + 44) (by omega)⟩)
/-- what a reading changes -/
def jx_ch (sc ec : Nat) (X X' : ji_M) : Prop := X'.1 = X.1 ∧ (∀ a b, a ≠ sc → a ≠ ec → a ≠ 5 → ji_gI X' a b = ji_gI X a b) ∧ (∀ a b, ¬ (a = 5 ∧ b = 8) → ji_gR X' a b = ji_gR X a b) ∧ ji_gI X' 5 1 = 0
theorem jx_ch_1 (h1 : ec ≠ sc) (h2 : ec ≠ 5) (h3 : sc ≠ 5) {x1 x2 x3 : Int32} : jx_ch sc ec X (ji_sI (jx_XM (ji_sI (ji_sI (ji_sI (ji_sR X 5 8 (some sc)) ec 0 x1) ec 1 x2) ec 2 x3) pl st tk vl op fa le sc sf) 5 1 0) := by
  refine ⟨rfl, fun a b q1 q2 q3 => ?_, fun a b q => if_neg q, ?_⟩
  · rw [gF_sI q3]
    unfold jx_XM
    rw [gF_sCn q3, gF_sCn q1, gF_sI q2, gF_sI q2, gF_sI q2]
    rfl
  · rw [gI_sI, if_pos ⟨rfl, rfl⟩]
/-- read -/
theorem m19 (hX : ji_XF X) (hz : (ji_gI X 5 1).toInt = (n : Int)) (hn : n ≤ 160) (hb : ∀ k, k < n → ji_bt (ji_gI X 6 k) 0 255) (ks : ji_kd X sc = some (1, 160)) (hs1 : 9 ≤ sc) (hs2 : sc ≤ 14) (h2 : 16 ≤ ec) (h3 : ec ≤ 21) (hk : ji_kd X ec = some (1, 3)) : ∃ X', jx_ch sc ec X X' ∧ (∀ a b c, jx_rd (jx_tp X) n = .inl (a, b, c) → a.length + b.length + c.length ≤ 160 ∧ ji_gI X' ec 0 = Int32.ofNat a.length ∧ ji_gI X' ec 1 = Int32.ofNat (a.length + b.length) ∧ ji_gI X' ec 2 = Int32.ofNat (a.length + b.length + c.length) ∧ (∀ k, k < a.length + b.length + c.length → ji_gI X' sc k = (a ++ b ++ c).getD k 0) ∧ ∀ d, ji_CL (d + 45) 19 [.ref 5, .ref sc, .ref ec] X = some (some (.int (-1)), X')) ∧ (∀ q, jx_rd (jx_tp X) n = .inr q → q ≤ 160 ∧ ∀ d, ji_CL (d + 45) 19 [.ref 5, .ref sc, .ref ec] X = some (some (.int (Int32.ofNat q)), X')) := by
  obtain ⟨Y, hY⟩ : ∃ Y, ji_sR X 5 8 (some sc) = Y := ⟨_, rfl⟩
  have hYX : ji_XF Y := by
    rw [← hY]
    refine ⟨hX.1, fun e he => ?_, hX.2.2⟩
    have q : ∀ e ∈ ji_XR, ¬ (e.1 = 5 ∧ e.2.1 = 8) := by decide +kernel
    exact (if_neg (q e he)).trans (hX.2.1 e he)
  have H : jx_OK Y n sc := ⟨hYX, by rw [← hY]; exact hz, hn, by rw [← hY]; exact hb, by rw [← hY]; rfl, by rw [← hY]; exact ks, hs1, hs2⟩
  have hkY : ji_kd Y ec = some (1, 3) := by rw [← hY]; exact hk
  obtain ⟨t, ht⟩ : ∃ t, jx_tp Y = t := ⟨_, rfl⟩
  have ht2 : jx_tp X = t := by rw [← ht, ← hY]; rfl
  have n1 : ec ≠ sc := by omega
  have n2 : ec ≠ 5 := by omega
  have n3 : sc ≠ 5 := by omega
  rw [ht2]
  have nid : ji_sI (ji_sI (ji_sI (ji_sI Y 5 2 0) 5 6 0) 5 9 0) 5 7 (-1) = jx_XM Y 0 (ji_gI Y 5 3) (ji_gI Y 5 4) (ji_gI Y 5 5) 0 (-1) 0 sc (ji_gI Y sc) := by
    have e : ji_sI (ji_sI (ji_sI (ji_sI (jx_XM Y (ji_gI Y 5 2) (ji_gI Y 5 3) (ji_gI Y 5 4) (ji_gI Y 5 5) (ji_gI Y 5 6) (ji_gI Y 5 7) (ji_gI Y 5 9) sc (ji_gI Y sc)) 5 2 0) 5 6 0) 5 9 0) 5 7 (-1) = ji_sI (ji_sI (ji_sI (ji_sI Y 5 2 0) 5 6 0) 5 9 0) 5 7 (-1) := by rw [jx_XM_id n3]
    rw [← e, jx_XW_pl, jx_XW_op, jx_XW_le, jx_XW_fa]
  obtain ⟨v0, hv0, S⟩ := m20 (p := 0) (st := ji_gI Y 5 3) (tk := ji_gI Y 5 4) (vl := ji_gI Y 5 5) (op := 0) (fa := -1) (le := 0) (sf := ji_gI Y sc) H (Nat.zero_le _)
  rw [ht] at hv0 S
  obtain ⟨σ, hσ⟩ : ∃ σ, σ = jx_tok t n 0 := ⟨_, rfl⟩
  rw [← hσ] at hv0 S
  have w0 : jx_wf n σ := by
    have w0 : jx_wf n ((1000, 0, 0, 0) : jx_T) := ⟨Nat.le_refl _, Nat.zero_le _, fun q => absurd rfl q⟩
    have := jx_wf_av (t := t) w0
    have e : jx_av t n ((1000, 0, 0, 0) : jx_T) = σ := hσ.symm
    rw [e] at this
    exact this.1
  have st : ∀ o, (∀ d, ji_Ev (ji_CL (d + 44)) 19 31 (jx_AL Y sc σ v0 0 0 (ji_gI Y sc)) [some (.ref 5), some (.ref sc), some (.ref ec), some (.int (Int32.ofNat 0))] [] o) → ∀ d, ji_CL (d + 45) 19 [.ref 5, .ref sc, .ref ec] X = some o := by
    intro o G d
    have G := G d
    have S : ji_CL (d + 44) 20 [.ref 5] (jx_XM Y 0 (ji_gI Y 5 3) (ji_gI Y 5 4) (ji_gI Y 5 5) 0 (-1) 0 sc (ji_gI Y sc)) = some (none, jx_AL Y sc σ v0 0 0 (ji_gI Y sc)) := cl_le S (e := d + 44) (by omega)
    apply en_19
    simp only [s19_0, s19_1, s19_2, s19_5, s19_6, s19_7, s19_10, s19_11, s19_12, s19_15, s19_16, s19_17, s19_20, s19_21, s19_22, s19_25, q19_26, s19_29, s19_30, xIL_1, xIS_1, xQL_2, xQL_3, xAN_1, xAN_2, xAN_3, xCP_1, xC_s, xNC_I, ji_oI1, ji_oIm, kd_sC, gR_sC, gL_sC, ji_rv_s, ji_tl_s, ji_tl_n, ji_s1, ji_s2, ji_kl, List.getD_cons_zero, List.getD_cons_succ, List.set_cons_zero, List.set_cons_succ, List.length_cons, List.length_nil, ji_b_0, ji_b_1, ji_n0, ji_n1, ji_rcb_iff, ji_ok8_0, ji_ok8_1, ji_ok8_2, ji_ok8_3, ji_ok8_4, kd_sI, kd_sL, kd_sR, kd_cp, gR_sI, gR_sL, gR_cp, gL_sI, gL_sR, gL_cp, gI_sL, gI_sR, gI_sI, gL_sL, Nat.reduceEqDiff, false_and, and_false, true_and, and_true, Nat.reduceAdd, Nat.reduceLT, Nat.reduceSub, Int32.reduceLT, Int32.reduceAdd, not_false_eq_true, not_true_eq_false, and_self, ji_b_n, if_true, if_false, ↓reduceIte, cz_m100, cz_m19, cz_m18, cz_m17, cz_m16, cz_m15, cz_m14, cz_m13, cz_m12, cz_m11, cz_m4, cz_m3, cz_m2, cz_m1, cz_1, cz_2, cz_3, cz_4, cz_5, cz_6, cz_7, cz_8, cz_9, cz_10, cz_11, cz_12, cz_13, cz_14, cz_15, cz_16, cz_20, cz_24, cz_30, cz_32, cz_33, cz_38, cz_40, cz_41, cz_42, cz_43, cz_45, cz_48, cz_57, cz_59, cz_60, cz_61, cz_63, cz_64, cz_72, cz_96, cz_97, cz_99, cz_100, cz_122, cz_124, cz_126, cz_160, cz_161, cz_168, cz_200, cz_255, cz_300, cz_960, cz_999, cz_1000, cz_1001, cz_1002, cz_1003, cz_1120, cz_2000, cz_2003, cz_2004, cz_2005, cz_3999, cz_9999, cz_14640, jx_XM_kd, xk_5 hX, xk_5 hYX, hY, nid, S]
    exact G
  have g3 : ¬ Int32.ofNat (2 + 1) < 3 := by decide
  have k1 : ¬ (1001 : Int32) = 1000 := by decide
  have SZ : ∀ (Z : ji_M) σ v op le sf, ji_gI (ji_sI (jx_AL Z sc σ v op le sf) 5 1 0) 5 7 = -1 := fun _ _ _ _ _ _ => rfl
  have SD : ∀ (Z : ji_M) (pl st tk vl op fa le : Int32) (sf : ji_F), ji_gI (ji_sI (jx_XM Z pl st tk vl op fa le sc sf) 5 1 0) 5 7 = fa := fun _ _ _ _ _ _ _ _ _ => rfl
  have die : ∀ {M : ji_M} {q : Nat} {x1 x2 x3 : Int32}, jx_DD (ji_sI (ji_sI (ji_sI Y ec 0 x1) ec 1 x2) ec 2 x3) sc q M → (∀ d o, ji_Ev (ji_CL (d + 44)) 19 31 M [some (.ref 5), some (.ref sc), some (.ref ec), some (.int (Int32.ofNat (2 + 1)))] [] o → ji_Ev (ji_CL (d + 44)) 19 31 (jx_AL Y sc σ v0 0 0 (ji_gI Y sc)) [some (.ref 5), some (.ref sc), some (.ref ec), some (.int (Int32.ofNat 0))] [] o) → ∃ X', jx_ch sc ec X X' ∧ q ≤ 160 ∧ ∀ d, ji_CL (d + 45) 19 [.ref 5, .ref sc, .ref ec] X = some (some (.int (Int32.ofNat q)), X') := by
    intro M q x1 x2 x3 D G
    have H3 := jx_OK_ec (i := 2) (v := x3) (jx_OK_ec (i := 1) (v := x2) (jx_OK_ec (i := 0) (v := x1) H h2 h3) h2 h3) h2 h3
    obtain ⟨M1, D1, C1⟩ := dd_32 H3 D k1
    have K0 := dd_kd H3 D
    have K1 := dd_kd H3 D1
    obtain ⟨pl, st', vl, op, le, sf, rfl, y1, y2⟩ := D1
    refine ⟨ji_sI (jx_XM (ji_sI (ji_sI (ji_sI Y ec 0 x1) ec 1 x2) ec 2 x3) pl st' 1001 vl op (Int32.ofNat q) (Int32.ofNat le) sc sf) 5 1 0, ?_, y2, st _ (fun d => G d _ ?_)⟩
    rotate_left
    · have C1 := cl_le C1 (e := d + 44) (by omega)
      simp only [s19_31, s19_32, s19_33, s19_74, s19_75, q19_78, s19_81, s19_82, s19_83, s19_86, s19_87, s19_90, xIL_1, xIS_1, xQL_2, xQL_3, xAN_1, xAN_2, xAN_3, xCP_1, xC_s, xNC_I, ji_oI1, ji_oIm, kd_sC, gR_sC, gL_sC, ji_rv_s, ji_tl_s, ji_tl_n, ji_s1, ji_s2, ji_kl, List.getD_cons_zero, List.getD_cons_succ, List.set_cons_zero, List.set_cons_succ, List.length_cons, List.length_nil, ji_b_0, ji_b_1, ji_n0, ji_n1, ji_rcb_iff, ji_ok8_0, ji_ok8_1, ji_ok8_2, ji_ok8_3, ji_ok8_4, kd_sI, kd_sL, kd_sR, kd_cp, gR_sI, gR_sL, gR_cp, gL_sI, gL_sR, gL_cp, gI_sL, gI_sR, gI_sI, gL_sL, Nat.reduceEqDiff, false_and, and_false, true_and, and_true, Nat.reduceAdd, Nat.reduceLT, Nat.reduceSub, Int32.reduceLT, Int32.reduceAdd, not_false_eq_true, not_true_eq_false, and_self, ji_b_n, if_true, if_false, ↓reduceIte, cz_m100, cz_m19, cz_m18, cz_m17, cz_m16, cz_m15, cz_m14, cz_m13, cz_m12, cz_m11, cz_m4, cz_m3, cz_m2, cz_m1, cz_1, cz_2, cz_3, cz_4, cz_5, cz_6, cz_7, cz_8, cz_9, cz_10, cz_11, cz_12, cz_13, cz_14, cz_15, cz_16, cz_20, cz_24, cz_30, cz_32, cz_33, cz_38, cz_40, cz_41, cz_42, cz_43, cz_45, cz_48, cz_57, cz_59, cz_60, cz_61, cz_63, cz_64, cz_72, cz_96, cz_97, cz_99, cz_100, cz_122, cz_124, cz_126, cz_160, cz_161, cz_168, cz_200, cz_255, cz_300, cz_960, cz_999, cz_1000, cz_1001, cz_1002, cz_1003, cz_1120, cz_2000, cz_2003, cz_2004, cz_2005, cz_3999, cz_9999, cz_14640, -gI_sI, g3, K0, K1, C1, kd_sI, SD]
    · rw [← hY]
      exact jx_ch_1 n1 n2 n3
  have H1 := fun x1 => jx_OK_ec (i := 0) (v := x1) H h2 h3
  have H2 := fun x1 x2 => jx_OK_ec (i := 1) (v := x2) (H1 x1) h2 h3
  have H3 := fun x1 x2 x3 => jx_OK_ec (i := 2) (v := x3) (H2 x1 x2) h2 h3
  have A1 := m19A (i := 0) (sf := ji_gI Y sc) H ht hs2 h2 h3 hkY (by decide) w0 hv0 (Nat.zero_le _)
  have wrap : (∃ X', jx_ch sc ec X X' ∧ (∃ q, jx_rd t n = .inr q ∧ q ≤ 160 ∧ ∀ d, ji_CL (d + 45) 19 [.ref 5, .ref sc, .ref ec] X = some (some (.int (Int32.ofNat q)), X'))) → ∃ X', jx_ch sc ec X X' ∧ (∀ a b c, jx_rd t n = .inl (a, b, c) → a.length + b.length + c.length ≤ 160 ∧ ji_gI X' ec 0 = Int32.ofNat a.length ∧ ji_gI X' ec 1 = Int32.ofNat (a.length + b.length) ∧ ji_gI X' ec 2 = Int32.ofNat (a.length + b.length + c.length) ∧ (∀ k, k < a.length + b.length + c.length → ji_gI X' sc k = (a ++ b ++ c).getD k 0) ∧ ∀ d, ji_CL (d + 45) 19 [.ref 5, .ref sc, .ref ec] X = some (some (.int (-1)), X')) ∧ (∀ q, jx_rd t n = .inr q → q ≤ 160 ∧ ∀ d, ji_CL (d + 45) 19 [.ref 5, .ref sc, .ref ec] X = some (some (.int (Int32.ofNat q)), X')) := by
    rintro ⟨X', c1, q, c2, c3, c4⟩
    refine ⟨X', c1, fun a b c e => ?_, fun q' e => ?_⟩
    · rw [c2] at e; cases e
    · rw [c2] at e
      cases e
      exact ⟨c3, c4⟩
  cases hr1 : jx_r1 t n 0 σ with
  | inr q =>
    have er : jx_rd t n = .inr q := by unfold jx_rd; rw [← hσ, hr1]; rfl
    obtain ⟨M1, x1, D1, B1⟩ := A1.2 q hr1
    obtain ⟨M2, x2, D2, B2⟩ := m19D (i := 1) (H1 x1) hs2 h2 h3 hkY (by decide) D1
    obtain ⟨M3, x3, D3, B3⟩ := m19D (i := 2) (H2 x1 x2) hs2 h2 h3 hkY (by decide) D2
    obtain ⟨X', c1, c2, c3⟩ := die D3 (fun d o G => B1 d o (B2 d o (B3 d o G)))
    exact wrap ⟨X', c1, q, er, c2, c3⟩
  | inl p =>
    obtain ⟨a1, σ1⟩ := p
    obtain ⟨v1, w1, hv1, l1, B1⟩ := A1.1 a1 σ1 hr1
    rw [Nat.zero_add] at l1 B1
    have A2 := m19A (i := 1) (sf := jx_wr (ji_gI Y sc) 0 a1) (H1 (Int32.ofNat a1.length)) ((jx_tp_ec h2).trans ht) hs2 h2 h3 hkY (by decide) w1 hv1 l1
    cases hr2 : jx_r1 t n 1 σ1 with
    | inr q =>
      have er : jx_rd t n = .inr q := by unfold jx_rd; rw [← hσ, hr1]; dsimp only [jx_b2]; rw [hr2]
      obtain ⟨M2, x2, D2, B2⟩ := A2.2 q hr2
      obtain ⟨M3, x3, D3, B3⟩ := m19D (i := 2) (H2 _ x2) hs2 h2 h3 hkY (by decide) D2
      obtain ⟨X', c1, c2, c3⟩ := die D3 (fun d o G => B1 d o (B2 d o (B3 d o G)))
      exact wrap ⟨X', c1, q, er, c2, c3⟩
    | inl p =>
      obtain ⟨a2, σ2⟩ := p
      obtain ⟨v2, w2, hv2, l2, B2⟩ := A2.1 a2 σ2 hr2
      have A3 := m19A (i := 2) (sf := jx_wr (jx_wr (ji_gI Y sc) 0 a1) a1.length a2) (H2 (Int32.ofNat a1.length) (Int32.ofNat (a1.length + a2.length))) ((jx_tp_ec h2).trans ((jx_tp_ec h2).trans ht)) hs2 h2 h3 hkY (by decide) w2 hv2 l2
      cases hr3 : jx_r1 t n 2 σ2 with
      | inr q =>
        have er : jx_rd t n = .inr q := by unfold jx_rd; rw [← hσ, hr1]; dsimp only [jx_b2]; rw [hr2]; dsimp only [jx_b2]; rw [hr3]
        obtain ⟨M3, x3, D3, B3⟩ := A3.2 q hr3
        obtain ⟨X', c1, c2, c3⟩ := die D3 (fun d o G => B1 d o (B2 d o (B3 d o G)))
        exact wrap ⟨X', c1, q, er, c2, c3⟩
      | inl p =>
        obtain ⟨a3, σ3⟩ := p
        obtain ⟨v3, w3, hv3, l3, B3⟩ := A3.1 a3 σ3 hr3
        have wn := w3.1
        have wn2 := w3.2.1
        have H3' := H3 (Int32.ofNat a1.length) (Int32.ofNat (a1.length + a2.length)) (Int32.ofNat (a1.length + a2.length + a3.length))
        by_cases hE : σ3.1 = 1000
        · have er : jx_rd t n = .inl (a1, a2, a3) := by
            unfold jx_rd; rw [← hσ, hr1]; dsimp only [jx_b2]; rw [hr2]; dsimp only [jx_b2]; rw [hr3]; dsimp only [jx_b2]; rw [if_pos hE]
          have C1 := al_32e (v := v3) (op := 0) (le := a1.length + a2.length + a3.length) (sf := jx_wr (jx_wr (jx_wr (ji_gI Y sc) 0 a1) a1.length a2) (a1.length + a2.length) a3) H3' hE
          refine ⟨ji_sI (jx_AL (ji_sI (ji_sI (ji_sI Y ec 0 (Int32.ofNat a1.length)) ec 1 (Int32.ofNat (a1.length + a2.length))) ec 2 (Int32.ofNat (a1.length + a2.length + a3.length))) sc σ3 v3 0 (a1.length + a2.length + a3.length) (jx_wr (jx_wr (jx_wr (ji_gI Y sc) 0 a1) a1.length a2) (a1.length + a2.length) a3)) 5 1 0, ?_, fun a b c e => ?_, fun q e => ?_⟩
          · rw [← hY]
            exact jx_ch_1 n1 n2 n3
          · rw [er] at e
            cases e
            have ge : ∀ (Z : ji_M) k, ji_gI (ji_sI (jx_AL Z sc σ3 v3 0 (a1.length + a2.length + a3.length) (jx_wr (jx_wr (jx_wr (ji_gI Y sc) 0 a1) a1.length a2) (a1.length + a2.length) a3)) 5 1 0) ec k = ji_gI Z ec k := by
              intro Z k
              rw [gF_sI n2]
              unfold jx_AL jx_XM
              rw [gF_sCn n2, gF_sCn n1]
            refine ⟨by omega, ?_, ?_, ?_, fun k hk => ?_, st _ (fun d => B1 d _ (B2 d _ (B3 d _ ?_)))⟩
            · rw [ge, gI_sI, if_neg (by omega), gI_sI, if_neg (by omega), gI_sI, if_pos ⟨rfl, rfl⟩]
            · rw [ge, gI_sI, if_neg (by omega), gI_sI, if_pos ⟨rfl, rfl⟩]
            · rw [ge, gI_sI, if_pos ⟨rfl, rfl⟩]
            · rw [gF_sI n3]
              unfold jx_AL
              rw [jx_XM_c n3]
              have e1 := jx_wr_app (sf := ji_gI Y sc) (le := 0) (a := a1) (b := a2)
              rw [Nat.zero_add] at e1
              have e2 := jx_wr_app (sf := ji_gI Y sc) (le := 0) (a := a1 ++ a2) (b := a3)
              rw [Nat.zero_add, List.length_append] at e2
              rw [e1, e2]
              unfold jx_wr
              rw [if_pos ⟨Nat.zero_le _, by rw [List.length_append, List.length_append]; omega⟩, Nat.sub_zero]
            · have C1 := cl_le C1 (e := d + 44) (by omega)
              simp only [s19_31, s19_32, s19_33, s19_74, s19_75, q19_78, s19_81, s19_82, s19_83, s19_86, s19_87, s19_90, xIL_1, xIS_1, xQL_2, xQL_3, xAN_1, xAN_2, xAN_3, xCP_1, xC_s, xNC_I, ji_oI1, ji_oIm, kd_sC, gR_sC, gL_sC, ji_rv_s, ji_tl_s, ji_tl_n, ji_s1, ji_s2, ji_kl, List.getD_cons_zero, List.getD_cons_succ, List.set_cons_zero, List.set_cons_succ, List.length_cons, List.length_nil, ji_b_0, ji_b_1, ji_n0, ji_n1, ji_rcb_iff, ji_ok8_0, ji_ok8_1, ji_ok8_2, ji_ok8_3, ji_ok8_4, kd_sI, kd_sL, kd_sR, kd_cp, gR_sI, gR_sL, gR_cp, gL_sI, gL_sR, gL_cp, gI_sL, gI_sR, gI_sI, gL_sL, Nat.reduceEqDiff, false_and, and_false, true_and, and_true, Nat.reduceAdd, Nat.reduceLT, Nat.reduceSub, Int32.reduceLT, Int32.reduceAdd, not_false_eq_true, not_true_eq_false, and_self, ji_b_n, if_true, if_false, ↓reduceIte, cz_m100, cz_m19, cz_m18, cz_m17, cz_m16, cz_m15, cz_m14, cz_m13, cz_m12, cz_m11, cz_m4, cz_m3, cz_m2, cz_m1, cz_1, cz_2, cz_3, cz_4, cz_5, cz_6, cz_7, cz_8, cz_9, cz_10, cz_11, cz_12, cz_13, cz_14, cz_15, cz_16, cz_20, cz_24, cz_30, cz_32, cz_33, cz_38, cz_40, cz_41, cz_42, cz_43, cz_45, cz_48, cz_57, cz_59, cz_60, cz_61, cz_63, cz_64, cz_72, cz_96, cz_97, cz_99, cz_100, cz_122, cz_124, cz_126, cz_160, cz_161, cz_168, cz_200, cz_255, cz_300, cz_960, cz_999, cz_1000, cz_1001, cz_1002, cz_1003, cz_1120, cz_2000, cz_2003, cz_2004, cz_2005, cz_3999, cz_9999, cz_14640, -gI_sI, g3, al_kd H3', C1, kd_sI, SZ]
          · rw [er] at e; cases e
        · have er : jx_rd t n = .inr σ3.2.2.1 := by
            unfold jx_rd; rw [← hσ, hr1]; dsimp only [jx_b2]; rw [hr2]; dsimp only [jx_b2]; rw [hr3]; dsimp only [jx_b2]; rw [if_neg hE]
          obtain ⟨M1, D1, C1⟩ := al_32f (v := v3) (op := 0) (sf := jx_wr (jx_wr (jx_wr (ji_gI Y sc) 0 a1) a1.length a2) (a1.length + a2.length) a3) H3' w3 (le := a1.length + a2.length + a3.length) (by omega) hE
          have K1 := dd_kd H3' D1
          obtain ⟨pl, st', vl, op, le, sf, rfl, y1, y2⟩ := D1
          refine wrap ⟨ji_sI (jx_XM (ji_sI (ji_sI (ji_sI Y ec 0 (Int32.ofNat a1.length)) ec 1 (Int32.ofNat (a1.length + a2.length))) ec 2 (Int32.ofNat (a1.length + a2.length + a3.length))) pl st' 1001 vl op (Int32.ofNat σ3.2.2.1) (Int32.ofNat le) sc sf) 5 1 0, ?_, σ3.2.2.1, er, y2, st _ (fun d => B1 d _ (B2 d _ (B3 d _ ?_)))⟩
          rotate_left
          · have C1 := cl_le C1 (e := d + 44) (by omega)
            simp only [s19_31, s19_32, s19_33, s19_74, s19_75, q19_78, s19_81, s19_82, s19_83, s19_86, s19_87, s19_90, xIL_1, xIS_1, xQL_2, xQL_3, xAN_1, xAN_2, xAN_3, xCP_1, xC_s, xNC_I, ji_oI1, ji_oIm, kd_sC, gR_sC, gL_sC, ji_rv_s, ji_tl_s, ji_tl_n, ji_s1, ji_s2, ji_kl, List.getD_cons_zero, List.getD_cons_succ, List.set_cons_zero, List.set_cons_succ, List.length_cons, List.length_nil, ji_b_0, ji_b_1, ji_n0, ji_n1, ji_rcb_iff, ji_ok8_0, ji_ok8_1, ji_ok8_2, ji_ok8_3, ji_ok8_4, kd_sI, kd_sL, kd_sR, kd_cp, gR_sI, gR_sL, gR_cp, gL_sI, gL_sR, gL_cp, gI_sL, gI_sR, gI_sI, gL_sL, Nat.reduceEqDiff, false_and, and_false, true_and, and_true, Nat.reduceAdd, Nat.reduceLT, Nat.reduceSub, Int32.reduceLT, Int32.reduceAdd, not_false_eq_true, not_true_eq_false, and_self, ji_b_n, if_true, if_false, ↓reduceIte, cz_m100, cz_m19, cz_m18, cz_m17, cz_m16, cz_m15, cz_m14, cz_m13, cz_m12, cz_m11, cz_m4, cz_m3, cz_m2, cz_m1, cz_1, cz_2, cz_3, cz_4, cz_5, cz_6, cz_7, cz_8, cz_9, cz_10, cz_11, cz_12, cz_13, cz_14, cz_15, cz_16, cz_20, cz_24, cz_30, cz_32, cz_33, cz_38, cz_40, cz_41, cz_42, cz_43, cz_45, cz_48, cz_57, cz_59, cz_60, cz_61, cz_63, cz_64, cz_72, cz_96, cz_97, cz_99, cz_100, cz_122, cz_124, cz_126, cz_160, cz_161, cz_168, cz_200, cz_255, cz_300, cz_960, cz_999, cz_1000, cz_1001, cz_1002, cz_1003, cz_1120, cz_2000, cz_2003, cz_2004, cz_2005, cz_3999, cz_9999, cz_14640, -gI_sI, g3, al_kd H3', K1, C1, kd_sI, SD]
          · rw [← hY]
            exact jx_ch_1 n1 n2 n3
end JIV
