/-! ===== lots: the plain telling; a stock copied ===== -/
def jz_fa : Nat → Nat
  | 0 => 1
  | k + 1 => (k + 1) * jz_fa k
section JZY
variable (Lm : List Nat)
def jz_rl : Nat → Nat → List Nat
  | 0, _ => Lm
  | j + 1, v => (jz_rl j (v / (Lm.length - j))).eraseIdx (v % (Lm.length - j))
def jz_bk (j v : Nat) : Nat := (jz_rl Lm j (v / (Lm.length - j))).getD (v % (Lm.length - j)) 0
noncomputable def jz_al (n : Nat) (N : ji_M) : Nat → Nat → ji_M
  | 0, _ => N
  | j + 1, v => jz_sp n (jz_al n N j (v / (Lm.length - j))) (jz_bk Lm j v)
def jz_O (f : ji_F) : Nat → Nat → Prop
  | 0, _ => True
  | j + 1, v => jz_O f j (v / (Lm.length - j)) ∧ f j = Int32.ofNat (jz_bk Lm j v)
noncomputable def jz_lv (n : Nat) (N : ji_M) (σ : List Int32 × List Int32 × List Int32) (v : Nat) : Int64 := jx_la (jz_al Lm n N Lm.length v) σ (ji_gI N 0 4).toInt.toNat
noncomputable def jz_st (n : Nat) (N : ji_M) (σ : List Int32 × List Int32 × List Int32) (x : Option (Int64 × Nat)) (v : Nat) : Option (Int64 × Nat) := match x with
  | none => some (jz_lv Lm n N σ v, v)
  | some q => if jz_lv Lm n N σ v < q.1 then some (jz_lv Lm n N σ v, v) else some q
end JZY
section JIV
variable {X X' Y N N' M M' : ji_M} {P : ji_P} {x y z : Int32} {f g : ji_F} {Lm : List Nat} {d a b r c m s p n i j k v u ρ s' r' c' : Nat} {o : Option Value × ji_M} {σ : List Int32 × List Int32 × List Int32}
theorem jz_tree {α : Type} {f : α → Nat → α} {x : α} : jy_run f (v * jz_fa (k + 1)) (jz_fa (k + 1)) x = jy_run (fun x y => jy_run f ((v * (k + 1) + y) * jz_fa k) (jz_fa k) x) 0 (k + 1) x := by
  have e : jz_fa (k + 1) = (k + 1) * jz_fa k := rfl
  rw [e, ← Nat.mul_assoc, jy_blk]
theorem jz_rl_len : ∀ (j v : Nat), j ≤ Lm.length → (jz_rl Lm j v).length = Lm.length - j := by
  intro j
  induction j with
  | zero => intro v _; rfl
  | succ j ih =>
    intro v hj
    have i := ih (v / (Lm.length - j)) (by omega)
    have q := Nat.mod_lt v (show Lm.length - j > 0 by omega)
    show ((jz_rl Lm j (v / (Lm.length - j))).eraseIdx (v % (Lm.length - j))).length = _
    rw [List.length_eraseIdx_of_lt (by omega), i]
    omega
theorem jz_rl_s (hu : u < Lm.length - j) : jz_rl Lm (j + 1) (v * (Lm.length - j) + u) = (jz_rl Lm j v).eraseIdx u := by
  have := jy_dm (v := v) hu
  show (jz_rl Lm j ((v * (Lm.length - j) + u) / (Lm.length - j))).eraseIdx ((v * (Lm.length - j) + u) % (Lm.length - j)) = _
  rw [this.1, this.2]
theorem jz_bk_s (hu : u < Lm.length - j) : jz_bk Lm j (v * (Lm.length - j) + u) = (jz_rl Lm j v).getD u 0 := by
  have := jy_dm (v := v) hu
  unfold jz_bk
  rw [this.1, this.2]
theorem jz_al_s (hu : u < Lm.length - j) : jz_al Lm n N (j + 1) (v * (Lm.length - j) + u) = jz_sp n (jz_al Lm n N j v) ((jz_rl Lm j v).getD u 0) := by
  have := jy_dm (v := v) hu
  show jz_sp n (jz_al Lm n N j ((v * (Lm.length - j) + u) / (Lm.length - j))) (jz_bk Lm j (v * (Lm.length - j) + u)) = _
  rw [this.1, jz_bk_s hu]
theorem jz_O_s (hu : u < Lm.length - j) : jz_O Lm f (j + 1) (v * (Lm.length - j) + u) ↔ jz_O Lm f j v ∧ f j = Int32.ofNat ((jz_rl Lm j v).getD u 0) := by
  have := jy_dm (v := v) hu
  show jz_O Lm f j ((v * (Lm.length - j) + u) / (Lm.length - j)) ∧ f j = Int32.ofNat (jz_bk Lm j (v * (Lm.length - j) + u)) ↔ _
  rw [this.1, jz_bk_s hu]
theorem jz_O_eq : ∀ (j v : Nat), (∀ l, l < j → f l = g l) → jz_O Lm f j v → jz_O Lm g j v := by
  intro j
  induction j with
  | zero => intro v _ _; trivial
  | succ j ih =>
    intro v h e
    exact ⟨ih _ (fun l hl => h l (by omega)) e.1, by rw [← h j (by omega)]; exact e.2⟩
theorem jz_O_two : ∀ (j v : Nat), jz_O Lm f j v → jz_O Lm g j v → ∀ i, i < j → f i = g i := by
  intro j
  induction j with
  | zero => intro v _ _ i hi; exact absurd hi (by omega)
  | succ j ih =>
    intro v e e' i hi
    by_cases h : i = j
    · subst h
      rw [e.2, e'.2]
    · exact ih _ e.1 e'.1 i (by omega)
/-- what is left stands in order, and is of the books -/
theorem jz_rl_sub : ∀ (j v : Nat), (jz_rl Lm j v).Sublist Lm := by
  intro j
  induction j with
  | zero => intro v; exact List.Sublist.refl _
  | succ j ih => intro v; exact List.Sublist.trans (List.eraseIdx_sublist _ _) (ih _)
theorem jz_sp_a (h0 : a ≠ 0) (h5 : a ≠ 5) (h6 : a ≠ 6) (h7 : a ≠ 7) (h8 : a ≠ 8) : ji_gI (jz_sp n M b) a = ji_gI M a := by
  unfold jz_sp jq_Nj
  rw [jq_NH_a h0 h5 h6 h7 h8, jz_dr_a h7 h8]
theorem jz_sp_f (hi : i ≠ 0) : ji_gI (jz_sp n M b) 0 i = ji_gI M 0 i := by
  unfold jz_sp jq_Nj
  rw [jq_NH_f hi, jz_dr_a (by decide) (by decide)]
theorem jz_sp_0 : ji_gI (jz_sp n M b) 0 0 = ji_gI M 0 0 + Int32.ofNat n := by
  unfold jz_sp jq_Nj
  rw [jq_NH_00, jz_dr_a (by decide) (by decide)]
theorem jz_al_f (hi : i ≠ 0) : ∀ (j v : Nat), ji_gI (jz_al Lm n N j v) 0 i = ji_gI N 0 i := by
  intro j
  induction j with
  | zero => intro v; rfl
  | succ j ih => intro v; exact (jz_sp_f hi).trans (ih _)
theorem jz_al_0 (h0 : 0 ≤ (ji_gI N 0 0).toInt ∧ (ji_gI N 0 0).toInt ≤ 999) (hn : n ≤ 24) : ∀ (j v : Nat), j ≤ 5 → (ji_gI (jz_al Lm n N j v) 0 0).toInt = (ji_gI N 0 0).toInt + (j * n : Nat) := by
  intro j
  induction j with
  | zero => intro v _; rw [Nat.zero_mul]; show (ji_gI N 0 0).toInt = _; omega
  | succ j ih =>
    intro v hj
    have i := ih (v / (Lm.length - j)) (by omega)
    have e : ji_gI (jz_al Lm n N (j + 1) v) 0 0 = ji_gI (jz_al Lm n N j (v / (Lm.length - j))) 0 0 + Int32.ofNat n := jz_sp_0
    have en := vi_nn (n := n) (by omega)
    have jb : j * n ≤ 5 * 24 := Nat.mul_le_mul (by omega) hn
    have js : (j + 1) * n = j * n + n := Nat.succ_mul ..
    rw [e, vi_add (by rw [i, en]; omega) (by rw [i, en]; omega), i, en]
    omega
/-! a stock copied into another -/
def jz_tg (X : ji_M) (s r c : Nat) : Prop := (ji_kd X s = some (0, 5) ∧ ji_gR X s 0 = some r ∧ ji_kd X r = some (0, 2) ∧ ji_gR X r 2 = some c ∧ ji_kd X c = some (1, 192)) ∧ ji_gI X r 0 = 24 ∧ ji_gI X r 1 = 8
def jz_cpy (X : ji_M) (s r c s' r' c' : Nat) : ji_M := ji_sI (ji_sI (ji_sI (ji_sI (ji_sI (ji_sI (ji_cp X c 0 c' 0 192) r' 3 (ji_gI X r 3)) s' 1 (ji_gI X s 1)) s' 2 (ji_gI X s 2)) s' 3 (ji_gI X s 3)) s' 4 (ji_gI X s 4)) s' 5 (ji_gI X s 5)
theorem jz_cpy_o (hs : a ≠ s') (hr : a ≠ r') (hc : a ≠ c') : ji_gI (jz_cpy X s r c s' r' c') a = ji_gI X a := by
  unfold jz_cpy
  rw [gF_sI hs, gF_sI hs, gF_sI hs, gF_sI hs, gF_sI hs, gF_sI hr]
  exact funext fun i => by rw [gI_cp, if_neg (fun q => hc q.1)]
theorem jz_cpy_r (hsr : r' ≠ s') (hrc : r' ≠ c') : ji_gI (jz_cpy X s r c s' r' c') r' i = if i = 3 then ji_gI X r 3 else ji_gI X r' i := by
  unfold jz_cpy
  rw [gI_ne hsr, gI_ne hsr, gI_ne hsr, gI_ne hsr, gI_ne hsr, gI_sI]
  by_cases h : i = 3
  · rw [if_pos ⟨rfl, h⟩, if_pos h]
  · rw [if_neg (fun q => h q.2), if_neg h, gI_cp, if_neg (fun q => hrc q.1)]
theorem jz_cpy_c (hsc : c' ≠ s') (hrc : c' ≠ r') (hi : i < 192) : ji_gI (jz_cpy X s r c s' r' c') c' i = ji_gI X c i := by
  unfold jz_cpy
  rw [gI_ne hsc, gI_ne hsc, gI_ne hsc, gI_ne hsc, gI_ne hsc, gI_ne hrc, gI_cp, if_pos ⟨rfl, by omega, by omega⟩, show 0 + (i - 0) = i by omega]
theorem jz_cpy_s (h1 : 1 ≤ i) (h5 : i ≤ 5) : ji_gI (jz_cpy X s r c s' r' c') s' i = ji_gI X s i := by
  unfold jz_cpy
  by_cases e5 : i = 5
  · subst e5; rw [gI_eq]
  rw [gI_nk e5]
  by_cases e4 : i = 4
  · subst e4; rw [gI_eq]
  rw [gI_nk e4]
  by_cases e3 : i = 3
  · subst e3; rw [gI_eq]
  rw [gI_nk e3]
  by_cases e2 : i = 2
  · subst e2; rw [gI_eq]
  rw [gI_nk e2, show i = 1 by omega, gI_eq]
theorem m105 (h : ji_kd X r = some (0, 2) ∧ ji_gR X r 2 = some c ∧ ji_kd X c = some (1, 192)) (h' : ji_kd X r' = some (0, 2) ∧ ji_gR X r' 2 = some c' ∧ ji_kd X c' = some (1, 192)) (hrc : ¬ r = c') : ji_CL (d + 1) 105 [.ref r', .ref r] X = some (none, ji_sI (ji_cp X c 0 c' 0 192) r' 3 (ji_gI X r 3)) := by
  have e192 : (Int32.ofNat 192).toNatClampNeg = 192 := rfl
  have n0 : ¬ (0 : Int32) < 0 := by decide
  have n1 : ¬ Int32.ofNat 192 < 0 := by decide
  have n2 : 0 + 192 ≤ 192 := by omega
  have cp : ∀ i, ji_gI (ji_cp X c 0 c' 0 192) r i = ji_gI X r i := fun i => by rw [gI_cp, if_neg (fun q => hrc q.1)]
  apply en_105
  simp only [s105_0, s105_1, q105_4, s105_5, s105_6, q105_9, s105_10, s105_13, s105_14, s105_17, s105_18, s105_19, s105_22, s105_23, s105_24, q105_27, q105_28, s105_31, s105_32, s105_33, s105_36, s105_39, xIL_1, xIS_1, xQL_2, xQL_3, xAN_1, xAN_2, xAN_3, xCP_1, xC_s, xNC_I, ji_oI1, ji_oIm, kd_sC, gR_sC, gL_sC, ji_rv_s, ji_tl_s, ji_tl_n, ji_s1, ji_s2, ji_kl, List.getD_cons_zero, List.getD_cons_succ, List.set_cons_zero, List.set_cons_succ, List.length_cons, List.length_nil, ji_b_0, ji_b_1, ji_n0, ji_n1, ji_rcb_iff, ji_ok8_0, ji_ok8_1, ji_ok8_2, ji_ok8_3, ji_ok8_4, kd_sI, kd_sL, kd_sR, kd_cp, gR_sI, gR_sL, gR_cp, gL_sI, gL_sR, gL_cp, gI_sL, gI_sR, gI_sI, gL_sL, Nat.reduceEqDiff, false_and, and_false, true_and, and_true, Nat.reduceAdd, Nat.reduceLT, Nat.reduceSub, Int32.reduceLT, Int32.reduceAdd, not_false_eq_true, not_true_eq_false, and_self, ji_b_n, if_true, if_false, ↓reduceIte, cz_m100, cz_m19, cz_m18, cz_m17, cz_m16, cz_m15, cz_m14, cz_m13, cz_m12, cz_m11, cz_m4, cz_m3, cz_m2, cz_m1, cz_1, cz_2, cz_3, cz_4, cz_5, cz_6, cz_7, cz_8, cz_9, cz_10, cz_11, cz_12, cz_13, cz_14, cz_15, cz_16, cz_20, cz_24, cz_30, cz_32, cz_33, cz_38, cz_40, cz_41, cz_42, cz_43, cz_45, cz_48, cz_57, cz_59, cz_60, cz_61, cz_63, cz_64, cz_72, cz_96, cz_97, cz_99, cz_100, cz_122, cz_124, cz_126, cz_160, cz_161, cz_168, cz_200, cz_255, cz_300, cz_960, cz_999, cz_1000, cz_1001, cz_1002, cz_1003, cz_1120, cz_2000, cz_2003, cz_2004, cz_2005, cz_3999, cz_9999, cz_14640, -gI_sI, h.1, h.2.1, h.2.2, h'.1, h'.2.1, h'.2.2, e192, n0, n1, n2, tn_0, hrc, cp]
theorem m104 (C : jx_C X M s r c ρ σ) (T : jz_tg X s' r' c') (hs : (s' ≠ 4 ∧ s' ≠ 22) ∧ (r' ≠ 4 ∧ r' ≠ 22) ∧ (c' ≠ 4 ∧ c' ≠ 22)) (so : (30 ≤ s' ∧ 30 ≤ r' ∧ 30 ≤ c') ∧ ∀ e ∈ ji_XI, e.1 ≠ s' ∧ e.1 ≠ c') (hd : s ≠ s' ∧ r ≠ r' ∧ c ≠ c') : (∀ d, ji_CL (d + 2) 104 [.ref s', .ref s] X = some (none, jz_cpy X s r c s' r' c')) ∧ jx_C (jz_cpy X s r c s' r' c') M s' r' c' ρ σ := by
  obtain ⟨⟨t1, t2, t3, t4, t5⟩, t6, t7⟩ := T
  have hX := C.1
  have hM := C.2.1
  obtain ⟨S, h1, h2, h3, h4, h5, h6⟩ := C.2.2.1
  obtain ⟨k1, k2, k3, k4, k5, k6, k7, -⟩ := S
  have k5 : ji_kd X c = some (1, 192) := k5
  have ne : ∀ {a b κ κ'}, ji_kd X a = some κ → ji_kd X b = some κ' → κ ≠ κ' → ¬ a = b := fun {a b κ κ'} h1 h2 h3 e => h3 (by rw [e, h2] at h1; exact (Option.some.inj h1).symm)
  have q1 : ¬ r = c' := ne k3 t5 (by decide)
  have q2 : ¬ s = r' := ne k1 t3 (by decide)
  have q3 : ¬ s = c' := ne k1 t5 (by decide)
  have q4 : ¬ r' = s' := ne t3 t1 (by decide)
  have q5 : ¬ r' = c' := ne t3 t5 (by decide)
  have q6 : ¬ c' = s' := ne t5 t1 (by decide)
  have q7 : ¬ s = s' := hd.1
  have hbk := h5.2
  constructor
  · intro d
    have K := m105 (d := d) (X := X) ⟨k3, k4, k5⟩ ⟨t3, t4, t5⟩ q1
    have cp : ∀ i, ji_gI (ji_cp X c 0 c' 0 192) s i = ji_gI X s i := fun i => by rw [gI_cp, if_neg (fun q => q3 q.1)]
    apply en_104
    simp only [s104_0, s104_1, s104_4, s104_5, q104_8, s104_11, s104_12, s104_13, s104_16, s104_19, s104_20, s104_21, s104_24, s104_27, s104_28, s104_29, s104_32, s104_35, s104_36, s104_37, s104_40, s104_43, s104_44, s104_45, s104_48, s104_51, xIL_1, xIS_1, xQL_2, xQL_3, xAN_1, xAN_2, xAN_3, xCP_1, xC_s, xNC_I, ji_oI1, ji_oIm, kd_sC, gR_sC, gL_sC, ji_rv_s, ji_tl_s, ji_tl_n, ji_s1, ji_s2, ji_kl, List.getD_cons_zero, List.getD_cons_succ, List.set_cons_zero, List.set_cons_succ, List.length_cons, List.length_nil, ji_b_0, ji_b_1, ji_n0, ji_n1, ji_rcb_iff, ji_ok8_0, ji_ok8_1, ji_ok8_2, ji_ok8_3, ji_ok8_4, kd_sI, kd_sL, kd_sR, kd_cp, gR_sI, gR_sL, gR_cp, gL_sI, gL_sR, gL_cp, gI_sL, gI_sR, gI_sI, gL_sL, Nat.reduceEqDiff, false_and, and_false, true_and, and_true, Nat.reduceAdd, Nat.reduceLT, Nat.reduceSub, Int32.reduceLT, Int32.reduceAdd, not_false_eq_true, not_true_eq_false, and_self, ji_b_n, if_true, if_false, ↓reduceIte, cz_m100, cz_m19, cz_m18, cz_m17, cz_m16, cz_m15, cz_m14, cz_m13, cz_m12, cz_m11, cz_m4, cz_m3, cz_m2, cz_m1, cz_1, cz_2, cz_3, cz_4, cz_5, cz_6, cz_7, cz_8, cz_9, cz_10, cz_11, cz_12, cz_13, cz_14, cz_15, cz_16, cz_20, cz_24, cz_30, cz_32, cz_33, cz_38, cz_40, cz_41, cz_42, cz_43, cz_45, cz_48, cz_57, cz_59, cz_60, cz_61, cz_63, cz_64, cz_72, cz_96, cz_97, cz_99, cz_100, cz_122, cz_124, cz_126, cz_160, cz_161, cz_168, cz_200, cz_255, cz_300, cz_960, cz_999, cz_1000, cz_1001, cz_1002, cz_1003, cz_1120, cz_2000, cz_2003, cz_2004, cz_2005, cz_3999, cz_9999, cz_14640, t1, t2, t3, k1, k2, k3, K, q2, q3, q7, cp]
    rfl
  · have hX' : ji_XF (jz_cpy X s r c s' r' c') := by
      refine ⟨hX.1, hX.2.1, fun e he => ?_⟩
      have := so.2 e he
      have h0 : ji_gI (jz_cpy X s r c s' r' c') e.1 e.2.1 = ji_gI X e.1 e.2.1 := by
        by_cases er : e.1 = r'
        · have e3 : e.2.1 ≠ 3 := by
            have : ∀ e ∈ ji_XI, e.2.1 ≠ 3 := by decide +kernel
            exact this e he
          rw [er, jz_cpy_r q4 q5, if_neg e3]
        · rw [jz_cpy_o this.1 er this.2]
      rw [h0]
      exact hX.2.2 e he
    have s1 := fun i a b => jz_cpy_s (X := X) (s := s) (r := r) (c := c) (s' := s') (r' := r') (c' := c') (i := i) a b
    have r1 := fun i => jz_cpy_r (X := X) (s := s) (r := r) (c := c) (i := i) q4 q5
    have e3 : ji_gI (jz_cpy X s r c s' r' c') r' 3 = ji_gI X r 3 := by rw [r1, if_pos rfl]
    have SR : jq_SR (jz_cpy X s r c s' r' c') M s' r' c' := by
      refine ⟨⟨t1, t2, t3, t4, t5, ?_, ?_, by omega, by omega, ?_, ?_⟩, ?_, ?_, ?_, ?_, h5, fun b hb => ?_⟩
      · rw [r1, if_neg (by decide)]; exact t6
      · rw [r1, if_neg (by decide)]; exact t7
      · rw [e3, h4]; exact h5.1
      · rw [e3, h4]; exact h5.2
      · rw [s1 1 (by omega) (by omega)]; exact h1
      · rw [s1 2 (by omega) (by omega), s1 3 (by omega) (by omega), s1 4 (by omega) (by omega)]; exact h2
      · rw [s1 5 (by omega) (by omega)]; exact h3
      · rw [e3]; exact h4
      · have c1 := fun i hi => jz_cpy_c (X := X) (s := s) (r := r) (c := c) (s' := s') (r' := r') (c' := c') (i := i) q6 (fun z => q5 z.symm) hi
        rw [c1 _ (by omega), c1 _ (by omega), c1 _ (by omega), c1 _ (by omega), c1 _ (by omega), c1 _ (by omega), c1 _ (by omega), c1 _ (by omega)]
        exact h6 b hb
    have so1 := so.1
    exact jz_C_mk C hs hX' hM SR (fun i _ => by rw [jz_cpy_o (by omega) (by omega) (by omega)]) (fun a _ _ => jz_cpy_o (by omega) (by omega) (by omega)) rfl rfl rfl
end JIV
