/-! ===== lots: an order by its number ===== -/
def jz_wl : Nat → Nat → Nat → Nat → Option Nat
  | 0, _, _, _ => none
  | f + 1, u, m, s => if u.testBit m = true ∨ 0 < s then jz_wl f u (m + 1) (if u.testBit m = true then s else s - 1) else some m
def jz_un (K u : Nat) : List Nat := (List.range K).filter fun m => !u.testBit m
theorem jz_wl_d : ∀ K : Fin 6, ∀ u : Fin 32, ∀ y : Fin 5, y.val < (jz_un K.val u.val).length → jz_wl 12 u.val 0 y.val = some ((jz_un K.val u.val).getD y.val 0) ∧ (jz_un K.val u.val).getD y.val 0 < K.val ∧ jz_un K.val (u.val ||| 2 ^ (jz_un K.val u.val).getD y.val 0) = (jz_un K.val u.val).eraseIdx y.val ∧ u.val ||| 2 ^ (jz_un K.val u.val).getD y.val 0 < 32 := by decide +kernel
theorem jz_un_0 : ∀ K : Fin 6, jz_un K.val 0 = List.range K.val := by decide +kernel
theorem jz_wl_le : ∀ (f u m s r : Nat), jz_wl f u m s = some r → m ≤ r := by
  intro f
  induction f with
  | zero => intro u m s r h; cases h
  | succ f ih =>
    intro u m s r h
    unfold jz_wl at h
    split at h
    · have := ih _ _ _ _ h; omega
    · cases h; exact Nat.le_refl _
def jz_D (K : Nat) (f : ji_F) : Nat → Nat → Prop
  | 0, _ => True
  | j + 1, v => jz_D K f j (v / (K - j)) ∧ f j = Int32.ofNat (v % (K - j))
def jz_rf (Lm : List Nat) (e : Nat → Nat) : Nat → List Nat
  | 0 => Lm
  | j + 1 => (jz_rf Lm e j).eraseIdx (e j)
section JIV
variable {X X' X'' Y N N' N0 M M' : ji_M} {P : ji_P} {x y z : Int32} {f g : ji_F} {Lm : List Nat} {d a b r c m s p n i j k v u t ρ K : Nat} {o : Option Value × ji_M} {x3 : Int32}
theorem jz_D_e : ∀ (j v : Nat), j ≤ Lm.length → Lm.length ≤ 1000 → jz_D Lm.length f j v → jz_rf Lm (fun l => (f l).toInt.toNat) j = jz_rl Lm j v ∧ ∀ l, l < j → (f l).toInt.toNat < Lm.length - l ∧ 0 ≤ (f l).toInt := by
  intro j
  induction j with
  | zero => intro v _ _ _; exact ⟨rfl, fun l hl => absurd hl (by omega)⟩
  | succ j ih =>
    intro v hj hk e
    obtain ⟨h1, h2⟩ := ih _ (by omega) hk e.1
    have q := Nat.mod_lt v (show Lm.length - j > 0 by omega)
    have e2 : (f j).toInt = ((v % (Lm.length - j) : Nat) : Int) := by rw [e.2]; exact vi_nn (by omega)
    have e3 : (f j).toInt.toNat = v % (Lm.length - j) := by rw [e2]; exact Int.toNat_natCast _
    refine ⟨?_, fun l hl => ?_⟩
    · show (jz_rf Lm (fun l => (f l).toInt.toNat) j).eraseIdx (f j).toInt.toNat = (jz_rl Lm j (v / (Lm.length - j))).eraseIdx (v % (Lm.length - j))
      rw [h1, e3]
    · by_cases q2 : l = j
      · subst q2
        rw [e3]
        omega
      · exact h2 l (by omega)
/-- an order out of its digits -/
def jz_Of (Lm : List Nat) (e : Nat → Nat) (f : ji_F) (j : Nat) : Prop := ∀ l, l < j → f l = Int32.ofNat ((jz_rf Lm e l).getD (e l) 0)
theorem jz_Of_O {g : ji_F} : ∀ (j v : Nat), j ≤ Lm.length → Lm.length ≤ 1000 → jz_D Lm.length f j v → jz_Of Lm (fun l => (f l).toInt.toNat) g j → jz_O Lm g j v := by
  intro j
  induction j with
  | zero => intro v _ _ _ _; trivial
  | succ j ih =>
    intro v hj hk e h
    refine ⟨ih _ (by omega) hk e.1 (fun l hl => h l (by omega)), ?_⟩
    have h1 := (jz_D_e (f := f) _ _ (by omega) hk e.1).1
    have q := Nat.mod_lt v (show Lm.length - j > 0 by omega)
    have e3 : (f j).toInt.toNat = v % (Lm.length - j) := by rw [e.2, vi_nn (by omega)]; exact Int.toNat_natCast _
    rw [h j (by omega)]
    unfold jz_bk
    rw [h1]
    dsimp only
    rw [e3]
/-- the model's rows but digits and order -/
def jz_nU (N N' : ji_M) : Prop := N'.1 = N.1 ∧ (∀ a, a ≠ 24 → a ≠ 27 → ji_gI N' a = ji_gI N a) ∧ (∀ a i, ji_gL N' a i = ji_gL N a i) ∧ ∀ a i, ji_gR N' a i = ji_gR N a i
theorem jz_nU_r : jz_nU N N := ⟨rfl, fun _ _ _ => rfl, fun _ _ => rfl, fun _ _ => rfl⟩
theorem jz_nU_t (h : jz_nU N N') (h' : jz_nU N' N0) : jz_nU N N0 := ⟨h'.1.trans h.1, fun a q1 q2 => (h'.2.1 a q1 q2).trans (h.2.1 a q1 q2), fun a i => (h'.2.2.1 a i).trans (h.2.2.1 a i), fun a i => (h'.2.2.2 a i).trans (h.2.2.2 a i)⟩
theorem jz_nU_MF (h : jz_nU N N') (hN : ji_MF N) : ji_MF N' := ⟨h.1.trans hN.1, fun e he => (h.2.2.2 e.1 e.2.1).trans (hN.2 e he)⟩
theorem jz_nU_27 : jz_nU N (ji_sI N 27 i x) := ⟨rfl, fun _ _ h => gF_sI h, fun _ _ => rfl, fun _ _ => rfl⟩
theorem jz_nU_24 : jz_nU N (ji_sI N 24 i x) := ⟨rfl, fun _ h _ => gF_sI h, fun _ _ => rfl, fun _ _ => rfl⟩
theorem jz_er_map {g : Nat → Nat} : ∀ (l : List Nat) (i : Nat), (l.map g).eraseIdx i = (l.eraseIdx i).map g := by
  intro l
  induction l with
  | nil => intro i; rfl
  | cons a l ih =>
    intro i
    cases i with
    | zero => rfl
    | succ i =>
      show g a :: (l.map g).eraseIdx i = g a :: (l.eraseIdx i).map g
      rw [ih]
theorem m203A (hK : K ≤ 5) : ∀ (t u : Nat) (N : ji_M), ji_MF N → t ≤ K → u ≤ 1000 → ∃ N' w, jz_nU N N' ∧ ji_gI N' 24 = ji_gI N 24 ∧ jz_D K (ji_gI N' 27) t u ∧ (∀ l, t ≤ l → ji_gI N' 27 l = ji_gI N 27 l) ∧ ∀ d o, ji_Ev (ji_CL d) 203 38 N' [some (.ref 0), some (.int y), some (.int (Int32.ofNat K)), some (.int w), some (.int (-1)), none, none, none] [] o → ji_Ev (ji_CL d) 203 7 N [some (.ref 0), some (.int y), some (.int (Int32.ofNat K)), some (.int (Int32.ofNat u)), some (.int (Int32.ofNat t + (-1))), none, none, none] [] o := by
  intro t
  induction t with
  | zero =>
    intro u N hN ht hu
    refine ⟨N, Int32.ofNat u, jz_nU_r, rfl, trivial, fun _ _ => rfl, fun d o G => ?_⟩
    have e : Int32.ofNat 0 + (-1) = -1 := rfl
    have g : ((-1 : Int32) < 0) := by decide
    rw [e]
    simp only [s203_0, s203_1, s203_2, s203_3, s203_4, s203_5, s203_7, s203_9, s203_12, s203_13, s203_16, s203_18, s203_19, s203_20, s203_22, s203_23, q203_24, s203_25, s203_26, s203_27, s203_29, s203_30, s203_31, q203_32, s203_39, s203_41, s203_42, s203_44, s203_46, s203_47, s203_50, s203_51, s203_54, q203_56, s203_57, s203_59, s203_60, s203_62, s203_64, s203_66, s203_67, s203_68, s203_69, s203_70, s203_73, s203_75, s203_78, s203_80, s203_82, s203_84, s203_85, s203_86, s203_87, s203_88, s203_91, s203_92, s203_95, s203_96, s203_97, q203_99, s203_102, s203_105, s203_107, s203_108, s203_110, s203_111, s203_112, s203_114, s203_115, s203_118, s203_120, s203_121, s203_124, q203_126, q203_127, q203_128, s203_131, s203_134, xIL_1, xIS_1, xQL_2, xQL_3, xAN_1, xAN_2, xAN_3, xCP_1, xC_s, xNC_I, ji_oI1, ji_oIm, kd_sC, gR_sC, gL_sC, ji_rv_s, ji_tl_s, ji_tl_n, ji_s1, ji_s2, ji_kl, List.getD_cons_zero, List.getD_cons_succ, List.set_cons_zero, List.set_cons_succ, List.length_cons, List.length_nil, ji_b_0, ji_b_1, ji_n0, ji_n1, ji_rcb_iff, ji_ok8_0, ji_ok8_1, ji_ok8_2, ji_ok8_3, ji_ok8_4, kd_sI, kd_sL, kd_sR, kd_cp, gR_sI, gR_sL, gR_cp, gL_sI, gL_sR, gL_cp, gI_sL, gI_sR, gI_sI, gL_sL, Nat.reduceEqDiff, false_and, and_false, true_and, and_true, Nat.reduceAdd, Nat.reduceLT, Nat.reduceSub, Int32.reduceLT, Int32.reduceAdd, not_false_eq_true, not_true_eq_false, and_self, ji_b_n, if_true, if_false, ↓reduceIte, cz_m100, cz_m19, cz_m18, cz_m17, cz_m16, cz_m15, cz_m14, cz_m13, cz_m12, cz_m11, cz_m4, cz_m3, cz_m2, cz_m1, cz_1, cz_2, cz_3, cz_4, cz_5, cz_6, cz_7, cz_8, cz_9, cz_10, cz_11, cz_12, cz_13, cz_14, cz_15, cz_16, cz_20, cz_24, cz_30, cz_32, cz_33, cz_38, cz_40, cz_41, cz_42, cz_43, cz_45, cz_48, cz_57, cz_59, cz_60, cz_61, cz_63, cz_64, cz_72, cz_96, cz_97, cz_99, cz_100, cz_122, cz_124, cz_126, cz_160, cz_161, cz_168, cz_200, cz_255, cz_300, cz_960, cz_999, cz_1000, cz_1001, cz_1002, cz_1003, cz_1120, cz_2000, cz_2003, cz_2004, cz_2005, cz_3999, cz_9999, cz_14640, g]
    exact G
  | succ t ih =>
    intro u N hN ht hu
    obtain ⟨i1, i2, i3⟩ := jy_ix (Y := t) (m := 5) (by omega) (by omega)
    have g : ¬ Int32.ofNat t < 0 := by rw [vi_lt, i1]; show ¬ (t : Int) < 0; omega
    have sb : Int32.ofNat K - Int32.ofNat t = Int32.ofNat (K - t) := (Int32.ofNat_sub K t (by omega)).symm
    have dv := jy_divN (u := u) (B := K - t) (by omega) (by omega) (by omega)
    have md := jy_modN (u := u) (B := K - t) (by omega) (by omega) (by omega)
    rw [dv] at md
    have h0 : ¬ Int32.ofNat (K - t) = 0 := by
      rw [vi_eq, vi_nn (by omega)]; show ¬ ((K - t : Nat) : Int) = 0; omega
    have dl := Nat.div_le_self u (K - t)
    obtain ⟨N', w, o', o24, e', k', E⟩ := ih (u / (K - t)) (ji_sI N 27 t (Int32.ofNat (u % (K - t)))) hN (by omega) (by omega)
    refine ⟨N', w, jz_nU_t jz_nU_27 o', o24.trans (gF_sI (by decide)), ⟨e', ?_⟩, fun l hl => ?_, fun d o G => ?_⟩
    · rw [k' t (Nat.le_refl _), gI_sI, if_pos ⟨rfl, rfl⟩]
    · rw [k' l (by omega), gI_sI, if_neg (fun q => by omega)]
    · have E := E d o G
      rw [jy_pm1 (by omega)]
      simp only [s203_0, s203_1, s203_2, s203_3, s203_4, s203_5, s203_7, s203_9, s203_12, s203_13, s203_16, s203_18, s203_19, s203_20, s203_22, s203_23, q203_24, s203_25, s203_26, s203_27, s203_29, s203_30, s203_31, q203_32, s203_39, s203_41, s203_42, s203_44, s203_46, s203_47, s203_50, s203_51, s203_54, q203_56, s203_57, s203_59, s203_60, s203_62, s203_64, s203_66, s203_67, s203_68, s203_69, s203_70, s203_73, s203_75, s203_78, s203_80, s203_82, s203_84, s203_85, s203_86, s203_87, s203_88, s203_91, s203_92, s203_95, s203_96, s203_97, q203_99, s203_102, s203_105, s203_107, s203_108, s203_110, s203_111, s203_112, s203_114, s203_115, s203_118, s203_120, s203_121, s203_124, q203_126, q203_127, q203_128, s203_131, s203_134, xIL_1, xIS_1, xQL_2, xQL_3, xAN_1, xAN_2, xAN_3, xCP_1, xC_s, xNC_I, ji_oI1, ji_oIm, kd_sC, gR_sC, gL_sC, ji_rv_s, ji_tl_s, ji_tl_n, ji_s1, ji_s2, ji_kl, List.getD_cons_zero, List.getD_cons_succ, List.set_cons_zero, List.set_cons_succ, List.length_cons, List.length_nil, ji_b_0, ji_b_1, ji_n0, ji_n1, ji_rcb_iff, ji_ok8_0, ji_ok8_1, ji_ok8_2, ji_ok8_3, ji_ok8_4, kd_sI, kd_sL, kd_sR, kd_cp, gR_sI, gR_sL, gR_cp, gL_sI, gL_sR, gL_cp, gI_sL, gI_sR, gI_sI, gL_sL, Nat.reduceEqDiff, false_and, and_false, true_and, and_true, Nat.reduceAdd, Nat.reduceLT, Nat.reduceSub, Int32.reduceLT, Int32.reduceAdd, not_false_eq_true, not_true_eq_false, and_self, ji_b_n, if_true, if_false, ↓reduceIte, cz_m100, cz_m19, cz_m18, cz_m17, cz_m16, cz_m15, cz_m14, cz_m13, cz_m12, cz_m11, cz_m4, cz_m3, cz_m2, cz_m1, cz_1, cz_2, cz_3, cz_4, cz_5, cz_6, cz_7, cz_8, cz_9, cz_10, cz_11, cz_12, cz_13, cz_14, cz_15, cz_16, cz_20, cz_24, cz_30, cz_32, cz_33, cz_38, cz_40, cz_41, cz_42, cz_43, cz_45, cz_48, cz_57, cz_59, cz_60, cz_61, cz_63, cz_64, cz_72, cz_96, cz_97, cz_99, cz_100, cz_122, cz_124, cz_126, cz_160, cz_161, cz_168, cz_200, cz_255, cz_300, cz_960, cz_999, cz_1000, cz_1001, cz_1002, cz_1003, cz_1120, cz_2000, cz_2003, cz_2004, cz_2005, cz_3999, cz_9999, cz_14640, -gI_sI, mk_0 hN, mr_45 hN, mk_27 hN, g, i2, i3, sb, dv, md, h0]
      simp only [s203_35]
      exact E
/-- the next member that is not used, some skipped -/
theorem m203B {x5 : Int32} (hu : u < 32) : ∀ (f m s r : Nat), jz_wl f u m s = some r → r < 5 → s ≤ 100 → ∃ w, ∀ d o, ji_Ev (ji_CL d) 203 105 N [some (.ref 0), some (.int y), some (.int z), some (.int x3), some (.int (Int32.ofNat u)), some (.int x5), some (.int w), some (.int (Int32.ofNat r))] [] o → ji_Ev (ji_CL d) 203 62 N [some (.ref 0), some (.int y), some (.int z), some (.int x3), some (.int (Int32.ofNat u)), some (.int x5), some (.int (Int32.ofNat s)), some (.int (Int32.ofNat m))] [] o := by
  have n1 : ¬ (0 : Int32) = 1 := by decide
  have p2 : (Int32.ofInt 1) = 1 := rfl
  intro f
  induction f with
  | zero => intro m s r h; cases h
  | succ f ih =>
    intro m s r h hr hs
    have hm := jz_wl_le _ _ _ _ _ h
    have bt := jj_bitn (s := u) (g := m) (by omega) (by omega)
    have p1 := jx_o1p (k := m) (by omega)
    unfold jz_wl at h
    by_cases b1 : u.testBit m = true
    · rw [if_pos (Or.inl b1), if_pos b1] at h
      rw [if_pos b1] at bt
      obtain ⟨w, E⟩ := ih _ _ _ h hr hs
      refine ⟨w, fun d o G => ?_⟩
      have E := E d o G
      simp only [s203_0, s203_1, s203_2, s203_3, s203_4, s203_5, s203_7, s203_9, s203_12, s203_13, s203_16, s203_18, s203_19, s203_20, s203_22, s203_23, q203_24, s203_25, s203_26, s203_27, s203_29, s203_30, s203_31, q203_32, s203_35, s203_38, s203_39, s203_41, s203_42, s203_44, s203_46, s203_47, s203_50, s203_51, s203_54, q203_56, s203_57, s203_59, s203_60, s203_62, s203_64, s203_66, s203_67, s203_68, s203_69, s203_70, s203_73, s203_75, s203_78, s203_80, s203_82, s203_84, s203_85, s203_86, s203_87, s203_88, s203_91, s203_92, s203_95, s203_96, s203_97, q203_99, s203_107, s203_108, s203_110, s203_111, s203_112, s203_114, s203_115, s203_118, s203_120, s203_121, s203_124, q203_126, q203_127, q203_128, s203_131, s203_134, xIL_1, xIS_1, xQL_2, xQL_3, xAN_1, xAN_2, xAN_3, xCP_1, xC_s, xNC_I, ji_oI1, ji_oIm, kd_sC, gR_sC, gL_sC, ji_rv_s, ji_tl_s, ji_tl_n, ji_s1, ji_s2, ji_kl, List.getD_cons_zero, List.getD_cons_succ, List.set_cons_zero, List.set_cons_succ, List.length_cons, List.length_nil, ji_b_0, ji_b_1, ji_n0, ji_n1, ji_rcb_iff, ji_ok8_0, ji_ok8_1, ji_ok8_2, ji_ok8_3, ji_ok8_4, kd_sI, kd_sL, kd_sR, kd_cp, gR_sI, gR_sL, gR_cp, gL_sI, gL_sR, gL_cp, gI_sL, gI_sR, gI_sI, gL_sL, Nat.reduceEqDiff, false_and, and_false, true_and, and_true, Nat.reduceAdd, Nat.reduceLT, Nat.reduceSub, Int32.reduceLT, Int32.reduceAdd, not_false_eq_true, not_true_eq_false, and_self, ji_b_n, if_true, if_false, ↓reduceIte, cz_m100, cz_m19, cz_m18, cz_m17, cz_m16, cz_m15, cz_m14, cz_m13, cz_m12, cz_m11, cz_m4, cz_m3, cz_m2, cz_m1, cz_1, cz_2, cz_3, cz_4, cz_5, cz_6, cz_7, cz_8, cz_9, cz_10, cz_11, cz_12, cz_13, cz_14, cz_15, cz_16, cz_20, cz_24, cz_30, cz_32, cz_33, cz_38, cz_40, cz_41, cz_42, cz_43, cz_45, cz_48, cz_57, cz_59, cz_60, cz_61, cz_63, cz_64, cz_72, cz_96, cz_97, cz_99, cz_100, cz_122, cz_124, cz_126, cz_160, cz_161, cz_168, cz_200, cz_255, cz_300, cz_960, cz_999, cz_1000, cz_1001, cz_1002, cz_1003, cz_1120, cz_2000, cz_2003, cz_2004, cz_2005, cz_3999, cz_9999, cz_14640, bt, p1, p2, Int32.sub_zero]
      simp only [s203_102]
      exact E
    · rw [if_neg b1] at bt
      by_cases b2 : 0 < s
      · rw [if_pos (Or.inr b2), if_neg b1] at h
        obtain ⟨w, E⟩ := ih _ _ _ h hr (by omega)
        refine ⟨w, fun d o G => ?_⟩
        have E := E d o G
        have g : 0 < Int32.ofNat s := by rw [vi_lt, vi_nn (by omega)]; show (0 : Int) < _; omega
        have sb : Int32.ofNat s - 1 = Int32.ofNat (s - 1) := (Int32.ofNat_sub s 1 (by omega)).symm
        simp only [s203_0, s203_1, s203_2, s203_3, s203_4, s203_5, s203_7, s203_9, s203_12, s203_13, s203_16, s203_18, s203_19, s203_20, s203_22, s203_23, q203_24, s203_25, s203_26, s203_27, s203_29, s203_30, s203_31, q203_32, s203_35, s203_38, s203_39, s203_41, s203_42, s203_44, s203_46, s203_47, s203_50, s203_51, s203_54, q203_56, s203_57, s203_59, s203_60, s203_62, s203_64, s203_66, s203_67, s203_68, s203_69, s203_70, s203_73, s203_75, s203_78, s203_80, s203_82, s203_84, s203_85, s203_86, s203_87, s203_88, s203_91, s203_92, s203_95, s203_96, s203_97, q203_99, s203_107, s203_108, s203_110, s203_111, s203_112, s203_114, s203_115, s203_118, s203_120, s203_121, s203_124, q203_126, q203_127, q203_128, s203_131, s203_134, xIL_1, xIS_1, xQL_2, xQL_3, xAN_1, xAN_2, xAN_3, xCP_1, xC_s, xNC_I, ji_oI1, ji_oIm, kd_sC, gR_sC, gL_sC, ji_rv_s, ji_tl_s, ji_tl_n, ji_s1, ji_s2, ji_kl, List.getD_cons_zero, List.getD_cons_succ, List.set_cons_zero, List.set_cons_succ, List.length_cons, List.length_nil, ji_b_0, ji_b_1, ji_n0, ji_n1, ji_rcb_iff, ji_ok8_0, ji_ok8_1, ji_ok8_2, ji_ok8_3, ji_ok8_4, kd_sI, kd_sL, kd_sR, kd_cp, gR_sI, gR_sL, gR_cp, gL_sI, gL_sR, gL_cp, gI_sL, gI_sR, gI_sI, gL_sL, Nat.reduceEqDiff, false_and, and_false, true_and, and_true, Nat.reduceAdd, Nat.reduceLT, Nat.reduceSub, Int32.reduceLT, Int32.reduceAdd, not_false_eq_true, not_true_eq_false, and_self, ji_b_n, if_true, if_false, ↓reduceIte, cz_m100, cz_m19, cz_m18, cz_m17, cz_m16, cz_m15, cz_m14, cz_m13, cz_m12, cz_m11, cz_m4, cz_m3, cz_m2, cz_m1, cz_1, cz_2, cz_3, cz_4, cz_5, cz_6, cz_7, cz_8, cz_9, cz_10, cz_11, cz_12, cz_13, cz_14, cz_15, cz_16, cz_20, cz_24, cz_30, cz_32, cz_33, cz_38, cz_40, cz_41, cz_42, cz_43, cz_45, cz_48, cz_57, cz_59, cz_60, cz_61, cz_63, cz_64, cz_72, cz_96, cz_97, cz_99, cz_100, cz_122, cz_124, cz_126, cz_160, cz_161, cz_168, cz_200, cz_255, cz_300, cz_960, cz_999, cz_1000, cz_1001, cz_1002, cz_1003, cz_1120, cz_2000, cz_2003, cz_2004, cz_2005, cz_3999, cz_9999, cz_14640, bt, n1, g, p1, p2, sb]
        simp only [s203_102]
        exact E
      · rw [if_neg (fun q => q.elim b1 b2)] at h
        have h := Option.some.inj h
        subst h
        have g : ¬ 0 < Int32.ofNat s := by rw [vi_lt, vi_nn (by omega)]; show ¬ (0 : Int) < _; omega
        refine ⟨Int32.ofNat s, fun d o G => ?_⟩
        simp only [s203_0, s203_1, s203_2, s203_3, s203_4, s203_5, s203_7, s203_9, s203_12, s203_13, s203_16, s203_18, s203_19, s203_20, s203_22, s203_23, q203_24, s203_25, s203_26, s203_27, s203_29, s203_30, s203_31, q203_32, s203_35, s203_38, s203_39, s203_41, s203_42, s203_44, s203_46, s203_47, s203_50, s203_51, s203_54, q203_56, s203_57, s203_59, s203_60, s203_62, s203_64, s203_66, s203_67, s203_68, s203_69, s203_70, s203_73, s203_75, s203_78, s203_80, s203_82, s203_84, s203_85, s203_86, s203_87, s203_88, s203_91, s203_92, s203_95, s203_96, s203_97, q203_99, s203_107, s203_108, s203_110, s203_111, s203_112, s203_114, s203_115, s203_118, s203_120, s203_121, s203_124, q203_126, q203_127, q203_128, s203_131, s203_134, xIL_1, xIS_1, xQL_2, xQL_3, xAN_1, xAN_2, xAN_3, xCP_1, xC_s, xNC_I, ji_oI1, ji_oIm, kd_sC, gR_sC, gL_sC, ji_rv_s, ji_tl_s, ji_tl_n, ji_s1, ji_s2, ji_kl, List.getD_cons_zero, List.getD_cons_succ, List.set_cons_zero, List.set_cons_succ, List.length_cons, List.length_nil, ji_b_0, ji_b_1, ji_n0, ji_n1, ji_rcb_iff, ji_ok8_0, ji_ok8_1, ji_ok8_2, ji_ok8_3, ji_ok8_4, kd_sI, kd_sL, kd_sR, kd_cp, gR_sI, gR_sL, gR_cp, gL_sI, gL_sR, gL_cp, gI_sL, gI_sR, gI_sI, gL_sL, Nat.reduceEqDiff, false_and, and_false, true_and, and_true, Nat.reduceAdd, Nat.reduceLT, Nat.reduceSub, Int32.reduceLT, Int32.reduceAdd, not_false_eq_true, not_true_eq_false, and_self, ji_b_n, if_true, if_false, ↓reduceIte, cz_m100, cz_m19, cz_m18, cz_m17, cz_m16, cz_m15, cz_m14, cz_m13, cz_m12, cz_m11, cz_m4, cz_m3, cz_m2, cz_m1, cz_1, cz_2, cz_3, cz_4, cz_5, cz_6, cz_7, cz_8, cz_9, cz_10, cz_11, cz_12, cz_13, cz_14, cz_15, cz_16, cz_20, cz_24, cz_30, cz_32, cz_33, cz_38, cz_40, cz_41, cz_42, cz_43, cz_45, cz_48, cz_57, cz_59, cz_60, cz_61, cz_63, cz_64, cz_72, cz_96, cz_97, cz_99, cz_100, cz_122, cz_124, cz_126, cz_160, cz_161, cz_168, cz_200, cz_255, cz_300, cz_960, cz_999, cz_1000, cz_1001, cz_1002, cz_1003, cz_1120, cz_2000, cz_2003, cz_2004, cz_2005, cz_3999, cz_9999, cz_14640, bt, n1, g]
        exact G
theorem m203C (hL : Lm.length ≤ 5) {f : ji_F} (hf : ∀ l, l < Lm.length → (f l).toInt.toNat < Lm.length - l ∧ 0 ≤ (f l).toInt) : ∀ (m p u : Nat) (N : ji_M) (l6 l7 : Option Value), p + m = Lm.length → ji_MF N → ji_gI N 27 = f → (∀ i, i < Lm.length → ji_gI N 26 i = Int32.ofNat (Lm.getD i 0)) → u < 32 → jz_rf Lm (fun l => (f l).toInt.toNat) p = (jz_un Lm.length u).map (fun i => Lm.getD i 0) → (jz_un Lm.length u).length = Lm.length - p → jz_Of Lm (fun l => (f l).toInt.toNat) (ji_gI N 24) p → ∃ N', jz_nU N N' ∧ jz_Of Lm (fun l => (f l).toInt.toNat) (ji_gI N' 24) Lm.length ∧ ∀ d, ji_Ev (ji_CL d) 203 44 N [some (.ref 0), some (.int y), some (.int (Int32.ofNat Lm.length)), some (.int x3), some (.int (Int32.ofNat u)), some (.int (Int32.ofNat p)), l6, l7] [] (none, N') := by
  intro m
  induction m with
  | zero =>
    intro p u N l6 l7 hp hN h27 hm hu e1 e2 e3
    have e : p = Lm.length := by omega
    subst e
    have g : ¬ Int32.ofNat Lm.length < Int32.ofNat Lm.length := Int32.lt_irrefl
    refine ⟨N, jz_nU_r, e3, fun d => ?_⟩
    simp only [s203_0, s203_1, s203_2, s203_3, s203_4, s203_5, s203_7, s203_9, s203_12, s203_13, s203_16, s203_18, s203_19, s203_20, s203_22, s203_23, q203_24, s203_25, s203_26, s203_27, s203_29, s203_30, s203_31, q203_32, s203_35, s203_38, s203_39, s203_41, s203_42, s203_44, s203_46, s203_47, s203_50, s203_51, s203_54, q203_56, s203_57, s203_59, s203_60, s203_62, s203_64, s203_66, s203_67, s203_68, s203_69, s203_70, s203_73, s203_75, s203_78, s203_80, s203_82, s203_84, s203_85, s203_86, s203_87, s203_88, s203_91, s203_92, s203_95, s203_96, s203_97, q203_99, s203_102, s203_105, s203_107, s203_108, s203_110, s203_111, s203_112, s203_114, s203_115, s203_118, s203_120, s203_121, s203_124, q203_126, q203_127, q203_128, s203_134, xIL_1, xIS_1, xQL_2, xQL_3, xAN_1, xAN_2, xAN_3, xCP_1, xC_s, xNC_I, ji_oI1, ji_oIm, kd_sC, gR_sC, gL_sC, ji_rv_s, ji_tl_s, ji_tl_n, ji_s1, ji_s2, ji_kl, List.getD_cons_zero, List.getD_cons_succ, List.set_cons_zero, List.set_cons_succ, List.length_cons, List.length_nil, ji_b_0, ji_b_1, ji_n0, ji_n1, ji_rcb_iff, ji_ok8_0, ji_ok8_1, ji_ok8_2, ji_ok8_3, ji_ok8_4, kd_sI, kd_sL, kd_sR, kd_cp, gR_sI, gR_sL, gR_cp, gL_sI, gL_sR, gL_cp, gI_sL, gI_sR, gI_sI, gL_sL, Nat.reduceEqDiff, false_and, and_false, true_and, and_true, Nat.reduceAdd, Nat.reduceLT, Nat.reduceSub, Int32.reduceLT, Int32.reduceAdd, not_false_eq_true, not_true_eq_false, and_self, ji_b_n, if_true, if_false, ↓reduceIte, cz_m100, cz_m19, cz_m18, cz_m17, cz_m16, cz_m15, cz_m14, cz_m13, cz_m12, cz_m11, cz_m4, cz_m3, cz_m2, cz_m1, cz_1, cz_2, cz_3, cz_4, cz_5, cz_6, cz_7, cz_8, cz_9, cz_10, cz_11, cz_12, cz_13, cz_14, cz_15, cz_16, cz_20, cz_24, cz_30, cz_32, cz_33, cz_38, cz_40, cz_41, cz_42, cz_43, cz_45, cz_48, cz_57, cz_59, cz_60, cz_61, cz_63, cz_64, cz_72, cz_96, cz_97, cz_99, cz_100, cz_122, cz_124, cz_126, cz_160, cz_161, cz_168, cz_200, cz_255, cz_300, cz_960, cz_999, cz_1000, cz_1001, cz_1002, cz_1003, cz_1120, cz_2000, cz_2003, cz_2004, cz_2005, cz_3999, cz_9999, cz_14640, g]
  | succ m ih =>
    intro p u N l6 l7 hp hN h27 hm hu e1 e2 e3
    obtain ⟨i1, i2, i3⟩ := jy_ix (Y := p) (m := 5) (by omega) (by omega)
    have g : Int32.ofNat p < Int32.ofNat Lm.length := by rw [vi_lt, vi_nn (by omega), vi_nn (by omega)]; omega
    have p1 := jx_o1p (k := p) (by omega)
    have p2 : (Int32.ofInt 1) = 1 := rfl
    obtain ⟨f1, f2⟩ := hf p (by omega)
    obtain ⟨s, hs⟩ : ∃ s : Nat, (f p).toInt = (s : Int) := ⟨(f p).toInt.toNat, by omega⟩
    have hs2 : (f p).toInt.toNat = s := by omega
    have hfs := vi_ofn hs
    have D := jz_wl_d ⟨Lm.length, by omega⟩ ⟨u, hu⟩ ⟨s, by omega⟩ (by dsimp only; omega)
    dsimp only at D
    generalize hr : (jz_un Lm.length u).getD s 0 = r at D
    obtain ⟨d1, d2, d3, d4⟩ := D
    obtain ⟨w, W⟩ := m203B (N := N) (y := y) (z := Int32.ofNat Lm.length) (x3 := x3) (x5 := Int32.ofNat p) hu 12 0 s r d1 (by omega) (by omega)
    obtain ⟨k1, k2, k3⟩ := jy_ix (Y := r) (m := 5) (by omega) (by omega)
    have ot := (jj_orn (s := u) (g := r) (by omega) (by omega)).1
    have ebk : (jz_rf Lm (fun l => (f l).toInt.toNat) p).getD s 0 = Lm.getD r 0 := by
      rw [e1, List.getD_eq_getElem?_getD, List.getElem?_map]
      rw [List.getD_eq_getElem?_getD] at hr
      rw [List.getElem?_eq_getElem (by omega)] at hr ⊢
      show Lm.getD _ 0 = _
      rw [show (jz_un Lm.length u)[s] = r from hr]
    obtain ⟨N', n', o', E⟩ := ih (p + 1) (u ||| 2 ^ r) (ji_sI N 24 p (Int32.ofNat (Lm.getD r 0))) (some (.int w)) (some (.int (Int32.ofNat r))) (by omega) hN ((gF_sI (by decide)).trans h27) (fun i hi => by rw [gI_ne (by decide)]; exact hm i hi) d4 (by
      show (jz_rf Lm (fun l => (f l).toInt.toNat) p).eraseIdx (f p).toInt.toNat = _
      rw [hs2, e1, d3, jz_er_map]) (by rw [d3, List.length_eraseIdx_of_lt (by omega)]; omega) (fun l hl => by
      rw [gI_sI]
      by_cases q : l = p
      · subst q
        rw [if_pos ⟨rfl, rfl⟩]
        dsimp only
        rw [hs2, ebk]
      · rw [if_neg (fun z => q z.2)]
        exact e3 l (by omega))
    refine ⟨N', jz_nU_t jz_nU_24 n', o', fun d => ?_⟩
    have E := E d
    have W := W d (none, N') (by
      simp only [s203_0, s203_1, s203_2, s203_3, s203_4, s203_5, s203_7, s203_9, s203_12, s203_13, s203_16, s203_18, s203_19, s203_20, s203_22, s203_23, q203_24, s203_25, s203_26, s203_27, s203_29, s203_30, s203_31, q203_32, s203_35, s203_38, s203_39, s203_41, s203_42, s203_44, s203_46, s203_47, s203_50, s203_51, s203_54, q203_56, s203_57, s203_59, s203_60, s203_64, s203_66, s203_67, s203_68, s203_69, s203_70, s203_73, s203_75, s203_78, s203_80, s203_82, s203_84, s203_85, s203_86, s203_87, s203_88, s203_91, s203_92, s203_95, s203_96, s203_97, q203_99, s203_102, s203_105, s203_107, s203_108, s203_110, s203_111, s203_112, s203_114, s203_115, s203_118, s203_120, s203_121, s203_124, q203_126, q203_127, q203_128, s203_134, xIL_1, xIS_1, xQL_2, xQL_3, xAN_1, xAN_2, xAN_3, xCP_1, xC_s, xNC_I, ji_oI1, ji_oIm, kd_sC, gR_sC, gL_sC, ji_rv_s, ji_tl_s, ji_tl_n, ji_s1, ji_s2, ji_kl, List.getD_cons_zero, List.getD_cons_succ, List.set_cons_zero, List.set_cons_succ, List.length_cons, List.length_nil, ji_b_0, ji_b_1, ji_n0, ji_n1, ji_rcb_iff, ji_ok8_0, ji_ok8_1, ji_ok8_2, ji_ok8_3, ji_ok8_4, kd_sI, kd_sL, kd_sR, kd_cp, gR_sI, gR_sL, gR_cp, gL_sI, gL_sR, gL_cp, gI_sL, gI_sR, gI_sI, gL_sL, Nat.reduceEqDiff, false_and, and_false, true_and, and_true, Nat.reduceAdd, Nat.reduceLT, Nat.reduceSub, Int32.reduceLT, Int32.reduceAdd, not_false_eq_true, not_true_eq_false, and_self, ji_b_n, if_true, if_false, ↓reduceIte, cz_m100, cz_m19, cz_m18, cz_m17, cz_m16, cz_m15, cz_m14, cz_m13, cz_m12, cz_m11, cz_m4, cz_m3, cz_m2, cz_m1, cz_1, cz_2, cz_3, cz_4, cz_5, cz_6, cz_7, cz_8, cz_9, cz_10, cz_11, cz_12, cz_13, cz_14, cz_15, cz_16, cz_20, cz_24, cz_30, cz_32, cz_33, cz_38, cz_40, cz_41, cz_42, cz_43, cz_45, cz_48, cz_57, cz_59, cz_60, cz_61, cz_63, cz_64, cz_72, cz_96, cz_97, cz_99, cz_100, cz_122, cz_124, cz_126, cz_160, cz_161, cz_168, cz_200, cz_255, cz_300, cz_960, cz_999, cz_1000, cz_1001, cz_1002, cz_1003, cz_1120, cz_2000, cz_2003, cz_2004, cz_2005, cz_3999, cz_9999, cz_14640, -gI_sI, mk_0 hN, ot, mr_42 hN, mk_24 hN, mr_44 hN, mk_26 hN, i2, i3, k2, k3, hm r (by omega), p1, p2]
      simp only [s203_131]
      exact E)
    have W : ji_Ev (ji_CL d) 203 62 N [some (.ref 0), some (.int y), some (.int (Int32.ofNat Lm.length)), some (.int x3), some (.int (Int32.ofNat u)), some (.int (Int32.ofNat p)), some (.int (Int32.ofNat s)), some (.int 0)] [] _ := W
    simp only [s203_0, s203_1, s203_2, s203_3, s203_4, s203_5, s203_7, s203_9, s203_12, s203_13, s203_16, s203_18, s203_19, s203_20, s203_22, s203_23, q203_24, s203_25, s203_26, s203_27, s203_29, s203_30, s203_31, q203_32, s203_35, s203_38, s203_39, s203_41, s203_42, s203_44, s203_46, s203_47, s203_50, s203_51, s203_54, q203_56, s203_57, s203_59, s203_60, s203_64, s203_66, s203_67, s203_68, s203_69, s203_70, s203_73, s203_75, s203_78, s203_80, s203_82, s203_84, s203_85, s203_86, s203_87, s203_88, s203_91, s203_92, s203_95, s203_96, s203_97, q203_99, s203_102, s203_105, s203_107, s203_108, s203_110, s203_111, s203_112, s203_114, s203_115, s203_118, s203_120, s203_121, s203_124, q203_126, q203_127, q203_128, s203_134, xIL_1, xIS_1, xQL_2, xQL_3, xAN_1, xAN_2, xAN_3, xCP_1, xC_s, xNC_I, ji_oI1, ji_oIm, kd_sC, gR_sC, gL_sC, ji_rv_s, ji_tl_s, ji_tl_n, ji_s1, ji_s2, ji_kl, List.getD_cons_zero, List.getD_cons_succ, List.set_cons_zero, List.set_cons_succ, List.length_cons, List.length_nil, ji_b_0, ji_b_1, ji_n0, ji_n1, ji_rcb_iff, ji_ok8_0, ji_ok8_1, ji_ok8_2, ji_ok8_3, ji_ok8_4, kd_sI, kd_sL, kd_sR, kd_cp, gR_sI, gR_sL, gR_cp, gL_sI, gL_sR, gL_cp, gI_sL, gI_sR, gI_sI, gL_sL, Nat.reduceEqDiff, false_and, and_false, true_and, and_true, Nat.reduceAdd, Nat.reduceLT, Nat.reduceSub, Int32.reduceLT, Int32.reduceAdd, not_false_eq_true, not_true_eq_false, and_self, ji_b_n, if_true, if_false, ↓reduceIte, cz_m100, cz_m19, cz_m18, cz_m17, cz_m16, cz_m15, cz_m14, cz_m13, cz_m12, cz_m11, cz_m4, cz_m3, cz_m2, cz_m1, cz_1, cz_2, cz_3, cz_4, cz_5, cz_6, cz_7, cz_8, cz_9, cz_10, cz_11, cz_12, cz_13, cz_14, cz_15, cz_16, cz_20, cz_24, cz_30, cz_32, cz_33, cz_38, cz_40, cz_41, cz_42, cz_43, cz_45, cz_48, cz_57, cz_59, cz_60, cz_61, cz_63, cz_64, cz_72, cz_96, cz_97, cz_99, cz_100, cz_122, cz_124, cz_126, cz_160, cz_161, cz_168, cz_200, cz_255, cz_300, cz_960, cz_999, cz_1000, cz_1001, cz_1002, cz_1003, cz_1120, cz_2000, cz_2003, cz_2004, cz_2005, cz_3999, cz_9999, cz_14640, -gI_sI, mk_0 hN, g, mr_45 hN, mk_27 hN, h27, i2, i3, hfs]
    exact W
theorem m203 (hL : Lm.length ≤ 5) (hN : ji_MF N) (hm : ∀ i, i < Lm.length → ji_gI N 26 i = Int32.ofNat (Lm.getD i 0)) (hv : v ≤ 1000) : ∃ N', jz_nU N N' ∧ jz_O Lm (ji_gI N' 24) Lm.length v ∧ ∀ d, ji_CL (d + 1) 203 [.ref 0, .int (Int32.ofNat v), .int (Int32.ofNat Lm.length)] N = some (none, N') := by
  obtain ⟨N1, w, n1, o24, D1, -, E1⟩ := m203A (K := Lm.length) (y := Int32.ofNat v) hL Lm.length v N hN (Nat.le_refl _) hv
  have hN1 := jz_nU_MF n1 hN
  have De := jz_D_e (Lm := Lm) _ _ (Nat.le_refl _) (by omega) D1
  have u0 := jz_un_0 ⟨Lm.length, by omega⟩
  dsimp only at u0
  obtain ⟨N2, n2, O2, E2⟩ := m203C (y := Int32.ofNat v) (x3 := w) hL De.2 Lm.length 0 0 N1 none none (by omega) hN1 rfl (fun i hi => by rw [n1.2.1 26 (by decide) (by decide)]; exact hm i hi) (by omega) (by
    rw [u0]
    show Lm = _
    apply List.ext_getElem
    · rw [List.length_map, List.length_range]
    · intro i h1 h2
      rw [List.getElem_map, List.getElem_range, List.getD_eq_getElem?_getD, List.getElem?_eq_getElem h1]
      rfl) (by rw [u0, List.length_range]; rfl) (fun l hl => absurd hl (by omega))
  refine ⟨N2, jz_nU_t n1 n2, jz_Of_O _ _ (Nat.le_refl _) (by omega) D1 O2, fun d => ?_⟩
  have E2 := E2 d
  have E2 : ji_Ev (ji_CL d) 203 44 N1 [some (.ref 0), some (.int (Int32.ofNat v)), some (.int (Int32.ofNat Lm.length)), some (.int w), some (.int 0), some (.int 0), none, none] [] _ := E2
  have E1 := E1 d (none, N2) (by
    simp only [s203_38, s203_39, s203_41, s203_42, xIL_1, xIS_1, xQL_2, xQL_3, xAN_1, xAN_2, xAN_3, xCP_1, xC_s, xNC_I, ji_oI1, ji_oIm, kd_sC, gR_sC, gL_sC, ji_rv_s, ji_tl_s, ji_tl_n, ji_s1, ji_s2, ji_kl, List.getD_cons_zero, List.getD_cons_succ, List.set_cons_zero, List.set_cons_succ, List.length_cons, List.length_nil, ji_b_0, ji_b_1, ji_n0, ji_n1, ji_rcb_iff, ji_ok8_0, ji_ok8_1, ji_ok8_2, ji_ok8_3, ji_ok8_4, kd_sI, kd_sL, kd_sR, kd_cp, gR_sI, gR_sL, gR_cp, gL_sI, gL_sR, gL_cp, gI_sL, gI_sR, gI_sI, gL_sL, Nat.reduceEqDiff, false_and, and_false, true_and, and_true, Nat.reduceAdd, Nat.reduceLT, Nat.reduceSub, Int32.reduceLT, Int32.reduceAdd, not_false_eq_true, not_true_eq_false, and_self, ji_b_n, if_true, if_false, ↓reduceIte, cz_m100, cz_m19, cz_m18, cz_m17, cz_m16, cz_m15, cz_m14, cz_m13, cz_m12, cz_m11, cz_m4, cz_m3, cz_m2, cz_m1, cz_1, cz_2, cz_3, cz_4, cz_5, cz_6, cz_7, cz_8, cz_9, cz_10, cz_11, cz_12, cz_13, cz_14, cz_15, cz_16, cz_20, cz_24, cz_30, cz_32, cz_33, cz_38, cz_40, cz_41, cz_42, cz_43, cz_45, cz_48, cz_57, cz_59, cz_60, cz_61, cz_63, cz_64, cz_72, cz_96, cz_97, cz_99, cz_100, cz_122, cz_124, cz_126, cz_160, cz_161, cz_168, cz_200, cz_255, cz_300, cz_960, cz_999, cz_1000, cz_1001, cz_1002, cz_1003, cz_1120, cz_2000, cz_2003, cz_2004, cz_2005, cz_3999, cz_9999, cz_14640]
    exact E2)
  have es : Int32.ofNat Lm.length - 1 = Int32.ofNat Lm.length + (-1) := by rw [Int32.sub_eq_add_neg]
  apply en_203
  simp only [s203_0, s203_1, s203_2, s203_3, s203_4, s203_5, xIL_1, xIS_1, xQL_2, xQL_3, xAN_1, xAN_2, xAN_3, xCP_1, xC_s, xNC_I, ji_oI1, ji_oIm, kd_sC, gR_sC, gL_sC, ji_rv_s, ji_tl_s, ji_tl_n, ji_s1, ji_s2, ji_kl, List.getD_cons_zero, List.getD_cons_succ, List.set_cons_zero, List.set_cons_succ, List.length_cons, List.length_nil, ji_b_0, ji_b_1, ji_n0, ji_n1, ji_rcb_iff, ji_ok8_0, ji_ok8_1, ji_ok8_2, ji_ok8_3, ji_ok8_4, kd_sI, kd_sL, kd_sR, kd_cp, gR_sI, gR_sL, gR_cp, gL_sI, gL_sR, gL_cp, gI_sL, gI_sR, gI_sI, gL_sL, Nat.reduceEqDiff, false_and, and_false, true_and, and_true, Nat.reduceAdd, Nat.reduceLT, Nat.reduceSub, Int32.reduceLT, Int32.reduceAdd, not_false_eq_true, not_true_eq_false, and_self, ji_b_n, if_true, if_false, ↓reduceIte, cz_m100, cz_m19, cz_m18, cz_m17, cz_m16, cz_m15, cz_m14, cz_m13, cz_m12, cz_m11, cz_m4, cz_m3, cz_m2, cz_m1, cz_1, cz_2, cz_3, cz_4, cz_5, cz_6, cz_7, cz_8, cz_9, cz_10, cz_11, cz_12, cz_13, cz_14, cz_15, cz_16, cz_20, cz_24, cz_30, cz_32, cz_33, cz_38, cz_40, cz_41, cz_42, cz_43, cz_45, cz_48, cz_57, cz_59, cz_60, cz_61, cz_63, cz_64, cz_72, cz_96, cz_97, cz_99, cz_100, cz_122, cz_124, cz_126, cz_160, cz_161, cz_168, cz_200, cz_255, cz_300, cz_960, cz_999, cz_1000, cz_1001, cz_1002, cz_1003, cz_1120, cz_2000, cz_2003, cz_2004, cz_2005, cz_3999, cz_9999, cz_14640, es]
  exact E1
end JIV
