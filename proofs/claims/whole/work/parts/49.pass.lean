/-! ===== pass ===== -/
theorem vi_64 {x : Int32} : x.toInt64 = Int64.ofInt x.toInt := by
  have h1 := vi_lo x
  have h2 := vi_hi x
  apply Int64.toInt_inj.mp
  have e : ((Int64.size : Nat) : Int) = 18446744073709551616 := rfl
  rw [Int32.toInt_toInt64, Int64.toInt_ofInt, Int.bmod_eq_of_le (by rw [e]; omega) (by rw [e]; omega)]
theorem vi_64i {p : Int} (h1 : -2147483648 ≤ p) (h2 : p ≤ 2147483647) : (Int32.ofInt p).toInt64 = Int64.ofInt p := by
  rw [vi_64, vi_ofI h1 h2]
theorem vi_64s {p q : Int} : Int64.ofInt p - Int64.ofInt q = Int64.ofInt (p - q) := by rw [Int64.ofInt_sub]
def jq_B0 (N : ji_M) (i : Nat) : jq_B := (ji_gI N 7 i, ji_gI N 5 i, ji_gI N 6 i, ji_gI N 8 i)
/-- the model some hours on -/
noncomputable def jq_Nj (N : ji_M) (j : Nat) : ji_M := jq_NH N (fun i => if i < (ji_gI N 0 4).toInt.toNat then jq_it (ji_gI N 0 1) (ji_gI N 0 0) (jq_B0 N i) j else jq_B0 N i) (Int64.ofInt ((ji_gL N 0 5).toInt - jq_sum (fun i => jq_cs (ji_gI N 0 1) (ji_gI N 0 0) (ji_gI N 3 i) (jq_B0 N i) j) (ji_gI N 0 4).toInt.toNat)) (ji_gI N 0 0 + Int32.ofNat j)
section JIV
variable {X N M : ji_M} {P : ji_P} {x y z v t k k' : Int32} {f g : ji_F} {d a b r c m w s n i j : Nat} {B B' : jq_B} {Bs : Nat → jq_B} {u u' : Int64} {h h' : Int32} {U : Int}
theorem m160L (hN : ji_MF N) (hb : ji_bt (ji_gI N 0 4) 0 24) : ∀ (j b : Nat) (v : Int32) (l2 l3 : Option Value), ((b + j : Nat) : Int) = (ji_gI N 0 4).toInt → v.toInt = (b : Int) → ji_Ev (ji_CL (d + 1)) 160 2 (jq_NH N (fun i => if i < b then jq_hb (ji_gI N 0 1) (h + 1) (Bs i) else Bs i) (Int64.ofInt (U - jq_sum (fun i => (ji_fC (Bs i).1 (ji_gI N 3 i)).toInt) b)) h) [some (.ref 0), some (.int v), l2, l3] [] (none, jq_NH N (fun i => if i < b + j then jq_hb (ji_gI N 0 1) (h + 1) (Bs i) else Bs i) (Int64.ofInt (U - jq_sum (fun i => (ji_fC (Bs i).1 (ji_gI N 3 i)).toInt) (b + j))) (h + 1)) := by
  have t1 : (1 : Int32).toInt = 1 := rfl
  obtain ⟨b1, b2⟩ := hb
  intro j
  induction j with
  | zero =>
    intro b v l2 l3 hb hv
    have e4 : ∀ {Bs u h}, ji_gI (jq_NH N Bs u h) 0 4 = ji_gI N 0 4 := fun {_ _ _} => jq_NH_f (by decide)
    have hlt : ¬ v < ji_gI N 0 4 := by rw [vi_lt]; omega
    simp only [s160_0, s160_1, s160_2, s160_3, s160_4, s160_7, s160_10, s160_11, s160_11r, s160_12, s160_15, s160_16, q160_17, s160_20, s160_21, s160_22, s160_25, s160_26, s160_29, s160_30, q160_31, s160_32, s160_33, s160_34, s160_37, q160_38, q160_39, s160_42, q160_43, s160_44, s160_45, s160_48, q160_49, s160_50, s160_53, s160_56, s160_57, s160_60, s160_61, q160_64, s160_65, s160_66, s160_69, q160_70, s160_71, s160_73, s160_76, s160_77, s160_80, s160_81, q160_82, s160_83, s160_84, s160_85, s160_88, q160_89, q160_90, s160_93, q160_94, s160_95, s160_96, s160_99, q160_100, s160_101, s160_104, s160_107, s160_108, s160_111, s160_112, q160_115, s160_116, s160_117, s160_120, s160_121, s160_122, s160_123, s160_126, q160_127, s160_128, s160_129, s160_130, s160_131, s160_134, q160_135, s160_136, s160_137, s160_140, s160_141, s160_143, s160_146, s160_147, s160_150, s160_151, s160_154, q160_155, s160_156, s160_157, s160_160, s160_161, s160_163, s160_166, s160_167, s160_170, q160_171, s160_172, s160_173, s160_176, s160_177, s160_179, s160_182, s160_183, s160_186, s160_187, s160_188, s160_189, s160_192, s160_193, s160_196, s160_197, q160_198, s160_199, s160_200, s160_203, s160_204, s160_205, s160_208, s160_209, q160_210, q160_211, s160_217, s160_218, s160_218r, s160_219, s160_222, s160_223, s160_224, s160_227, xIL_1, xIS_1, xQL_2, xQL_3, xAN_1, xAN_2, xAN_3, xCP_1, xC_s, xNC_I, ji_oI1, ji_oIm, kd_sC, gR_sC, gL_sC, ji_rv_s, ji_tl_s, ji_tl_n, ji_s1, ji_s2, ji_kl, List.getD_cons_zero, List.getD_cons_succ, List.set_cons_zero, List.set_cons_succ, List.length_cons, List.length_nil, ji_b_0, ji_b_1, ji_n0, ji_n1, ji_rcb_iff, ji_ok8_0, ji_ok8_1, ji_ok8_2, ji_ok8_3, ji_ok8_4, kd_sI, kd_sL, kd_sR, kd_cp, gR_sI, gR_sL, gR_cp, gL_sI, gL_sR, gL_cp, gI_sL, gI_sR, gI_sI, gL_sL, Nat.reduceEqDiff, false_and, and_false, true_and, and_true, Nat.reduceAdd, Nat.reduceLT, Nat.reduceSub, Int32.reduceLT, Int32.reduceAdd, not_false_eq_true, not_true_eq_false, and_self, ji_b_n, if_true, if_false, ↓reduceIte, cz_m100, cz_m19, cz_m18, cz_m17, cz_m16, cz_m15, cz_m14, cz_m13, cz_m12, cz_m11, cz_m4, cz_m3, cz_m2, cz_m1, cz_1, cz_2, cz_3, cz_4, cz_5, cz_6, cz_7, cz_8, cz_9, cz_10, cz_11, cz_12, cz_13, cz_14, cz_15, cz_16, cz_20, cz_24, cz_30, cz_32, cz_33, cz_38, cz_40, cz_41, cz_42, cz_43, cz_45, cz_48, cz_57, cz_59, cz_60, cz_61, cz_63, cz_64, cz_72, cz_96, cz_97, cz_99, cz_100, cz_122, cz_124, cz_126, cz_160, cz_161, cz_168, cz_200, cz_255, cz_300, cz_960, cz_999, cz_1000, cz_1001, cz_1002, cz_1003, cz_1120, cz_2000, cz_2003, cz_2004, cz_2005, cz_3999, cz_9999, cz_14640, jq_NH_kd, mk_0 hN, e4, hlt, jq_NH_00, jq_NH_w0, Nat.add_zero]
  | succ j ih =>
    intro b v l2 l3 hb hv
    refine m160s hN hv (by omega) (by omega) (fun l2 l3 => ?_)
    have I := ih (b + 1) (v + 1) l2 l3 (by omega) (by rw [vi_add (by omega) (by omega), t1]; omega)
    rw [show b + 1 + j = b + (j + 1) by omega] at I
    have e1 : jq_ub (fun i => if i < b then jq_hb (ji_gI N 0 1) (h + 1) (Bs i) else Bs i) b (jq_hb (ji_gI N 0 1) (h + 1) (if b < b then jq_hb (ji_gI N 0 1) (h + 1) (Bs b) else Bs b)) = fun i => if i < b + 1 then jq_hb (ji_gI N 0 1) (h + 1) (Bs i) else Bs i := by
      funext i
      by_cases q : i = b
      · subst q
        rw [jq_ub_e, if_neg (by omega), if_pos (by omega)]
      · rw [jq_ub_n q]
        by_cases q2 : i < b
        · rw [if_pos q2, if_pos (by omega)]
        · rw [if_neg q2, if_neg (by omega)]
    have e2 : Int64.ofInt (U - jq_sum (fun i => (ji_fC (Bs i).1 (ji_gI N 3 i)).toInt) b) - (ji_fC (if b < b then jq_hb (ji_gI N 0 1) (h + 1) (Bs b) else Bs b).1 (ji_gI N 3 b)).toInt64 = Int64.ofInt (U - jq_sum (fun i => (ji_fC (Bs i).1 (ji_gI N 3 i)).toInt) (b + 1)) := by
      rw [if_neg (by omega), vi_64, vi_64s, Int.sub_sub]
      rfl
    rw [e1, e2]
    exact I
theorem m160 (hN : ji_MF N) (hb : ji_bt (ji_gI N 0 4) 0 24) : ji_CL (d + 2) 160 [.ref 0] (jq_NH N Bs (Int64.ofInt U) h) = some (none, jq_NH N (fun i => if i < (ji_gI N 0 4).toInt.toNat then jq_hb (ji_gI N 0 1) (h + 1) (Bs i) else Bs i) (Int64.ofInt (U - jq_sum (fun i => (ji_fC (Bs i).1 (ji_gI N 3 i)).toInt) (ji_gI N 0 4).toInt.toNat)) (h + 1)) := by
  have L := m160L (d := d) (Bs := Bs) (h := h) (U := U) hN hb (ji_gI N 0 4).toInt.toNat 0 0 none none (by have := hb.1; omega) rfl
  rw [Nat.zero_add, show U - jq_sum (fun i => (ji_fC (Bs i).1 (ji_gI N 3 i)).toInt) 0 = U from Int.sub_zero U, show (fun i => if i < 0 then jq_hb (ji_gI N 0 1) (h + 1) (Bs i) else Bs i) = Bs from funext fun i => if_neg (by omega)] at L
  apply en_160
  simp only [s160_0, s160_1, s160_3, s160_4, s160_7, s160_10, s160_11, s160_11r, s160_12, s160_15, s160_16, q160_17, s160_20, s160_21, s160_22, s160_25, s160_26, s160_29, s160_30, q160_31, s160_32, s160_33, s160_34, s160_37, q160_38, q160_39, s160_42, q160_43, s160_44, s160_45, s160_48, q160_49, s160_50, s160_53, s160_56, s160_57, s160_60, s160_61, q160_64, s160_65, s160_66, s160_69, q160_70, s160_71, s160_73, s160_76, s160_77, s160_80, s160_81, q160_82, s160_83, s160_84, s160_85, s160_88, q160_89, q160_90, s160_93, q160_94, s160_95, s160_96, s160_99, q160_100, s160_101, s160_104, s160_107, s160_108, s160_111, s160_112, q160_115, s160_116, s160_117, s160_120, s160_121, s160_122, s160_123, s160_126, q160_127, s160_128, s160_129, s160_130, s160_131, s160_134, q160_135, s160_136, s160_137, s160_140, s160_141, s160_143, s160_146, s160_147, s160_150, s160_151, s160_154, q160_155, s160_156, s160_157, s160_160, s160_161, s160_163, s160_166, s160_167, s160_170, q160_171, s160_172, s160_173, s160_176, s160_177, s160_179, s160_182, s160_183, s160_186, s160_187, s160_188, s160_189, s160_192, s160_193, s160_196, s160_197, q160_198, s160_199, s160_200, s160_203, s160_204, s160_205, s160_208, s160_209, q160_210, q160_211, s160_214, s160_217, s160_218, s160_218r, s160_219, s160_222, s160_223, s160_224, s160_227, xIL_1, xIS_1, xQL_2, xQL_3, xAN_1, xAN_2, xAN_3, xCP_1, xC_s, xNC_I, ji_oI1, ji_oIm, kd_sC, gR_sC, gL_sC, ji_rv_s, ji_tl_s, ji_tl_n, ji_s1, ji_s2, ji_kl, List.getD_cons_zero, List.getD_cons_succ, List.set_cons_zero, List.set_cons_succ, List.length_cons, List.length_nil, ji_b_0, ji_b_1, ji_n0, ji_n1, ji_rcb_iff, ji_ok8_0, ji_ok8_1, ji_ok8_2, ji_ok8_3, ji_ok8_4, kd_sI, kd_sL, kd_sR, kd_cp, gR_sI, gR_sL, gR_cp, gL_sI, gL_sR, gL_cp, gI_sL, gI_sR, gI_sI, gL_sL, Nat.reduceEqDiff, false_and, and_false, true_and, and_true, Nat.reduceAdd, Nat.reduceLT, Nat.reduceSub, Int32.reduceLT, Int32.reduceAdd, not_false_eq_true, not_true_eq_false, and_self, ji_b_n, if_true, if_false, ↓reduceIte, cz_m100, cz_m19, cz_m18, cz_m17, cz_m16, cz_m15, cz_m14, cz_m13, cz_m12, cz_m11, cz_m4, cz_m3, cz_m2, cz_m1, cz_1, cz_2, cz_3, cz_4, cz_5, cz_6, cz_7, cz_8, cz_9, cz_10, cz_11, cz_12, cz_13, cz_14, cz_15, cz_16, cz_20, cz_24, cz_30, cz_32, cz_33, cz_38, cz_40, cz_41, cz_42, cz_43, cz_45, cz_48, cz_57, cz_59, cz_60, cz_61, cz_63, cz_64, cz_72, cz_96, cz_97, cz_99, cz_100, cz_122, cz_124, cz_126, cz_160, cz_161, cz_168, cz_200, cz_255, cz_300, cz_960, cz_999, cz_1000, cz_1001, cz_1002, cz_1003, cz_1120, cz_2000, cz_2003, cz_2004, cz_2005, cz_3999, cz_9999, cz_14640]
  exact L
theorem jq_Nj_0 : jq_Nj N 0 = N := by
  unfold jq_Nj
  have e1 : (fun i => if i < (ji_gI N 0 4).toInt.toNat then jq_it (ji_gI N 0 1) (ji_gI N 0 0) (jq_B0 N i) 0 else jq_B0 N i) = jq_B0 N := funext fun i => by
    by_cases q : i < (ji_gI N 0 4).toInt.toNat
    · rw [if_pos q]; rfl
    · rw [if_neg q]
  have e2 : jq_sum (fun i => jq_cs (ji_gI N 0 1) (ji_gI N 0 0) (ji_gI N 3 i) (jq_B0 N i) 0) (ji_gI N 0 4).toInt.toNat = 0 := by
    generalize (ji_gI N 0 4).toInt.toNat = n
    induction n with
    | zero => rfl
    | succ n ih => show jq_sum _ n + 0 = 0; rw [ih]; rfl
  have e3 : ji_gI N 0 0 + Int32.ofNat 0 = ji_gI N 0 0 := Int32.add_zero _
  rw [e1, e2, e3, Int.sub_zero, Int64.ofInt_toInt]
  refine (jq_NH_ext rfl (fun a => ?_) (fun p q => ?_) (fun _ _ => rfl)).symm
  · by_cases a5 : a = 5
    · subst a5; rw [jq_NH_5]; rfl
    by_cases a6 : a = 6
    · subst a6; rw [jq_NH_6]; rfl
    by_cases a7 : a = 7
    · subst a7; rw [jq_NH_7]; rfl
    by_cases a8 : a = 8
    · subst a8; rw [jq_NH_8]; rfl
    by_cases a0 : a = 0
    · subst a0
      funext i
      by_cases i0 : i = 0
      · subst i0; rw [jq_NH_00]
      · rw [jq_NH_f i0]
    · rw [jq_NH_a a0 a5 a6 a7 a8]
  · unfold jq_NH
    rw [gL_sI, gL_sL]
    by_cases e : p = 0 ∧ q = 5
    · rw [if_pos e, e.1, e.2]
    · rw [if_neg e]; rfl
theorem m160j (hN : ji_MF N) (hb : ji_bt (ji_gI N 0 4) 0 24) : ji_CL (d + 2) 160 [.ref 0] (jq_Nj N j) = some (none, jq_Nj N (j + 1)) := by
  unfold jq_Nj
  rw [m160 hN hb]
  have e0 : ji_gI N 0 0 + Int32.ofNat j + 1 = ji_gI N 0 0 + Int32.ofNat (j + 1) := by
    rw [Int32.add_assoc, show Int32.ofNat j + 1 = Int32.ofNat (j + 1) from (Int32.ofNat_add j 1).symm]
  rw [e0]
  congr 3
  · funext i
    by_cases q : i < (ji_gI N 0 4).toInt.toNat
    · rw [if_pos q, if_pos q, if_pos q]; rfl
    · rw [if_neg q, if_neg q, if_neg q]
  · rw [Int.sub_sub]
    congr 2
    refine (jq_sum_add _ (fun i hi => ?_)).symm
    show jq_cs _ _ _ _ j + _ = _
    rw [if_pos hi]
/-- a stock of the class and the model's -/
def jq_SR (X N : ji_M) (s r c : Nat) : Prop := ji_Stk X s r c ∧ ji_RHour (ji_gI X s 1) (ji_gI N 0 0) ∧ ji_RSet (ji_gI X s 2) (ji_gI X s 3) (ji_gI X s 4) (ji_gI N 0 1) (ji_gI N 0 2) (ji_gI N 0 3) ∧ ji_RCoin (ji_gI X s 5) (ji_gI N 0 0) (ji_gL N 0 5) ∧ ji_RBk (ji_gI X r 3) (ji_gI X c) (ji_gI N 0 0) (ji_gI N 0 4) (ji_gI N 1) (ji_gI N 2) (ji_gI N 3) (ji_gI N 4) (ji_gI N 5) (ji_gI N 6) (ji_gI N 7) (ji_gI N 8)
theorem ji_Rel.sr (R : ji_Rel P X N) : jq_SR X N 1 2 3 := ⟨stk_1 R, R.hour, R.sets, R.coin, R.books⟩
theorem jq_SR_ok (R : jq_SR X N s r c) (hb : (b : Int) < (ji_gI N 0 4).toInt) : jq_rd (ji_gI X c) b = jq_B0 N b ∧ jq_ok (ji_gI N 0 0).toInt (jq_B0 N b) := by
  obtain ⟨S, h1, h2, h3, h4, h5, h6⟩ := R
  obtain ⟨q0, q1, q2, q3, q4, q5, q6, q7⟩ := h6 b hb
  refine ⟨?_, q0.2, q5.2, q6.2, q7.2⟩
  unfold jq_rd jq_B0
  rw [q0.1, q5.1, q6.1, q7.1]
/-- the class's stock some hours on -/
noncomputable def jq_Xj (X : ji_M) (s r c n : Nat) : ji_M := ji_sI (jq_XM X s c (jq_wA (ji_gI X c) (fun b => jq_it (ji_gI X s 2) (ji_gI X s 1) (jq_rd (ji_gI X c) b) n) (ji_gI X r 3).toInt.toNat) (Int32.ofInt ((ji_gI X s 5).toInt - jq_sum (fun b => jq_cs (ji_gI X s 2) (ji_gI X s 1) (ji_gI X c (b * 8 + 3)) (jq_rd (ji_gI X c) b) n) (ji_gI X r 3).toInt.toNat))) s 1 (ji_gI X s 1 + Int32.ofNat n)
theorem jq_m46' (R : jq_SR X N s r c) (hn : n ≤ 100) : ji_CL (d + 5) 46 [.ref s, .int (Int32.ofNat n)] X = some (none, jq_Xj X s r c n) := by
  have R' := R
  obtain ⟨S, h1, h2, h3, h4, h5, h6⟩ := R
  refine jq_m46 S hn (by rw [h2.1.1]; exact h2.1.2) (by rw [h1.1]; exact h1.2) (fun b hb => ?_)
  have := jq_SR_ok R' (b := b) (by rw [← h4]; exact hb)
  rw [this.1, h1.1]
  exact this.2
theorem jq_Xj_o (hs : a ≠ s) (hc : a ≠ c) : ji_gI (jq_Xj X s r c n) a = ji_gI X a := by
  unfold jq_Xj jq_XM
  rw [gF_sI hs, gF_sI hs, gF_sCn hc]
theorem jq_SR_go (R : jq_SR X N s r c) (hn : n ≤ 100) (h9 : (ji_gI N 0 0).toInt + n ≤ 999) : jq_SR (jq_Xj X s r c n) (jq_Nj N n) s r c := by
  have R' := R
  obtain ⟨S, h1, h2, h3, h4, h5, h6⟩ := R
  obtain ⟨nsr, nsc, nrc⟩ := jq_S_ne S
  have e4 : ji_gI (jq_Nj N n) 0 4 = ji_gI N 0 4 := jq_NH_f (by decide)
  have e1 : ji_gI (jq_Nj N n) 0 1 = ji_gI N 0 1 := jq_NH_f (by decide)
  have e2 : ji_gI (jq_Nj N n) 0 2 = ji_gI N 0 2 := jq_NH_f (by decide)
  have e3 : ji_gI (jq_Nj N n) 0 3 = ji_gI N 0 3 := jq_NH_f (by decide)
  have e0 : ji_gI (jq_Nj N n) 0 0 = ji_gI N 0 0 + Int32.ofNat n := jq_NH_00
  have ea : ∀ a, a ≠ 0 → a ≠ 5 → a ≠ 6 → a ≠ 7 → a ≠ 8 → ji_gI (jq_Nj N n) a = ji_gI N a := fun a q0 q5 q6 q7 q8 => jq_NH_a q0 q5 q6 q7 q8
  have xr : ∀ i, ji_gI (jq_Xj X s r c n) r i = ji_gI X r i := fun i => congrFun (jq_Xj_o nsr.symm nrc) i
  have xs : ∀ i, i ≠ 1 → i ≠ 5 → ji_gI (jq_Xj X s r c n) s i = ji_gI X s i := fun i q1 q5 => by
    unfold jq_Xj
    rw [gI_nk q1, jq_XM_s S q5]
  have x1 : ji_gI (jq_Xj X s r c n) s 1 = ji_gI X s 1 + Int32.ofNat n := gI_eq
  have x5 : ji_gI (jq_Xj X s r c n) s 5 = Int32.ofInt ((ji_gI X s 5).toInt - jq_sum (fun b => jq_cs (ji_gI X s 2) (ji_gI X s 1) (ji_gI X c (b * 8 + 3)) (jq_rd (ji_gI X c) b) n) (ji_gI X r 3).toInt.toNat) := by
    unfold jq_Xj
    rw [gI_nk (by decide), jq_XM_5]
  have xc : ji_gI (jq_Xj X s r c n) c = jq_wA (ji_gI X c) (fun b => jq_it (ji_gI X s 2) (ji_gI X s 1) (jq_rd (ji_gI X c) b) n) (ji_gI X r 3).toInt.toNat := by
    unfold jq_Xj
    rw [gF_sI nsc.symm, jq_XM_c S]
  have hh := h1.2
  unfold ji_bt at hh
  have ehn := jq_hj (h := ji_gI N 0 0) (j := n) (by omega) (by omega)
  refine ⟨?_, ?_, ?_, ?_, ?_, ?_, ?_⟩
  · obtain ⟨s1, s2, s3, s4, s5, s6, s7, s8, s9, s10, s11⟩ := S
    exact ⟨s1, s2, s3, s4, s5, (xr 0).trans s6, (xr 1).trans s7, s8, s9, by rw [xr]; exact s10, by rw [xr]; exact s11⟩
  · rw [x1, e0, h1.1]
    exact ⟨rfl, by unfold ji_bt; omega⟩
  · rw [xs 2 (by decide) (by decide), xs 3 (by decide) (by decide), xs 4 (by decide) (by decide), e1, e2, e3]
    exact h2
  · have hc := h3.2
    unfold ji_bt at hc
    have hsz : ji_bt (ji_gI N 0 4) 0 24 := h5
    have q := jq_sum_b (g := fun b => jq_cs (ji_gI X s 2) (ji_gI X s 1) (ji_gI X c (b * 8 + 3)) (jq_rd (ji_gI X c) b) n) (m := 5 * n) (ji_gI X r 3).toInt.toNat (fun b hb => jq_cs_b (by
      have E := h6 b (by rw [h4] at hb; omega)
      rw [E.2.2.2.1.1]; exact E.2.2.2.1.2) n)
    have q2 : ((ji_gI X r 3).toInt.toNat : Int) * (5 * (n : Int)) ≤ 24 * (5 * n) := Int.mul_le_mul_of_nonneg_right (by rw [h4]; have := hsz.1; have := hsz.2; omega) (by omega)
    have qn : (n : Int) ≤ 100 := by omega
    have es : jq_sum (fun i => jq_cs (ji_gI N 0 1) (ji_gI N 0 0) (ji_gI N 3 i) (jq_B0 N i) n) (ji_gI N 0 4).toInt.toNat = jq_sum (fun b => jq_cs (ji_gI X s 2) (ji_gI X s 1) (ji_gI X c (b * 8 + 3)) (jq_rd (ji_gI X c) b) n) (ji_gI X r 3).toInt.toNat := by
      rw [h4]
      refine jq_sum_eq _ (fun b hb => ?_)
      have E := h6 b (by omega)
      rw [(jq_SR_ok R' (b := b) (by omega)).1, E.2.2.2.1.1, h1.1, h2.1.1]
    have eN : ji_gL (jq_Nj N n) 0 5 = _ := jq_NH_L
    rw [x5, e0, eN, es]
    have eU : (ji_gL N 0 5).toInt = (ji_gI X s 5).toInt := by rw [← h3.1, Int32.toInt_toInt64]
    rw [eU]
    generalize jq_sum (fun b => jq_cs (ji_gI X s 2) (ji_gI X s 1) (ji_gI X c (b * 8 + 3)) (jq_rd (ji_gI X c) b) n) (ji_gI X r 3).toInt.toNat = z at q
    refine ⟨vi_64i (by omega) (by omega), ?_⟩
    unfold ji_bt
    rw [vi_ofI (by omega) (by omega), ehn]
    omega
  · rw [xr, e4]; exact h4
  · rw [e4]; exact h5
  · rw [e4]
    intro b hb
    have E := h6 b hb
    have ok := jq_SR_ok R' hb
    have hbn : b < (ji_gI X r 3).toInt.toNat := by rw [h4]; omega
    have hbn2 : b < (ji_gI N 0 4).toInt.toNat := by omega
    have rd := jq_wA_at (f := ji_gI X c) (B := fun b => jq_it (ji_gI X s 2) (ji_gI X s 1) (jq_rd (ji_gI X c) b) n) (ji_gI X r 3).toInt.toNat b hbn
    have ro := fun i q q0 q5 q6 q7 => jq_wA_o (f := ji_gI X c) (B := fun b => jq_it (ji_gI X s 2) (ji_gI X s 1) (jq_rd (ji_gI X c) b) n) (ji_gI X r 3).toInt.toNat b i q q0 q5 q6 q7
    rw [ok.1, h1.1, h2.1.1] at rd
    have bnd := jq_it_ok (H := ji_gI N 0 1) (h := ji_gI N 0 0) (b := jq_B0 N b) h2.1.2 (by omega) ok.2 n (by omega)
    rw [← ehn] at bnd
    have n5 : ji_gI (jq_Nj N n) 5 b = (jq_it (ji_gI N 0 1) (ji_gI N 0 0) (jq_B0 N b) n).2.1 := jq_NH_5i.trans (by rw [if_pos hbn2])
    have n6 : ji_gI (jq_Nj N n) 6 b = (jq_it (ji_gI N 0 1) (ji_gI N 0 0) (jq_B0 N b) n).2.2.1 := jq_NH_6i.trans (by rw [if_pos hbn2])
    have n7 : ji_gI (jq_Nj N n) 7 b = (jq_it (ji_gI N 0 1) (ji_gI N 0 0) (jq_B0 N b) n).1 := jq_NH_7i.trans (by rw [if_pos hbn2])
    have n8 : ji_gI (jq_Nj N n) 8 b = (jq_it (ji_gI N 0 1) (ji_gI N 0 0) (jq_B0 N b) n).2.2.2 := jq_NH_8i.trans (by rw [if_pos hbn2])
    rw [xc, e0, n5, n6, n7, n8, ea 1 (by decide) (by decide) (by decide) (by decide) (by decide), ea 2 (by decide) (by decide) (by decide) (by decide) (by decide), ea 3 (by decide) (by decide) (by decide) (by decide) (by decide), ea 4 (by decide) (by decide) (by decide) (by decide) (by decide)]
    have r0 := congrArg (fun B : jq_B => B.1) rd
    have r5 := congrArg (fun B : jq_B => B.2.1) rd
    have r6 := congrArg (fun B : jq_B => B.2.2.1) rd
    have r7 := congrArg (fun B : jq_B => B.2.2.2) rd
    rw [ro 1 (by omega) (by omega) (by omega) (by omega) (by omega), ro 2 (by omega) (by omega) (by omega) (by omega) (by omega), ro 3 (by omega) (by omega) (by omega) (by omega) (by omega), ro 4 (by omega) (by omega) (by omega) (by omega) (by omega)]
    rw [h1.1, h2.1.1]
    exact ⟨⟨r0, bnd.1⟩, E.2.1, E.2.2.1, E.2.2.2.1, E.2.2.2.2.1, ⟨r5, bnd.2.1⟩, ⟨r6, bnd.2.2.1⟩, ⟨r7, bnd.2.2.2⟩⟩
theorem m159L (hN : ji_MF N) (hb : ji_bt (ji_gI N 0 4) 0 24) {n : Nat} (hn : n ≤ 100) : ∀ (j i : Nat) (v : Int32), i + j = n → v.toInt = (i : Int) → ji_Ev (ji_CL (d + 2)) 159 31 (jq_Nj N i) [some (.ref 0), some (.int (Int32.ofNat n)), some (.int v)] [] (some (.int (ji_gI N 0 0 + Int32.ofNat n)), jq_Nj N n) := by
  have t1 : (1 : Int32).toInt = 1 := rfl
  have en : (Int32.ofNat n).toInt = n := vi_ofN (by omega)
  have e0 : ∀ j, ji_gI (jq_Nj N j) 0 0 = ji_gI N 0 0 + Int32.ofNat j := fun j => jq_NH_00
  have ek : ∀ j a, ji_kd (jq_Nj N j) a = ji_kd N a := fun j a => rfl
  intro j
  induction j with
  | zero =>
    intro i v hi hv
    obtain rfl : i = n := by omega
    have h : ¬ v < Int32.ofNat i := by rw [vi_lt]; omega
    simp only [s159_0, s159_1, s159_2, s159_3, q159_5, s159_8, s159_11, s159_13, s159_14, s159_15, s159_18, s159_19, s159_20, s159_23, s159_26, s159_28, s159_29, s159_30, s159_31, s159_32, s159_33, s159_36, q159_37, q159_40, s159_46, s159_47, s159_50, xIL_1, xIS_1, xQL_2, xQL_3, xAN_1, xAN_2, xAN_3, xCP_1, xC_s, xNC_I, ji_oI1, ji_oIm, kd_sC, gR_sC, gL_sC, ji_rv_s, ji_tl_s, ji_tl_n, ji_s1, ji_s2, ji_kl, List.getD_cons_zero, List.getD_cons_succ, List.set_cons_zero, List.set_cons_succ, List.length_cons, List.length_nil, ji_b_0, ji_b_1, ji_n0, ji_n1, ji_rcb_iff, ji_ok8_0, ji_ok8_1, ji_ok8_2, ji_ok8_3, ji_ok8_4, kd_sI, kd_sL, kd_sR, kd_cp, gR_sI, gR_sL, gR_cp, gL_sI, gL_sR, gL_cp, gI_sL, gI_sR, gI_sI, gL_sL, Nat.reduceEqDiff, false_and, and_false, true_and, and_true, Nat.reduceAdd, Nat.reduceLT, Nat.reduceSub, Int32.reduceLT, Int32.reduceAdd, not_false_eq_true, not_true_eq_false, and_self, ji_b_n, if_true, if_false, ↓reduceIte, cz_m100, cz_m19, cz_m18, cz_m17, cz_m16, cz_m15, cz_m14, cz_m13, cz_m12, cz_m11, cz_m4, cz_m3, cz_m2, cz_m1, cz_1, cz_2, cz_3, cz_4, cz_5, cz_6, cz_7, cz_8, cz_9, cz_10, cz_11, cz_12, cz_13, cz_14, cz_15, cz_16, cz_20, cz_24, cz_30, cz_32, cz_33, cz_38, cz_40, cz_41, cz_42, cz_43, cz_45, cz_48, cz_57, cz_59, cz_60, cz_61, cz_63, cz_64, cz_72, cz_96, cz_97, cz_99, cz_100, cz_122, cz_124, cz_126, cz_160, cz_161, cz_168, cz_200, cz_255, cz_300, cz_960, cz_999, cz_1000, cz_1001, cz_1002, cz_1003, cz_1120, cz_2000, cz_2003, cz_2004, cz_2005, cz_3999, cz_9999, cz_14640, ek, mk_0 hN, e0, h]
  | succ j ih =>
    intro i v hi hv
    have h : v < Int32.ofNat n := by rw [vi_lt]; omega
    have I := ih (i + 1) (v + 1) (by omega) (by rw [vi_add (by omega) (by omega), t1]; omega)
    simp only [s159_0, s159_1, s159_2, s159_3, q159_5, s159_8, s159_11, s159_13, s159_14, s159_15, s159_18, s159_19, s159_20, s159_23, s159_26, s159_28, s159_29, s159_30, s159_31, s159_32, s159_33, s159_36, q159_37, q159_40, s159_46, s159_47, s159_50, xIL_1, xIS_1, xQL_2, xQL_3, xAN_1, xAN_2, xAN_3, xCP_1, xC_s, xNC_I, ji_oI1, ji_oIm, kd_sC, gR_sC, gL_sC, ji_rv_s, ji_tl_s, ji_tl_n, ji_s1, ji_s2, ji_kl, List.getD_cons_zero, List.getD_cons_succ, List.set_cons_zero, List.set_cons_succ, List.length_cons, List.length_nil, ji_b_0, ji_b_1, ji_n0, ji_n1, ji_rcb_iff, ji_ok8_0, ji_ok8_1, ji_ok8_2, ji_ok8_3, ji_ok8_4, kd_sI, kd_sL, kd_sR, kd_cp, gR_sI, gR_sL, gR_cp, gL_sI, gL_sR, gL_cp, gI_sL, gI_sR, gI_sI, gL_sL, Nat.reduceEqDiff, false_and, and_false, true_and, and_true, Nat.reduceAdd, Nat.reduceLT, Nat.reduceSub, Int32.reduceLT, Int32.reduceAdd, not_false_eq_true, not_true_eq_false, and_self, ji_b_n, if_true, if_false, ↓reduceIte, cz_m100, cz_m19, cz_m18, cz_m17, cz_m16, cz_m15, cz_m14, cz_m13, cz_m12, cz_m11, cz_m4, cz_m3, cz_m2, cz_m1, cz_1, cz_2, cz_3, cz_4, cz_5, cz_6, cz_7, cz_8, cz_9, cz_10, cz_11, cz_12, cz_13, cz_14, cz_15, cz_16, cz_20, cz_24, cz_30, cz_32, cz_33, cz_38, cz_40, cz_41, cz_42, cz_43, cz_45, cz_48, cz_57, cz_59, cz_60, cz_61, cz_63, cz_64, cz_72, cz_96, cz_97, cz_99, cz_100, cz_122, cz_124, cz_126, cz_160, cz_161, cz_168, cz_200, cz_255, cz_300, cz_960, cz_999, cz_1000, cz_1001, cz_1002, cz_1003, cz_1120, cz_2000, cz_2003, cz_2004, cz_2005, cz_3999, cz_9999, cz_14640, ek, mk_0 hN, h, m160j hN hb]
    simp only [s159_43]
    exact I
theorem call_1 (R : ji_Rel P X N) : ji_same P 45 159 [.int x] X N := by
  intro d
  have hX := R.xf
  have hN := R.mf
  have hh := R.hour
  have t1 : (1 : Int32).toInt = 1 := rfl
  have t100 : (100 : Int32).toInt = 100 := rfl
  have t999 : (999 : Int32).toInt = 999 := rfl
  by_cases h1 : ji_in x 1 100
  case neg =>
    refine ji_same_of (v := some (.int (-2))) ?_ ?_ R
    · apply en_45
      simp only [s45_0, s45_1, s45_2, q45_4, s45_7, s45_10, s45_12, s45_13, s45_14, s45_17, s45_20, s45_21, s45_22, s45_25, s45_28, s45_30, s45_31, s45_32, s45_35, q45_36, s45_39, s45_40, s45_43, s45_46, xIL_1, xIS_1, xQL_2, xQL_3, xAN_1, xAN_2, xAN_3, xCP_1, xC_s, xNC_I, ji_oI1, ji_oIm, kd_sC, gR_sC, gL_sC, ji_rv_s, ji_tl_s, ji_tl_n, ji_s1, ji_s2, ji_kl, List.getD_cons_zero, List.getD_cons_succ, List.set_cons_zero, List.set_cons_succ, List.length_cons, List.length_nil, ji_b_0, ji_b_1, ji_n0, ji_n1, ji_rcb_iff, ji_ok8_0, ji_ok8_1, ji_ok8_2, ji_ok8_3, ji_ok8_4, kd_sI, kd_sL, kd_sR, kd_cp, gR_sI, gR_sL, gR_cp, gL_sI, gL_sR, gL_cp, gI_sL, gI_sR, gI_sI, gL_sL, Nat.reduceEqDiff, false_and, and_false, true_and, and_true, Nat.reduceAdd, Nat.reduceLT, Nat.reduceSub, Int32.reduceLT, Int32.reduceAdd, not_false_eq_true, not_true_eq_false, and_self, ji_b_n, if_true, if_false, ↓reduceIte, cz_m100, cz_m19, cz_m18, cz_m17, cz_m16, cz_m15, cz_m14, cz_m13, cz_m12, cz_m11, cz_m4, cz_m3, cz_m2, cz_m1, cz_1, cz_2, cz_3, cz_4, cz_5, cz_6, cz_7, cz_8, cz_9, cz_10, cz_11, cz_12, cz_13, cz_14, cz_15, cz_16, cz_20, cz_24, cz_30, cz_32, cz_33, cz_38, cz_40, cz_41, cz_42, cz_43, cz_45, cz_48, cz_57, cz_59, cz_60, cz_61, cz_63, cz_64, cz_72, cz_96, cz_97, cz_99, cz_100, cz_122, cz_124, cz_126, cz_160, cz_161, cz_168, cz_200, cz_255, cz_300, cz_960, cz_999, cz_1000, cz_1001, cz_1002, cz_1003, cz_1120, cz_2000, cz_2003, cz_2004, cz_2005, cz_3999, cz_9999, cz_14640, m43, h1]
    · apply en_159
      simp only [s159_0, s159_1, s159_2, s159_3, q159_5, s159_8, s159_11, s159_13, s159_14, s159_15, s159_18, s159_19, s159_20, s159_23, s159_26, s159_28, s159_29, s159_30, s159_32, s159_33, s159_36, q159_37, q159_40, s159_43, s159_46, s159_47, s159_50, xIL_1, xIS_1, xQL_2, xQL_3, xAN_1, xAN_2, xAN_3, xCP_1, xC_s, xNC_I, ji_oI1, ji_oIm, kd_sC, gR_sC, gL_sC, ji_rv_s, ji_tl_s, ji_tl_n, ji_s1, ji_s2, ji_kl, List.getD_cons_zero, List.getD_cons_succ, List.set_cons_zero, List.set_cons_succ, List.length_cons, List.length_nil, ji_b_0, ji_b_1, ji_n0, ji_n1, ji_rcb_iff, ji_ok8_0, ji_ok8_1, ji_ok8_2, ji_ok8_3, ji_ok8_4, kd_sI, kd_sL, kd_sR, kd_cp, gR_sI, gR_sL, gR_cp, gL_sI, gL_sR, gL_cp, gI_sL, gI_sR, gI_sI, gL_sL, Nat.reduceEqDiff, false_and, and_false, true_and, and_true, Nat.reduceAdd, Nat.reduceLT, Nat.reduceSub, Int32.reduceLT, Int32.reduceAdd, not_false_eq_true, not_true_eq_false, and_self, ji_b_n, if_true, if_false, ↓reduceIte, cz_m100, cz_m19, cz_m18, cz_m17, cz_m16, cz_m15, cz_m14, cz_m13, cz_m12, cz_m11, cz_m4, cz_m3, cz_m2, cz_m1, cz_1, cz_2, cz_3, cz_4, cz_5, cz_6, cz_7, cz_8, cz_9, cz_10, cz_11, cz_12, cz_13, cz_14, cz_15, cz_16, cz_20, cz_24, cz_30, cz_32, cz_33, cz_38, cz_40, cz_41, cz_42, cz_43, cz_45, cz_48, cz_57, cz_59, cz_60, cz_61, cz_63, cz_64, cz_72, cz_96, cz_97, cz_99, cz_100, cz_122, cz_124, cz_126, cz_160, cz_161, cz_168, cz_200, cz_255, cz_300, cz_960, cz_999, cz_1000, cz_1001, cz_1002, cz_1003, cz_1120, cz_2000, cz_2003, cz_2004, cz_2005, cz_3999, cz_9999, cz_14640, mk_0 hN, m158, h1]
  have gx := vi_bt h1
  have hb := hh.2
  unfold ji_bt at gx hb
  have es : (ji_gI N 0 0 + x).toInt = (ji_gI N 0 0).toInt + x.toInt := by rw [vi_add (by omega) (by omega)]
  by_cases h2 : 999 < ji_gI N 0 0 + x
  · refine ji_same_of (v := some (.int (-4))) ?_ ?_ R
    · apply en_45
      simp only [s45_0, s45_1, s45_2, q45_4, s45_7, s45_10, s45_12, s45_13, s45_14, s45_17, s45_20, s45_21, s45_22, s45_25, s45_28, s45_30, s45_31, s45_32, s45_35, q45_36, s45_39, s45_40, s45_43, s45_46, xIL_1, xIS_1, xQL_2, xQL_3, xAN_1, xAN_2, xAN_3, xCP_1, xC_s, xNC_I, ji_oI1, ji_oIm, kd_sC, gR_sC, gL_sC, ji_rv_s, ji_tl_s, ji_tl_n, ji_s1, ji_s2, ji_kl, List.getD_cons_zero, List.getD_cons_succ, List.set_cons_zero, List.set_cons_succ, List.length_cons, List.length_nil, ji_b_0, ji_b_1, ji_n0, ji_n1, ji_rcb_iff, ji_ok8_0, ji_ok8_1, ji_ok8_2, ji_ok8_3, ji_ok8_4, kd_sI, kd_sL, kd_sR, kd_cp, gR_sI, gR_sL, gR_cp, gL_sI, gL_sR, gL_cp, gI_sL, gI_sR, gI_sI, gL_sL, Nat.reduceEqDiff, false_and, and_false, true_and, and_true, Nat.reduceAdd, Nat.reduceLT, Nat.reduceSub, Int32.reduceLT, Int32.reduceAdd, not_false_eq_true, not_true_eq_false, and_self, ji_b_n, if_true, if_false, ↓reduceIte, cz_m100, cz_m19, cz_m18, cz_m17, cz_m16, cz_m15, cz_m14, cz_m13, cz_m12, cz_m11, cz_m4, cz_m3, cz_m2, cz_m1, cz_1, cz_2, cz_3, cz_4, cz_5, cz_6, cz_7, cz_8, cz_9, cz_10, cz_11, cz_12, cz_13, cz_14, cz_15, cz_16, cz_20, cz_24, cz_30, cz_32, cz_33, cz_38, cz_40, cz_41, cz_42, cz_43, cz_45, cz_48, cz_57, cz_59, cz_60, cz_61, cz_63, cz_64, cz_72, cz_96, cz_97, cz_99, cz_100, cz_122, cz_124, cz_126, cz_160, cz_161, cz_168, cz_200, cz_255, cz_300, cz_960, cz_999, cz_1000, cz_1001, cz_1002, cz_1003, cz_1120, cz_2000, cz_2003, cz_2004, cz_2005, cz_3999, cz_9999, cz_14640, (xk_0 hX), (xk_1 hX), (xk_2 hX), (xk_3 hX), (xk_4 hX), (xk_5 hX), (xk_6 hX), (xk_7 hX), (xk_8 hX), (xk_9 hX), (xk_10 hX), (xk_11 hX), (xk_12 hX), (xk_13 hX), (xk_14 hX), (xk_15 hX), (xk_16 hX), (xk_17 hX), (xk_18 hX), (xk_19 hX), (xk_20 hX), (xk_21 hX), (xk_22 hX), (xk_23 hX), (xk_24 hX), (xk_25 hX), (xk_26 hX), (xk_27 hX), (xk_28 hX), (xk_29 hX), (xk_30 hX), (xk_31 hX), (xk_32 hX), (xk_33 hX), (xk_34 hX), (xk_35 hX), (xk_36 hX), (xk_37 hX), (xk_38 hX), (xk_39 hX), (xk_40 hX), (xk_41 hX), (xk_42 hX), (xk_43 hX), (xk_44 hX), (xk_45 hX), (xk_46 hX), (xk_47 hX), (xk_48 hX), (xk_49 hX), (xk_50 hX), (xk_51 hX), (xk_52 hX), (xk_53 hX), (xk_54 hX), (xk_55 hX), (xk_56 hX), (xk_57 hX), (xk_58 hX), (xk_59 hX), (xk_60 hX), (xk_61 hX), (xk_62 hX), (xk_63 hX), (xk_64 hX), (xk_65 hX), (xk_66 hX), (xk_67 hX), (xk_68 hX), (xk_69 hX), (xk_70 hX), (xk_71 hX), (xk_72 hX), (xk_73 hX), (xk_74 hX), (xk_75 hX), (xk_76 hX), (xk_77 hX), (xk_78 hX), (xk_79 hX), (xk_80 hX), (xk_81 hX), (xk_82 hX), (xk_83 hX), (xk_84 hX), (xk_85 hX), (xk_86 hX), (xk_87 hX), (xk_88 hX), (xk_89 hX), (xr_0_0 hX), (xr_0_1 hX), (xr_0_2 hX), (xr_0_3 hX), (xr_0_4 hX), (xr_0_5 hX), (xr_0_6 hX), (xr_0_7 hX), (xr_0_8 hX), (xr_0_9 hX), (xr_0_10 hX), (xr_0_11 hX), (xr_0_12 hX), (xr_0_13 hX), (xr_1_0 hX), (xr_2_2 hX), (xr_4_0 hX), (xr_4_1 hX), (xr_4_2 hX), (xr_4_3 hX), (xr_4_4 hX), (xr_5_0 hX), (xr_8_0 hX), (xr_8_1 hX), (xr_8_2 hX), (xr_8_3 hX), (xr_8_4 hX), (xr_8_5 hX), (xr_15_0 hX), (xr_15_1 hX), (xr_15_2 hX), (xr_15_3 hX), (xr_15_4 hX), (xr_15_5 hX), (xr_24_2 hX), (xr_26_0 hX), (xr_26_1 hX), (xr_26_2 hX), (xr_27_0 hX), (xr_27_1 hX), (xr_27_2 hX), (xr_27_3 hX), (xr_27_4 hX), (xr_27_5 hX), (xr_30_0 hX), (xr_31_2 hX), (xr_33_0 hX), (xr_34_2 hX), (xr_36_0 hX), (xr_37_2 hX), (xr_39_0 hX), (xr_40_2 hX), (xr_42_0 hX), (xr_43_2 hX), (xr_45_0 hX), (xr_46_2 hX), (xr_48_2 hX), (xr_50_2 hX), (xr_52_2 hX), (xr_70_2 hX), (xr_72_2 hX), (xr_74_2 hX), (xr_76_2 hX), (xr_54_0 hX), (xr_54_1 hX), (xr_55_0 hX), (xr_55_1 hX), (xr_55_2 hX), (xr_55_3 hX), (xr_55_4 hX), (xr_55_5 hX), (xr_62_0 hX), (xr_62_1 hX), (xr_62_2 hX), (xr_62_3 hX), (xr_62_4 hX), (xr_62_5 hX), (xr_62_6 hX), (xr_78_0 hX), (xr_78_1 hX), (xr_78_2 hX), (xr_82_0 hX), (xr_82_1 hX), (xr_82_2 hX), (xr_83_0 hX), (xr_83_1 hX), (xr_83_2 hX), (xr_83_3 hX), (xi_2_0 hX), (xi_24_0 hX), (xi_31_0 hX), (xi_34_0 hX), (xi_37_0 hX), (xi_40_0 hX), (xi_43_0 hX), (xi_46_0 hX), (xi_48_0 hX), (xi_50_0 hX), (xi_52_0 hX), (xi_70_0 hX), (xi_72_0 hX), (xi_74_0 hX), (xi_76_0 hX), (xi_2_1 hX), (xi_24_1 hX), (xi_31_1 hX), (xi_34_1 hX), (xi_37_1 hX), (xi_40_1 hX), (xi_43_1 hX), (xi_46_1 hX), (xi_48_1 hX), (xi_50_1 hX), (xi_52_1 hX), (xi_70_1 hX), (xi_72_1 hX), (xi_74_1 hX), (xi_76_1 hX), m43, h1, hh.1, h2]
    · apply en_159
      simp only [s159_0, s159_1, s159_2, s159_3, q159_5, s159_8, s159_11, s159_13, s159_14, s159_15, s159_18, s159_19, s159_20, s159_23, s159_26, s159_28, s159_29, s159_30, s159_32, s159_33, s159_36, q159_37, q159_40, s159_43, s159_46, s159_47, s159_50, xIL_1, xIS_1, xQL_2, xQL_3, xAN_1, xAN_2, xAN_3, xCP_1, xC_s, xNC_I, ji_oI1, ji_oIm, kd_sC, gR_sC, gL_sC, ji_rv_s, ji_tl_s, ji_tl_n, ji_s1, ji_s2, ji_kl, List.getD_cons_zero, List.getD_cons_succ, List.set_cons_zero, List.set_cons_succ, List.length_cons, List.length_nil, ji_b_0, ji_b_1, ji_n0, ji_n1, ji_rcb_iff, ji_ok8_0, ji_ok8_1, ji_ok8_2, ji_ok8_3, ji_ok8_4, kd_sI, kd_sL, kd_sR, kd_cp, gR_sI, gR_sL, gR_cp, gL_sI, gL_sR, gL_cp, gI_sL, gI_sR, gI_sI, gL_sL, Nat.reduceEqDiff, false_and, and_false, true_and, and_true, Nat.reduceAdd, Nat.reduceLT, Nat.reduceSub, Int32.reduceLT, Int32.reduceAdd, not_false_eq_true, not_true_eq_false, and_self, ji_b_n, if_true, if_false, ↓reduceIte, cz_m100, cz_m19, cz_m18, cz_m17, cz_m16, cz_m15, cz_m14, cz_m13, cz_m12, cz_m11, cz_m4, cz_m3, cz_m2, cz_m1, cz_1, cz_2, cz_3, cz_4, cz_5, cz_6, cz_7, cz_8, cz_9, cz_10, cz_11, cz_12, cz_13, cz_14, cz_15, cz_16, cz_20, cz_24, cz_30, cz_32, cz_33, cz_38, cz_40, cz_41, cz_42, cz_43, cz_45, cz_48, cz_57, cz_59, cz_60, cz_61, cz_63, cz_64, cz_72, cz_96, cz_97, cz_99, cz_100, cz_122, cz_124, cz_126, cz_160, cz_161, cz_168, cz_200, cz_255, cz_300, cz_960, cz_999, cz_1000, cz_1001, cz_1002, cz_1003, cz_1120, cz_2000, cz_2003, cz_2004, cz_2005, cz_3999, cz_9999, cz_14640, mk_0 hN, m158, h1, h2]
  obtain ⟨n, hn⟩ : ∃ n : Nat, x.toInt = n := ⟨x.toInt.toNat, by omega⟩
  obtain rfl := vi_ofn hn
  have h3 : (ji_gI N 0 0).toInt + n ≤ 999 := by rw [vi_lt] at h2; omega
  have Q := jq_SR_go R.sr (n := n) (by omega) h3
  have LN := m159L (d := d + 57) hN R.books.2.1 (n := n) (by omega) n 0 0 (by omega) rfl
  rw [jq_Nj_0] at LN
  have x11 : ji_gI (jq_Xj X 1 2 3 n) 1 1 = ji_gI N 0 0 + Int32.ofNat n := Q.2.1.1.trans jq_NH_00
  have ekX : ∀ a, ji_kd (jq_Xj X 1 2 3 n) a = ji_kd X a := fun a => rfl
  have egX : ∀ a b, ji_gR (jq_Xj X 1 2 3 n) a b = ji_gR X a b := fun a b => rfl
  have F : ∀ a, a ≠ 1 → a ≠ 3 → ji_gI (jq_Xj X 1 2 3 n) a = ji_gI X a := fun a q1 q3 => jq_Xj_o q1 q3
  have G : ∀ a, a ≠ 0 → a ≠ 5 → a ≠ 6 → a ≠ 7 → a ≠ 8 → ji_gI (jq_Nj N n) a = ji_gI N a := fun a q0 q5 q6 q7 q8 => jq_NH_a q0 q5 q6 q7 q8
  have G0 : ∀ i, i ≠ 0 → ji_gI (jq_Nj N n) 0 i = ji_gI N 0 i := fun i q => jq_NH_f q
  have G00 : ji_gI (jq_Nj N n) 0 0 = ji_gI N 0 0 + Int32.ofNat n := jq_NH_00
  have hle : (ji_gI N 0 0).toInt ≤ (ji_gI N 0 0 + Int32.ofNat n).toInt := by omega
  refine ji_same_of (v := some (.int (ji_gI N 0 0 + Int32.ofNat n))) (X' := jq_Xj X 1 2 3 n) (N' := jq_Nj N n) ?_ ?_ ?_
  · apply en_45
    simp only [s45_0, s45_1, s45_2, q45_4, s45_7, s45_10, s45_12, s45_13, s45_14, s45_17, s45_20, s45_21, s45_22, s45_25, s45_28, s45_30, s45_31, s45_32, s45_35, q45_36, s45_39, s45_40, s45_43, s45_46, xIL_1, xIS_1, xQL_2, xQL_3, xAN_1, xAN_2, xAN_3, xCP_1, xC_s, xNC_I, ji_oI1, ji_oIm, kd_sC, gR_sC, gL_sC, ji_rv_s, ji_tl_s, ji_tl_n, ji_s1, ji_s2, ji_kl, List.getD_cons_zero, List.getD_cons_succ, List.set_cons_zero, List.set_cons_succ, List.length_cons, List.length_nil, ji_b_0, ji_b_1, ji_n0, ji_n1, ji_rcb_iff, ji_ok8_0, ji_ok8_1, ji_ok8_2, ji_ok8_3, ji_ok8_4, kd_sI, kd_sL, kd_sR, kd_cp, gR_sI, gR_sL, gR_cp, gL_sI, gL_sR, gL_cp, gI_sL, gI_sR, gI_sI, gL_sL, Nat.reduceEqDiff, false_and, and_false, true_and, and_true, Nat.reduceAdd, Nat.reduceLT, Nat.reduceSub, Int32.reduceLT, Int32.reduceAdd, not_false_eq_true, not_true_eq_false, and_self, ji_b_n, if_true, if_false, ↓reduceIte, cz_m100, cz_m19, cz_m18, cz_m17, cz_m16, cz_m15, cz_m14, cz_m13, cz_m12, cz_m11, cz_m4, cz_m3, cz_m2, cz_m1, cz_1, cz_2, cz_3, cz_4, cz_5, cz_6, cz_7, cz_8, cz_9, cz_10, cz_11, cz_12, cz_13, cz_14, cz_15, cz_16, cz_20, cz_24, cz_30, cz_32, cz_33, cz_38, cz_40, cz_41, cz_42, cz_43, cz_45, cz_48, cz_57, cz_59, cz_60, cz_61, cz_63, cz_64, cz_72, cz_96, cz_97, cz_99, cz_100, cz_122, cz_124, cz_126, cz_160, cz_161, cz_168, cz_200, cz_255, cz_300, cz_960, cz_999, cz_1000, cz_1001, cz_1002, cz_1003, cz_1120, cz_2000, cz_2003, cz_2004, cz_2005, cz_3999, cz_9999, cz_14640, (xk_0 hX), (xk_1 hX), (xk_2 hX), (xk_3 hX), (xk_4 hX), (xk_5 hX), (xk_6 hX), (xk_7 hX), (xk_8 hX), (xk_9 hX), (xk_10 hX), (xk_11 hX), (xk_12 hX), (xk_13 hX), (xk_14 hX), (xk_15 hX), (xk_16 hX), (xk_17 hX), (xk_18 hX), (xk_19 hX), (xk_20 hX), (xk_21 hX), (xk_22 hX), (xk_23 hX), (xk_24 hX), (xk_25 hX), (xk_26 hX), (xk_27 hX), (xk_28 hX), (xk_29 hX), (xk_30 hX), (xk_31 hX), (xk_32 hX), (xk_33 hX), (xk_34 hX), (xk_35 hX), (xk_36 hX), (xk_37 hX), (xk_38 hX), (xk_39 hX), (xk_40 hX), (xk_41 hX), (xk_42 hX), (xk_43 hX), (xk_44 hX), (xk_45 hX), (xk_46 hX), (xk_47 hX), (xk_48 hX), (xk_49 hX), (xk_50 hX), (xk_51 hX), (xk_52 hX), (xk_53 hX), (xk_54 hX), (xk_55 hX), (xk_56 hX), (xk_57 hX), (xk_58 hX), (xk_59 hX), (xk_60 hX), (xk_61 hX), (xk_62 hX), (xk_63 hX), (xk_64 hX), (xk_65 hX), (xk_66 hX), (xk_67 hX), (xk_68 hX), (xk_69 hX), (xk_70 hX), (xk_71 hX), (xk_72 hX), (xk_73 hX), (xk_74 hX), (xk_75 hX), (xk_76 hX), (xk_77 hX), (xk_78 hX), (xk_79 hX), (xk_80 hX), (xk_81 hX), (xk_82 hX), (xk_83 hX), (xk_84 hX), (xk_85 hX), (xk_86 hX), (xk_87 hX), (xk_88 hX), (xk_89 hX), (xr_0_0 hX), (xr_0_1 hX), (xr_0_2 hX), (xr_0_3 hX), (xr_0_4 hX), (xr_0_5 hX), (xr_0_6 hX), (xr_0_7 hX), (xr_0_8 hX), (xr_0_9 hX), (xr_0_10 hX), (xr_0_11 hX), (xr_0_12 hX), (xr_0_13 hX), (xr_1_0 hX), (xr_2_2 hX), (xr_4_0 hX), (xr_4_1 hX), (xr_4_2 hX), (xr_4_3 hX), (xr_4_4 hX), (xr_5_0 hX), (xr_8_0 hX), (xr_8_1 hX), (xr_8_2 hX), (xr_8_3 hX), (xr_8_4 hX), (xr_8_5 hX), (xr_15_0 hX), (xr_15_1 hX), (xr_15_2 hX), (xr_15_3 hX), (xr_15_4 hX), (xr_15_5 hX), (xr_24_2 hX), (xr_26_0 hX), (xr_26_1 hX), (xr_26_2 hX), (xr_27_0 hX), (xr_27_1 hX), (xr_27_2 hX), (xr_27_3 hX), (xr_27_4 hX), (xr_27_5 hX), (xr_30_0 hX), (xr_31_2 hX), (xr_33_0 hX), (xr_34_2 hX), (xr_36_0 hX), (xr_37_2 hX), (xr_39_0 hX), (xr_40_2 hX), (xr_42_0 hX), (xr_43_2 hX), (xr_45_0 hX), (xr_46_2 hX), (xr_48_2 hX), (xr_50_2 hX), (xr_52_2 hX), (xr_70_2 hX), (xr_72_2 hX), (xr_74_2 hX), (xr_76_2 hX), (xr_54_0 hX), (xr_54_1 hX), (xr_55_0 hX), (xr_55_1 hX), (xr_55_2 hX), (xr_55_3 hX), (xr_55_4 hX), (xr_55_5 hX), (xr_62_0 hX), (xr_62_1 hX), (xr_62_2 hX), (xr_62_3 hX), (xr_62_4 hX), (xr_62_5 hX), (xr_62_6 hX), (xr_78_0 hX), (xr_78_1 hX), (xr_78_2 hX), (xr_82_0 hX), (xr_82_1 hX), (xr_82_2 hX), (xr_83_0 hX), (xr_83_1 hX), (xr_83_2 hX), (xr_83_3 hX), (xi_2_0 hX), (xi_24_0 hX), (xi_31_0 hX), (xi_34_0 hX), (xi_37_0 hX), (xi_40_0 hX), (xi_43_0 hX), (xi_46_0 hX), (xi_48_0 hX), (xi_50_0 hX), (xi_52_0 hX), (xi_70_0 hX), (xi_72_0 hX), (xi_74_0 hX), (xi_76_0 hX), (xi_2_1 hX), (xi_24_1 hX), (xi_31_1 hX), (xi_34_1 hX), (xi_37_1 hX), (xi_40_1 hX), (xi_43_1 hX), (xi_46_1 hX), (xi_48_1 hX), (xi_50_1 hX), (xi_52_1 hX), (xi_70_1 hX), (xi_72_1 hX), (xi_74_1 hX), (xi_76_1 hX), m43, h1, hh.1, h2, jq_m46' R.sr (show n ≤ 100 by omega), ekX, egX, x11]
  · apply en_159
    simp only [s159_0, s159_1, s159_2, s159_3, q159_5, s159_8, s159_11, s159_13, s159_14, s159_15, s159_18, s159_19, s159_20, s159_23, s159_26, s159_28, s159_29, s159_30, s159_32, s159_33, s159_36, q159_37, q159_40, s159_43, s159_46, s159_47, s159_50, xIL_1, xIS_1, xQL_2, xQL_3, xAN_1, xAN_2, xAN_3, xCP_1, xC_s, xNC_I, ji_oI1, ji_oIm, kd_sC, gR_sC, gL_sC, ji_rv_s, ji_tl_s, ji_tl_n, ji_s1, ji_s2, ji_kl, List.getD_cons_zero, List.getD_cons_succ, List.set_cons_zero, List.set_cons_succ, List.length_cons, List.length_nil, ji_b_0, ji_b_1, ji_n0, ji_n1, ji_rcb_iff, ji_ok8_0, ji_ok8_1, ji_ok8_2, ji_ok8_3, ji_ok8_4, kd_sI, kd_sL, kd_sR, kd_cp, gR_sI, gR_sL, gR_cp, gL_sI, gL_sR, gL_cp, gI_sL, gI_sR, gI_sI, gL_sL, Nat.reduceEqDiff, false_and, and_false, true_and, and_true, Nat.reduceAdd, Nat.reduceLT, Nat.reduceSub, Int32.reduceLT, Int32.reduceAdd, not_false_eq_true, not_true_eq_false, and_self, ji_b_n, if_true, if_false, ↓reduceIte, cz_m100, cz_m19, cz_m18, cz_m17, cz_m16, cz_m15, cz_m14, cz_m13, cz_m12, cz_m11, cz_m4, cz_m3, cz_m2, cz_m1, cz_1, cz_2, cz_3, cz_4, cz_5, cz_6, cz_7, cz_8, cz_9, cz_10, cz_11, cz_12, cz_13, cz_14, cz_15, cz_16, cz_20, cz_24, cz_30, cz_32, cz_33, cz_38, cz_40, cz_41, cz_42, cz_43, cz_45, cz_48, cz_57, cz_59, cz_60, cz_61, cz_63, cz_64, cz_72, cz_96, cz_97, cz_99, cz_100, cz_122, cz_124, cz_126, cz_160, cz_161, cz_168, cz_200, cz_255, cz_300, cz_960, cz_999, cz_1000, cz_1001, cz_1002, cz_1003, cz_1120, cz_2000, cz_2003, cz_2004, cz_2005, cz_3999, cz_9999, cz_14640, mk_0 hN, m158, h1, h2]
    exact LN
  · refine ji_Rel.mk ?_ R.mf Q.2.1 Q.2.2.1 Q.2.2.2.1 Q.2.2.2.2 ?_ ?_ ?_ ?_ ?_ ?_ ?_ ?_ ?_ ?_
    · refine ⟨R.xf.1, R.xf.2.1, fun e he => ?_⟩
      have q : ∀ e ∈ ji_XI, e.1 ≠ 1 ∧ e.1 ≠ 3 := by decide +kernel
      rw [F e.1 (q e he).1 (q e he).2]
      exact R.xf.2.2 e he
    · simp only [F 4 (by omega) (by omega), F 5 (by omega) (by omega), F 6 (by omega) (by omega), F 9 (by omega) (by omega), F 10 (by omega) (by omega), F 11 (by omega) (by omega), F 12 (by omega) (by omega), F 13 (by omega) (by omega), F 14 (by omega) (by omega), F 16 (by omega) (by omega), F 17 (by omega) (by omega), F 18 (by omega) (by omega), F 19 (by omega) (by omega), F 20 (by omega) (by omega), F 21 (by omega) (by omega), G0 15 (by omega), G0 16 (by omega), G0 17 (by omega), G 10 (by omega) (by omega) (by omega) (by omega) (by omega), G 11 (by omega) (by omega) (by omega) (by omega) (by omega)]
      exact R.texts
    · rw [F 24 (by omega) (by omega), F 25 (by omega) (by omega), G00, G0 33 (by omega), G 16 (by omega) (by omega) (by omega) (by omega) (by omega), G 17 (by omega) (by omega) (by omega) (by omega) (by omega), G 18 (by omega) (by omega) (by omega) (by omega) (by omega), G 19 (by omega) (by omega) (by omega) (by omega) (by omega)]
      obtain ⟨q1, q2, q3⟩ := R.trials
      refine ⟨q1, q2, fun k hk => ?_⟩
      have E := q3 k hk
      exact ⟨E.1, E.2.1, E.2.2.1, E.2.2.2.1, ji_bt_le E.2.2.2.2 (by omega) hle⟩
    · rw [F 48 (by omega) (by omega), F 49 (by omega) (by omega), G00, G0 46 (by omega), G 28 (by omega) (by omega) (by omega) (by omega) (by omega), G 29 (by omega) (by omega) (by omega) (by omega) (by omega), G 30 (by omega) (by omega) (by omega) (by omega) (by omega)]
      obtain ⟨q1, q2, q3⟩ := R.hands
      refine ⟨q1, q2, fun k hk => ?_⟩
      have E := q3 k hk
      exact ⟨E.1, E.2.1, E.2.2.1, ji_bt_le E.2.2.2 (by omega) hle⟩
    · rw [F 50 (by omega) (by omega), F 51 (by omega) (by omega), G0 50 (by omega), G 31 (by omega) (by omega) (by omega) (by omega) (by omega)]
      exact R.leaves
    · rw [F 52 (by omega) (by omega), F 53 (by omega) (by omega), G0 51 (by omega), G 33 (by omega) (by omega) (by omega) (by omega) (by omega)]
      exact R.gaps
    · rw [F 70 (by omega) (by omega), F 71 (by omega) (by omega), G00, G0 57 (by omega), G 36 (by omega) (by omega) (by omega) (by omega) (by omega), G 37 (by omega) (by omega) (by omega) (by omega) (by omega), G 38 (by omega) (by omega) (by omega) (by omega) (by omega), G 39 (by omega) (by omega) (by omega) (by omega) (by omega)]
      obtain ⟨q1, q2, q3⟩ := R.lists
      refine ⟨q1, q2, fun k hk => ?_⟩
      have E := q3 k hk
      exact ⟨E.1, E.2.1, E.2.2.1, E.2.2.2.1, ji_bt_le E.2.2.2.2 (by omega) hle⟩
    · rw [F 72 (by omega) (by omega), F 73 (by omega) (by omega), G0 58 (by omega), G 40 (by omega) (by omega) (by omega) (by omega) (by omega), G 41 (by omega) (by omega) (by omega) (by omega) (by omega)]
      exact R.crates
    · rw [F 74 (by omega) (by omega), F 75 (by omega) (by omega), G0 59 (by omega), G 42 (by omega) (by omega) (by omega) (by omega) (by omega), G 43 (by omega) (by omega) (by omega) (by omega) (by omega), G 44 (by omega) (by omega) (by omega) (by omega) (by omega), G 45 (by omega) (by omega) (by omega) (by omega) (by omega), G 46 (by omega) (by omega) (by omega) (by omega) (by omega)]
      exact R.chains
    · rw [F 76 (by omega) (by omega), F 77 (by omega) (by omega), G0 71 (by omega), G 47 (by omega) (by omega) (by omega) (by omega) (by omega), G 48 (by omega) (by omega) (by omega) (by omega) (by omega)]
      exact R.kinds
    · rw [F 88 (by omega) (by omega), F 89 (by omega) (by omega), F 84 (by omega) (by omega), F 85 (by omega) (by omega), F 86 (by omega) (by omega), F 87 (by omega) (by omega), G 52 (by omega) (by omega) (by omega) (by omega) (by omega), G 53 (by omega) (by omega) (by omega) (by omega) (by omega), G 54 (by omega) (by omega) (by omega) (by omega) (by omega)]
      exact R.sheets
end JIV
