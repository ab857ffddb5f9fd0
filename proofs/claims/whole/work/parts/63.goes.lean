/-! ===== a whole text, read ===== -/
def jx_r1 (t : ji_F) (n i : Nat) (σ : jx_T) : (List Int32 × jx_T) ⊕ Nat :=
  if σ.1 = 2000 + Int32.ofNat i then (match jx_p t n 4000 5 0 [] (jx_av t n σ) with
    | some (.inl q) => if q.2.1 = 59 then .inl (q.1, jx_av t n q.2) else .inr q.2.2.2.1
    | some (.inr z) => .inr z
    | none => .inr 0)
  else .inr σ.2.2.1
def jx_b2 (r : (List Int32 × jx_T) ⊕ Nat) (f : List Int32 → jx_T → (List Int32 × List Int32 × List Int32) ⊕ Nat) : (List Int32 × List Int32 × List Int32) ⊕ Nat := match r with
  | .inl q => f q.1 q.2
  | .inr z => .inr z
def jx_rd (t : ji_F) (n : Nat) : (List Int32 × List Int32 × List Int32) ⊕ Nat :=
  jx_b2 (jx_r1 t n 0 (jx_tok t n 0)) fun a σ1 => jx_b2 (jx_r1 t n 1 σ1) fun b σ2 => jx_b2 (jx_r1 t n 2 σ2) fun c σ3 => if σ3.1 = 1000 then .inl (a, b, c) else .inr σ3.2.2.1
/-- what a part's reckoning may change -/
def jx_nc (a b : Nat) : Bool := Nat.beq a 12 || Nat.beq a 13 || Nat.beq a 14 || Nat.beq a 15 || (Nat.beq a 0 && (Nat.beq b 20 || Nat.beq b 21 || Nat.beq b 22 || Nat.beq b 23 || Nat.beq b 24 || Nat.beq b 25 || Nat.beq b 29 || Nat.beq b 30 || Nat.beq b 31))
def jx_oN (N N' : ji_M) : Prop := N'.1 = N.1 ∧ (∀ a b, jx_nc a b = false → ji_gI N' a b = ji_gI N a b) ∧ (∀ a b, ji_gL N' a b = ji_gL N a b) ∧ ∀ a b, ji_gR N' a b = ji_gR N a b
section JIV
variable {N N' N'' : ji_M} {a k : Nat} {v : Int32}
theorem jx_oN_r : jx_oN N N := ⟨rfl, fun _ _ _ => rfl, fun _ _ => rfl, fun _ _ => rfl⟩
theorem jx_oN_t (h : jx_oN N N') (h' : jx_oN N' N'') : jx_oN N N'' := ⟨h'.1.trans h.1, fun a b q => (h'.2.1 a b q).trans (h.2.1 a b q), fun a b => (h'.2.2.1 a b).trans (h.2.2.1 a b), fun a b => (h'.2.2.2 a b).trans (h.2.2.2 a b)⟩
theorem jx_oN_sI (h : jx_oN N N') (hs : jx_nc a k = true) : jx_oN N (ji_sI N' a k v) := by
  refine ⟨h.1, fun i j q => ?_, h.2.2⟩
  rw [gI_sI, if_neg, h.2.1 i j q]
  rintro ⟨rfl, rfl⟩
  rw [hs] at q
  cases q
theorem jx_oN_MF (h : jx_oN N N') (hN : ji_MF N) : ji_MF N' := ⟨h.1.trans hN.1, fun e he => (h.2.2.2 e.1 e.2.1).trans (hN.2 e he)⟩
theorem jx_nc_ns {a b : Nat} (h : jx_nc a b = true) : ji_ns a b = true := by
  unfold jx_nc at h
  simp only [Bool.or_eq_true, Bool.and_eq_true, Nat.beq_eq] at h
  rcases h with ((((rfl | rfl) | rfl) | rfl) | ⟨rfl, h⟩)
  · rfl
  · rfl
  · rfl
  · rfl
  · rcases h with ((((((((rfl | rfl) | rfl) | rfl) | rfl) | rfl) | rfl) | rfl) | rfl) <;> rfl
theorem jx_oN_off (h : jx_oN N N') : ji_offN N N' := ⟨h.1, fun a b q => h.2.1 a b (by
  cases e : jx_nc a b with
  | false => rfl
  | true => rw [jx_nc_ns e] at q; cases q), h.2.2.1 0 5, h.2.2.2⟩
theorem jx_oN_F (h : jx_oN N N') (hs : ∀ k, jx_nc a k = false) : ji_gI N' a = ji_gI N a := funext fun k => h.2.1 a k (hs k)
end JIV
section JIV
variable {X N M : ji_M} {P : ji_P} {x y z v w : Int32} {ta tk ts vl wn pn on ta' tk' ts' vl' wn' pn' on' : Int32} {f g wf pf t : ji_F} {d a b r c m s p n i j bs k lev : Nat} {o : Option Value × ji_M} {ws ps qs : List Int32} {F : Int32 → Int32} {σ : jx_T} {mn : Bool}
/-- a token as it stands in the model -/
def jx_TK (t : ji_F) (n : Nat) (σ : jx_T) (vl : Int32) : Prop := jx_wf n σ ∧ jx_wv σ ∧ σ.1 ∈ jx_codes ∧ jx_nvok σ.1 σ.2.1 vl
theorem jx_TK_av (h : jx_wf n σ) (hv : jx_nvok (jx_av t n σ).1 (jx_av t n σ).2.1 v) : jx_TK t n (jx_av t n σ) v := ⟨(jx_wf_av h).1, jx_wv_av h, jx_tok_c, hv⟩
theorem jx_NM_id (hM : ji_MF M) : jx_NM M (ji_gI M 0 22) (ji_gI M 0 23) (ji_gI M 0 24) (ji_gI M 0 25) (ji_gI M 0 29) (ji_gI M 0 30) (ji_gI M 0 31) (ji_gI M 12) (ji_gI M 13) = M := by
  refine ji_M_ext rfl (fun i j => ?_) (fun _ _ => rfl) (fun _ _ => rfl)
  by_cases h0 : i = 0
  · subst h0
    show jx_nf _ _ _ _ _ _ _ _ j = _
    unfold jx_nf
    by_cases h : j = 22
    · rw [if_pos h, h]
    rw [if_neg h]
    by_cases h : j = 23
    · rw [if_pos h, h]
    rw [if_neg h]
    by_cases h : j = 24
    · rw [if_pos h, h]
    rw [if_neg h]
    by_cases h : j = 25
    · rw [if_pos h, h]
    rw [if_neg h]
    by_cases h : j = 29
    · rw [if_pos h, h]
    rw [if_neg h]
    by_cases h : j = 30
    · rw [if_pos h, h]
    rw [if_neg h]
    by_cases h : j = 31
    · rw [if_pos h, h]
    rw [if_neg h]
  · by_cases h12 : i = 12
    · subst h12; rw [jx_NM_12]
    · by_cases h13 : i = 13
      · subst h13; rw [jx_NM_13]
      · rw [jx_NM_a h0 h12 h13]
theorem jx_NM_off : jx_oN N (jx_NM N ta tk ts vl wn pn on wf pf) := by
  refine ⟨rfl, fun i j hs => ?_, fun _ _ => rfl, fun _ _ => rfl⟩
  by_cases h0 : i = 0
  · subst h0
    show jx_nf _ _ _ _ _ _ _ _ j = _
    unfold jx_nf
    have c : ∀ k : Nat, jx_nc 0 k = true → ¬ j = k := fun k hk e => by rw [e, hk] at hs; cases hs
    rw [if_neg (c 22 rfl), if_neg (c 23 rfl), if_neg (c 24 rfl), if_neg (c 25 rfl), if_neg (c 29 rfl), if_neg (c 30 rfl), if_neg (c 31 rfl)]
  · have h12 : ¬ i = 12 := fun e => by
      subst e
      rw [show jx_nc 12 j = true from rfl] at hs; cases hs
    have h13 : ¬ i = 13 := fun e => by
      subst e
      rw [show jx_nc 13 j = true from rfl] at hs; cases hs
    rw [jx_NM_a h0 h12 h13]
theorem jx_NW_15 : ji_sI (jx_NM N ta tk ts vl wn pn on wf pf) 15 i v = jx_NM (ji_sI N 15 i v) ta tk ts vl wn pn on wf pf := by
  unfold jx_NM
  rw [sI_sC_comm (by decide), sI_sC_comm (by decide), sI_sC_comm (by decide)]
  rfl
theorem jx_NO_15 (H : jx_NO N t n bs) : jx_NO (ji_sI N 15 i v) t n bs := H
theorem jx_take (H : jx_NO N t n bs) (hF : ∀ x : Int32, 0 ≤ x.toInt → x.toInt ≤ 5 → F x = ji_gI N 14 x.toInt.toNat) (T : jx_TK t n σ vl) {r : (List Int32 × jx_T) ⊕ Nat} (hp : jx_p t n 4000 5 0 [] σ = some r) : (∀ s σ', r = .inl (s, σ') → ∃ v b vl' wn' pn' on' wf' pf', jx_vw F s v ∧ (σ'.1 = 59 → b = true) ∧ (b = true → pf' 0 = v) ∧ jx_TK t n σ' vl' ∧ ∀ d, ji_CL (d + 5) 179 [.ref 0] (jx_NM N (Int32.ofNat σ.2.2.2) (jx_nk σ.1) (Int32.ofNat σ.2.2.1) vl wn pn on wf pf) = some (some (.int (jx_bi b)), jx_NM N (Int32.ofNat σ'.2.2.2) (jx_nk σ'.1) (Int32.ofNat σ'.2.2.1) vl' wn' pn' on' wf' pf')) ∧ (∀ q, r = .inr q → ∃ ta' tk' vl' wn' pn' on' wf' pf', ∀ d, ji_CL (d + 5) 179 [.ref 0] (jx_NM N (Int32.ofNat σ.2.2.2) (jx_nk σ.1) (Int32.ofNat σ.2.2.1) vl wn pn on wf pf) = some (some (.int 0), jx_NM N ta' tk' (Int32.ofNat q) vl' wn' pn' on' wf' pf')) := by
  obtain ⟨T1, T2, T3, T4⟩ := T
  have Q := (sm_all (t := t) (n := n) (F := F) 4000).2.2.2.2.2 4000 (Nat.le_refl _) 0 σ r [] [] true hp T1 T2 rfl (by omega) (by show 0 < jx_pr 5; decide) (Or.inl rfl) (fun q => absurd q (by omega))
  constructor
  · intro s σ' e
    subst e
    obtain ⟨v, ws1, ps1, mn1, q1, q2, q3, q4, q5⟩ := Q
    have st : jx_stl 1 ws1 ps1 = ([], [v]) := by
      rw [q3 1 (Nat.le_refl _) (by decide)]
      rfl
    have pl := (jx_pl _ _ _ _ _ _ hp T1 (fun _ => rfl)).1
    rcases jx_jt_nt q4 with j | j
    · obtain ⟨k, hk⟩ := jx_rc_e q2 (jx_en_1 (jx_tn_z (t := t) (n := n) (F := F) (mn := mn1) j st))
      have hk := hk 0
      obtain ⟨vl', wf', pf', r1, r2, r3, r4, r5, r6, r7⟩ := m179 (wn := wn) (pn := pn) (on := on) (wf := wf) (pf := pf) H hF hk T1 T2 T3 T4
      exact ⟨v, true, vl', _, _, _, wf', pf', q1, fun _ => rfl, fun _ => r3.1, ⟨r4, r5, r6, r1⟩, r7⟩
    · obtain ⟨a, b, T⟩ := jx_tn_cf (t := t) (n := n) (F := F) (mn := mn1) j (q4.2.2.1 (by omega) j)
      obtain ⟨k, hk⟩ := jx_rc_e q2 (jx_en_1 T)
      have hk := hk 0
      obtain ⟨vl', wf', pf', r1, r2, r3, r4, r5, r6, r7⟩ := m179 (wn := wn) (pn := pn) (on := on) (wf := wf) (pf := pf) H hF hk T1 T2 T3 T4
      exact ⟨v, false, vl', _, _, _, wf', pf', q1, fun q => by
        rw [q] at j
        exact absurd j (by decide), fun q => absurd q (by decide), ⟨r4, r5, r6, r1⟩, r7⟩
  · intro q e
    subst e
    obtain ⟨σ1, ws1, ps1, e1, k, hk⟩ := Q
    have hk := hk 0
    obtain ⟨vl', wf', pf', r1, r2, r3, r4, r5, r6, r7⟩ := m179 (wn := wn) (pn := pn) (on := on) (wf := wf) (pf := pf) H hF hk T1 T2 T3 T4
    rw [← e1]
    exact ⟨_, _, vl', _, _, _, wf', pf', r7⟩
/-- one of the three -/
theorem m172T (H : jx_NO N t n bs) (hF : ∀ x : Int32, 0 ≤ x.toInt → x.toInt ≤ 5 → F x = ji_gI N 14 x.toInt.toNat) (hi : i < 3) (T : jx_TK t n σ vl) {y0 : Int32} : (∀ s σ', jx_r1 t n i σ = .inl (s, σ') → ∃ v vl' wn' pn' on' wf' pf', jx_vw F s v ∧ jx_TK t n σ' vl' ∧ ∀ d o, ji_Ev (ji_CL (d + 5)) 172 30 (jx_NM (ji_sI N 15 i v) (Int32.ofNat σ'.2.2.2) (jx_nk σ'.1) (Int32.ofNat σ'.2.2.1) vl' wn' pn' on' wf' pf') [some (.ref 0), some (.int y0), some (.int (Int32.ofNat (i + 1)))] [] o → ji_Ev (ji_CL (d + 5)) 172 30 (jx_NM N (Int32.ofNat σ.2.2.2) (jx_nk σ.1) (Int32.ofNat σ.2.2.1) vl wn pn on wf pf) [some (.ref 0), some (.int y0), some (.int (Int32.ofNat i))] [] o) ∧ (∀ q, jx_r1 t n i σ = .inr q → ∃ ta' tk' vl' wn' pn' on' wf' pf', ∀ d, ji_Ev (ji_CL (d + 5)) 172 30 (jx_NM N (Int32.ofNat σ.2.2.2) (jx_nk σ.1) (Int32.ofNat σ.2.2.1) vl wn pn on wf pf) [some (.ref 0), some (.int y0), some (.int (Int32.ofNat i))] [] (some (.int 0), jx_NM N ta' tk' (Int32.ofNat q) vl' wn' pn' on' wf' pf')) := by
  have hN := H.1
  have e3 : (3 : Int32).toInt = 3 := rfl
  have ei := vi_nn (n := i) (by omega)
  have g : Int32.ofNat i < 3 := by rw [vi_lt]; omega
  have K : ∀ d, ji_CL (d + 5) 178 [.ref 0, .int (Int32.ofNat i)] (jx_NM N (Int32.ofNat σ.2.2.2) (jx_nk σ.1) (Int32.ofNat σ.2.2.1) vl wn pn on wf pf) = some (some (.int (ji_b (jx_nk σ.1 = 3 ∧ vl = Int32.ofNat i))), _) := fun d => m178 (d := d + 4) (M := jx_NM N (Int32.ofNat σ.2.2.2) (jx_nk σ.1) (Int32.ofNat σ.2.2.1) vl wn pn on wf pf) (mk_0 hN)
  have y := jx_key (k := i) T.2.2.1 T.2.2.2 (by omega)
  unfold jx_r1
  by_cases h1 : σ.1 = 2000 + Int32.ofNat i
  case neg =>
    rw [if_neg h1]
    refine ⟨fun s σ' e => (by cases e), fun q e => ?_⟩
    cases e
    refine ⟨Int32.ofNat σ.2.2.2, jx_nk σ.1, vl, wn, pn, on, wf, pf, fun d => ?_⟩
    simp only [s172_0, s172_1, s172_4, s172_5, s172_6, s172_9, s172_10, s172_11, s172_14, q172_15, s172_16, s172_19, s172_20, s172_21, s172_24, q172_25, s172_28, s172_29, s172_30, s172_31, s172_32, s172_35, s172_36, q172_37, s172_40, s172_43, s172_44, s172_45, q172_46, s172_49, q172_50, s172_53, s172_56, s172_57, s172_60, s172_62, s172_65, s172_66, s172_67, s172_68, s172_71, s172_72, s172_73, s172_76, q172_77, q172_78, s172_79, q172_80, q172_83, s172_89, s172_90, s172_93, s172_96, s172_97, s172_100, s172_101, xIL_1, xIS_1, xQL_2, xQL_3, xAN_1, xAN_2, xAN_3, xCP_1, xC_s, xNC_I, ji_oI1, ji_oIm, kd_sC, gR_sC, gL_sC, ji_rv_s, ji_tl_s, ji_tl_n, ji_s1, ji_s2, ji_kl, List.getD_cons_zero, List.getD_cons_succ, List.set_cons_zero, List.set_cons_succ, List.length_cons, List.length_nil, ji_b_0, ji_b_1, ji_n0, ji_n1, ji_rcb_iff, ji_ok8_0, ji_ok8_1, ji_ok8_2, ji_ok8_3, ji_ok8_4, kd_sI, kd_sL, kd_sR, kd_cp, gR_sI, gR_sL, gR_cp, gL_sI, gL_sR, gL_cp, gI_sL, gI_sR, gI_sI, gL_sL, Nat.reduceEqDiff, false_and, and_false, true_and, and_true, Nat.reduceAdd, Nat.reduceLT, Nat.reduceSub, Int32.reduceLT, Int32.reduceAdd, not_false_eq_true, not_true_eq_false, and_self, ji_b_n, if_true, if_false, ↓reduceIte, cz_m100, cz_m19, cz_m18, cz_m17, cz_m16, cz_m15, cz_m14, cz_m13, cz_m12, cz_m11, cz_m4, cz_m3, cz_m2, cz_m1, cz_1, cz_2, cz_3, cz_4, cz_5, cz_6, cz_7, cz_8, cz_9, cz_10, cz_11, cz_12, cz_13, cz_14, cz_15, cz_16, cz_20, cz_24, cz_30, cz_32, cz_33, cz_38, cz_40, cz_41, cz_42, cz_43, cz_45, cz_48, cz_57, cz_59, cz_60, cz_61, cz_63, cz_64, cz_72, cz_96, cz_97, cz_99, cz_100, cz_122, cz_124, cz_126, cz_160, cz_161, cz_168, cz_200, cz_255, cz_300, cz_960, cz_999, cz_1000, cz_1001, cz_1002, cz_1003, cz_1120, cz_2000, cz_2003, cz_2004, cz_2005, cz_3999, cz_9999, cz_14640, jx_NM_kd, jx_NM_gR, mk_0 hN, g, K, y, h1]
  rw [if_pos h1]
  obtain ⟨v1, n1, S⟩ := jx_st (tk := jx_nk σ.1) (ts := Int32.ofNat σ.2.2.1) (vl := vl) (wn := wn) (pn := pn) (on := on) (wf := wf) (pf := pf) H T.1
  have S : ∀ d, ji_CL (d + 5) 173 [.ref 0] (jx_NM N (Int32.ofNat σ.2.2.2) (jx_nk σ.1) (Int32.ofNat σ.2.2.1) vl wn pn on wf pf) = _ := fun d => S (d + 2)
  have T1 := jx_TK_av (t := t) T.1 n1
  have ne := jx_fuel (t := t) (n := n) 4000 5 0 [] (jx_av t n σ) (Or.inl (by omega)) T1.1 (fun _ => rfl) (by
    have := H.2.2.2.1
    have : jx_rk 5 = 6 := rfl
    omega)
  cases hp : jx_p t n 4000 5 0 [] (jx_av t n σ) with
  | none => exact absurd hp ne
  | some r =>
    obtain ⟨A1, A2⟩ := jx_take (wn := wn) (pn := pn) (on := on) (wf := wf) (pf := pf) H hF T1 hp
    cases r with
    | inl q =>
      obtain ⟨s2, σ2⟩ := q
      obtain ⟨v, b, vl', wn', pn', on', wf', pf', q1, q2, q3, q4, q5⟩ := A1 s2 σ2 rfl
      dsimp only
      have c59 := jx_nk_s σ2.1 q4.2.2.1 59 (by decide)
      by_cases h2 : σ2.1 = 59
      · rw [if_pos h2]
        refine ⟨fun s σ' e => ?_, fun q e => (by cases e)⟩
        cases e
        have hb := q2 h2
        subst hb
        have q3 := q3 rfl
        obtain ⟨v3, n3, S3⟩ := jx_st (tk := jx_nk σ2.1) (ts := Int32.ofNat σ2.2.2.1) (vl := vl') (wn := wn') (pn := pn') (on := on') (wf := wf') (pf := pf') (jx_NO_15 (i := i) (v := v) H) q4.1
        have S3 : ∀ d, ji_CL (d + 5) 173 [.ref 0] (jx_NM (ji_sI N 15 i v) (Int32.ofNat σ2.2.2.2) (jx_nk σ2.1) (Int32.ofNat σ2.2.2.1) vl' wn' pn' on' wf' pf') = _ := fun d => S3 (d + 2)
        refine ⟨v, v3, wn', pn', on', wf', pf', q1, jx_TK_av q4.1 n3, fun d o G => ?_⟩
        have z1 : vp_in (Int32.ofNat i) 3 := vi_in.mpr ⟨by omega, by omega⟩
        have z2 : (Int32.ofNat i).toNatClampNeg = i := by rw [vi_nat, ei]; exact Int.toNat_natCast _
        have z3 : vp_in (0 : Int32) 161 := vi_in.mpr ⟨by decide, by decide⟩
        have z4 : (0 : Int32).toNatClampNeg = 0 := rfl
        have p1 := jx_o1p (k := i) (by omega)
        have p2 : (Int32.ofInt 1) = 1 := rfl
        simp only [s172_0, s172_1, s172_4, s172_5, s172_6, s172_9, s172_10, s172_11, s172_14, q172_15, s172_16, s172_19, s172_20, s172_21, s172_24, q172_25, s172_28, s172_29, s172_30, s172_31, s172_32, s172_35, s172_36, q172_37, s172_40, s172_43, s172_44, s172_45, q172_46, s172_49, q172_50, s172_53, s172_56, s172_57, s172_60, s172_62, s172_65, s172_66, s172_67, s172_68, s172_71, s172_72, s172_73, s172_76, q172_77, q172_78, s172_79, q172_80, q172_83, s172_89, s172_90, s172_93, s172_96, s172_97, s172_100, s172_101, xIL_1, xIS_1, xQL_2, xQL_3, xAN_1, xAN_2, xAN_3, xCP_1, xC_s, xNC_I, ji_oI1, ji_oIm, kd_sC, gR_sC, gL_sC, ji_rv_s, ji_tl_s, ji_tl_n, ji_s1, ji_s2, ji_kl, List.getD_cons_zero, List.getD_cons_succ, List.set_cons_zero, List.set_cons_succ, List.length_cons, List.length_nil, ji_b_0, ji_b_1, ji_n0, ji_n1, ji_rcb_iff, ji_ok8_0, ji_ok8_1, ji_ok8_2, ji_ok8_3, ji_ok8_4, kd_sI, kd_sL, kd_sR, kd_cp, gR_sI, gR_sL, gR_cp, gL_sI, gL_sR, gL_cp, gI_sL, gI_sR, gI_sI, gL_sL, Nat.reduceEqDiff, false_and, and_false, true_and, and_true, Nat.reduceAdd, Nat.reduceLT, Nat.reduceSub, Int32.reduceLT, Int32.reduceAdd, not_false_eq_true, not_true_eq_false, and_self, ji_b_n, if_true, if_false, ↓reduceIte, cz_m100, cz_m19, cz_m18, cz_m17, cz_m16, cz_m15, cz_m14, cz_m13, cz_m12, cz_m11, cz_m4, cz_m3, cz_m2, cz_m1, cz_1, cz_2, cz_3, cz_4, cz_5, cz_6, cz_7, cz_8, cz_9, cz_10, cz_11, cz_12, cz_13, cz_14, cz_15, cz_16, cz_20, cz_24, cz_30, cz_32, cz_33, cz_38, cz_40, cz_41, cz_42, cz_43, cz_45, cz_48, cz_57, cz_59, cz_60, cz_61, cz_63, cz_64, cz_72, cz_96, cz_97, cz_99, cz_100, cz_122, cz_124, cz_126, cz_160, cz_161, cz_168, cz_200, cz_255, cz_300, cz_960, cz_999, cz_1000, cz_1001, cz_1002, cz_1003, cz_1120, cz_2000, cz_2003, cz_2004, cz_2005, cz_3999, cz_9999, cz_14640, jx_NM_kd, jx_NM_gR, mk_0 hN, mk_13 hN, mk_15 hN, mr_27 hN, mr_32 hN, jx_NM_tk, g, K, y, eq_true h1, S, q5, jx_bi_t, c59, eq_true h2, jx_NM_13, z1, z2, z3, z4, q3, jx_NW_15, S3, p1, p2]
        simp only [s172_86]
        exact G
      · rw [if_neg h2]
        refine ⟨fun s σ' e => (by cases e), fun q e => ?_⟩
        cases e
        refine ⟨Int32.ofNat σ2.2.2.2, jx_nk σ2.1, vl', wn', pn', on', wf', pf', fun d => ?_⟩
        cases b with
        | true =>
          simp only [s172_0, s172_1, s172_4, s172_5, s172_6, s172_9, s172_10, s172_11, s172_14, q172_15, s172_16, s172_19, s172_20, s172_21, s172_24, q172_25, s172_28, s172_29, s172_30, s172_31, s172_32, s172_35, s172_36, q172_37, s172_40, s172_43, s172_44, s172_45, q172_46, s172_49, q172_50, s172_53, s172_56, s172_57, s172_60, s172_62, s172_65, s172_66, s172_67, s172_68, s172_71, s172_72, s172_73, s172_76, q172_77, q172_78, s172_79, q172_80, q172_83, s172_89, s172_90, s172_93, s172_96, s172_97, s172_100, s172_101, xIL_1, xIS_1, xQL_2, xQL_3, xAN_1, xAN_2, xAN_3, xCP_1, xC_s, xNC_I, ji_oI1, ji_oIm, kd_sC, gR_sC, gL_sC, ji_rv_s, ji_tl_s, ji_tl_n, ji_s1, ji_s2, ji_kl, List.getD_cons_zero, List.getD_cons_succ, List.set_cons_zero, List.set_cons_succ, List.length_cons, List.length_nil, ji_b_0, ji_b_1, ji_n0, ji_n1, ji_rcb_iff, ji_ok8_0, ji_ok8_1, ji_ok8_2, ji_ok8_3, ji_ok8_4, kd_sI, kd_sL, kd_sR, kd_cp, gR_sI, gR_sL, gR_cp, gL_sI, gL_sR, gL_cp, gI_sL, gI_sR, gI_sI, gL_sL, Nat.reduceEqDiff, false_and, and_false, true_and, and_true, Nat.reduceAdd, Nat.reduceLT, Nat.reduceSub, Int32.reduceLT, Int32.reduceAdd, not_false_eq_true, not_true_eq_false, and_self, ji_b_n, if_true, if_false, ↓reduceIte, cz_m100, cz_m19, cz_m18, cz_m17, cz_m16, cz_m15, cz_m14, cz_m13, cz_m12, cz_m11, cz_m4, cz_m3, cz_m2, cz_m1, cz_1, cz_2, cz_3, cz_4, cz_5, cz_6, cz_7, cz_8, cz_9, cz_10, cz_11, cz_12, cz_13, cz_14, cz_15, cz_16, cz_20, cz_24, cz_30, cz_32, cz_33, cz_38, cz_40, cz_41, cz_42, cz_43, cz_45, cz_48, cz_57, cz_59, cz_60, cz_61, cz_63, cz_64, cz_72, cz_96, cz_97, cz_99, cz_100, cz_122, cz_124, cz_126, cz_160, cz_161, cz_168, cz_200, cz_255, cz_300, cz_960, cz_999, cz_1000, cz_1001, cz_1002, cz_1003, cz_1120, cz_2000, cz_2003, cz_2004, cz_2005, cz_3999, cz_9999, cz_14640, jx_NM_kd, jx_NM_gR, mk_0 hN, jx_NM_tk, g, K, y, eq_true h1, S, q5, jx_bi_t, c59, h2]
        | false =>
          simp only [s172_0, s172_1, s172_4, s172_5, s172_6, s172_9, s172_10, s172_11, s172_14, q172_15, s172_16, s172_19, s172_20, s172_21, s172_24, q172_25, s172_28, s172_29, s172_30, s172_31, s172_32, s172_35, s172_36, q172_37, s172_40, s172_43, s172_44, s172_45, q172_46, s172_49, q172_50, s172_53, s172_56, s172_57, s172_60, s172_62, s172_65, s172_66, s172_67, s172_68, s172_71, s172_72, s172_73, s172_76, q172_77, q172_78, s172_79, q172_80, q172_83, s172_89, s172_90, s172_93, s172_96, s172_97, s172_100, s172_101, xIL_1, xIS_1, xQL_2, xQL_3, xAN_1, xAN_2, xAN_3, xCP_1, xC_s, xNC_I, ji_oI1, ji_oIm, kd_sC, gR_sC, gL_sC, ji_rv_s, ji_tl_s, ji_tl_n, ji_s1, ji_s2, ji_kl, List.getD_cons_zero, List.getD_cons_succ, List.set_cons_zero, List.set_cons_succ, List.length_cons, List.length_nil, ji_b_0, ji_b_1, ji_n0, ji_n1, ji_rcb_iff, ji_ok8_0, ji_ok8_1, ji_ok8_2, ji_ok8_3, ji_ok8_4, kd_sI, kd_sL, kd_sR, kd_cp, gR_sI, gR_sL, gR_cp, gL_sI, gL_sR, gL_cp, gI_sL, gI_sR, gI_sI, gL_sL, Nat.reduceEqDiff, false_and, and_false, true_and, and_true, Nat.reduceAdd, Nat.reduceLT, Nat.reduceSub, Int32.reduceLT, Int32.reduceAdd, not_false_eq_true, not_true_eq_false, and_self, ji_b_n, if_true, if_false, ↓reduceIte, cz_m100, cz_m19, cz_m18, cz_m17, cz_m16, cz_m15, cz_m14, cz_m13, cz_m12, cz_m11, cz_m4, cz_m3, cz_m2, cz_m1, cz_1, cz_2, cz_3, cz_4, cz_5, cz_6, cz_7, cz_8, cz_9, cz_10, cz_11, cz_12, cz_13, cz_14, cz_15, cz_16, cz_20, cz_24, cz_30, cz_32, cz_33, cz_38, cz_40, cz_41, cz_42, cz_43, cz_45, cz_48, cz_57, cz_59, cz_60, cz_61, cz_63, cz_64, cz_72, cz_96, cz_97, cz_99, cz_100, cz_122, cz_124, cz_126, cz_160, cz_161, cz_168, cz_200, cz_255, cz_300, cz_960, cz_999, cz_1000, cz_1001, cz_1002, cz_1003, cz_1120, cz_2000, cz_2003, cz_2004, cz_2005, cz_3999, cz_9999, cz_14640, jx_NM_kd, jx_NM_gR, mk_0 hN, jx_NM_tk, g, K, y, eq_true h1, S, q5, jx_bi_f]
    | inr q =>
      dsimp only
      refine ⟨fun s σ' e => (by cases e), fun q' e => ?_⟩
      cases e
      obtain ⟨ta', tk', vl', wn', pn', on', wf', pf', B⟩ := A2 q rfl
      refine ⟨ta', tk', vl', wn', pn', on', wf', pf', fun d => ?_⟩
      simp only [s172_0, s172_1, s172_4, s172_5, s172_6, s172_9, s172_10, s172_11, s172_14, q172_15, s172_16, s172_19, s172_20, s172_21, s172_24, q172_25, s172_28, s172_29, s172_30, s172_31, s172_32, s172_35, s172_36, q172_37, s172_40, s172_43, s172_44, s172_45, q172_46, s172_49, q172_50, s172_53, s172_56, s172_57, s172_60, s172_62, s172_65, s172_66, s172_67, s172_68, s172_71, s172_72, s172_73, s172_76, q172_77, q172_78, s172_79, q172_80, q172_83, s172_89, s172_90, s172_93, s172_96, s172_97, s172_100, s172_101, xIL_1, xIS_1, xQL_2, xQL_3, xAN_1, xAN_2, xAN_3, xCP_1, xC_s, xNC_I, ji_oI1, ji_oIm, kd_sC, gR_sC, gL_sC, ji_rv_s, ji_tl_s, ji_tl_n, ji_s1, ji_s2, ji_kl, List.getD_cons_zero, List.getD_cons_succ, List.set_cons_zero, List.set_cons_succ, List.length_cons, List.length_nil, ji_b_0, ji_b_1, ji_n0, ji_n1, ji_rcb_iff, ji_ok8_0, ji_ok8_1, ji_ok8_2, ji_ok8_3, ji_ok8_4, kd_sI, kd_sL, kd_sR, kd_cp, gR_sI, gR_sL, gR_cp, gL_sI, gL_sR, gL_cp, gI_sL, gI_sR, gI_sI, gL_sL, Nat.reduceEqDiff, false_and, and_false, true_and, and_true, Nat.reduceAdd, Nat.reduceLT, Nat.reduceSub, Int32.reduceLT, Int32.reduceAdd, not_false_eq_true, not_true_eq_false, and_self, ji_b_n, if_true, if_false, ↓reduceIte, cz_m100, cz_m19, cz_m18, cz_m17, cz_m16, cz_m15, cz_m14, cz_m13, cz_m12, cz_m11, cz_m4, cz_m3, cz_m2, cz_m1, cz_1, cz_2, cz_3, cz_4, cz_5, cz_6, cz_7, cz_8, cz_9, cz_10, cz_11, cz_12, cz_13, cz_14, cz_15, cz_16, cz_20, cz_24, cz_30, cz_32, cz_33, cz_38, cz_40, cz_41, cz_42, cz_43, cz_45, cz_48, cz_57, cz_59, cz_60, cz_61, cz_63, cz_64, cz_72, cz_96, cz_97, cz_99, cz_100, cz_122, cz_124, cz_126, cz_160, cz_161, cz_168, cz_200, cz_255, cz_300, cz_960, cz_999, cz_1000, cz_1001, cz_1002, cz_1003, cz_1120, cz_2000, cz_2003, cz_2004, cz_2005, cz_3999, cz_9999, cz_14640, jx_NM_kd, jx_NM_gR, mk_0 hN, jx_NM_tk, g, K, y, eq_true h1, S, B]
/-- goes -/
theorem m172 (hM : ji_MF M) (hi : i ≤ 6) (hl : ji_gI M 11 i = Int32.ofNat n) (hn : n ≤ 160) (ht : ∀ k, k < n → ji_gI M 10 (160 * i + k) = t k ∧ ji_bt (t k) (-128) 127) (hF : ∀ x : Int32, 0 ≤ x.toInt → x.toInt ≤ 5 → F x = ji_gI M 14 x.toInt.toNat) : (∀ a b c, jx_rd t n = .inl (a, b, c) → ∃ M', jx_oN M M' ∧ jx_vw F a (ji_gI M' 15 0) ∧ jx_vw F b (ji_gI M' 15 1) ∧ jx_vw F c (ji_gI M' 15 2) ∧ ∀ d, ji_CL (d + 6) 172 [.ref 0, .int (Int32.ofNat i)] M = some (some (.int 1), M')) ∧ (∀ q, jx_rd t n = .inr q → ∃ M', jx_oN M M' ∧ ji_gI M' 0 24 = Int32.ofNat q ∧ ∀ d, ji_CL (d + 6) 172 [.ref 0, .int (Int32.ofNat i)] M = some (some (.int 0), M')) := by
  obtain ⟨N, hN⟩ : ∃ N, N = ji_sI (ji_sI M 0 20 (Int32.ofNat (160 * i))) 0 21 (Int32.ofNat n) := ⟨_, rfl⟩
  have oN : jx_oN M N := by rw [hN]; exact jx_oN_sI (jx_oN_sI jx_oN_r rfl) rfl
  have mN := jx_oN_MF oN hM
  have H : jx_NO N t n (160 * i) := by
    refine ⟨mN, by rw [hN]; rfl, by rw [hN]; rfl, hn, by omega, fun k hk => ?_⟩
    rw [hN]
    exact ht k hk
  have hF2 : ∀ x : Int32, 0 ≤ x.toInt → x.toInt ≤ 5 → F x = ji_gI N 14 x.toInt.toNat := fun x h1 h2 => by rw [hN]; exact hF x h1 h2
  have e1 := vi_nn (n := i) (by omega)
  have e2 := vi_nn (n := 160 * i) (by omega)
  have e160 : (160 : Int32).toInt = 160 := rfl
  have em : 160 * Int32.ofNat i = Int32.ofNat (160 * i) := by
    rw [vi_eq, vi_mul (by rw [e160]; omega) (by rw [e160]; omega), e160]; omega
  have z1 : vp_in (Int32.ofNat i) 7 := vi_in.mpr ⟨by omega, by omega⟩
  have z2 : (Int32.ofNat i).toNatClampNeg = i := by rw [vi_nat, e1]; exact Int.toNat_natCast _
  obtain ⟨σ, hσ⟩ : ∃ σ, σ = jx_tok t n 0 := ⟨_, rfl⟩
  obtain ⟨vl, hvl, S⟩ := m173 (p := 0) (tk := ji_gI N 0 23) (ts := ji_gI N 0 24) (vl := ji_gI N 0 25) (wn := ji_gI N 0 29) (pn := ji_gI N 0 30) (on := ji_gI N 0 31) (wf := ji_gI N 12) (pf := ji_gI N 13) H (Nat.zero_le _)
  rw [← hσ] at hvl S
  have T0 : jx_TK t n σ vl := by
    have w0 : jx_wf n ((1000, 0, 0, 0) : jx_T) := ⟨Nat.le_refl _, Nat.zero_le _, fun q => absurd rfl q⟩
    have := jx_wf_av (t := t) w0
    have e : jx_av t n ((1000, 0, 0, 0) : jx_T) = σ := hσ.symm
    rw [e] at this
    refine ⟨this.1, ?_, ?_, hvl⟩
    · rw [hσ]; exact jx_wv_tok (Nat.zero_le _)
    · rw [hσ]; exact jx_tok_c
  have st : ∀ o, (∀ d, ji_Ev (ji_CL (d + 5)) 172 30 (jx_NM N (Int32.ofNat σ.2.2.2) (jx_nk σ.1) (Int32.ofNat σ.2.2.1) vl (ji_gI N 0 29) (ji_gI N 0 30) (ji_gI N 0 31) (ji_gI N 12) (ji_gI N 13)) [some (.ref 0), some (.int (Int32.ofNat i)), some (.int (Int32.ofNat 0))] [] o) → ∀ d, ji_CL (d + 6) 172 [.ref 0, .int (Int32.ofNat i)] M = some o := by
    intro o G d
    have G := G d
    have S : ji_CL (d + 5) 173 [.ref 0] (jx_NM N 0 (ji_gI N 0 23) (ji_gI N 0 24) (ji_gI N 0 25) (ji_gI N 0 29) (ji_gI N 0 30) (ji_gI N 0 31) (ji_gI N 12) (ji_gI N 13)) = _ := S (d + 2)
    have nid : ji_sI N 0 22 0 = jx_NM N 0 (ji_gI N 0 23) (ji_gI N 0 24) (ji_gI N 0 25) (ji_gI N 0 29) (ji_gI N 0 30) (ji_gI N 0 31) (ji_gI N 12) (ji_gI N 13) := by
      rw [← jx_NW_ta (ta := ji_gI N 0 22), jx_NM_id mN]
    have l11 : ji_gI (ji_sI M 0 20 (Int32.ofNat (160 * i))) 11 i = Int32.ofNat n := hl
    apply en_172
    simp only [s172_0, s172_1, s172_4, s172_5, s172_6, s172_9, s172_10, s172_11, s172_14, q172_15, s172_16, s172_19, s172_20, s172_21, s172_24, q172_25, s172_28, s172_29, xIL_1, xIS_1, xQL_2, xQL_3, xAN_1, xAN_2, xAN_3, xCP_1, xC_s, xNC_I, ji_oI1, ji_oIm, kd_sC, gR_sC, gL_sC, ji_rv_s, ji_tl_s, ji_tl_n, ji_s1, ji_s2, ji_kl, List.getD_cons_zero, List.getD_cons_succ, List.set_cons_zero, List.set_cons_succ, List.length_cons, List.length_nil, ji_b_0, ji_b_1, ji_n0, ji_n1, ji_rcb_iff, ji_ok8_0, ji_ok8_1, ji_ok8_2, ji_ok8_3, ji_ok8_4, kd_sI, kd_sL, kd_sR, kd_cp, gR_sI, gR_sL, gR_cp, gL_sI, gL_sR, gL_cp, gI_sL, gI_sR, gI_sI, gL_sL, Nat.reduceEqDiff, false_and, and_false, true_and, and_true, Nat.reduceAdd, Nat.reduceLT, Nat.reduceSub, Int32.reduceLT, Int32.reduceAdd, not_false_eq_true, not_true_eq_false, and_self, ji_b_n, if_true, if_false, ↓reduceIte, cz_m100, cz_m19, cz_m18, cz_m17, cz_m16, cz_m15, cz_m14, cz_m13, cz_m12, cz_m11, cz_m4, cz_m3, cz_m2, cz_m1, cz_1, cz_2, cz_3, cz_4, cz_5, cz_6, cz_7, cz_8, cz_9, cz_10, cz_11, cz_12, cz_13, cz_14, cz_15, cz_16, cz_20, cz_24, cz_30, cz_32, cz_33, cz_38, cz_40, cz_41, cz_42, cz_43, cz_45, cz_48, cz_57, cz_59, cz_60, cz_61, cz_63, cz_64, cz_72, cz_96, cz_97, cz_99, cz_100, cz_122, cz_124, cz_126, cz_160, cz_161, cz_168, cz_200, cz_255, cz_300, cz_960, cz_999, cz_1000, cz_1001, cz_1002, cz_1003, cz_1120, cz_2000, cz_2003, cz_2004, cz_2005, cz_3999, cz_9999, cz_14640, -gI_sI, jx_NM_kd, mk_0 hM, mk_0 mN, mk_11 hM, mr_19 hM, em, z1, z2, l11, ← hN, nid, S]
    exact G
  have ih1 := m172T (i := 0) (y0 := Int32.ofNat i) (wn := ji_gI N 0 29) (pn := ji_gI N 0 30) (on := ji_gI N 0 31) (wf := ji_gI N 12) (pf := ji_gI N 13) H hF2 (by decide) T0
  have fin : ∀ {N' : ji_M} {q : Nat} {ta' tk' vl' wn' pn' on' : Int32} {wf' pf' : ji_F}, jx_oN M N' → (∀ d, ji_CL (d + 6) 172 [.ref 0, .int (Int32.ofNat i)] M = some (some (.int 0), jx_NM N' ta' tk' (Int32.ofNat q) vl' wn' pn' on' wf' pf')) → ∃ M', jx_oN M M' ∧ ji_gI M' 0 24 = Int32.ofNat q ∧ ∀ d, ji_CL (d + 6) 172 [.ref 0, .int (Int32.ofNat i)] M = some (some (.int 0), M') := fun h1 h2 => ⟨_, jx_oN_t h1 jx_NM_off, rfl, h2⟩
  unfold jx_rd
  rw [← hσ]
  cases hr1 : jx_r1 t n 0 σ with
  | inr q =>
    refine ⟨fun a b c e => (by cases e), fun q' e => ?_⟩
    have e : q = q' := Sum.inr.inj e
    subst e
    obtain ⟨ta', tk', vl', wn', pn', on', wf', pf', B⟩ := ih1.2 q hr1
    exact fin oN (st _ B)
  | inl q =>
    obtain ⟨a1, σ1⟩ := q
    obtain ⟨v1, vl1, wn1, pn1, on1, wf1, pf1, w1, T1, B1⟩ := ih1.1 a1 σ1 hr1
    have ih2 := m172T (i := 1) (y0 := Int32.ofNat i) (wn := wn1) (pn := pn1) (on := on1) (wf := wf1) (pf := pf1) (jx_NO_15 (i := 0) (v := v1) H) hF2 (by decide) T1
    dsimp only [jx_b2]
    cases hr2 : jx_r1 t n 1 σ1 with
    | inr q =>
      refine ⟨fun a b c e => (by cases e), fun q' e => ?_⟩
      have e : q = q' := Sum.inr.inj e
      subst e
      obtain ⟨ta', tk', vl', wn', pn', on', wf', pf', B⟩ := ih2.2 q hr2
      exact fin (jx_oN_sI oN rfl) (st _ (fun d => B1 d _ (B d)))
    | inl q =>
      obtain ⟨a2, σ2⟩ := q
      obtain ⟨v2, vl2, wn2, pn2, on2, wf2, pf2, w2, T2, B2⟩ := ih2.1 a2 σ2 hr2
      have ih3 := m172T (i := 2) (y0 := Int32.ofNat i) (wn := wn2) (pn := pn2) (on := on2) (wf := wf2) (pf := pf2) (jx_NO_15 (i := 1) (v := v2) (jx_NO_15 (i := 0) (v := v1) H)) hF2 (by decide) T2
      dsimp only [jx_b2]
      cases hr3 : jx_r1 t n 2 σ2 with
      | inr q =>
        refine ⟨fun a b c e => (by cases e), fun q' e => ?_⟩
        have e : q = q' := Sum.inr.inj e
        subst e
        obtain ⟨ta', tk', vl', wn', pn', on', wf', pf', B⟩ := ih3.2 q hr3
        exact fin (jx_oN_sI (jx_oN_sI oN rfl) rfl) (st _ (fun d => B1 d _ (B2 d _ (B d))))
      | inl q =>
        obtain ⟨a3, σ3⟩ := q
        obtain ⟨v3, vl3, wn3, pn3, on3, wf3, pf3, w3, T3, B3⟩ := ih3.1 a3 σ3 hr3
        dsimp only [jx_b2]
        have g3 : ¬ Int32.ofNat (2 + 1) < 3 := by decide
        have c0 := jx_nk_0 σ3.1 T3.2.2.1
        by_cases hE : σ3.1 = 1000
        · rw [if_pos hE]
          refine ⟨fun a b c e => ?_, fun q' e => (by cases e)⟩
          cases e
          refine ⟨jx_NM (ji_sI (ji_sI (ji_sI N 15 0 v1) 15 1 v2) 15 2 v3) (Int32.ofNat σ3.2.2.2) (jx_nk σ3.1) (Int32.ofNat σ3.2.2.1) vl3 wn3 pn3 on3 wf3 pf3, jx_oN_t (jx_oN_sI (jx_oN_sI (jx_oN_sI oN rfl) rfl) rfl) jx_NM_off, w1, w2, w3, st _ (fun d => B1 d _ (B2 d _ (B3 d _ ?_)))⟩
          simp only [s172_30, s172_31, s172_32, s172_89, s172_90, s172_93, s172_96, s172_97, s172_101, xIL_1, xIS_1, xQL_2, xQL_3, xAN_1, xAN_2, xAN_3, xCP_1, xC_s, xNC_I, ji_oI1, ji_oIm, kd_sC, gR_sC, gL_sC, ji_rv_s, ji_tl_s, ji_tl_n, ji_s1, ji_s2, ji_kl, List.getD_cons_zero, List.getD_cons_succ, List.set_cons_zero, List.set_cons_succ, List.length_cons, List.length_nil, ji_b_0, ji_b_1, ji_n0, ji_n1, ji_rcb_iff, ji_ok8_0, ji_ok8_1, ji_ok8_2, ji_ok8_3, ji_ok8_4, kd_sI, kd_sL, kd_sR, kd_cp, gR_sI, gR_sL, gR_cp, gL_sI, gL_sR, gL_cp, gI_sL, gI_sR, gI_sI, gL_sL, Nat.reduceEqDiff, false_and, and_false, true_and, and_true, Nat.reduceAdd, Nat.reduceLT, Nat.reduceSub, Int32.reduceLT, Int32.reduceAdd, not_false_eq_true, not_true_eq_false, and_self, ji_b_n, if_true, if_false, ↓reduceIte, cz_m100, cz_m19, cz_m18, cz_m17, cz_m16, cz_m15, cz_m14, cz_m13, cz_m12, cz_m11, cz_m4, cz_m3, cz_m2, cz_m1, cz_1, cz_2, cz_3, cz_4, cz_5, cz_6, cz_7, cz_8, cz_9, cz_10, cz_11, cz_12, cz_13, cz_14, cz_15, cz_16, cz_20, cz_24, cz_30, cz_32, cz_33, cz_38, cz_40, cz_41, cz_42, cz_43, cz_45, cz_48, cz_57, cz_59, cz_60, cz_61, cz_63, cz_64, cz_72, cz_96, cz_97, cz_99, cz_100, cz_122, cz_124, cz_126, cz_160, cz_161, cz_168, cz_200, cz_255, cz_300, cz_960, cz_999, cz_1000, cz_1001, cz_1002, cz_1003, cz_1120, cz_2000, cz_2003, cz_2004, cz_2005, cz_3999, cz_9999, cz_14640, jx_NM_kd, mk_0 mN, jx_NM_tk, g3, c0, eq_true hE]
        · rw [if_neg hE]
          refine ⟨fun a b c e => (by cases e), fun q' e => ?_⟩
          have e : σ3.2.2.1 = q' := Sum.inr.inj e
          subst e
          refine fin (N' := ji_sI (ji_sI (ji_sI N 15 0 v1) 15 1 v2) 15 2 v3) (jx_oN_sI (jx_oN_sI (jx_oN_sI oN rfl) rfl) rfl) (ta' := Int32.ofNat σ3.2.2.2) (tk' := jx_nk σ3.1) (vl' := vl3) (wn' := wn3) (pn' := pn3) (on' := on3) (wf' := wf3) (pf' := pf3) (st _ (fun d => B1 d _ (B2 d _ (B3 d _ ?_))))
          simp only [s172_30, s172_31, s172_32, s172_89, s172_90, s172_93, s172_100, s172_101, xIL_1, xIS_1, xQL_2, xQL_3, xAN_1, xAN_2, xAN_3, xCP_1, xC_s, xNC_I, ji_oI1, ji_oIm, kd_sC, gR_sC, gL_sC, ji_rv_s, ji_tl_s, ji_tl_n, ji_s1, ji_s2, ji_kl, List.getD_cons_zero, List.getD_cons_succ, List.set_cons_zero, List.set_cons_succ, List.length_cons, List.length_nil, ji_b_0, ji_b_1, ji_n0, ji_n1, ji_rcb_iff, ji_ok8_0, ji_ok8_1, ji_ok8_2, ji_ok8_3, ji_ok8_4, kd_sI, kd_sL, kd_sR, kd_cp, gR_sI, gR_sL, gR_cp, gL_sI, gL_sR, gL_cp, gI_sL, gI_sR, gI_sI, gL_sL, Nat.reduceEqDiff, false_and, and_false, true_and, and_true, Nat.reduceAdd, Nat.reduceLT, Nat.reduceSub, Int32.reduceLT, Int32.reduceAdd, not_false_eq_true, not_true_eq_false, and_self, ji_b_n, if_true, if_false, ↓reduceIte, cz_m100, cz_m19, cz_m18, cz_m17, cz_m16, cz_m15, cz_m14, cz_m13, cz_m12, cz_m11, cz_m4, cz_m3, cz_m2, cz_m1, cz_1, cz_2, cz_3, cz_4, cz_5, cz_6, cz_7, cz_8, cz_9, cz_10, cz_11, cz_12, cz_13, cz_14, cz_15, cz_16, cz_20, cz_24, cz_30, cz_32, cz_33, cz_38, cz_40, cz_41, cz_42, cz_43, cz_45, cz_48, cz_57, cz_59, cz_60, cz_61, cz_63, cz_64, cz_72, cz_96, cz_97, cz_99, cz_100, cz_122, cz_124, cz_126, cz_160, cz_161, cz_168, cz_200, cz_255, cz_300, cz_960, cz_999, cz_1000, cz_1001, cz_1002, cz_1003, cz_1120, cz_2000, cz_2003, cz_2004, cz_2005, cz_3999, cz_9999, cz_14640, jx_NM_kd, mk_0 mN, jx_NM_tk, g3, c0, hE]
end JIV
