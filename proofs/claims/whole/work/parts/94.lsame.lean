/-! ===== lots: what the model's reckoning stands on ===== -/
def jz_q (M M' : ji_M) : Prop := (∀ a, 1 ≤ a → a ≤ 8 → ji_gI M' a = ji_gI M a) ∧ (∀ i, i ≤ 4 → ji_gI M' 0 i = ji_gI M 0 i) ∧ ji_gL M' 0 5 = ji_gL M 0 5
def jz_ch (l : List Nat) (N N' : ji_M) : Prop := N'.1 = N.1 ∧ (∀ a, a ∉ l → ji_gI N' a = ji_gI N a) ∧ (∀ a i, ji_gL N' a i = ji_gL N a i) ∧ ∀ a i, ji_gR N' a i = ji_gR N a i
section JIV
variable {X X' X'' Y N N' N0 M M' : ji_M} {P : ji_P} {x y z : Int32} {f g : ji_F} {Lm : List Nat} {d a b r c m s p n i j k v u t ρ K : Nat} {o : Option Value × ji_M} {σ : List Int32 × List Int32 × List Int32} {l : List Nat}
theorem jz_ch_r : jz_ch l N N := ⟨rfl, fun _ _ => rfl, fun _ _ => rfl, fun _ _ => rfl⟩
theorem jz_ch_t (h : jz_ch l N N') (h' : jz_ch l N' N0) : jz_ch l N N0 := ⟨h'.1.trans h.1, fun a q => (h'.2.1 a q).trans (h.2.1 a q), fun a i => (h'.2.2.1 a i).trans (h.2.2.1 a i), fun a i => (h'.2.2.2 a i).trans (h.2.2.2 a i)⟩
theorem jz_ch_sI (h : jz_ch l N N') (ha : a ∈ l) : jz_ch l N (ji_sI N' a i x) := ⟨h.1, fun b q => (gF_sI (fun e => q (by rw [e]; exact ha))).trans (h.2.1 b q), h.2.2.1, h.2.2.2⟩
theorem jz_ch_MF (h : jz_ch l N N') (hN : ji_MF N) : ji_MF N' := ⟨h.1.trans hN.1, fun e he => (h.2.2.2 e.1 e.2.1).trans (hN.2 e he)⟩
theorem jz_q_cn (h : jz_q M M') : jz_cn M' b ↔ jz_cn M b := by
  unfold jz_cn jz_rm
  rw [h.1 7 (by omega) (by omega), h.1 3 (by omega) (by omega), h.2.1 3 (by omega), h.2.1 4 (by omega)]
theorem jz_q_dr (h : jz_q M M') : jz_q (jz_dr M b) (jz_dr M' b) := by
  by_cases q : jz_cn M b
  · rw [jz_dr_1 q, jz_dr_1 ((jz_q_cn h).mpr q)]
    have no : ∀ (M : ji_M) (w : Int32) a, a ≠ 7 → a ≠ 8 → ji_gI (ji_sI (ji_sI M 7 b 3) 8 b w) a = ji_gI M a := fun M w a h1 h2 => by rw [gF_sI h2, gF_sI h1]
    have e7a : ∀ (M : ji_M) (w : Int32), ji_gI (ji_sI (ji_sI M 7 b 3) 8 b w) 7 = ji_up (ji_gI M 7) b 3 := fun M w => by rw [gF_sI (by decide), gF_sIe]
    have e8a : ∀ (M : ji_M) (w : Int32), ji_gI (ji_sI (ji_sI M 7 b 3) 8 b w) 8 = ji_up (ji_gI M 8) b w := fun M w => by rw [gF_sIe, gF_sI (by decide)]
    refine ⟨fun a h1 h2 => ?_, fun i hi => ?_, h.2.2⟩
    · by_cases e7 : a = 7
      · subst e7
        rw [e7a, e7a, h.1 7 (by omega) (by omega)]
      by_cases e8 : a = 8
      · subst e8
        rw [e8a, e8a, h.1 8 (by omega) (by omega), h.2.1 0 (by omega)]
      · rw [no _ _ a e7 e8, no _ _ a e7 e8]
        exact h.1 a h1 h2
    · rw [no _ _ 0 (by decide) (by decide), no _ _ 0 (by decide) (by decide)]
      exact h.2.1 i hi
  · rw [jz_dr_0 q, jz_dr_0 (fun z => q ((jz_q_cn h).mp z))]
    exact h
theorem jz_q_Nj (h : jz_q M M') : jz_q (jq_Nj M n) (jq_Nj M' n) := by
  have eB : jq_B0 M' = jq_B0 M := funext fun i => by
    unfold jq_B0
    rw [h.1 7 (by omega) (by omega), h.1 5 (by omega) (by omega), h.1 6 (by omega) (by omega), h.1 8 (by omega) (by omega)]
  unfold jq_Nj
  rw [eB, h.2.1 4 (by omega), h.2.1 1 (by omega), h.2.1 0 (by omega), h.2.2, h.1 3 (by omega) (by omega)]
  refine ⟨fun a h1 h2 => ?_, fun i hi => ?_, by rw [jq_NH_L, jq_NH_L]⟩
  · by_cases e5 : a = 5
    · subst e5; rw [jq_NH_5, jq_NH_5]
    by_cases e6 : a = 6
    · subst e6; rw [jq_NH_6, jq_NH_6]
    by_cases e7 : a = 7
    · subst e7; rw [jq_NH_7, jq_NH_7]
    by_cases e8 : a = 8
    · subst e8; rw [jq_NH_8, jq_NH_8]
    · rw [jq_NH_a (by omega) e5 e6 e7 e8, jq_NH_a (by omega) e5 e6 e7 e8]
      exact h.1 a h1 h2
  · by_cases e0 : i = 0
    · subst e0; rw [jq_NH_00, jq_NH_00]
    · rw [jq_NH_f e0, jq_NH_f e0]
      exact h.2.1 i hi
theorem jz_q_al (h : jz_q N N') : ∀ j v, jz_q (jz_al Lm n N j v) (jz_al Lm n N' j v) := by
  intro j
  induction j with
  | zero => intro v; exact h
  | succ j ih => intro v; exact jz_q_Nj (jz_q_dr (ih _))
theorem jz_q_la (h : jz_q M M') : ∀ b, jx_la M' σ b = jx_la M σ b := by
  intro b
  induction b with
  | zero => rfl
  | succ b ih =>
    show jx_la M' σ b + _ = jx_la M σ b + _
    have e : jx_fN M' b = jx_fN M b := by
      unfold jx_fN
      rw [h.1 5 (by omega) (by omega), h.1 2 (by omega) (by omega), h.1 1 (by omega) (by omega), h.1 4 (by omega) (by omega), h.1 8 (by omega) (by omega), h.1 3 (by omega) (by omega), h.2.1 0 (by omega)]
    rw [ih, e, h.1 6 (by omega) (by omega)]
theorem jz_al_a (h0 : a ≠ 0) (h5 : a ≠ 5) (h6 : a ≠ 6) (h7 : a ≠ 7) (h8 : a ≠ 8) : ∀ j v, ji_gI (jz_al Lm n N j v) a = ji_gI N a := by
  intro j
  induction j with
  | zero => intro v; rfl
  | succ j ih => intro v; exact (jz_sp_a h0 h5 h6 h7 h8).trans (ih _)
theorem jz_dr_1s : (jz_dr M b).1 = M.1 ∧ (∀ a i, ji_gR (jz_dr M b) a i = ji_gR M a i) := by
  by_cases q : jz_cn M b
  · rw [jz_dr_1 q]; exact ⟨rfl, fun _ _ => rfl⟩
  · rw [jz_dr_0 q]; exact ⟨rfl, fun _ _ => rfl⟩
theorem jz_al_st : ∀ j v, (jz_al Lm n N j v).1 = N.1 ∧ ∀ a i, ji_gR (jz_al Lm n N j v) a i = ji_gR N a i := by
  intro j
  induction j with
  | zero => intro v; exact ⟨rfl, fun _ _ => rfl⟩
  | succ j ih =>
    intro v
    have i := ih (v / (Lm.length - j))
    have e := jz_dr_1s (M := jz_al Lm n N j (v / (Lm.length - j))) (b := jz_bk Lm j v)
    exact ⟨e.1.trans i.1, fun a b => (e.2 a b).trans (i.2 a b)⟩
theorem jz_dr_hi (hb : b ≠ i) : ji_gI (jz_dr M b) a i = ji_gI M a i := by
  by_cases q : jz_cn M b
  · rw [jz_dr_1 q, gI_nk (fun z => hb z.symm), gI_nk (fun z => hb z.symm)]
  · rw [jz_dr_0 q]
theorem jz_sp_hi (hb : b < (ji_gI M 0 4).toInt.toNat) (hi : (ji_gI M 0 4).toInt.toNat ≤ i) (ha : a ≠ 0) : ji_gI (jz_sp n M b) a i = ji_gI M a i := by
  have e4 : ji_gI (jz_dr M b) 0 4 = ji_gI M 0 4 := by rw [jz_dr_a (by decide) (by decide)]
  unfold jz_sp jq_Nj
  rw [e4]
  have n1 : ¬ i < (ji_gI M 0 4).toInt.toNat := by omega
  have dh : ∀ a, ji_gI (jz_dr M b) a i = ji_gI M a i := fun a => jz_dr_hi (by omega)
  by_cases e5 : a = 5
  · subst e5; rw [jq_NH_5i, if_neg n1]; exact dh 5
  by_cases e6 : a = 6
  · subst e6; rw [jq_NH_6i, if_neg n1]; exact dh 6
  by_cases e7 : a = 7
  · subst e7; rw [jq_NH_7i, if_neg n1]; exact dh 7
  by_cases e8 : a = 8
  · subst e8; rw [jq_NH_8i, if_neg n1]; exact dh 8
  · rw [jq_NH_a ha e5 e6 e7 e8]; exact dh a
theorem jz_bk_in (hj : j < Lm.length) : jz_bk Lm j v ∈ Lm := by
  have q := Nat.mod_lt v (show Lm.length - j > 0 by omega)
  have l := jz_rl_len (Lm := Lm) j (v / (Lm.length - j)) (by omega)
  have hu : v % (Lm.length - j) < (jz_rl Lm j (v / (Lm.length - j))).length := by omega
  unfold jz_bk
  rw [jz_gD hu]
  exact (jz_rl_sub j _).subset (List.getElem_mem hu)
theorem jz_al_hi (G : jz_G Lm n N) (h4 : ji_gI N' 0 4 = ji_gI N 0 4) (hi : (ji_gI N 0 4).toInt.toNat ≤ i) (ha : a ≠ 0) : ∀ j v, j ≤ Lm.length → ji_gI (jz_al Lm n N' j v) a i = ji_gI N' a i := by
  intro j
  induction j with
  | zero => intro v _; rfl
  | succ j ih =>
    intro v hj
    have b := G.2.1 _ (jz_bk_in (Lm := Lm) (j := j) (v := v) (by omega))
    have e : ji_gI (jz_al Lm n N' j (v / (Lm.length - j))) 0 4 = ji_gI N 0 4 := by rw [jz_al_f (by decide), h4]
    exact (jz_sp_hi (by rw [e]; omega) (by rw [e]; exact hi) ha).trans (ih _ (by omega))
/-- turns out of a row of books -/
noncomputable def jz_af (n : Nat) (N : ji_M) (f : ji_F) : Nat → ji_M
  | 0 => N
  | j + 1 => jz_sp n (jz_af n N f j) (f j).toInt.toNat
theorem jz_af_al (hL : ∀ b ∈ Lm, b ≤ 1000) : ∀ j v, j ≤ Lm.length → jz_O Lm f j v → jz_af n N f j = jz_al Lm n N j v := by
  intro j
  induction j with
  | zero => intro v _ _; rfl
  | succ j ih =>
    intro v hj h
    have b := hL _ (jz_bk_in (Lm := Lm) (j := j) (v := v) (by omega))
    show jz_sp n (jz_af n N f j) (f j).toInt.toNat = jz_sp n (jz_al Lm n N j (v / (Lm.length - j))) (jz_bk Lm j v)
    rw [ih _ (by omega) h.1, h.2, vi_nn (by omega), Int.toNat_natCast]
theorem jz_O_in : ∀ j v, j ≤ Lm.length → jz_O Lm f j v → ∀ t, t < j → ∃ b ∈ Lm, f t = Int32.ofNat b := by
  intro j
  induction j with
  | zero => intro v _ _ t ht; exact absurd ht (by omega)
  | succ j ih =>
    intro v hj h t ht
    by_cases e : t = j
    · subst e; exact ⟨_, jz_bk_in (by omega), h.2⟩
    · exact ih _ (by omega) h.1 t (by omega)
end JIV
