/-! ===== the machine follows the pure reader ===== -/
def jx_pr (lev : Nat) : Nat := if lev = 0 then 8 else if lev = 1 then 6 else if lev = 2 then 5 else if lev = 3 then 4 else if lev = 4 then 2 else 1
def jx_lr (lev : Nat) : Nat := if lev = 0 then 7 else if lev = 1 then 6 else if lev = 2 then 5 else if lev = 3 then 3 else if lev = 4 then 2 else 1
def jx_NT (lev : Nat) (σ : jx_T) (ws ps : List Int32) : Prop := (1 ≤ lev → σ.1 ≠ 42) ∧ (2 ≤ lev → σ.1 ≠ 43 ∧ σ.1 ≠ 45) ∧ (3 ≤ lev → σ.1 = 60 ∨ σ.1 = 61 → jx_tr (jx_stl 5 ws ps).1 = 4) ∧ (4 ≤ lev → σ.1 ≠ 2004) ∧ (5 ≤ lev → σ.1 ≠ 2003)
/-- what the machine does for a reading -/
def jx_MQ (t : ji_F) (n : Nat) (F : Int32 → Int32) (lev : Nat) (α : jx_A) (ws ps : List Int32) : ((List Int32 × jx_T) ⊕ Nat) → Prop
  | .inl q => ∃ v ws1 ps1 mn1, jx_vw F q.1 v ∧ jx_rc t n F α (q.2, ws1, ps1, false, mn1) ∧ jx_eqv (jx_lr lev) ws1 ps1 ws (v :: ps) ∧ jx_NT lev q.2 ws1 ps1 ∧ jx_wv q.2
  | .inr z => jx_fl t n F α z
def jx_SM (t : ji_F) (n : Nat) (F : Int32 → Int32) (f lev : Nat) : Prop := ∀ (op : Nat) (σ : jx_T) (r : (List Int32 × jx_T) ⊕ Nat) (ws ps : List Int32) (mn : Bool), jx_p t n f lev op [] σ = some r → jx_wf n σ → jx_wv σ → jx_una ws = op → op ≤ 5 → jx_tr ws < jx_pr lev → (mn = true ∨ lev ≤ 2) → (lev ≤ 2 → mn = false ∨ σ.1 ≠ 2005) → jx_MQ t n F lev (σ, ws, ps, true, mn) ws ps r
theorem jx_MQ_t {t : ji_F} {n lev : Nat} {F : Int32 → Int32} {α β : jx_A} {ws ps : List Int32} {r : (List Int32 × jx_T) ⊕ Nat} (h : jx_rc t n F α β) (q : jx_MQ t n F lev β ws ps r) : jx_MQ t n F lev α ws ps r := by
  cases r with
  | inl z =>
    obtain ⟨v, ws1, ps1, mn1, q1, q2, q3⟩ := q
    exact ⟨v, ws1, ps1, mn1, q1, jx_rc_t h q2, q3⟩
  | inr z => exact jx_fl_t h q
section JIV
variable {t : ji_F} {n f op lev r' : Nat} {F : Int32 → Int32} {acc s s' ws ps ws1 ps1 qs : List Int32} {σ σ' : jx_T} {v v' w x : Int32} {α β γ : jx_A} {mn : Bool}
theorem jx_wv_av (w : jx_wf n σ) : jx_wv (jx_av t n σ) := jx_wv_tok w.2.1
theorem jx_tn_o (h : σ.1 = 40 ∨ σ.1 = 45 ∨ (mn = true ∧ σ.1 = 2005)) (hu : ¬ jx_una ws = 5) : jx_tn t n F (σ, ws, ps, true, mn) = .inl (jx_av t n σ, (if σ.1 = 40 then 40 else if σ.1 = 45 then 126 else 33) :: ws, ps, true, decide (¬ σ.1 = 45)) := by
  unfold jx_tn
  rw [if_pos ⟨rfl, h⟩, if_neg hu]
theorem jx_tn_of (h : σ.1 = 40 ∨ σ.1 = 45 ∨ (mn = true ∧ σ.1 = 2005)) (hu : jx_una ws = 5) : jx_tn t n F (σ, ws, ps, true, mn) = .inr (false, σ, ws, ps) := by
  unfold jx_tn
  rw [if_pos ⟨rfl, h⟩, if_pos hu]
theorem jx_tn_v (h : ¬ (σ.1 = 40 ∨ σ.1 = 45 ∨ (mn = true ∧ σ.1 = 2005))) (hv : σ.1 = 1002 ∨ σ.1 = 1003) : jx_tn t n F (σ, ws, ps, true, mn) = .inl (jx_av t n σ, (jx_stl 7 ws ((if σ.1 = 1002 then σ.2.1 else F σ.2.1) :: ps)).1, (jx_stl 7 ws ((if σ.1 = 1002 then σ.2.1 else F σ.2.1) :: ps)).2, false, mn) := by
  unfold jx_tn
  rw [if_neg (fun q => h q.2), if_pos ⟨rfl, hv⟩]
theorem jx_tn_n (h : ¬ (σ.1 = 40 ∨ σ.1 = 45 ∨ (mn = true ∧ σ.1 = 2005))) (hv : ¬ (σ.1 = 1002 ∨ σ.1 = 1003)) : jx_tn t n F (σ, ws, ps, true, mn) = .inr (false, σ, ws, ps) := by
  unfold jx_tn
  rw [if_neg (fun q => h q.2), if_neg (fun q => hv q.2), if_pos rfl]
theorem jx_ff {p : Prop} : ¬ ((false : Bool) = true ∧ p) := fun q => absurd q.1 (by decide)
theorem jx_tn_j (hw : jx_jt σ.1 = w) (h0 : ¬ w = 0) (h6 : ¬ (σ.1 = 60 ∨ σ.1 = 61)) (h : jx_stl (jx_rank w) ws1 ps1 = (ws, qs)) : jx_tn t n F (σ, ws1, ps1, false, mn) = .inl (jx_av t n σ, w :: ws, qs, true, decide (σ.1 = 2004 ∨ σ.1 = 2003)) := by
  unfold jx_tn
  rw [if_neg jx_ff, if_neg jx_ff, if_neg (show ¬ ((false : Bool) = true) by decide)]
  dsimp only
  rw [hw, if_pos h0, if_neg (fun q => h6 q.1), if_neg h6, h]
theorem jx_tn_c (h6 : σ.1 = 60 ∨ σ.1 = 61) (h : jx_stl 5 ws1 ps1 = (ws, qs)) (h4 : ¬ jx_tr ws = 4) : jx_tn t n F (σ, ws1, ps1, false, mn) = .inl (jx_av t n σ, σ.1 :: ws, qs, true, false) := by
  have hw : jx_jt σ.1 = σ.1 := if_pos (by rcases h6 with q | q <;> (rw [q]; decide))
  have h0 : ¬ σ.1 = 0 := by rcases h6 with q | q <;> (rw [q]; decide)
  have hd : decide (σ.1 = 2004 ∨ σ.1 = 2003) = false := by rcases h6 with q | q <;> (rw [q]; decide)
  unfold jx_tn
  rw [if_neg jx_ff, if_neg jx_ff, if_neg (show ¬ ((false : Bool) = true) by decide)]
  dsimp only
  rw [hw, if_pos h0, h, if_neg (fun q => h4 q.2), if_pos h6, h, hd]
theorem jx_tn_cf (h6 : σ.1 = 60 ∨ σ.1 = 61) (h4 : jx_tr (jx_stl 5 ws1 ps1).1 = 4) : ∃ a b, jx_tn t n F (σ, ws1, ps1, false, mn) = .inr (false, σ, a, b) := by
  have hw : jx_jt σ.1 = σ.1 := if_pos (by rcases h6 with q | q <;> (rw [q]; decide))
  have h0 : ¬ σ.1 = 0 := by rcases h6 with q | q <;> (rw [q]; decide)
  refine ⟨(jx_stl 5 ws1 ps1).1, (jx_stl 5 ws1 ps1).2, ?_⟩
  unfold jx_tn
  rw [if_neg jx_ff, if_neg jx_ff, if_neg (show ¬ ((false : Bool) = true) by decide)]
  dsimp only
  rw [hw, if_pos h0, if_pos ⟨h6, h4⟩]
theorem jx_tn_e (hj : jx_jt σ.1 = 0) (h : jx_stl 1 ws1 ps1 = (w :: ws, qs)) : jx_tn t n F (σ, ws1, ps1, false, mn) = if σ.1 = 41 then .inl (jx_av t n σ, (jx_stl 7 ws qs).1, (jx_stl 7 ws qs).2, false, mn) else .inr (false, σ, w :: ws, qs) := by
  unfold jx_tn
  rw [if_neg jx_ff, if_neg jx_ff, if_neg (show ¬ ((false : Bool) = true) by decide)]
  dsimp only
  rw [if_neg (fun q => q hj), h]
theorem jx_tn_z (hj : jx_jt σ.1 = 0) (h : jx_stl 1 ws1 ps1 = ([], qs)) : jx_tn t n F (σ, ws1, ps1, false, mn) = .inr (true, σ, [], qs) := by
  unfold jx_tn
  rw [if_neg jx_ff, if_neg jx_ff, if_neg (show ¬ ((false : Bool) = true) by decide)]
  dsimp only
  rw [if_neg (fun q => q hj), h]
theorem jx_jt_nt (h : jx_NT 5 σ ws1 ps1) : jx_jt σ.1 = 0 ∨ (σ.1 = 60 ∨ σ.1 = 61) := by
  obtain ⟨h1, h2, h3, h4, h5⟩ := h
  have h1 := h1 (by omega)
  have h2 := h2 (by omega)
  have h4 := h4 (by omega)
  have h5 := h5 (by omega)
  by_cases c : σ.1 = 60 ∨ σ.1 = 61
  · exact Or.inr c
  · left
    unfold jx_jt
    rw [if_neg, if_neg h4, if_neg h5]
    rintro (q | q | q | q | q)
    · exact h1 q
    · exact h2.1 q
    · exact h2.2 q
    · exact c (Or.inl q)
    · exact c (Or.inr q)
theorem sm_0 (I0 : jx_SM t n F f 0) (I5 : jx_SM t n F f 5) : jx_SM t n F (f + 1) 0 := by
  intro op σ r ws ps mn h w wv hu hop htr hmn hmn2
  rw [jx_p_0] at h
  by_cases k1 : σ.1 = 1002
  · rw [if_pos k1] at h
    cases h
    have nn : ¬ (σ.1 = 40 ∨ σ.1 = 45 ∨ (mn = true ∧ σ.1 = 2005)) := by
      rw [k1]; rintro (q | q | q)
      · exact absurd q (by decide)
      · exact absurd q (by decide)
      · exact absurd q.2 (by decide)
    have T := jx_tn_v (t := t) (n := n) (F := F) (ws := ws) (ps := ps) nn (Or.inl k1)
    rw [if_pos k1] at T
    exact ⟨σ.2.1, _, _, _, jx_vw_i (wv.1 k1), jx_rc_1 T, jx_eqv_stl, ⟨fun q => absurd q (by decide), fun q => absurd q (by decide), fun q => absurd q (by decide), fun q => absurd q (by decide), fun q => absurd q (by decide)⟩, jx_wv_av w⟩
  rw [if_neg k1] at h
  by_cases k2 : σ.1 = 1003
  · rw [if_pos k2] at h
    cases h
    have nn : ¬ (σ.1 = 40 ∨ σ.1 = 45 ∨ (mn = true ∧ σ.1 = 2005)) := by
      rw [k2]; rintro (q | q | q)
      · exact absurd q (by decide)
      · exact absurd q (by decide)
      · exact absurd q.2 (by decide)
    have T := jx_tn_v (t := t) (n := n) (F := F) (ws := ws) (ps := ps) nn (Or.inr k2)
    rw [if_neg k1] at T
    have b := wv.2 k2
    exact ⟨F σ.2.1, _, _, _, jx_vw_f (by omega), jx_rc_1 T, jx_eqv_stl, ⟨fun q => absurd q (by decide), fun q => absurd q (by decide), fun q => absurd q (by decide), fun q => absurd q (by decide), fun q => absurd q (by decide)⟩, jx_wv_av w⟩
  rw [if_neg k2] at h
  by_cases k3 : σ.1 = 45
  · rw [if_pos k3] at h
    have a := jx_wf_1 (t := t) w (by rw [k3]; decide)
    by_cases ho : 5 ≤ op
    · rw [if_pos ho] at h
      cases h
      exact ⟨σ, ws, ps, rfl, jx_en_1 (jx_tn_of (Or.inr (Or.inl k3)) (by omega))⟩
    · rw [if_neg ho] at h
      have T := jx_tn_o (t := t) (n := n) (F := F) (ws := ws) (ps := ps) (mn := mn) (Or.inr (Or.inl k3)) (by omega)
      have e1 : (if σ.1 = 40 then (40 : Int32) else if σ.1 = 45 then 126 else 33) = 126 := by rw [k3]; decide
      have e2 : decide (¬ σ.1 = 45) = false := by rw [k3]; decide
      rw [e1, e2] at T
      have hu2 : jx_una (126 :: ws) = op + 1 := by show jx_una ws + 1 = _; omega
      rcases jx_bd_some h with ⟨s, σ', h1, h2⟩ | ⟨z, h1, h2⟩
      · cases h2
        obtain ⟨v, ws1, ps1, mn1, q1, q2, q3, q4, q5⟩ := I0 (op + 1) _ _ (126 :: ws) ps false h1 a.1 (jx_wv_av w) hu2 (by omega) (by show jx_rank 126 < jx_pr 0; decide) (Or.inr (by omega)) (fun _ => Or.inl rfl)
        exact ⟨jx_o1 126 v, ws1, ps1, mn1, jx_vw_m q1, jx_rc_t (jx_rc_1 T) q2, jx_eqv_1 (Or.inr rfl) (by decide) (Nat.le_refl _) q3, q4, q5⟩
      · subst h2
        exact jx_fl_t (jx_rc_1 T) (I0 (op + 1) _ _ (126 :: ws) ps false h1 a.1 (jx_wv_av w) hu2 (by omega) (by show jx_rank 126 < jx_pr 0; decide) (Or.inr (by omega)) (fun _ => Or.inl rfl))
  rw [if_neg k3] at h
  by_cases k4 : σ.1 = 40
  · rw [if_pos k4] at h
    have a := jx_wf_1 (t := t) w (by rw [k4]; decide)
    by_cases ho : 5 ≤ op
    · rw [if_pos ho] at h
      cases h
      exact ⟨σ, ws, ps, rfl, jx_en_1 (jx_tn_of (Or.inl k4) (by omega))⟩
    · rw [if_neg ho] at h
      have T := jx_tn_o (t := t) (n := n) (F := F) (ws := ws) (ps := ps) (mn := mn) (Or.inl k4) (by omega)
      have e1 : (if σ.1 = 40 then (40 : Int32) else if σ.1 = 45 then 126 else 33) = 40 := if_pos k4
      have e2 : decide (¬ σ.1 = 45) = true := by rw [k4]; decide
      rw [e1, e2] at T
      have hu2 : jx_una (40 :: ws) = op + 1 := by show jx_una ws + 1 = _; omega
      rcases jx_bd_some h with ⟨s, σ', h1, h2⟩ | ⟨z, h1, h2⟩
      · obtain ⟨p1, p2, p3⟩ := jx_pl _ _ _ _ _ _ h1 a.1 (fun _ => rfl)
        dsimp only at p1
        obtain ⟨v, ws1, ps1, mn1, q1, q2, q3, q4, q5⟩ := I5 (op + 1) _ _ (40 :: ws) ps true h1 a.1 (jx_wv_av w) hu2 (by omega) (by show jx_rank 40 < jx_pr 5; decide) (Or.inl rfl) (fun q => absurd q (by omega))
        have st : jx_stl 1 ws1 ps1 = (40 :: ws, v :: ps) := by
          rw [q3 1 (Nat.le_refl _) (by decide)]
          exact jx_stl_lt (by show jx_rank 40 < 1; decide)
        by_cases k5 : σ'.1 = 41
        · rw [if_pos k5] at h2
          cases h2
          have T2 := jx_tn_e (t := t) (n := n) (F := F) (mn := mn1) (by rw [k5]; decide) st
          rw [if_pos k5] at T2
          exact ⟨v, _, _, _, q1, jx_rc_t (jx_rc_1 T) (jx_rc_t q2 (jx_rc_1 T2)), jx_eqv_stl, ⟨fun q => absurd q (by decide), fun q => absurd q (by decide), fun q => absurd q (by decide), fun q => absurd q (by decide), fun q => absurd q (by decide)⟩, jx_wv_av p1⟩
        · rw [if_neg k5] at h2
          cases h2
          refine jx_fl_t (jx_rc_t (jx_rc_1 T) q2) ?_
          rcases jx_jt_nt q4 with j | j
          · have T2 := jx_tn_e (t := t) (n := n) (F := F) (mn := mn1) j st
            rw [if_neg k5] at T2
            exact ⟨σ', _, _, rfl, jx_en_1 T2⟩
          · obtain ⟨x, y, T2⟩ := jx_tn_cf (t := t) (n := n) (F := F) (mn := mn1) j (q4.2.2.1 (by omega) j)
            exact ⟨σ', _, _, rfl, jx_en_1 T2⟩
      · subst h2
        exact jx_fl_t (jx_rc_1 T) (I5 (op + 1) _ _ (40 :: ws) ps true h1 a.1 (jx_wv_av w) hu2 (by omega) (by show jx_rank 40 < jx_pr 5; decide) (Or.inl rfl) (fun q => absurd q (by omega)))
  rw [if_neg k4] at h
  cases h
  have nn : ¬ (σ.1 = 40 ∨ σ.1 = 45 ∨ (mn = true ∧ σ.1 = 2005)) := by
    rintro (q | q | q)
    · exact k4 q
    · exact k3 q
    · rcases hmn2 (by omega) with z | z
      · rw [z] at q; exact absurd q.1 (by decide)
      · exact z q.2
  exact ⟨σ, ws, ps, rfl, jx_en_1 (jx_tn_n nn (fun q => q.elim k1 k2))⟩
theorem lm_11 (I : ∀ g, g < f → jx_SM t n F g 0) : ∀ (g : Nat), g ≤ f → ∀ (op : Nat) (acc : List Int32) (σ : jx_T) (r : (List Int32 × jx_T) ⊕ Nat) (ws ps ws1 ps1 : List Int32) (mn1 : Bool) (v : Int32), jx_p t n g 11 op acc σ = some r → jx_wf n σ → jx_wv σ → jx_una ws = op → op ≤ 5 → jx_tr ws < jx_pr 1 → jx_vw F acc v → jx_eqv (jx_lr 1) ws1 ps1 ws (v :: ps) → jx_NT 0 σ ws1 ps1 → jx_MQ t n F 1 (σ, ws1, ps1, false, mn1) ws ps r := by
  intro g
  induction g with
  | zero => intro _ op acc σ r ws ps ws1 ps1 mn1 v h; cases h
  | succ g ih =>
    intro hg op acc σ r ws ps ws1 ps1 mn1 v h w wv hu hop htr hvw hq hnt
    rw [jx_p_11] at h
    by_cases k1 : σ.1 = 42
    case neg =>
      rw [if_neg k1] at h
      cases h
      exact ⟨v, ws1, ps1, mn1, hvw, jx_rc_r, hq, ⟨fun _ => k1, fun q => absurd q (by omega), fun q => absurd q (by omega), fun q => absurd q (by omega), fun q => absurd q (by omega)⟩, wv⟩
    rw [if_pos k1] at h
    have a := jx_wf_1 (t := t) w (by rw [k1]; decide)
    have ew : jx_jt σ.1 = (42) := by rw [k1]; decide
    have st : jx_stl (jx_rank (42)) ws1 ps1 = (ws, v :: ps) := by
      rw [hq (jx_rank (42)) (by decide) (by decide)]
      exact jx_stl_lt htr
    have T := jx_tn_j (t := t) (n := n) (F := F) (mn := mn1) ew (by decide) (by rw [k1]; decide) st
    have ed : decide (σ.1 = 2004 ∨ σ.1 = 2003) = false := by rw [k1]; decide
    rw [ed] at T
    have hu2 : jx_una ((42) :: ws) = op := by show jx_una ws + 0 = _; omega
    rcases jx_bd_some h with ⟨s, σ', h1, h2⟩ | ⟨z, h1, h2⟩
    · obtain ⟨p1, p2, p3⟩ := jx_pl _ _ _ _ _ _ h1 a.1 (fun _ => rfl)
      dsimp only at p1
      obtain ⟨v2, ws2, ps2, mn2, q1, q2, q3, q4, q5⟩ := I g (by omega) op _ _ ((42) :: ws) (v :: ps) false h1 a.1 (jx_wv_av w) hu2 hop (by show jx_rank (42) < jx_pr 0; decide) (Or.inr (by omega)) (fun _ => Or.inl rfl)
      have V := jx_vw_2 hvw q1 (x := (-17)) (by decide)
      have eo : (if ((-17) : Int32) = -11 then (124 : Int32) else if ((-17) : Int32) = -12 then 38 else if ((-17) : Int32) = -15 then 43 else if ((-17) : Int32) = -16 then 45 else if ((-17) : Int32) = -17 then 42 else if ((-17) : Int32) = -18 then 60 else 61) = (42) := by decide
      rw [eo] at V
      skip
      exact jx_MQ_t (jx_rc_t (jx_rc_1 T) q2) (ih (by omega) op _ σ' r ws ps ws2 ps2 mn2 _ h2 p1 q5 hu hop htr V (jx_eqv_2 (by decide) (by decide) (by decide) q3) q4)
    · subst h2
      exact jx_fl_t (jx_rc_1 T) (I g (by omega) op _ _ ((42) :: ws) (v :: ps) false h1 a.1 (jx_wv_av w) hu2 hop (by show jx_rank (42) < jx_pr 0; decide) (Or.inr (by omega)) (fun _ => Or.inl rfl))
theorem sm_1 (I : ∀ g, g < f → jx_SM t n F g 0) : jx_SM t n F f 1 := by
  intro op σ r ws ps mn h w wv hu hop htr hmn hmn2
  cases f with
  | zero => cases h
  | succ f =>
    rw [jx_p_1] at h
    have htr2 : jx_tr ws < jx_pr 0 := Nat.lt_of_lt_of_le htr (by decide)
    rcases jx_bd_some h with ⟨s, σ', h1, h2⟩ | ⟨z, h1, h2⟩
    · obtain ⟨p1, p2, p3⟩ := jx_pl _ _ _ _ _ _ h1 w (fun _ => rfl)
      dsimp only at p1
      obtain ⟨v, ws1, ps1, mn1, q1, q2, q3, q4, q5⟩ := I f (by omega) op _ _ ws ps mn h1 w wv hu hop htr2 (Or.inr (by omega)) (fun _ => hmn2 (by omega))
      exact jx_MQ_t q2 (lm_11 I f (by omega) op s σ' r ws ps ws1 ps1 mn1 v h2 p1 q5 hu hop htr q1 (jx_eqv_le q3 (by decide)) q4)
    · subst h2
      exact I f (by omega) op _ _ ws ps mn h1 w wv hu hop htr2 (Or.inr (by omega)) (fun _ => hmn2 (by omega))
theorem lm_12 (I : ∀ g, g < f → jx_SM t n F g 1) : ∀ (g : Nat), g ≤ f → ∀ (op : Nat) (acc : List Int32) (σ : jx_T) (r : (List Int32 × jx_T) ⊕ Nat) (ws ps ws1 ps1 : List Int32) (mn1 : Bool) (v : Int32), jx_p t n g 12 op acc σ = some r → jx_wf n σ → jx_wv σ → jx_una ws = op → op ≤ 5 → jx_tr ws < jx_pr 2 → jx_vw F acc v → jx_eqv (jx_lr 2) ws1 ps1 ws (v :: ps) → jx_NT 1 σ ws1 ps1 → jx_MQ t n F 2 (σ, ws1, ps1, false, mn1) ws ps r := by
  intro g
  induction g with
  | zero => intro _ op acc σ r ws ps ws1 ps1 mn1 v h; cases h
  | succ g ih =>
    intro hg op acc σ r ws ps ws1 ps1 mn1 v h w wv hu hop htr hvw hq hnt
    rw [jx_p_12] at h
    by_cases k1 : σ.1 = 43 ∨ σ.1 = 45
    case neg =>
      rw [if_neg k1] at h
      cases h
      exact ⟨v, ws1, ps1, mn1, hvw, jx_rc_r, hq, ⟨fun _ => hnt.1 (by omega), fun _ => ⟨fun q => k1 (Or.inl q), fun q => k1 (Or.inr q)⟩, fun q => absurd q (by omega), fun q => absurd q (by omega), fun q => absurd q (by omega)⟩, wv⟩
    rw [if_pos k1] at h
    have a := jx_wf_1 (t := t) w (k1.elim (fun q => by rw [q]; decide) (fun q => by rw [q]; decide))
    by_cases k2 : σ.1 = 43
    · have ew : jx_jt σ.1 = (43) := by rw [k2]; decide
      have st : jx_stl (jx_rank (43)) ws1 ps1 = (ws, v :: ps) := by
        rw [hq (jx_rank (43)) (by decide) (by decide)]
        exact jx_stl_lt htr
      have T := jx_tn_j (t := t) (n := n) (F := F) (mn := mn1) ew (by decide) (by rw [k2]; decide) st
      have ed : decide (σ.1 = 2004 ∨ σ.1 = 2003) = false := by rw [k2]; decide
      rw [ed] at T
      have hu2 : jx_una ((43) :: ws) = op := by show jx_una ws + 0 = _; omega
      rcases jx_bd_some h with ⟨s, σ', h1, h2⟩ | ⟨z, h1, h2⟩
      · obtain ⟨p1, p2, p3⟩ := jx_pl _ _ _ _ _ _ h1 a.1 (fun _ => rfl)
        dsimp only at p1
        obtain ⟨v2, ws2, ps2, mn2, q1, q2, q3, q4, q5⟩ := I g (by omega) op _ _ ((43) :: ws) (v :: ps) false h1 a.1 (jx_wv_av w) hu2 hop (by show jx_rank (43) < jx_pr 1; decide) (Or.inr (by omega)) (fun _ => Or.inl rfl)
        have V := jx_vw_2 hvw q1 (x := (-15)) (by decide)
        have eo : (if ((-15) : Int32) = -11 then (124 : Int32) else if ((-15) : Int32) = -12 then 38 else if ((-15) : Int32) = -15 then 43 else if ((-15) : Int32) = -16 then 45 else if ((-15) : Int32) = -17 then 42 else if ((-15) : Int32) = -18 then 60 else 61) = (43) := by decide
        rw [eo] at V
        rw [if_pos k2] at h2
        exact jx_MQ_t (jx_rc_t (jx_rc_1 T) q2) (ih (by omega) op _ σ' r ws ps ws2 ps2 mn2 _ h2 p1 q5 hu hop htr V (jx_eqv_2 (by decide) (by decide) (by decide) q3) q4)
      · subst h2
        exact jx_fl_t (jx_rc_1 T) (I g (by omega) op _ _ ((43) :: ws) (v :: ps) false h1 a.1 (jx_wv_av w) hu2 hop (by show jx_rank (43) < jx_pr 1; decide) (Or.inr (by omega)) (fun _ => Or.inl rfl))
    · have k3 := k1.resolve_left k2
      have ew : jx_jt σ.1 = (45) := by rw [k3]; decide
      have st : jx_stl (jx_rank (45)) ws1 ps1 = (ws, v :: ps) := by
        rw [hq (jx_rank (45)) (by decide) (by decide)]
        exact jx_stl_lt htr
      have T := jx_tn_j (t := t) (n := n) (F := F) (mn := mn1) ew (by decide) (by rw [k3]; decide) st
      have ed : decide (σ.1 = 2004 ∨ σ.1 = 2003) = false := by rw [k3]; decide
      rw [ed] at T
      have hu2 : jx_una ((45) :: ws) = op := by show jx_una ws + 0 = _; omega
      rcases jx_bd_some h with ⟨s, σ', h1, h2⟩ | ⟨z, h1, h2⟩
      · obtain ⟨p1, p2, p3⟩ := jx_pl _ _ _ _ _ _ h1 a.1 (fun _ => rfl)
        dsimp only at p1
        obtain ⟨v2, ws2, ps2, mn2, q1, q2, q3, q4, q5⟩ := I g (by omega) op _ _ ((45) :: ws) (v :: ps) false h1 a.1 (jx_wv_av w) hu2 hop (by show jx_rank (45) < jx_pr 1; decide) (Or.inr (by omega)) (fun _ => Or.inl rfl)
        have V := jx_vw_2 hvw q1 (x := (-16)) (by decide)
        have eo : (if ((-16) : Int32) = -11 then (124 : Int32) else if ((-16) : Int32) = -12 then 38 else if ((-16) : Int32) = -15 then 43 else if ((-16) : Int32) = -16 then 45 else if ((-16) : Int32) = -17 then 42 else if ((-16) : Int32) = -18 then 60 else 61) = (45) := by decide
        rw [eo] at V
        rw [if_neg k2] at h2
        exact jx_MQ_t (jx_rc_t (jx_rc_1 T) q2) (ih (by omega) op _ σ' r ws ps ws2 ps2 mn2 _ h2 p1 q5 hu hop htr V (jx_eqv_2 (by decide) (by decide) (by decide) q3) q4)
      · subst h2
        exact jx_fl_t (jx_rc_1 T) (I g (by omega) op _ _ ((45) :: ws) (v :: ps) false h1 a.1 (jx_wv_av w) hu2 hop (by show jx_rank (45) < jx_pr 1; decide) (Or.inr (by omega)) (fun _ => Or.inl rfl))
theorem sm_2 (I : ∀ g, g < f → jx_SM t n F g 1) : jx_SM t n F f 2 := by
  intro op σ r ws ps mn h w wv hu hop htr hmn hmn2
  cases f with
  | zero => cases h
  | succ f =>
    rw [jx_p_2] at h
    have htr2 : jx_tr ws < jx_pr 1 := Nat.lt_of_lt_of_le htr (by decide)
    rcases jx_bd_some h with ⟨s, σ', h1, h2⟩ | ⟨z, h1, h2⟩
    · obtain ⟨p1, p2, p3⟩ := jx_pl _ _ _ _ _ _ h1 w (fun _ => rfl)
      dsimp only at p1
      obtain ⟨v, ws1, ps1, mn1, q1, q2, q3, q4, q5⟩ := I f (by omega) op _ _ ws ps mn h1 w wv hu hop htr2 (Or.inr (by omega)) (fun _ => hmn2 (by omega))
      exact jx_MQ_t q2 (lm_12 I f (by omega) op s σ' r ws ps ws1 ps1 mn1 v h2 p1 q5 hu hop htr q1 (jx_eqv_le q3 (by decide)) q4)
    · subst h2
      exact I f (by omega) op _ _ ws ps mn h1 w wv hu hop htr2 (Or.inr (by omega)) (fun _ => hmn2 (by omega))
theorem lm_14 (I : ∀ g, g < f → jx_SM t n F g 3) : ∀ (g : Nat), g ≤ f → ∀ (op : Nat) (acc : List Int32) (σ : jx_T) (r : (List Int32 × jx_T) ⊕ Nat) (ws ps ws1 ps1 : List Int32) (mn1 : Bool) (v : Int32), jx_p t n g 14 op acc σ = some r → jx_wf n σ → jx_wv σ → jx_una ws = op → op ≤ 5 → jx_tr ws < jx_pr 4 → jx_vw F acc v → jx_eqv (jx_lr 4) ws1 ps1 ws (v :: ps) → jx_NT 3 σ ws1 ps1 → jx_MQ t n F 4 (σ, ws1, ps1, false, mn1) ws ps r := by
  intro g
  induction g with
  | zero => intro _ op acc σ r ws ps ws1 ps1 mn1 v h; cases h
  | succ g ih =>
    intro hg op acc σ r ws ps ws1 ps1 mn1 v h w wv hu hop htr hvw hq hnt
    rw [jx_p_14] at h
    by_cases k1 : σ.1 = 2004
    case neg =>
      rw [if_neg k1] at h
      cases h
      exact ⟨v, ws1, ps1, mn1, hvw, jx_rc_r, hq, ⟨fun _ => hnt.1 (by omega), fun _ => hnt.2.1 (by omega), fun _ => hnt.2.2.1 (by omega), fun _ => k1, fun q => absurd q (by omega)⟩, wv⟩
    rw [if_pos k1] at h
    have a := jx_wf_1 (t := t) w (by rw [k1]; decide)
    have ew : jx_jt σ.1 = (38) := by rw [k1]; decide
    have st : jx_stl (jx_rank (38)) ws1 ps1 = (ws, v :: ps) := by
      rw [hq (jx_rank (38)) (by decide) (by decide)]
      exact jx_stl_lt htr
    have T := jx_tn_j (t := t) (n := n) (F := F) (mn := mn1) ew (by decide) (by rw [k1]; decide) st
    have ed : decide (σ.1 = 2004 ∨ σ.1 = 2003) = true := by rw [k1]; decide
    rw [ed] at T
    have hu2 : jx_una ((38) :: ws) = op := by show jx_una ws + 0 = _; omega
    rcases jx_bd_some h with ⟨s, σ', h1, h2⟩ | ⟨z, h1, h2⟩
    · obtain ⟨p1, p2, p3⟩ := jx_pl _ _ _ _ _ _ h1 a.1 (fun _ => rfl)
      dsimp only at p1
      obtain ⟨v2, ws2, ps2, mn2, q1, q2, q3, q4, q5⟩ := I g (by omega) op _ _ ((38) :: ws) (v :: ps) true h1 a.1 (jx_wv_av w) hu2 hop (by show jx_rank (38) < jx_pr 3; decide) (Or.inl rfl) (fun q => absurd q (by omega))
      have V := jx_vw_2 hvw q1 (x := (-12)) (by decide)
      have eo : (if ((-12) : Int32) = -11 then (124 : Int32) else if ((-12) : Int32) = -12 then 38 else if ((-12) : Int32) = -15 then 43 else if ((-12) : Int32) = -16 then 45 else if ((-12) : Int32) = -17 then 42 else if ((-12) : Int32) = -18 then 60 else 61) = (38) := by decide
      rw [eo] at V
      skip
      exact jx_MQ_t (jx_rc_t (jx_rc_1 T) q2) (ih (by omega) op _ σ' r ws ps ws2 ps2 mn2 _ h2 p1 q5 hu hop htr V (jx_eqv_2 (by decide) (by decide) (by decide) q3) q4)
    · subst h2
      exact jx_fl_t (jx_rc_1 T) (I g (by omega) op _ _ ((38) :: ws) (v :: ps) true h1 a.1 (jx_wv_av w) hu2 hop (by show jx_rank (38) < jx_pr 3; decide) (Or.inl rfl) (fun q => absurd q (by omega)))
theorem sm_4 (I : ∀ g, g < f → jx_SM t n F g 3) : jx_SM t n F f 4 := by
  intro op σ r ws ps mn h w wv hu hop htr hmn hmn2
  cases f with
  | zero => cases h
  | succ f =>
    rw [jx_p_4] at h
    have htr2 : jx_tr ws < jx_pr 3 := Nat.lt_of_lt_of_le htr (by decide)
    rcases jx_bd_some h with ⟨s, σ', h1, h2⟩ | ⟨z, h1, h2⟩
    · obtain ⟨p1, p2, p3⟩ := jx_pl _ _ _ _ _ _ h1 w (fun _ => rfl)
      dsimp only at p1
      obtain ⟨v, ws1, ps1, mn1, q1, q2, q3, q4, q5⟩ := I f (by omega) op _ _ ws ps mn h1 w wv hu hop htr2 (Or.inl (hmn.resolve_right (by omega))) (fun q => absurd q (by omega))
      exact jx_MQ_t q2 (lm_14 I f (by omega) op s σ' r ws ps ws1 ps1 mn1 v h2 p1 q5 hu hop htr q1 (jx_eqv_le q3 (by decide)) q4)
    · subst h2
      exact I f (by omega) op _ _ ws ps mn h1 w wv hu hop htr2 (Or.inl (hmn.resolve_right (by omega))) (fun q => absurd q (by omega))
theorem lm_15 (I : ∀ g, g < f → jx_SM t n F g 4) : ∀ (g : Nat), g ≤ f → ∀ (op : Nat) (acc : List Int32) (σ : jx_T) (r : (List Int32 × jx_T) ⊕ Nat) (ws ps ws1 ps1 : List Int32) (mn1 : Bool) (v : Int32), jx_p t n g 15 op acc σ = some r → jx_wf n σ → jx_wv σ → jx_una ws = op → op ≤ 5 → jx_tr ws < jx_pr 5 → jx_vw F acc v → jx_eqv (jx_lr 5) ws1 ps1 ws (v :: ps) → jx_NT 4 σ ws1 ps1 → jx_MQ t n F 5 (σ, ws1, ps1, false, mn1) ws ps r := by
  intro g
  induction g with
  | zero => intro _ op acc σ r ws ps ws1 ps1 mn1 v h; cases h
  | succ g ih =>
    intro hg op acc σ r ws ps ws1 ps1 mn1 v h w wv hu hop htr hvw hq hnt
    rw [jx_p_15] at h
    by_cases k1 : σ.1 = 2003
    case neg =>
      rw [if_neg k1] at h
      cases h
      exact ⟨v, ws1, ps1, mn1, hvw, jx_rc_r, hq, ⟨fun _ => hnt.1 (by omega), fun _ => hnt.2.1 (by omega), fun _ => hnt.2.2.1 (by omega), fun _ => hnt.2.2.2.1 (by omega), fun _ => k1⟩, wv⟩
    rw [if_pos k1] at h
    have a := jx_wf_1 (t := t) w (by rw [k1]; decide)
    have ew : jx_jt σ.1 = (124) := by rw [k1]; decide
    have st : jx_stl (jx_rank (124)) ws1 ps1 = (ws, v :: ps) := by
      rw [hq (jx_rank (124)) (by decide) (by decide)]
      exact jx_stl_lt htr
    have T := jx_tn_j (t := t) (n := n) (F := F) (mn := mn1) ew (by decide) (by rw [k1]; decide) st
    have ed : decide (σ.1 = 2004 ∨ σ.1 = 2003) = true := by rw [k1]; decide
    rw [ed] at T
    have hu2 : jx_una ((124) :: ws) = op := by show jx_una ws + 0 = _; omega
    rcases jx_bd_some h with ⟨s, σ', h1, h2⟩ | ⟨z, h1, h2⟩
    · obtain ⟨p1, p2, p3⟩ := jx_pl _ _ _ _ _ _ h1 a.1 (fun _ => rfl)
      dsimp only at p1
      obtain ⟨v2, ws2, ps2, mn2, q1, q2, q3, q4, q5⟩ := I g (by omega) op _ _ ((124) :: ws) (v :: ps) true h1 a.1 (jx_wv_av w) hu2 hop (by show jx_rank (124) < jx_pr 4; decide) (Or.inl rfl) (fun q => absurd q (by omega))
      have V := jx_vw_2 hvw q1 (x := (-11)) (by decide)
      have eo : (if ((-11) : Int32) = -11 then (124 : Int32) else if ((-11) : Int32) = -12 then 38 else if ((-11) : Int32) = -15 then 43 else if ((-11) : Int32) = -16 then 45 else if ((-11) : Int32) = -17 then 42 else if ((-11) : Int32) = -18 then 60 else 61) = (124) := by decide
      rw [eo] at V
      skip
      exact jx_MQ_t (jx_rc_t (jx_rc_1 T) q2) (ih (by omega) op _ σ' r ws ps ws2 ps2 mn2 _ h2 p1 q5 hu hop htr V (jx_eqv_2 (by decide) (by decide) (by decide) q3) q4)
    · subst h2
      exact jx_fl_t (jx_rc_1 T) (I g (by omega) op _ _ ((124) :: ws) (v :: ps) true h1 a.1 (jx_wv_av w) hu2 hop (by show jx_rank (124) < jx_pr 4; decide) (Or.inl rfl) (fun q => absurd q (by omega)))
theorem sm_5 (I : ∀ g, g < f → jx_SM t n F g 4) : jx_SM t n F f 5 := by
  intro op σ r ws ps mn h w wv hu hop htr hmn hmn2
  cases f with
  | zero => cases h
  | succ f =>
    rw [jx_p_5] at h
    have htr2 : jx_tr ws < jx_pr 4 := Nat.lt_of_lt_of_le htr (by decide)
    rcases jx_bd_some h with ⟨s, σ', h1, h2⟩ | ⟨z, h1, h2⟩
    · obtain ⟨p1, p2, p3⟩ := jx_pl _ _ _ _ _ _ h1 w (fun _ => rfl)
      dsimp only at p1
      obtain ⟨v, ws1, ps1, mn1, q1, q2, q3, q4, q5⟩ := I f (by omega) op _ _ ws ps mn h1 w wv hu hop htr2 (Or.inl (hmn.resolve_right (by omega))) (fun q => absurd q (by omega))
      exact jx_MQ_t q2 (lm_15 I f (by omega) op s σ' r ws ps ws1 ps1 mn1 v h2 p1 q5 hu hop htr q1 (jx_eqv_le q3 (by decide)) q4)
    · subst h2
      exact I f (by omega) op _ _ ws ps mn h1 w wv hu hop htr2 (Or.inl (hmn.resolve_right (by omega))) (fun q => absurd q (by omega))
theorem sm_3 (I3 : jx_SM t n F f 3) (I2 : jx_SM t n F f 2) : jx_SM t n F (f + 1) 3 := by
  intro op σ r ws ps mn h w wv hu hop htr hmn hmn2
  have hm := hmn.resolve_right (by omega)
  subst hm
  rw [jx_p_3] at h
  by_cases k3 : σ.1 = 2005
  · rw [if_pos k3] at h
    have a := jx_wf_1 (t := t) w (by rw [k3]; decide)
    by_cases ho : 5 ≤ op
    · rw [if_pos ho] at h
      cases h
      exact ⟨σ, ws, ps, rfl, jx_en_1 (jx_tn_of (Or.inr (Or.inr ⟨rfl, k3⟩)) (by omega))⟩
    · rw [if_neg ho] at h
      have T := jx_tn_o (t := t) (n := n) (F := F) (ws := ws) (ps := ps) (mn := true) (Or.inr (Or.inr ⟨rfl, k3⟩)) (by omega)
      have e1 : (if σ.1 = 40 then (40 : Int32) else if σ.1 = 45 then 126 else 33) = 33 := by rw [k3]; decide
      have e2 : decide (¬ σ.1 = 45) = true := by rw [k3]; decide
      rw [e1, e2] at T
      have hu2 : jx_una (33 :: ws) = op + 1 := by show jx_una ws + 1 = _; omega
      rcases jx_bd_some h with ⟨s, σ', h1, h2⟩ | ⟨z, h1, h2⟩
      · cases h2
        obtain ⟨v, ws1, ps1, mn1, q1, q2, q3, q4, q5⟩ := I3 (op + 1) _ _ (33 :: ws) ps true h1 a.1 (jx_wv_av w) hu2 (by omega) (by show jx_rank 33 < jx_pr 3; decide) (Or.inl rfl) (fun q => absurd q (by omega))
        exact ⟨jx_o1 33 v, ws1, ps1, mn1, jx_vw_n q1, jx_rc_t (jx_rc_1 T) q2, jx_eqv_1 (Or.inl rfl) (by decide) (Nat.le_refl _) q3, q4, q5⟩
      · subst h2
        exact jx_fl_t (jx_rc_1 T) (I3 (op + 1) _ _ (33 :: ws) ps true h1 a.1 (jx_wv_av w) hu2 (by omega) (by show jx_rank 33 < jx_pr 3; decide) (Or.inl rfl) (fun q => absurd q (by omega)))
  rw [if_neg k3] at h
  have htr4 : jx_tr ws < 4 := htr
  have htr2 : jx_tr ws < jx_pr 2 := by show jx_tr ws < 5; omega
  rcases jx_bd_some h with ⟨s, σ', h1, h2⟩ | ⟨z, h1, h2⟩
  · obtain ⟨p1, p2, p3⟩ := jx_pl _ _ _ _ _ _ h1 w (fun _ => rfl)
    dsimp only at p1
    obtain ⟨v, ws1, ps1, mn1, q1, q2, q3, q4, q5⟩ := I2 op _ _ ws ps true h1 w wv hu hop htr2 (Or.inl rfl) (fun _ => Or.inr k3)
    by_cases k1 : σ'.1 = 60 ∨ σ'.1 = 61
    · rw [if_pos k1] at h2
      have a := jx_wf_1 (t := t) p1 (k1.elim (fun q => by rw [q]; decide) (fun q => by rw [q]; decide))
      have st : jx_stl 5 ws1 ps1 = (ws, v :: ps) := by
        rw [q3 5 (by decide) (by decide)]
        exact jx_stl_lt (by omega)
      have T := jx_tn_c (t := t) (n := n) (F := F) (mn := mn1) k1 st (by omega)
      have rk : jx_rank σ'.1 = 4 := by rcases k1 with q | q <;> (rw [q]; decide)
      have nu : ¬ (σ'.1 = 40 ∨ σ'.1 = 33 ∨ σ'.1 = 126) := by rcases k1 with q | q <;> (rw [q]; decide)
      have nu2 : ¬ (σ'.1 = 33 ∨ σ'.1 = 126) := fun q => nu (Or.inr q)
      have hu2 : jx_una (σ'.1 :: ws) = op := by
        show jx_una ws + (if σ'.1 = 40 ∨ σ'.1 = 33 ∨ σ'.1 = 126 then 1 else 0) = _
        rw [if_neg nu]; omega
      have htr5 : jx_tr (σ'.1 :: ws) < jx_pr 2 := by show jx_rank σ'.1 < 5; omega
      rcases jx_bd_some h2 with ⟨s2, σ2, h3, h4⟩ | ⟨z, h3, h4⟩
      · cases h4
        obtain ⟨v2, ws2, ps2, mn2, r1, r2, r3, r4, r5⟩ := I2 op _ _ (σ'.1 :: ws) (v :: ps) false h3 a.1 (jx_wv_av p1) hu2 hop htr5 (Or.inr (by omega)) (fun _ => Or.inl rfl)
        have st2 : jx_stl 5 ws2 ps2 = (σ'.1 :: ws, v2 :: v :: ps) := by
          rw [r3 5 (by decide) (by decide)]
          exact jx_stl_lt (by show jx_rank σ'.1 < 5; omega)
        have E := jx_eqv_2 (r := 3) nu2 (by omega) (by decide) r3
        have NTx : jx_NT 3 σ2 ws2 ps2 := ⟨fun _ => r4.1 (by omega), fun _ => r4.2.1 (by omega), fun _ _ => by rw [st2]; exact rk, fun q => absurd q (by omega), fun q => absurd q (by omega)⟩
        have R := jx_rc_t q2 (jx_rc_t (jx_rc_1 T) r2)
        by_cases k2 : σ'.1 = 60
        · have V := jx_vw_2 q1 r1 (x := -18) (by decide)
          rw [show (if (-18 : Int32) = -11 then (124 : Int32) else if (-18 : Int32) = -12 then 38 else if (-18 : Int32) = -15 then 43 else if (-18 : Int32) = -16 then 45 else if (-18 : Int32) = -17 then 42 else if (-18 : Int32) = -18 then 60 else 61) = 60 by decide] at V
          rw [k2] at E
          rw [if_pos k2]
          exact ⟨_, ws2, ps2, mn2, V, R, E, NTx, r5⟩
        · have k4 := k1.resolve_left k2
          have V := jx_vw_2 q1 r1 (x := -19) (by decide)
          rw [show (if (-19 : Int32) = -11 then (124 : Int32) else if (-19 : Int32) = -12 then 38 else if (-19 : Int32) = -15 then 43 else if (-19 : Int32) = -16 then 45 else if (-19 : Int32) = -17 then 42 else if (-19 : Int32) = -18 then 60 else 61) = 61 by decide] at V
          rw [k4] at E
          rw [if_neg k2]
          exact ⟨_, ws2, ps2, mn2, V, R, E, NTx, r5⟩
      · subst h4
        exact jx_fl_t (jx_rc_t q2 (jx_rc_1 T)) (I2 op _ _ (σ'.1 :: ws) (v :: ps) false h3 a.1 (jx_wv_av p1) hu2 hop htr5 (Or.inr (by omega)) (fun _ => Or.inl rfl))
    · rw [if_neg k1] at h2
      cases h2
      exact ⟨v, ws1, ps1, mn1, q1, q2, jx_eqv_le q3 (by decide), ⟨fun _ => q4.1 (by omega), fun _ => q4.2.1 (by omega), fun _ q => absurd q k1, fun q => absurd q (by omega), fun q => absurd q (by omega)⟩, q5⟩
  · subst h2
    exact I2 op _ _ ws ps true h1 w wv hu hop htr2 (Or.inl rfl) (fun _ => Or.inr k3)
theorem sm_all : ∀ f, (∀ g, g ≤ f → jx_SM t n F g 0) ∧ (∀ g, g ≤ f → jx_SM t n F g 1) ∧ (∀ g, g ≤ f → jx_SM t n F g 2) ∧ (∀ g, g ≤ f → jx_SM t n F g 3) ∧ (∀ g, g ≤ f → jx_SM t n F g 4) ∧ (∀ g, g ≤ f → jx_SM t n F g 5) := by
  have z : ∀ lev, jx_SM t n F 0 lev := fun lev op σ r ws ps mn h => by cases h
  intro f
  induction f with
  | zero =>
    refine ⟨?_, ?_, ?_, ?_, ?_, ?_⟩ <;> (intro g hg; obtain rfl : g = 0 := (by omega); exact z _)
  | succ f ih =>
    obtain ⟨i0, i1, i2, i3, i4, i5⟩ := ih
    have j0 : ∀ g, g ≤ f + 1 → jx_SM t n F g 0 := fun g hg => by
      by_cases q : g = f + 1
      · subst q; exact sm_0 (i0 f (Nat.le_refl _)) (i5 f (Nat.le_refl _))
      · exact i0 g (by omega)
    have j3 : ∀ g, g ≤ f + 1 → jx_SM t n F g 3 := fun g hg => by
      by_cases q : g = f + 1
      · subst q; exact sm_3 (i3 f (Nat.le_refl _)) (i2 f (Nat.le_refl _))
      · exact i3 g (by omega)
    exact ⟨j0, fun g hg => sm_1 (fun g' h' => i0 g' (by omega)), fun g hg => sm_2 (fun g' h' => i1 g' (by omega)), j3, fun g hg => sm_4 (fun g' h' => i3 g' (by omega)), fun g hg => sm_5 (fun g' h' => i4 g' (by omega))⟩
end JIV
