/-! ===== a text, read: steps, or the place of the fault ===== -/
abbrev jx_T : Type := Int32 × Int32 × Nat × Nat
abbrev jx_R : Type := Option ((List Int32 × jx_T) ⊕ Nat)
def jx_bd (r : jx_R) (f : List Int32 → jx_T → jx_R) : jx_R := match r with
  | some (.inl q) => f q.1 q.2
  | some (.inr q) => some (.inr q)
  | none => none
def jx_av (t : ji_F) (n : Nat) (σ : jx_T) : jx_T := jx_tok t n σ.2.2.2
/-- levels: 0 one, 1 term, 2 sum, 3 not, 4 both, 5 either; 11, 12, 14, 15 what follows in these -/
def jx_p (t : ji_F) (n : Nat) : Nat → Nat → Nat → List Int32 → jx_T → jx_R
  | 0, _, _, _, _ => none
  | f + 1, lev, op, acc, σ =>
    if lev = 0 then
      (if σ.1 = 1002 then some (.inl ([σ.2.1], jx_av t n σ))
      else if σ.1 = 1003 then some (.inl ([-1 - σ.2.1], jx_av t n σ))
      else if σ.1 = 45 then (if 5 ≤ op then some (.inr σ.2.2.1) else jx_bd (jx_p t n f 0 (op + 1) [] (jx_av t n σ)) (fun s σ' => some (.inl (s ++ [-14], σ'))))
      else if σ.1 = 40 then (if 5 ≤ op then some (.inr σ.2.2.1) else jx_bd (jx_p t n f 5 (op + 1) [] (jx_av t n σ)) (fun s σ' => if σ'.1 = 41 then some (.inl (s, jx_av t n σ')) else some (.inr σ'.2.2.1)))
      else some (.inr σ.2.2.1))
    else if lev = 1 then jx_bd (jx_p t n f 0 op [] σ) (fun s σ' => jx_p t n f 11 op s σ')
    else if lev = 11 then (if σ.1 = 42 then jx_bd (jx_p t n f 0 op [] (jx_av t n σ)) (fun s σ' => jx_p t n f 11 op (acc ++ s ++ [-17]) σ') else some (.inl (acc, σ)))
    else if lev = 2 then jx_bd (jx_p t n f 1 op [] σ) (fun s σ' => jx_p t n f 12 op s σ')
    else if lev = 12 then (if σ.1 = 43 ∨ σ.1 = 45 then jx_bd (jx_p t n f 1 op [] (jx_av t n σ)) (fun s σ' => jx_p t n f 12 op (acc ++ s ++ [if σ.1 = 43 then -15 else -16]) σ') else some (.inl (acc, σ)))
    else if lev = 3 then
      (if σ.1 = 2005 then (if 5 ≤ op then some (.inr σ.2.2.1) else jx_bd (jx_p t n f 3 (op + 1) [] (jx_av t n σ)) (fun s σ' => some (.inl (s ++ [-13], σ'))))
      else jx_bd (jx_p t n f 2 op [] σ) (fun s σ' => if σ'.1 = 60 ∨ σ'.1 = 61 then jx_bd (jx_p t n f 2 op [] (jx_av t n σ')) (fun s2 σ2 => some (.inl (s ++ s2 ++ [if σ'.1 = 60 then -18 else -19], σ2))) else some (.inl (s, σ'))))
    else if lev = 4 then jx_bd (jx_p t n f 3 op [] σ) (fun s σ' => jx_p t n f 14 op s σ')
    else if lev = 14 then (if σ.1 = 2004 then jx_bd (jx_p t n f 3 op [] (jx_av t n σ)) (fun s σ' => jx_p t n f 14 op (acc ++ s ++ [-12]) σ') else some (.inl (acc, σ)))
    else if lev = 5 then jx_bd (jx_p t n f 4 op [] σ) (fun s σ' => jx_p t n f 15 op s σ')
    else if lev = 15 then (if σ.1 = 2003 then jx_bd (jx_p t n f 4 op [] (jx_av t n σ)) (fun s σ' => jx_p t n f 15 op (acc ++ s ++ [-11]) σ') else some (.inl (acc, σ)))
    else none
section JIV
variable {t : ji_F} {n f op lev : Nat} {acc : List Int32} {σ : jx_T} {r : jx_R}
theorem jx_p_0 : jx_p t n (f + 1) 0 op acc σ = (if σ.1 = 1002 then some (.inl ([σ.2.1], jx_av t n σ))
      else if σ.1 = 1003 then some (.inl ([-1 - σ.2.1], jx_av t n σ))
      else if σ.1 = 45 then (if 5 ≤ op then some (.inr σ.2.2.1) else jx_bd (jx_p t n f 0 (op + 1) [] (jx_av t n σ)) (fun s σ' => some (.inl (s ++ [-14], σ'))))
      else if σ.1 = 40 then (if 5 ≤ op then some (.inr σ.2.2.1) else jx_bd (jx_p t n f 5 (op + 1) [] (jx_av t n σ)) (fun s σ' => if σ'.1 = 41 then some (.inl (s, jx_av t n σ')) else some (.inr σ'.2.2.1)))
      else some (.inr σ.2.2.1)) := rfl
theorem jx_p_1 : jx_p t n (f + 1) 1 op acc σ = jx_bd (jx_p t n f 0 op [] σ) (fun s σ' => jx_p t n f 11 op s σ') := rfl
theorem jx_p_11 : jx_p t n (f + 1) 11 op acc σ = (if σ.1 = 42 then jx_bd (jx_p t n f 0 op [] (jx_av t n σ)) (fun s σ' => jx_p t n f 11 op (acc ++ s ++ [-17]) σ') else some (.inl (acc, σ))) := rfl
theorem jx_p_2 : jx_p t n (f + 1) 2 op acc σ = jx_bd (jx_p t n f 1 op [] σ) (fun s σ' => jx_p t n f 12 op s σ') := rfl
theorem jx_p_12 : jx_p t n (f + 1) 12 op acc σ = (if σ.1 = 43 ∨ σ.1 = 45 then jx_bd (jx_p t n f 1 op [] (jx_av t n σ)) (fun s σ' => jx_p t n f 12 op (acc ++ s ++ [if σ.1 = 43 then -15 else -16]) σ') else some (.inl (acc, σ))) := rfl
theorem jx_p_3 : jx_p t n (f + 1) 3 op acc σ = (if σ.1 = 2005 then (if 5 ≤ op then some (.inr σ.2.2.1) else jx_bd (jx_p t n f 3 (op + 1) [] (jx_av t n σ)) (fun s σ' => some (.inl (s ++ [-13], σ'))))
      else jx_bd (jx_p t n f 2 op [] σ) (fun s σ' => if σ'.1 = 60 ∨ σ'.1 = 61 then jx_bd (jx_p t n f 2 op [] (jx_av t n σ')) (fun s2 σ2 => some (.inl (s ++ s2 ++ [if σ'.1 = 60 then -18 else -19], σ2))) else some (.inl (s, σ')))) := rfl
theorem jx_p_4 : jx_p t n (f + 1) 4 op acc σ = jx_bd (jx_p t n f 3 op [] σ) (fun s σ' => jx_p t n f 14 op s σ') := rfl
theorem jx_p_14 : jx_p t n (f + 1) 14 op acc σ = (if σ.1 = 2004 then jx_bd (jx_p t n f 3 op [] (jx_av t n σ)) (fun s σ' => jx_p t n f 14 op (acc ++ s ++ [-12]) σ') else some (.inl (acc, σ))) := rfl
theorem jx_p_5 : jx_p t n (f + 1) 5 op acc σ = jx_bd (jx_p t n f 4 op [] σ) (fun s σ' => jx_p t n f 15 op s σ') := rfl
theorem jx_p_15 : jx_p t n (f + 1) 15 op acc σ = (if σ.1 = 2003 then jx_bd (jx_p t n f 4 op [] (jx_av t n σ)) (fun s σ' => jx_p t n f 15 op (acc ++ s ++ [-11]) σ') else some (.inl (acc, σ))) := rfl
/-- a token's places -/
def jx_wf (n : Nat) (σ : jx_T) : Prop := σ.2.2.1 ≤ σ.2.2.2 ∧ σ.2.2.2 ≤ n ∧ (σ.1 ≠ 1000 → σ.2.2.1 < σ.2.2.2)
theorem jx_wf_av (h : jx_wf n σ) : jx_wf n (jx_av t n σ) ∧ σ.2.2.2 ≤ (jx_av t n σ).2.2.1 := by
  have b := jx_tok_b (t := t) (n := n) (p := σ.2.2.2) h.2.1
  exact ⟨⟨b.2.1, b.2.2, fun q => jx_tok_1 h.2.1 q⟩, b.1⟩
theorem jx_wf_1 (h : jx_wf n σ) (q : σ.1 ≠ 1000) : jx_wf n (jx_av t n σ) ∧ σ.2.2.1 + 1 ≤ (jx_av t n σ).2.2.1 := by
  have a := jx_wf_av (t := t) h
  have b := h.2.2 q
  exact ⟨a.1, by omega⟩
def jx_PL (n : Nat) (acc : List Int32) (σ : jx_T) : ((List Int32 × jx_T) ⊕ Nat) → Prop
  | .inl q => jx_wf n q.2 ∧ q.1.length + σ.2.2.1 ≤ acc.length + q.2.2.2.1 ∧ σ.2.2.1 ≤ q.2.2.2.1
  | .inr q => q ≤ n
theorem jx_bd_some {g : List Int32 → jx_T → jx_R} {q : (List Int32 × jx_T) ⊕ Nat} (h : jx_bd r g = some q) : (∃ s σ', r = some (.inl (s, σ')) ∧ g s σ' = some q) ∨ (∃ z, r = some (.inr z) ∧ q = .inr z) := by
  unfold jx_bd at h
  split at h
  · rename_i p
    exact Or.inl ⟨p.1, p.2, rfl, h⟩
  · rename_i p
    cases h
    exact Or.inr ⟨p, rfl, rfl⟩
  · cases h
theorem jx_pl : ∀ (f lev op : Nat) (acc : List Int32) (σ : jx_T) (r : (List Int32 × jx_T) ⊕ Nat), jx_p t n f lev op acc σ = some r → jx_wf n σ → (lev ≤ 5 → acc = []) → jx_PL n acc σ r := by
  have n42 : (42 : Int32) ≠ 1000 := by decide
  have n40 : (40 : Int32) ≠ 1000 := by decide
  have n43 : (43 : Int32) ≠ 1000 := by decide
  have n45 : (45 : Int32) ≠ 1000 := by decide
  have n60 : (60 : Int32) ≠ 1000 := by decide
  have n61 : (61 : Int32) ≠ 1000 := by decide
  have n41 : (41 : Int32) ≠ 1000 := by decide
  have n1002 : (1002 : Int32) ≠ 1000 := by decide
  have n1003 : (1003 : Int32) ≠ 1000 := by decide
  have n2003 : (2003 : Int32) ≠ 1000 := by decide
  have n2004 : (2004 : Int32) ≠ 1000 := by decide
  have n2005 : (2005 : Int32) ≠ 1000 := by decide
  intro f
  induction f with
  | zero => intro lev op acc σ r h; cases h
  | succ f ih =>
    intro lev op acc σ r h w hacc
    have hst : σ.2.2.1 ≤ n := by have := w.1; have := w.2.1; omega
    -- a chain: an operand, then the rest with what was gathered
    have chain : ∀ (l1 l2 : Nat) (a1 a2 : List Int32) (σ1 : jx_T) (g : List Int32 → jx_T → jx_R), l1 ≤ 5 → a1 = [] → jx_wf n σ1 → σ.2.2.1 ≤ σ1.2.2.1 → jx_bd (jx_p t n f l1 op a1 σ1) g = some r → (∀ s σ', jx_wf n σ' → s.length + σ1.2.2.1 ≤ σ'.2.2.1 → g s σ' = some r → jx_PL n acc σ r) → jx_PL n acc σ r := by
      intro l1 l2 a1 a2 σ1 g hl1 ha1 w1 le1 hb F
      rcases jx_bd_some hb with ⟨s, σ', h1, h2⟩ | ⟨z, h1, h2⟩
      · have p := ih l1 op a1 σ1 _ h1 w1 (fun _ => ha1)
        obtain ⟨p1, p2, p3⟩ := p
        dsimp only at p1 p2 p3
        rw [ha1, List.length_nil] at p2
        exact F s σ' p1 (by omega) h2
      · have p := ih l1 op a1 σ1 _ h1 w1 (fun _ => ha1)
        rw [h2]
        exact p
    have chain1 : ∀ (l1 op1 : Nat) (σ1 : jx_T) (g : List Int32 → jx_T → jx_R), l1 ≤ 5 → jx_wf n σ1 → σ.2.2.1 ≤ σ1.2.2.1 → jx_bd (jx_p t n f l1 op1 [] σ1) g = some r → (∀ s σ', jx_wf n σ' → s.length + σ1.2.2.1 ≤ σ'.2.2.1 → g s σ' = some r → jx_PL n acc σ r) → jx_PL n acc σ r := by
      intro l1 op1 σ1 g hl1 w1 le1 hb F
      rcases jx_bd_some hb with ⟨s, σ', h1, h2⟩ | ⟨z, h1, h2⟩
      · obtain ⟨p1, p2, p3⟩ := ih l1 op1 [] σ1 _ h1 w1 (fun _ => rfl)
        dsimp only at p1 p2 p3
        rw [List.length_nil] at p2
        exact F s σ' p1 (by omega) h2
      · have p := ih l1 op1 [] σ1 _ h1 w1 (fun _ => rfl)
        rw [h2]
        exact p
    -- the rest of a level
    have rest : ∀ (l2 : Nat) (s : List Int32) (σ' : jx_T), 5 < l2 → jx_wf n σ' → s.length + σ.2.2.1 ≤ acc.length + σ'.2.2.1 → σ.2.2.1 ≤ σ'.2.2.1 → jx_p t n f l2 op s σ' = some r → jx_PL n acc σ r := by
      intro l2 s σ' hl w' hs hs2 h2
      have p := ih l2 op s σ' r h2 w' (fun q => absurd q (by omega))
      cases r with
      | inl q =>
        obtain ⟨p1, p2, p3⟩ := p
        exact ⟨p1, by omega, by omega⟩
      | inr q => exact p
    have fin : ∀ (s : List Int32) (σ' : jx_T), jx_wf n σ' → s.length + σ.2.2.1 ≤ acc.length + σ'.2.2.1 → σ.2.2.1 ≤ σ'.2.2.1 → (some (.inl (s, σ')) : jx_R) = some r → jx_PL n acc σ r := by
      intro s σ' w' h1 h2 h3
      cases h3
      exact ⟨w', h1, h2⟩
    have bad : ∀ z : Nat, z ≤ n → (some (.inr z) : jx_R) = some r → jx_PL n acc σ r := by
      intro z hz h3
      cases h3
      exact hz
    by_cases q0 : lev = 0
    · subst q0
      rw [jx_p_0] at h
      have ha := hacc (by omega)
      subst ha
      split at h
      · rename_i e
        have a := jx_wf_1 (t := t) w (by rw [e]; exact n1002)
        exact fin _ _ a.1 (by simp only [List.length_cons, List.length_nil]; omega) (by omega) h
      split at h
      · rename_i e
        have a := jx_wf_1 (t := t) w (by rw [e]; exact n1003)
        exact fin _ _ a.1 (by simp only [List.length_cons, List.length_nil]; omega) (by omega) h
      split at h
      · rename_i e
        have a := jx_wf_1 (t := t) w (by rw [e]; exact n45)
        split at h
        · exact bad _ hst h
        · refine chain1 0 _ _ _ (by omega) a.1 (by omega) h (fun s σ' w' hs hg => ?_)
          exact fin _ _ w' (by simp only [List.length_append, List.length_cons, List.length_nil]; omega) (by omega) hg
      split at h
      · rename_i e
        have a := jx_wf_1 (t := t) w (by rw [e]; exact n40)
        split at h
        · exact bad _ hst h
        · refine chain1 5 _ _ _ (by omega) a.1 (by omega) h (fun s σ' w' hs hg => ?_)
          split at hg
          · rename_i e'
            have a' := jx_wf_1 (t := t) w' (by rw [e']; exact n41)
            exact fin _ _ a'.1 (by rw [List.length_nil]; omega) (by omega) hg
          · exact bad _ (by have := w'.1; have := w'.2.1; omega) hg
      · exact bad _ hst h
    by_cases q1 : lev = 1
    · subst q1
      rw [jx_p_1] at h
      have ha := hacc (by omega)
      subst ha
      refine chain1 0 _ _ _ (by omega) w (Nat.le_refl _) h (fun s σ' w' hs hg => ?_)
      exact rest 11 _ _ (by omega) w' (by rw [List.length_nil]; omega) (by omega) hg
    by_cases q11 : lev = 11
    · subst q11
      rw [jx_p_11] at h
      split at h
      · rename_i e
        have a := jx_wf_1 (t := t) w (by rw [e]; exact n42)
        refine chain1 0 _ _ _ (by omega) a.1 (by omega) h (fun s σ' w' hs hg => ?_)
        exact rest 11 _ _ (by omega) w' (by simp only [List.length_append, List.length_cons, List.length_nil]; omega) (by omega) hg
      · exact fin _ _ w (by omega) (by omega) h
    by_cases q2 : lev = 2
    · subst q2
      rw [jx_p_2] at h
      have ha := hacc (by omega)
      subst ha
      refine chain1 1 _ _ _ (by omega) w (Nat.le_refl _) h (fun s σ' w' hs hg => ?_)
      exact rest 12 _ _ (by omega) w' (by rw [List.length_nil]; omega) (by omega) hg
    by_cases q12 : lev = 12
    · subst q12
      rw [jx_p_12] at h
      split at h
      · rename_i e
        have a := jx_wf_1 (t := t) w (by exact e.elim (fun e => by rw [e]; exact n43) (fun e => by rw [e]; exact n45))
        refine chain1 1 _ _ _ (by omega) a.1 (by omega) h (fun s σ' w' hs hg => ?_)
        exact rest 12 _ _ (by omega) w' (by simp only [List.length_append, List.length_cons, List.length_nil]; omega) (by omega) hg
      · exact fin _ _ w (by omega) (by omega) h
    by_cases q3 : lev = 3
    · subst q3
      rw [jx_p_3] at h
      have ha := hacc (by omega)
      subst ha
      split at h
      · rename_i e
        have a := jx_wf_1 (t := t) w (by rw [e]; exact n2005)
        split at h
        · exact bad _ hst h
        · refine chain1 3 _ _ _ (by omega) a.1 (by omega) h (fun s σ' w' hs hg => ?_)
          exact fin _ _ w' (by simp only [List.length_append, List.length_cons, List.length_nil]; omega) (by omega) hg
      · refine chain1 2 _ _ _ (by omega) w (Nat.le_refl _) h (fun s σ' w' hs hg => ?_)
        split at hg
        · rename_i e
          have a := jx_wf_1 (t := t) w' (by exact e.elim (fun e => by rw [e]; exact n60) (fun e => by rw [e]; exact n61))
          refine chain1 2 _ _ _ (by omega) a.1 (by omega) hg (fun s2 σ2 w2 hs2 hg2 => ?_)
          exact fin _ _ w2 (by simp only [List.length_append, List.length_cons, List.length_nil]; omega) (by omega) hg2
        · exact fin _ _ w' (by rw [List.length_nil]; omega) (by omega) hg
    by_cases q4 : lev = 4
    · subst q4
      rw [jx_p_4] at h
      have ha := hacc (by omega)
      subst ha
      refine chain1 3 _ _ _ (by omega) w (Nat.le_refl _) h (fun s σ' w' hs hg => ?_)
      exact rest 14 _ _ (by omega) w' (by rw [List.length_nil]; omega) (by omega) hg
    by_cases q14 : lev = 14
    · subst q14
      rw [jx_p_14] at h
      split at h
      · rename_i e
        have a := jx_wf_1 (t := t) w (by rw [e]; exact n2004)
        refine chain1 3 _ _ _ (by omega) a.1 (by omega) h (fun s σ' w' hs hg => ?_)
        exact rest 14 _ _ (by omega) w' (by simp only [List.length_append, List.length_cons, List.length_nil]; omega) (by omega) hg
      · exact fin _ _ w (by omega) (by omega) h
    by_cases q5 : lev = 5
    · subst q5
      rw [jx_p_5] at h
      have ha := hacc (by omega)
      subst ha
      refine chain1 4 _ _ _ (by omega) w (Nat.le_refl _) h (fun s σ' w' hs hg => ?_)
      exact rest 15 _ _ (by omega) w' (by rw [List.length_nil]; omega) (by omega) hg
    by_cases q15 : lev = 15
    · subst q15
      rw [jx_p_15] at h
      split at h
      · rename_i e
        have a := jx_wf_1 (t := t) w (by rw [e]; exact n2003)
        refine chain1 4 _ _ _ (by omega) a.1 (by omega) h (fun s σ' w' hs hg => ?_)
        exact rest 15 _ _ (by omega) w' (by simp only [List.length_append, List.length_cons, List.length_nil]; omega) (by omega) hg
      · exact fin _ _ w (by omega) (by omega) h
    · rw [jx_p, if_neg q0, if_neg q1, if_neg q11, if_neg q2, if_neg q12, if_neg q3, if_neg q4, if_neg q14, if_neg q5, if_neg q15] at h
      cases h
/-- fuel enough -/
theorem jx_bd_none {g : List Int32 → jx_T → jx_R} (h : jx_bd r g = none) : r = none ∨ ∃ s σ', r = some (.inl (s, σ')) ∧ g s σ' = none := by
  unfold jx_bd at h
  split at h
  · rename_i p
    exact Or.inr ⟨p.1, p.2, rfl, h⟩
  · cases h
  · exact Or.inl rfl
end JIV
