/-! ===== without fuel ===== -/
theorem ji_ex_succ {al : Bool} {C : ji_C} {k : Nat} : ∀ (n pc : Nat) (M : ji_M) (lv : ji_L) (st : List Value) (o : Option Value × ji_M), ji_ex al C k n pc M lv st = some o → ji_ex al C k (n + 1) pc M lv st = some o := by
  intro n
  induction n with
  | zero => intro pc M lv st o h; cases h
  | succ n ih =>
    intro pc M lv st o h
    rw [ji_ex] at h ⊢
    split at h
    · cases h
    · rename_i i hi
      try rw [hi]
      try dsimp only
      split at h
      · rename_i S hS
        try rw [hS]
        exact ih _ _ _ _ _ h
      · rename_i r9 hr9
        try rw [hr9]
        exact h
theorem ji_ex_le {al : Bool} {C : ji_C} {k n n' pc : Nat} {M : ji_M} {lv : ji_L} {st : List Value} {o : Option Value × ji_M} (hn : n ≤ n') (h : ji_ex al C k n pc M lv st = some o) : ji_ex al C k n' pc M lv st = some o := by
  induction hn with
  | refl => exact h
  | step _ ih => exact ji_ex_succ _ _ _ _ _ _ ih
def ji_Cle (C C' : ji_C) : Prop := ∀ k a M o, C k a M = some o → C' k a M = some o
theorem ji_ret_le {r r' : Option (Option Value × ji_M)} {pc : Nat} {lv : ji_L} {st : List Value} {S : ji_S} (hr : ∀ o, r = some o → r' = some o) (h : ji_ret r pc lv st = .inl S) : ji_ret r' pc lv st = .inl S := by
  unfold ji_ret at h ⊢
  cases r with
  | none => cases h
  | some o => rw [hr o rfl]; exact h
theorem ji_ret_inr {r : Option (Option Value × ji_M)} {pc : Nat} {lv : ji_L} {st : List Value} {o : Option Value × ji_M} (h : ji_ret r pc lv st = .inr (some o)) : False := by
  unfold ji_ret at h
  split at h <;> cases h
theorem ji_nx_le {al : Bool} {C C' : ji_C} (hC : ji_Cle C C') {k : Nat} {ins : Instr} {pc : Nat} {M : ji_M} {lv : ji_L} {st : List Value} {S : ji_S} (h : ji_nx al C k ins pc M lv st = .inl S) : ji_nx al C' k ins pc M lv st = .inl S := by
  cases ins with
  | invokevirtual ix =>
    have h : ji_iv C k ix pc M lv st = .inl S := h
    show ji_iv C' k ix pc M lv st = .inl S
    unfold ji_iv at h ⊢
    split at h
    · split at h
      · split at h
        · rename_i q
          rw [if_pos q]
          exact ji_ret_le (hC _ _ _) h
        · cases h
      · cases h
    · cases h
  | invokestatic ix =>
    have h : ji_is9 C k ix pc M lv st = .inl S := h
    show ji_is9 C' k ix pc M lv st = .inl S
    unfold ji_is9 at h ⊢
    split at h
    · split at h
      · rename_i q
        rw [if_pos q]
        exact ji_ret_le (hC _ _ _) h
      · cases h
    · split at h
      · rename_i q
        rw [if_pos q]
        exact ji_ret_le (hC _ _ _) h
      · cases h
    all_goals exact h
  | invokespecial ix =>
    have h : ji_ip C k ix pc M lv st = .inl S := h
    show ji_ip C' k ix pc M lv st = .inl S
    unfold ji_ip at h ⊢
    split at h
    · split at h
      · split at h
        · rename_i q
          rw [if_pos q]
          exact ji_ret_le (hC _ _ _) h
        · cases h
      · cases h
    · split at h
      · split at h
        · rename_i q
          rw [if_pos q]
          exact ji_ret_le (hC _ _ _) h
        · cases h
      · cases h
    all_goals exact h
  | newarray ty => cases ty <;> exact h
  | multianewarray ix n =>
    match n, h with
    | 0, h => exact h
    | 1, h => exact h
    | 2, h => exact h
    | n + 3, h => exact h
  | _ => exact h
theorem ji_nx_inr {al : Bool} {C C' : ji_C} {k : Nat} {ins : Instr} {pc : Nat} {M : ji_M} {lv : ji_L} {st : List Value} {r : ji_O} (hr : ji_isret ins = true) (h : ji_nx al C k ins pc M lv st = .inr r) : ji_nx al C' k ins pc M lv st = .inr r := by
  cases ins <;> first | exact h | cases hr
theorem ji_ex_Cle {al : Bool} {C C' : ji_C} (hC : ji_Cle C C') {k : Nat} : ∀ (n pc : Nat) (M : ji_M) (lv : ji_L) (st : List Value) (o : Option Value × ji_M), ji_ex al C k n pc M lv st = some o → ji_ex al C' k n pc M lv st = some o := by
  intro n
  induction n with
  | zero => intro pc M lv st o h; cases h
  | succ n ih =>
    intro pc M lv st o h
    rw [ji_ex] at h ⊢
    split at h
    · cases h
    · rename_i i hi
      try rw [hi]
      try dsimp only
      split at h
      · rename_i S hS
        rw [ji_nx_le hC hS]
        exact ih _ _ _ _ _ h
      · rename_i r9 hr9
        split at h
        · rename_i hret
          rw [ji_nx_inr (C' := C') hret hr9]
          dsimp only
          rw [if_pos hret]
          exact h
        · cases h
theorem ji_clN_le {al : Bool} {N N' : Nat} (hN : N ≤ N') : ∀ d, ji_Cle (ji_clN al N d) (ji_clN al N' d) := by
  intro d
  induction d with
  | zero => intro k a M o h; cases h
  | succ d ih =>
    intro k a M o h
    rw [ji_clN] at h ⊢
    dsimp only at h ⊢
    split at h
    · rename_i q
      rw [if_pos q]
      exact ji_ex_le hN (ji_ex_Cle ih _ _ _ _ _ _ h)
    · cases h
/-- the methods to a depth, without fuel -/
noncomputable def ji_CL (d : Nat) : ji_C := fun k a M =>
  @dite _ (∃ (o : Option Value × ji_M) (N : Nat), ji_clN false N d k a M = some o) (Classical.propDecidable _) (fun h => some h.choose) (fun _ => none)
theorem ji_CL_of {d N k : Nat} {a : List Value} {M : ji_M} {o : Option Value × ji_M} (h : ji_clN false N d k a M = some o) : ji_CL d k a M = some o := by
  have hx : ∃ (o : Option Value × ji_M) (N : Nat), ji_clN false N d k a M = some o := ⟨o, N, h⟩
  unfold ji_CL
  rw [dif_pos hx]
  obtain ⟨N', h'⟩ := hx.choose_spec
  have h1 := ji_clN_le (al := false) (Nat.le_max_left N N') d _ _ _ _ h
  have h2 := ji_clN_le (al := false) (Nat.le_max_right N N') d _ _ _ _ h'
  rw [h1] at h2
  exact h2.symm
theorem ji_CL_N {d k : Nat} {a : List Value} {M : ji_M} {o : Option Value × ji_M} (h : ji_CL d k a M = some o) : ∃ N, ji_clN false N d k a M = some o := by
  unfold ji_CL at h
  by_cases hx : ∃ (o : Option Value × ji_M) (N : Nat), ji_clN false N d k a M = some o
  · rw [dif_pos hx] at h
    cases h
    exact hx.choose_spec
  · rw [dif_neg hx] at h
    cases h
theorem ji_nx_fin {al : Bool} {C : ji_C} {F : Nat → ji_C} (hf : ∀ k a M o, C k a M = some o → ∃ N, F N k a M = some o) {k : Nat} {ins : Instr} {pc : Nat} {M : ji_M} {lv : ji_L} {st : List Value} {S : ji_S} (h : ji_nx al C k ins pc M lv st = .inl S) : ∃ N, ji_nx al (F N) k ins pc M lv st = .inl S := by
  have hr : ∀ {y : Nat} {a : List Value} {st' : List Value}, ji_ret (C y a M) pc lv st' = .inl S → ∃ N, ji_ret (F N y a M) pc lv st' = .inl S := by
    intro y a st' h
    cases hc : C y a M with
    | none => rw [hc] at h; cases h
    | some o =>
      obtain ⟨N, hN⟩ := hf _ _ _ _ hc
      exact ⟨N, by rw [hN, ← hc]; exact h⟩
  cases ins with
  | invokevirtual ix =>
    have h : ji_iv C k ix pc M lv st = .inl S := h
    show ∃ N, ji_iv (F N) k ix pc M lv st = .inl S
    unfold ji_iv at h ⊢
    split at h
    · split at h
      · split at h
        · rename_i q
          obtain ⟨N, hN⟩ := hr h
          exact ⟨N, by rw [if_pos q]; exact hN⟩
        · cases h
      · cases h
    · cases h
  | invokestatic ix =>
    have h : ji_is9 C k ix pc M lv st = .inl S := h
    show ∃ N, ji_is9 (F N) k ix pc M lv st = .inl S
    unfold ji_is9 at h ⊢
    split at h
    · split at h
      · rename_i q
        obtain ⟨N, hN⟩ := hr h
        exact ⟨N, by rw [if_pos q]; exact hN⟩
      · cases h
    · split at h
      · rename_i q
        obtain ⟨N, hN⟩ := hr h
        exact ⟨N, by rw [if_pos q]; exact hN⟩
      · cases h
    all_goals exact ⟨0, h⟩
  | invokespecial ix =>
    have h : ji_ip C k ix pc M lv st = .inl S := h
    show ∃ N, ji_ip (F N) k ix pc M lv st = .inl S
    unfold ji_ip at h ⊢
    split at h
    · split at h
      · split at h
        · rename_i q
          obtain ⟨N, hN⟩ := hr h
          exact ⟨N, by rw [if_pos q]; exact hN⟩
        · cases h
      · cases h
    · split at h
      · split at h
        · rename_i q
          obtain ⟨N, hN⟩ := hr h
          exact ⟨N, by rw [if_pos q]; exact hN⟩
        · cases h
      · cases h
    all_goals exact ⟨0, h⟩
  | newarray ty => cases ty <;> exact ⟨0, h⟩
  | multianewarray ix n =>
    match n, h with
    | 0, h => exact ⟨0, h⟩
    | 1, h => exact ⟨0, h⟩
    | 2, h => exact ⟨0, h⟩
    | n + 3, h => exact ⟨0, h⟩
  | _ => exact ⟨0, h⟩
theorem ji_ex_fin {al : Bool} {C : ji_C} {F : Nat → ji_C} (hf : ∀ k a M o, C k a M = some o → ∃ N, F N k a M = some o) (hm : ∀ N N', N ≤ N' → ji_Cle (F N) (F N')) {k : Nat} : ∀ (n pc : Nat) (M : ji_M) (lv : ji_L) (st : List Value) (o : Option Value × ji_M), ji_ex al C k n pc M lv st = some o → ∃ N, ji_ex al (F N) k n pc M lv st = some o := by
  intro n
  induction n with
  | zero => intro pc M lv st o h; cases h
  | succ n ih =>
    intro pc M lv st o h
    rw [ji_ex] at h
    split at h
    · cases h
    · rename_i i hi
      split at h
      · rename_i S hS
        obtain ⟨N1, h1⟩ := ji_nx_fin hf hS
        obtain ⟨N2, h2⟩ := ih _ _ _ _ _ h
        refine ⟨max N1 N2, ?_⟩
        rw [ji_ex, hi]
        dsimp only
        rw [ji_nx_le (hm _ _ (Nat.le_max_left N1 N2)) h1]
        exact ji_ex_Cle (hm _ _ (Nat.le_max_right N1 N2)) _ _ _ _ _ _ h2
      · rename_i r9 hr9
        split at h
        · rename_i hret
          refine ⟨0, ?_⟩
          rw [ji_ex, hi]
          dsimp only
          rw [ji_nx_inr (C' := F 0) hret hr9]
          dsimp only
          rw [if_pos hret]
          exact h
        · cases h
/-- a frame comes to an end with o -/
def ji_Ev (C : ji_C) (k pc : Nat) (M : ji_M) (lv : ji_L) (st : List Value) (o : Option Value × ji_M) : Prop := ∃ n, ji_ex false C k n pc M lv st = some o
theorem ji_CL_step {d k : Nat} {a : List Value} {M : ji_M} {o : Option Value × ji_M} (hk : k < ji_ms.length) (ha : (ji_ag a).length ≤ (ji_m k).2.2.1) (h : ji_Ev (ji_CL d) k 0 M (ji_en (ji_m k).2.2.1 a) [] o) : ji_CL (d + 1) k a M = some o := by
  obtain ⟨n, h⟩ := h
  obtain ⟨N, hN⟩ := ji_ex_fin (F := fun N => ji_clN false N d) (fun k a M o h => ji_CL_N h) (fun N N' hN => ji_clN_le hN d) _ _ _ _ _ _ h
  refine ji_CL_of (N := max n N) ?_
  rw [ji_clN]
  dsimp only
  rw [if_pos ⟨hk, ha⟩]
  exact ji_ex_le (Nat.le_max_left n N) (ji_ex_Cle (ji_clN_le (Nat.le_max_right n N) d) _ _ _ _ _ _ hN)
theorem ji_ev_iff {C : ji_C} {k pc len : Nat} {ins : Instr} {M : ji_M} {lv : ji_L} {st : List Value} {o : Option Value × ji_M} (h : ji_ins k pc = some (ins, len)) (hr : ji_isret ins = false) : ji_Ev C k pc M lv st o ↔ ∃ S, ji_nx false C k ins pc M lv st = .inl S ∧ ji_Ev C k S.1 S.2.1 S.2.2.1 S.2.2.2 o := by
  constructor
  · rintro ⟨n, hn⟩
    cases n with
    | zero => cases hn
    | succ n =>
      rw [ji_ex, h] at hn
      dsimp only at hn
      split at hn
      · rename_i S hS
        exact ⟨S, hS, n, hn⟩
      · rw [if_neg (by rw [hr]; decide)] at hn
        cases hn
  · rintro ⟨S, hS, n, hn⟩
    refine ⟨n + 1, ?_⟩
    rw [ji_ex, h]
    dsimp only
    rw [hS]
    exact hn
theorem ji_ev_ret {C : ji_C} {k pc len : Nat} {ins : Instr} {M : ji_M} {lv : ji_L} {st : List Value} {o : Option Value × ji_M} (h : ji_ins k pc = some (ins, len)) (hr : ji_isret ins = true) : ji_Ev C k pc M lv st o ↔ ji_nx false C k ins pc M lv st = .inr (some o) := by
  constructor
  · rintro ⟨n, hn⟩
    cases n with
    | zero => cases hn
    | succ n =>
      rw [ji_ex, h] at hn
      dsimp only at hn
      split at hn
      · rename_i S hS
        exfalso
        cases ins with
        | ireturn =>
          have h : ji_ir k M st = .inl S := hS
          unfold ji_ir at h
          split at h
          · split at h
            · split at h <;> cases h
            · cases h
          · cases h
        | lreturn =>
          have h : ji_lr k M st = .inl S := hS
          unfold ji_lr at h
          split at h
          · split at h <;> cases h
          · cases h
        | return_ =>
          have h : ji_vr k M st = .inl S := hS
          unfold ji_vr at h
          split at h
          · split at h <;> cases h
          · cases h
        | _ => cases hr
      · rename_i r9 hr9
        rw [if_pos hr] at hn
        rw [hr9, hn]
  · intro hS
    refine ⟨1, ?_⟩
    rw [ji_ex, h]
    dsimp only
    rw [hS]
    dsimp only
    rw [if_pos hr]
