/-! ===== the picture: the pure memory in the machine's heap ===== -/
def ji_tr (b : Nat) (x : Nat → Value) (v : Value) : Value := match v with
  | .ref i => .ref (b + i)
  | .retAddr t => x t
  | w => w
def ji_xo (x : Nat → Value) : Prop := ∀ t, x t = .null ∨ ∃ a, x t = .ref a
theorem ji_tr_cat {b : Nat} {x : Nat → Value} (hx : ji_xo x) (v : Value) : (ji_tr b x v).category = v.category := by
  cases v with
  | retAddr t =>
    rcases hx t with h | ⟨a, h⟩ <;> simp [ji_tr, h, Value.category]
  | _ => rfl
/-- the machine's locals hold the interpreter's -/
def ji_Lv (b : Nat) (x : Nat → Value) (ls : Array Slot) (n : Nat) (lv : ji_L) : Prop := ls.size = n ∧ lv_wf ls ∧ lv.length = n ∧ ∀ (i : Nat) (v : Value), lv[i]? = some (some v) → ls[i]? = some (.val (ji_tr b x v))
theorem ji_getD {lv : ji_L} {i : Nat} {v : Value} (h : lv.getD i none = some v) : lv[i]? = some (some v) := by
  rw [List.getD_eq_getElem?_getD] at h
  cases hq : lv[i]? with
  | none => rw [hq] at h; cases h
  | some z => rw [hq, Option.getD_some] at h; rw [h]
theorem ji_Lv.get {b : Nat} {x : Nat → Value} {ls : Array Slot} {n : Nat} {lv : ji_L} (h : ji_Lv b x ls n lv) {i : Nat} {v : Value} (hg : lv.getD i none = some v) : ls[i]? = some (.val (ji_tr b x v)) := h.2.2.2 i v (ji_getD hg)
def ji_prs (b : Nat) (x : Nat → Value) (lv : ji_L) : List (Nat × Value) := (List.range lv.length).filterMap (fun i => (lv.getD i none).map (fun v => (i, ji_tr b x v)))
theorem ji_prs_mem {b : Nat} {x : Nat → Value} {lv : ji_L} {i : Nat} {v : Value} (h : lv[i]? = some (some v)) : (i, ji_tr b x v) ∈ ji_prs b x lv := by
  refine List.mem_filterMap.mpr ⟨i, List.mem_range.mpr (List.getElem?_eq_some_iff.mp h).1, ?_⟩
  rw [List.getD_eq_getElem?_getD, h]
  rfl
theorem ji_Lv.has {b : Nat} {x : Nat → Value} {ls : Array Slot} {n : Nat} {lv : ji_L} (h : ji_Lv b x ls n lv) : lv_has ls n (ji_prs b x lv) := by
  refine ⟨h.1, h.2.1, fun q hq => ?_⟩
  obtain ⟨i, -, hi⟩ := List.mem_filterMap.mp hq
  cases hv : lv.getD i none with
  | none => rw [hv] at hi; cases hi
  | some v =>
    rw [hv] at hi
    cases hi
    exact h.get hv
theorem ji_kl_at {lv : ji_L} {i j : Nat} {w : Value} (h : (ji_kl lv i)[j]? = some (some w)) : lv[j]? = some (some w) ∧ (j + 1 = i → ¬ w.category = 2) := by
  cases i with
  | zero => exact ⟨h, fun e => absurd e (by omega)⟩
  | succ i =>
    by_cases hj : j = i
    · subst hj
      have key : ∀ o : Option Value, lv.getD j none = o → (ji_kl lv (j + 1))[j]? = some (some w) → lv[j]? = some (some w) ∧ ¬ w.category = 2 := by
        intro o ho hk
        unfold ji_kl at hk
        dsimp only at hk
        rw [ho] at hk
        have hset : ∀ z : ji_L, z = lv.set j none → z[j]? = some (some w) → False := by
          intro z e hz
          subst e
          rw [List.getElem?_set] at hz
          split at hz
          · split at hz <;> cases hz
          · exact absurd rfl ‹_›
        cases o with
        | none =>
          have hk : lv[j]? = some (some w) := hk
          rw [List.getD_eq_getElem?_getD, hk] at ho
          cases ho
        | some v =>
          cases v with
          | long z => exact (hset _ rfl hk).elim
          | double z => exact (hset _ rfl hk).elim
          | _ =>
            have hk : lv[j]? = some (some w) := hk
            rw [List.getD_eq_getElem?_getD, hk] at ho
            cases ho
            exact ⟨hk, by simp [Value.category]⟩
      obtain ⟨h1, h2⟩ := key _ rfl h
      exact ⟨h1, fun _ => h2⟩
    · refine ⟨?_, fun e => absurd (Nat.succ.inj e) hj⟩
      unfold ji_kl at h
      have hne : ∀ z : ji_L, z = lv.set i none → z[j]? = lv[j]? := by
        intro z e
        subst e
        rw [List.getElem?_set_ne (Ne.symm hj)]
      dsimp only at h
      split at h
      · rw [hne _ rfl] at h; exact h
      · rw [hne _ rfl] at h; exact h
      · exact h
theorem ji_kl_len (lv : ji_L) (i : Nat) : (ji_kl lv i).length = lv.length := by
  cases i with
  | zero => rfl
  | succ i =>
    unfold ji_kl
    dsimp only
    split <;> simp
theorem ji_s1_len (lv : ji_L) (i : Nat) (v : Value) : (ji_s1 lv i v).length = lv.length := by simp [ji_s1, ji_kl_len]
theorem ji_s2_len (lv : ji_L) (i : Nat) (v : Value) : (ji_s2 lv i v).length = lv.length := by simp [ji_s2, ji_kl_len]
theorem ji_Lv.st1 {b : Nat} {x : Nat → Value} (hx : ji_xo x) {ls ls' : Array Slot} {n : Nat} {lv : ji_L} (h : ji_Lv b x ls n lv) {i : Nat} {v : Value} (hi : i < lv.length) (h' : lv_has ls' n ((i, ji_tr b x v) :: (ji_prs b x lv).filter (fun q => !(q.1 == i) && !(q.1 + 1 == i && q.2.category == 2)))) : ji_Lv b x ls' n (ji_s1 lv i v) := by
  refine ⟨h'.1, h'.2.1, by rw [ji_s1_len]; exact h.2.2.1, fun j w hj => ?_⟩
  unfold ji_s1 at hj
  by_cases e : j = i
  · subst e
    rw [List.getElem?_set_self (by rw [ji_kl_len]; exact hi)] at hj
    cases hj
    exact h'.2.2 (j, _) List.mem_cons_self
  · rw [List.getElem?_set_ne (Ne.symm e)] at hj
    obtain ⟨h1, h2⟩ := ji_kl_at hj
    refine h'.2.2 (j, ji_tr b x w) (List.mem_cons_of_mem _ (List.mem_filter.mpr ⟨ji_prs_mem h1, ?_⟩))
    have hc := ji_tr_cat (b := b) hx w
    by_cases e2 : j + 1 = i
    · have hne : ((ji_tr b x w).category == 2) = false := by rw [hc]; simpa using h2 e2
      simp [e, hne]
    · simp [e, e2]
theorem ji_Lv.st2 {b : Nat} {x : Nat → Value} (hx : ji_xo x) {ls ls' : Array Slot} {n : Nat} {lv : ji_L} (h : ji_Lv b x ls n lv) {i : Nat} {v : Value} (hi : i + 1 < lv.length) (h' : lv_has ls' n ((i, ji_tr b x v) :: (ji_prs b x lv).filter (fun q => !(q.1 == i) && (!(q.1 == i + 1) && !(q.1 + 1 == i && q.2.category == 2))))) : ji_Lv b x ls' n (ji_s2 lv i v) := by
  refine ⟨h'.1, h'.2.1, by rw [ji_s2_len]; exact h.2.2.1, fun j w hj => ?_⟩
  unfold ji_s2 at hj
  by_cases e1 : j = i + 1
  · subst e1
    rw [List.getElem?_set_self (by simp [ji_kl_len]; exact hi)] at hj
    cases hj
  · rw [List.getElem?_set_ne (Ne.symm e1)] at hj
    by_cases e : j = i
    · subst e
      rw [List.getElem?_set_self (by rw [ji_kl_len]; omega)] at hj
      cases hj
      exact h'.2.2 (j, _) List.mem_cons_self
    · rw [List.getElem?_set_ne (Ne.symm e)] at hj
      obtain ⟨h1, h2⟩ := ji_kl_at hj
      refine h'.2.2 (j, ji_tr b x w) (List.mem_cons_of_mem _ (List.mem_filter.mpr ⟨ji_prs_mem h1, ?_⟩))
      have hc := ji_tr_cat (b := b) hx w
      by_cases e2 : j + 1 = i
      · have hne : ((ji_tr b x w).category == 2) = false := by rw [hc]; simpa using h2 e2
        simp [e, e1, hne]
      · simp [e, e1, e2]
/-- a cell -/
def ji_fvt (b : Nat) (M : ji_M) (a c f : Nat) : Value := match ji_fty c f with
  | 0 => .int (M.2.1 a f)
  | 1 => .long (M.2.2.1 a f)
  | _ => va_rf ((M.2.2.2 a f).map (b + ·))
abbrev ji_G : Type := ClassId × ClassId × ClassId
def ji_Ent (b : Nat) (G : ji_G) (M : ji_M) (i : Nat) (κ : Nat × Nat) : va_E :=
  if κ.1 = 0 then .inr (κ.2, (List.range (ji_ncl κ.2)).map (ji_fvt b M i κ.2))
  else if κ.1 = 1 then .inl (G.1, κ.2, .inl (M.2.1 i))
  else .inl ((if κ.1 = 2 then G.2.1 else G.2.2), κ.2, .inr (.inr (.inr (.inr (fun j => (M.2.2.2 i j).map (b + ·))))))
def ji_Wd (b : Nat) (G : ji_G) (M : ji_M) : va_W := M.1.mapIdx (fun i κ => (b + i, ji_Ent b G M i κ))
def ji_tys (G : ji_G) : List (ClassId × FieldType) := [(G.1, .int), (G.2.1, .array .int), (G.2.2, .object "MudLibrary$Stock")]
theorem ji_Wd_at {b : Nat} {G : ji_G} {M : ji_M} {i : Nat} {κ : Nat × Nat} (h : ji_kd M i = some κ) : (ji_Wd b G M)[i]? = some (b + i, ji_Ent b G M i κ) := by
  unfold ji_kd at h
  unfold ji_Wd
  rw [List.getElem?_mapIdx, h]
  rfl
theorem ji_Wd_of {b : Nat} {G : ji_G} {M : ji_M} {i : Nat} {q : Nat × va_E} (h : (ji_Wd b G M)[i]? = some q) : ∃ κ, ji_kd M i = some κ ∧ q = (b + i, ji_Ent b G M i κ) := by
  unfold ji_Wd at h
  rw [List.getElem?_mapIdx] at h
  cases hk : M.1[i]? with
  | none => rw [hk] at h; cases h
  | some κ => rw [hk] at h; cases h; exact ⟨κ, hk, rfl⟩
theorem ji_Wd_set {b : Nat} {G : ji_G} {M M' : ji_M} {i : Nat} {κ : Nat × Nat} (h1 : M'.1 = M.1) (hi : ji_kd M i = some κ) (h2 : ∀ (j : Nat) (κ' : Nat × Nat), j ≠ i → ji_Ent b G M' j κ' = ji_Ent b G M j κ') : ji_Wd b G M' = (ji_Wd b G M).set i (b + i, ji_Ent b G M' i κ) := by
  apply List.ext_getElem?
  intro j
  unfold ji_kd at hi
  have hl : i < M.1.length := (List.getElem?_eq_some_iff.mp hi).1
  by_cases e : j = i
  · subst e
    rw [List.getElem?_set_self (by simp [ji_Wd]; exact hl)]
    unfold ji_Wd
    rw [List.getElem?_mapIdx, h1, hi]
    rfl
  · rw [List.getElem?_set_ne (Ne.symm e)]
    unfold ji_Wd
    rw [List.getElem?_mapIdx, List.getElem?_mapIdx, h1]
    cases M.1[j]? with
    | none => rfl
    | some κ' => simp only [Option.map_some]; rw [h2 j κ' e]
theorem ji_Ent_o {b : Nat} {G : ji_G} {M : ji_M} {i c : Nat} : ji_Ent b G M i (0, c) = .inr (c, (List.range (ji_ncl c)).map (ji_fvt b M i c)) := rfl
theorem ji_Ent_i {b : Nat} {G : ji_G} {M : ji_M} {i n : Nat} : ji_Ent b G M i (1, n) = .inl (G.1, n, .inl (M.2.1 i)) := rfl
theorem ji_Ent_q {b : Nat} {G : ji_G} {M : ji_M} {i n : Nat} : ji_Ent b G M i (2, n) = .inl (G.2.1, n, .inr (.inr (.inr (.inr (fun j => (M.2.2.2 i j).map (b + ·)))))) := rfl
theorem ji_Ent_s {b : Nat} {G : ji_G} {M : ji_M} {i n : Nat} : ji_Ent b G M i (3, n) = .inl (G.2.2, n, .inr (.inr (.inr (.inr (fun j => (M.2.2.2 i j).map (b + ·)))))) := rfl
/-- two memories that say the same of a cell -/
theorem ji_Ent_congr {b : Nat} {G : ji_G} {M M' : ji_M} {i : Nat} {κ : Nat × Nat} (h1 : ∀ k, M'.2.1 i k = M.2.1 i k) (h2 : ∀ k, M'.2.2.1 i k = M.2.2.1 i k) (h3 : ∀ k, M'.2.2.2 i k = M.2.2.2 i k) : ji_Ent b G M' i κ = ji_Ent b G M i κ := by
  have e1 : M'.2.1 i = M.2.1 i := funext h1
  have e3 : M'.2.2.2 i = M.2.2.2 i := funext h3
  unfold ji_Ent
  have ef : ji_fvt b M' i κ.2 = ji_fvt b M i κ.2 := by
    funext f
    unfold ji_fvt
    rw [h1, h2, h3]
  rw [ef, e1, e3]
/-- a field is written -/
theorem ji_Ent_fld {b : Nat} {G : ji_G} {M M' : ji_M} {i c k : Nat} {v : Value} (hv : ji_fvt b M' i c k = v) (ho : ∀ j, j ≠ k → ji_fvt b M' i c j = ji_fvt b M i c j) : ji_Ent b G M' i (0, c) = .inr (c, ((List.range (ji_ncl c)).map (ji_fvt b M i c)).set k v) := by
  rw [ji_Ent_o]
  congr 2
  apply List.ext_getElem?
  intro j
  by_cases e : j = k
  · subst e
    rw [List.getElem?_set]
    by_cases hj : j < ji_ncl c
    · simp [hj, hv]
    · simp [hj]
  · rw [List.getElem?_set_ne (Ne.symm e)]
    by_cases hj : j < ji_ncl c
    · simp [hj, ho j e]
    · simp [hj]
theorem ji_Wd_sI {b : Nat} {G : ji_G} {M : ji_M} {i k : Nat} {κ : Nat × Nat} {v : Int32} (hi : ji_kd M i = some κ) : ji_Wd b G (ji_sI M i k v) = (ji_Wd b G M).set i (b + i, ji_Ent b G (ji_sI M i k v) i κ) :=
  ji_Wd_set rfl hi (fun j κ' hj => ji_Ent_congr (fun q => by simp [ji_sI, hj]) (fun _ => rfl) (fun _ => rfl))
theorem ji_Wd_sL {b : Nat} {G : ji_G} {M : ji_M} {i k : Nat} {κ : Nat × Nat} {v : Int64} (hi : ji_kd M i = some κ) : ji_Wd b G (ji_sL M i k v) = (ji_Wd b G M).set i (b + i, ji_Ent b G (ji_sL M i k v) i κ) :=
  ji_Wd_set rfl hi (fun j κ' hj => ji_Ent_congr (fun _ => rfl) (fun q => by simp [ji_sL, hj]) (fun _ => rfl))
theorem ji_Wd_sR {b : Nat} {G : ji_G} {M : ji_M} {i k : Nat} {κ : Nat × Nat} {v : Option Nat} (hi : ji_kd M i = some κ) : ji_Wd b G (ji_sR M i k v) = (ji_Wd b G M).set i (b + i, ji_Ent b G (ji_sR M i k v) i κ) :=
  ji_Wd_set rfl hi (fun j κ' hj => ji_Ent_congr (fun _ => rfl) (fun _ => rfl) (fun q => by simp [ji_sR, hj]))
theorem ji_Wd_cp {b : Nat} {G : ji_G} {M : ji_M} {s i d j n : Nat} {κ : Nat × Nat} (hi : ji_kd M d = some κ) : ji_Wd b G (ji_cp M s i d j n) = (ji_Wd b G M).set d (b + d, ji_Ent b G (ji_cp M s i d j n) d κ) :=
  ji_Wd_set rfl hi (fun q κ' hq => ji_Ent_congr (fun z => by simp [ji_cp, hq]) (fun _ => rfl) (fun _ => rfl))
theorem ji_fvt_sI {b : Nat} {M : ji_M} {i c k : Nat} {v : Int32} (ht : ji_fty c k = 0) : ji_fvt b (ji_sI M i k v) i c k = .int v ∧ ∀ j, j ≠ k → ji_fvt b (ji_sI M i k v) i c j = ji_fvt b M i c j := by
  refine ⟨by simp [ji_fvt, ht, ji_sI], fun j hj => ?_⟩
  unfold ji_fvt
  simp [ji_sI, hj]
theorem ji_fvt_sL {b : Nat} {M : ji_M} {i c k : Nat} {v : Int64} (ht : ji_fty c k = 1) : ji_fvt b (ji_sL M i k v) i c k = .long v ∧ ∀ j, j ≠ k → ji_fvt b (ji_sL M i k v) i c j = ji_fvt b M i c j := by
  refine ⟨by simp [ji_fvt, ht, ji_sL], fun j hj => ?_⟩
  unfold ji_fvt
  simp [ji_sL, hj]
theorem ji_fvt_sR {b : Nat} {M : ji_M} {i c k : Nat} {r : Nat} (ht : ji_fty c k = 2) : ji_fvt b (ji_sR M i k (some r)) i c k = .ref (b + r) ∧ ∀ j, j ≠ k → ji_fvt b (ji_sR M i k (some r)) i c j = ji_fvt b M i c j := by
  refine ⟨by simp [ji_fvt, ht, ji_sR, va_rf], fun j hj => ?_⟩
  unfold ji_fvt
  simp [ji_sR, hj]
theorem ji_rv_tr {b : Nat} {x : Nat → Value} (r : Option Nat) : va_rf (r.map (b + ·)) = ji_tr b x (ji_rv r) := by
  cases r <;> rfl
theorem ji_fvt_tr {b : Nat} {x : Nat → Value} {M : ji_M} {a c f : Nat} : ji_fvt b M a c f = ji_tr b x (ji_fv M a c f) := by
  unfold ji_fvt ji_fv
  generalize ji_fty c f = t
  match t with
  | 0 => rfl
  | 1 => rfl
  | n + 2 => exact ji_rv_tr _
/-- which cells a method may change -/
def ji_A (b n sz : Nat) : Nat → Prop := fun q => (b ≤ q ∧ q < b + n) ∨ sz ≤ q
/-- what the tables and the machine's own cells say at a state -/
def ji_K (D : va_G) (G : ji_G) (x : Nat → Value) (U : State) : Prop :=
  va_K D ji_cl (ji_tys G) U ∧ (∀ w ∈ ji_nw, va_Nw w U) ∧ (Cond.arrayOver (.array .int)).before #[] U = true ∧ va_AO "MudLibrary$Stock" U ∧ ∀ (k : Nat) (t : String × Nat × String), ji_st[k]? = some t → ∃ a, x (k + 1) = .ref a ∧ vk_R t.1 t.2.1 t.2.2 a U
def ji_XK (x : Nat → Value) (A : Nat → Prop) (U : State) (H : Heap) : Prop :=
  va_Z "MudLibrary$Stock" "UNDER" "[I" (x 0) A U H ∧ va_Z "java/lang/String" "COMPACT_STRINGS" "Z" (.int 1) A U H ∧ va_Z "jdk/internal/util/Preconditions" "SIOOBE_FORMATTER" "Ljava/util/function/BiFunction;" (x 7) A U H ∧
  (∀ k, 1 ≤ k → k ≤ 3 → ∃ a, x k = .ref a ∧ va_O "java/lang/String" a A U H ∧ va_OF "java/lang/String" "coder" "B" (.int 0) a A U H ∧ va_OF "java/lang/String" "value" "[B" (x (k + 3)) a A U H) ∧
  ∀ (t : Nat) (l : List Int32), ji_xad t = some l → ∃ a, x t = .ref a ∧ va_T (if t = 0 then .int else .byte) a l.length (fun j => .int (l.getD j 0)) A U H
theorem ji_XK.kept {x : Nat → Value} {A : Nat → Prop} {U : State} {H H1 : Heap} (h : ji_XK x A U H) (hq : ∀ a : Nat, a < H.size → ¬ A a → H1[a]? = H[a]?) : ji_XK x A U H1 := by
  obtain ⟨h1, h2, h3, h4, h5⟩ := h
  refine ⟨h1.kept hq, h2.kept hq, h3.kept hq, fun k a b => ?_, fun t l e => ?_⟩
  · obtain ⟨r, q1, q2, q3, q4⟩ := h4 k a b
    exact ⟨r, q1, q2.kept hq, q3.kept hq, q4.kept hq⟩
  · obtain ⟨a, q1, q2⟩ := h5 t l e
    exact ⟨a, q1, q2.kept hq⟩
theorem ji_XK.moved {x : Nat → Value} {A : Nat → Prop} {u U : State} {H : Heap} (hvm : u.vm.Alike U.vm) (h : ji_XK x A u H) : ji_XK x A U H := by
  obtain ⟨h1, h2, h3, h4, h5⟩ := h
  refine ⟨h1.moved hvm, h2.moved hvm, h3.moved hvm, fun k a b => ?_, fun t l e => ?_⟩
  · obtain ⟨r, q1, q2, q3, q4⟩ := h4 k a b
    exact ⟨r, q1, q2.moved hvm, q3.moved hvm, q4.moved hvm⟩
  · obtain ⟨a, q1, q2⟩ := h5 t l e
    exact ⟨a, q1, q2.moved hvm⟩
theorem ji_XK.narrow {x : Nat → Value} {A B : Nat → Prop} {U : State} {H : Heap} (h : ji_XK x A U H) (hAB : ∀ q, B q → A q) : ji_XK x B U H := by
  obtain ⟨h1, h2, h3, h4, h5⟩ := h
  refine ⟨h1.narrow hAB, h2.narrow hAB, h3.narrow hAB, fun k a b => ?_, fun t l e => ?_⟩
  · obtain ⟨r, q1, q2, q3, q4⟩ := h4 k a b
    exact ⟨r, q1, q2.narrow hAB, q3.narrow hAB, q4.narrow hAB⟩
  · obtain ⟨a, q1, q2⟩ := h5 t l e
    exact ⟨a, q1, q2.narrow hAB⟩
theorem ji_nw_kind : ji_nw.all (fun w => match w with | .fieldLinkNest _ _ _ _ _ _ => true | .methodLinkNest _ _ _ _ => true | _ => false) = true := by decide +kernel
theorem ji_nw_warm {w : Cond} (hw : w ∈ ji_nw) {s U : State} (hW : s.WarmedH U.vm) (h : va_Nw w s) : va_Nw w U := by
  have hk := List.all_eq_true.mp ji_nw_kind w hw
  cases w <;> first | exact va_Nw.warmF hW h | exact va_Nw.warmM hW h | cases hk
theorem ji_K.warm {D : va_G} {G : ji_G} {x : Nat → Value} {s U : State} (hW : s.WarmedH U.vm) (h : ji_K D G x s) : ji_K D G x U := by
  obtain ⟨h1, h2, h3, h4, h5⟩ := h
  refine ⟨va_K.moved hW.alike h1, fun w hw => ji_nw_warm hw hW (h2 w hw), arrayOver_alikeB hW.alike h3, va_AO.moved hW.alike h4, fun k t ht => ?_⟩
  obtain ⟨a, q1, q2⟩ := h5 k t ht
  exact ⟨a, q1, q2.warm hW⟩
