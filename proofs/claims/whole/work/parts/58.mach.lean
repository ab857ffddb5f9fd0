/-! ===== the model's way to read an E: a machine over lists ===== -/
def jx_rank (w : Int32) : Nat := if w = 124 then 1 else if w = 38 then 2 else if w = 33 then 3 else if w = 60 then 4 else if w = 61 then 4 else if w = 43 then 5 else if w = 45 then 5 else if w = 42 then 6 else if w = 126 then 7 else 0
def jx_o2 (w a b : Int32) : Int32 := if w = 43 then a + b else if w = 45 then a - b else if w = 42 then a * b else if w = 60 then (if a < b then 1 else 0) else if w = 61 then (if a = b then 1 else 0) else if w = 38 then (if a ≠ 0 ∧ b ≠ 0 then 1 else 0) else (if a ≠ 0 ∨ b ≠ 0 then 1 else 0)
def jx_o1 (w a : Int32) : Int32 := if w = 126 then -a else if a = 0 then 1 else 0
def jx_wk (w : Int32) (ps : List Int32) : List Int32 := if w = 33 ∨ w = 126 then (match ps with
  | a :: ps => jx_o1 w a :: ps
  | [] => []) else (match ps with
  | b :: a :: ps => jx_o2 w a b :: ps
  | ps => ps)
abbrev jx_S2 : Type := List Int32 × List Int32
def jx_stl (r : Nat) : List Int32 → List Int32 → jx_S2
  | [], ps => ([], ps)
  | w :: ws, ps => if jx_rank w < r then (w :: ws, ps) else jx_stl r ws (jx_wk w ps)
def jx_una : List Int32 → Nat
  | [] => 0
  | w :: ws => jx_una ws + (if w = 40 ∨ w = 33 ∨ w = 126 then 1 else 0)
def jx_bin : List Int32 → Nat
  | [] => 0
  | w :: ws => jx_bin ws + (if w = 40 ∨ w = 33 ∨ w = 126 then 0 else 1)
def jx_tr : List Int32 → Nat
  | [] => 0
  | w :: _ => jx_rank w
def jx_jt (tk : Int32) : Int32 := if tk = 42 ∨ tk = 43 ∨ tk = 45 ∨ tk = 60 ∨ tk = 61 then tk else if tk = 2004 then 38 else if tk = 2003 then 124 else 0
abbrev jx_A : Type := jx_T × List Int32 × List Int32 × Bool × Bool
abbrev jx_Z : Type := Bool × jx_T × List Int32 × List Int32
/-- one turn -/
def jx_tn (t : ji_F) (n : Nat) (F : Int32 → Int32) (α : jx_A) : jx_A ⊕ jx_Z :=
  if α.2.2.2.1 = true ∧ (α.1.1 = 40 ∨ α.1.1 = 45 ∨ (α.2.2.2.2 = true ∧ α.1.1 = 2005)) then
    (if jx_una α.2.1 = 5 then .inr (false, α.1, α.2.1, α.2.2.1) else .inl (jx_av t n α.1, (if α.1.1 = 40 then 40 else if α.1.1 = 45 then 126 else 33) :: α.2.1, α.2.2.1, true, decide (¬ α.1.1 = 45)))
  else if α.2.2.2.1 = true ∧ (α.1.1 = 1002 ∨ α.1.1 = 1003) then
    .inl (jx_av t n α.1, (jx_stl 7 α.2.1 ((if α.1.1 = 1002 then α.1.2.1 else F α.1.2.1) :: α.2.2.1)).1, (jx_stl 7 α.2.1 ((if α.1.1 = 1002 then α.1.2.1 else F α.1.2.1) :: α.2.2.1)).2, false, α.2.2.2.2)
  else if α.2.2.2.1 = true then .inr (false, α.1, α.2.1, α.2.2.1)
  else if ¬ jx_jt α.1.1 = 0 then
    (if (α.1.1 = 60 ∨ α.1.1 = 61) ∧ jx_tr (jx_stl 5 α.2.1 α.2.2.1).1 = 4 then .inr (false, α.1, (jx_stl 5 α.2.1 α.2.2.1).1, (jx_stl 5 α.2.1 α.2.2.1).2)
    else .inl (jx_av t n α.1, jx_jt α.1.1 :: (jx_stl (if α.1.1 = 60 ∨ α.1.1 = 61 then 5 else jx_rank (jx_jt α.1.1)) α.2.1 α.2.2.1).1, (jx_stl (if α.1.1 = 60 ∨ α.1.1 = 61 then 5 else jx_rank (jx_jt α.1.1)) α.2.1 α.2.2.1).2, true, decide (α.1.1 = 2004 ∨ α.1.1 = 2003)))
  else (match jx_stl 1 α.2.1 α.2.2.1 with
    | ([], ps) => .inr (true, α.1, [], ps)
    | (w :: ws, ps) => if α.1.1 = 41 then .inl (jx_av t n α.1, (jx_stl 7 ws ps).1, (jx_stl 7 ws ps).2, false, α.2.2.2.2) else .inr (false, α.1, w :: ws, ps))
def jx_run (t : ji_F) (n : Nat) (F : Int32 → Int32) : Nat → jx_A → Option jx_Z
  | 0, _ => none
  | k + 1, α => match jx_tn t n F α with
    | .inl β => jx_run t n F k β
    | .inr z => some z
/-! what steps come to -/
def jx_e1 (F : Int32 → Int32) (st : List Int32) (x : Int32) : List Int32 :=
  if 0 ≤ x.toInt then x :: st
  else if -11 < x.toInt then F (-1 - x) :: st
  else if x = -13 then (if st.headD 0 = 0 then 1 else 0) :: st.tail
  else if x = -14 then -(st.headD 0) :: st.tail
  else jx_o2 (if x = -11 then 124 else if x = -12 then 38 else if x = -15 then 43 else if x = -16 then 45 else if x = -17 then 42 else if x = -18 then 60 else 61) (st.tail.headD 0) (st.headD 0) :: st.tail.tail
def jx_vw (F : Int32 → Int32) (s : List Int32) (v : Int32) : Prop := ∀ st, s.foldl (jx_e1 F) st = v :: st
section JIV
variable {t : ji_F} {n f op lev r r' : Nat} {F : Int32 → Int32} {acc s s' ws ps ws1 ps1 : List Int32} {σ σ' : jx_T} {v v' w x : Int32} {α β γ : jx_A}
theorem jx_vw_2 (h : jx_vw F s v) (h' : jx_vw F s' v') (hx : x = -11 ∨ x = -12 ∨ x = -15 ∨ x = -16 ∨ x = -17 ∨ x = -18 ∨ x = -19) : jx_vw F (s ++ s' ++ [x]) (jx_o2 (if x = -11 then 124 else if x = -12 then 38 else if x = -15 then 43 else if x = -16 then 45 else if x = -17 then 42 else if x = -18 then 60 else 61) v v') := by
  intro st
  rw [List.foldl_append, List.foldl_append, h, h']
  have n1 : ¬ 0 ≤ x.toInt := by rcases hx with h | h | h | h | h | h | h <;> (rw [h]; decide)
  have n2 : ¬ -11 < x.toInt := by rcases hx with h | h | h | h | h | h | h <;> (rw [h]; decide)
  have n3 : ¬ x = -13 := by rcases hx with h | h | h | h | h | h | h <;> (rw [h]; decide)
  have n4 : ¬ x = -14 := by rcases hx with h | h | h | h | h | h | h <;> (rw [h]; decide)
  show jx_e1 F (v' :: v :: st) x = _
  unfold jx_e1
  rw [if_neg n1, if_neg n2, if_neg n3, if_neg n4]
  rfl
theorem jx_vw_n (h : jx_vw F s v) : jx_vw F (s ++ [-13]) (jx_o1 33 v) := by
  intro st
  rw [List.foldl_append, h]
  show jx_e1 F (v :: st) (-13) = _
  unfold jx_e1
  rw [if_neg (by decide), if_neg (by decide), if_pos rfl]
  rfl
theorem jx_vw_m (h : jx_vw F s v) : jx_vw F (s ++ [-14]) (jx_o1 126 v) := by
  intro st
  rw [List.foldl_append, h]
  show jx_e1 F (v :: st) (-14) = _
  unfold jx_e1
  rw [if_neg (by decide), if_neg (by decide), if_neg (by decide), if_pos rfl]
  rfl
theorem jx_fold1 {g : List Int32 → Int32 → List Int32} {st : List Int32} {a : Int32} : [a].foldl g st = g st a := rfl
theorem jx_vw_i (h : 0 ≤ x.toInt) : jx_vw F [x] x := by
  intro st
  rw [jx_fold1]
  unfold jx_e1
  rw [if_pos h]
theorem jx_vw_f (h : 0 ≤ x.toInt ∧ x.toInt ≤ 9) : jx_vw F [-1 - x] (F x) := by
  intro st
  rw [jx_fold1]
  unfold jx_e1
  have em : (-1 : Int32).toInt = -1 := rfl
  have e : (-1 - x).toInt = -1 - x.toInt := by rw [vi_sub (by omega) (by omega), em]
  have e2 : -1 - (-1 - x) = x := by
    rw [vi_eq, vi_sub (by omega) (by omega), e, em]; omega
  rw [if_neg (by omega), if_pos (by omega), e2]
/-! settling -/
theorem jx_stl_lt (h : jx_tr ws < r) : jx_stl r ws ps = (ws, ps) := by
  cases ws with
  | nil => rfl
  | cons w ws => exact if_pos h
theorem jx_stl_ge (h : r ≤ jx_rank w) : jx_stl r (w :: ws) ps = jx_stl r ws (jx_wk w ps) := if_neg (by omega)
theorem jx_stl_stl (h : r' ≤ r) : ∀ ws ps, jx_stl r' (jx_stl r ws ps).1 (jx_stl r ws ps).2 = jx_stl r' ws ps := by
  intro ws
  induction ws with
  | nil => intro ps; rfl
  | cons w ws ih =>
    intro ps
    by_cases q : jx_rank w < r
    · have e : jx_stl r (w :: ws) ps = (w :: ws, ps) := if_pos q
      rw [e]
    · have e : jx_stl r (w :: ws) ps = jx_stl r ws (jx_wk w ps) := if_neg q
      rw [e, ih, jx_stl_ge (by omega)]
theorem jx_stl_tr (h : 1 ≤ r) : ∀ ws ps, jx_tr (jx_stl r ws ps).1 < r := by
  intro ws
  induction ws with
  | nil => intro ps; exact h
  | cons w ws ih =>
    intro ps
    by_cases q : jx_rank w < r
    · have e : jx_stl r (w :: ws) ps = (w :: ws, ps) := if_pos q
      rw [e]; exact q
    · have e : jx_stl r (w :: ws) ps = jx_stl r ws (jx_wk w ps) := if_neg q
      rw [e]; exact ih _
/-- as good as settled, for ranks up to r -/
def jx_eqv (r : Nat) (ws ps ws1 ps1 : List Int32) : Prop := ∀ r', 1 ≤ r' → r' ≤ r → jx_stl r' ws ps = jx_stl r' ws1 ps1
theorem jx_eqv_le (h : jx_eqv r ws ps ws1 ps1) (hr : r' ≤ r) : jx_eqv r' ws ps ws1 ps1 := fun q h1 h2 => h q h1 (by omega)
theorem jx_eqv_stl : jx_eqv r (jx_stl r ws ps).1 (jx_stl r ws ps).2 ws ps := fun q h1 h2 => jx_stl_stl h2 ws ps
theorem jx_eqv_2 {a b : Int32} (hw : ¬ (w = 33 ∨ w = 126)) (hr : r ≤ jx_rank w) (hr2 : r ≤ r') (h : jx_eqv r' ws1 ps1 (w :: ws) (b :: a :: ps)) : jx_eqv r ws1 ps1 ws (jx_o2 w a b :: ps) := by
  intro q h1 h2
  rw [h q h1 (by omega), jx_stl_ge (by omega)]
  unfold jx_wk
  rw [if_neg hw]
theorem jx_eqv_1 {a : Int32} (hw : w = 33 ∨ w = 126) (hr : r ≤ jx_rank w) (hr2 : r ≤ r') (h : jx_eqv r' ws1 ps1 (w :: ws) (a :: ps)) : jx_eqv r ws1 ps1 ws (jx_o1 w a :: ps) := by
  intro q h1 h2
  rw [h q h1 (by omega), jx_stl_ge (by omega)]
  unfold jx_wk
  rw [if_pos hw]
/-! runs -/
def jx_rc (t : ji_F) (n : Nat) (F : Int32 → Int32) (α β : jx_A) : Prop := ∃ k, ∀ m, jx_run t n F (m + k) α = jx_run t n F m β
def jx_en2 (t : ji_F) (n : Nat) (F : Int32 → Int32) (α : jx_A) (z : jx_Z) : Prop := ∃ k, ∀ m, jx_run t n F (m + k) α = some z
theorem jx_rc_r : jx_rc t n F α α := ⟨0, fun _ => rfl⟩
theorem jx_rc_t (h : jx_rc t n F α β) (h' : jx_rc t n F β γ) : jx_rc t n F α γ := by
  obtain ⟨k, h⟩ := h
  obtain ⟨k', h'⟩ := h'
  exact ⟨k' + k, fun m => by rw [← Nat.add_assoc, h, h']⟩
theorem jx_rc_e {z : jx_Z} (h : jx_rc t n F α β) (h' : jx_en2 t n F β z) : jx_en2 t n F α z := by
  obtain ⟨k, h⟩ := h
  obtain ⟨k', h'⟩ := h'
  exact ⟨k' + k, fun m => by rw [← Nat.add_assoc, h, h']⟩
theorem jx_rc_1 (h : jx_tn t n F α = .inl β) : jx_rc t n F α β := ⟨1, fun m => by rw [jx_run, h]⟩
theorem jx_en_1 {z : jx_Z} (h : jx_tn t n F α = .inr z) : jx_en2 t n F α z := ⟨1, fun m => by rw [jx_run, h]⟩
/-- it ends with false at q -/
def jx_fl (t : ji_F) (n : Nat) (F : Int32 → Int32) (α : jx_A) (q : Nat) : Prop := ∃ σ1 ws1 ps1, σ1.2.2.1 = q ∧ jx_en2 t n F α (false, σ1, ws1, ps1)
theorem jx_fl_t {q : Nat} (h : jx_rc t n F α β) (h' : jx_fl t n F β q) : jx_fl t n F α q := by
  obtain ⟨a, b, c, e, z⟩ := h'
  exact ⟨a, b, c, e, jx_rc_e h z⟩
/-- a token's value is as it should -/
def jx_wv (σ : jx_T) : Prop := (σ.1 = 1002 → 0 ≤ σ.2.1.toInt) ∧ (σ.1 = 1003 → 0 ≤ σ.2.1.toInt ∧ σ.2.1.toInt ≤ 5)
theorem jx_nv_b {s : Nat} (h : ∀ i, i < 4 → True) : ∀ k : Nat, k ≤ 4 → (∀ i, i < k → jx_D (t (s + i)) = true) → 0 ≤ (jx_nv t s k).toInt ∧ (jx_nv t s k).toInt < 10 ^ k := by
  have e10 : (10 : Int32).toInt = 10 := rfl
  have e48 : (48 : Int32).toInt = 48 := rfl
  intro k
  induction k with
  | zero => intro _ _; exact ⟨by show (0 : Int) ≤ (0 : Int32).toInt; decide, by show (0 : Int32).toInt < 10 ^ 0; decide⟩
  | succ k ih =>
    intro hk hD
    obtain ⟨a, b⟩ := ih (by omega) (fun i hi => hD i (by omega))
    have q := hD k (by omega)
    unfold jx_D at q
    rw [Bool.and_eq_true, decide_eq_true_eq, decide_eq_true_eq] at q
    have pb : (10 : Int) ^ k ≤ 10 ^ 3 := by
      have : (10 : Nat) ^ k ≤ 10 ^ 3 := Nat.pow_le_pow_right (by omega) (by omega)
      exact_mod_cast this
    have e5 : (10 : Int) ^ 3 = 1000 := by decide
    have ep : (10 : Int) ^ (k + 1) = 10 ^ k * 10 := Int.pow_succ ..
    rw [e5] at pb
    have m : (jx_nv t s k * 10).toInt = (jx_nv t s k).toInt * 10 := by rw [vi_mul (by rw [e10]; omega) (by rw [e10]; omega), e10]
    have p : (jx_nv t s k * 10 + t (s + k)).toInt = (jx_nv t s k).toInt * 10 + (t (s + k)).toInt := by rw [vi_add (by omega) (by omega), m]
    have z : (jx_nv t s (k + 1)).toInt = (jx_nv t s k).toInt * 10 + (t (s + k)).toInt - 48 := by
      show (jx_nv t s k * 10 + t (s + k) - 48).toInt = _
      rw [vi_sub (by omega) (by omega), p, e48]
    rw [z, ep]
    omega
theorem jx_wv_tok {p : Nat} (hp : p ≤ n) : jx_wv (jx_tok t n p) := by
  have a := jx_en_b (q := jx_B) (t := t) (n := n) _ p (Nat.le_refl _) hp
  unfold jx_tok
  generalize jx_en jx_B t n p = s at a
  split
  · split
    · -- a word
      have W := jx_wt_n (jx_ru t s (jx_en jx_L t n s - s)) 12 (Nat.le_refl _)
      by_cases h : ∃ w, w < 12 ∧ jx_ru t s (jx_en jx_L t n s - s) = jx_ws.getD w []
      · obtain ⟨w, hw, e⟩ := h
        rw [jx_wt_at hw e 12 hw (Nat.le_refl _)]
        have ew := vi_nn (n := w) (by omega)
        constructor
        · intro q; show 0 ≤ (Int32.ofNat w).toInt; omega
        · intro q
          have q : (if w < 6 then (1003 : Int32) else 2000 + Int32.ofNat w - 6) = 1003 := q
          show 0 ≤ (Int32.ofNat w).toInt ∧ (Int32.ofNat w).toInt ≤ 5
          by_cases g : w < 6
          · omega
          · rw [if_neg g] at q
            have := (jx_nk_w w (by omega) hw).2.1
            rw [q] at this
            have e1003 : (1003 : Int32).toInt = 1003 := rfl
            omega
      · rw [jx_wt_no (fun w hw e => h ⟨w, hw, e⟩) 12 (Nat.le_refl _)]
        exact ⟨fun q => absurd q (by show ¬ ((1001 : Int32) = 1002); decide), fun q => absurd q (by show ¬ ((1001 : Int32) = 1003); decide)⟩
    · split
      · have bq := jx_en_q (q := jx_D) (t := t) (n := n) _ s (Nat.le_refl _)
        by_cases h4 : 4 < jx_en jx_D t n s - s
        · rw [if_pos h4]
          exact ⟨fun q => absurd q (by show ¬ ((1001 : Int32) = 1002); decide), fun q => absurd q (by show ¬ ((1001 : Int32) = 1003); decide)⟩
        · rw [if_neg h4]
          exact ⟨fun _ => (jx_nv_b (fun _ _ => trivial) _ (by omega) (fun i hi => bq (s + i) (by omega) (by omega))).1, fun q => absurd q (by show ¬ ((1002 : Int32) = 1003); decide)⟩
      · rename_i h1 h2
        constructor
        · intro q; show 0 ≤ (0 : Int32).toInt; decide
        · intro q; show 0 ≤ (0 : Int32).toInt ∧ (0 : Int32).toInt ≤ 5; decide
  · exact ⟨fun q => absurd q (by show ¬ ((1000 : Int32) = 1002); decide), fun q => absurd q (by show ¬ ((1000 : Int32) = 1003); decide)⟩
end JIV
