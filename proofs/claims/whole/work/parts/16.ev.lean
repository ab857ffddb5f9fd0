/-! ===== each instruction as a row for simp ===== -/
def ji_evL (x : Option Value) (t : Value → Bool) (f : Value → Prop) : Prop := match x with
  | some v => t v = true ∧ f v
  | none => False
theorem ji_evL_I {v : Int32} {f : Value → Prop} : ji_evL (some (.int v)) ji_isI f ↔ f (.int v) := by simp [ji_evL, ji_isI]
theorem ji_evL_L {v : Int64} {f : Value → Prop} : ji_evL (some (.long v)) ji_isL f ↔ f (.long v) := by simp [ji_evL, ji_isL]
theorem ji_evL_A {v : Nat} {f : Value → Prop} : ji_evL (some (.ref v)) ji_isA f ↔ f (.ref v) := by simp [ji_evL, ji_isA]
theorem ji_evL_X {v : Nat} {f : Value → Prop} : ji_evL (some (.retAddr v)) ji_isA f ↔ f (.retAddr v) := by simp [ji_evL, ji_isA]
/-- an array's length -/
def ji_evA (x : Option (Nat × Nat)) (f : Nat → Prop) : Prop := match x with
  | some (1, n) => f n
  | _ => False
theorem ji_evA_1 {n : Nat} {f : Nat → Prop} : ji_evA (some (1, n)) f ↔ f n := Iff.rfl
def ji_evQ (x : Option (Nat × Nat)) (f : Nat → Prop) : Prop := match x with
  | some (2, n) => f n
  | some (3, n) => f n
  | _ => False
theorem ji_evQ_2 {n : Nat} {f : Nat → Prop} : ji_evQ (some (2, n)) f ↔ f n := Iff.rfl
theorem ji_evQ_3 {n : Nat} {f : Nat → Prop} : ji_evQ (some (3, n)) f ↔ f n := Iff.rfl
def ji_evN (x : Option (Nat × Nat)) (f : Nat → Prop) : Prop := match x with
  | some (1, n) => f n
  | some (2, n) => f n
  | some (3, n) => f n
  | _ => False
theorem ji_evN_1 {n : Nat} {f : Nat → Prop} : ji_evN (some (1, n)) f ↔ f n := Iff.rfl
theorem ji_evN_2 {n : Nat} {f : Nat → Prop} : ji_evN (some (2, n)) f ↔ f n := Iff.rfl
theorem ji_evN_3 {n : Nat} {f : Nat → Prop} : ji_evN (some (3, n)) f ↔ f n := Iff.rfl
def ji_evC (x : Option (Option Value × ji_M)) (f : Option Value → ji_M → Prop) : Prop := match x with
  | some (v, M) => f v M
  | none => False
theorem ji_evC_s {v : Option Value} {M : ji_M} {f : Option Value → ji_M → Prop} : ji_evC (some (v, M)) f ↔ f v M := Iff.rfl
theorem ji_rv_s (a : Nat) : ji_rv (some a) = .ref a := rfl
theorem ji_tl_s (v : Value) (st : List Value) : (some v).toList ++ st = v :: st := rfl
theorem ji_tl_n (st : List Value) : (none : Option Value).toList ++ st = st := rfl
def ji_ok8 (st : List Value) : Prop := (st.map fun v => v.category).sum ≤ 8
section JIE
variable {C : ji_C} {k pc pc' len : Nat} {ins : Instr} {M : ji_M} {lv : ji_L} {st : List Value} {o : Option Value × ji_M}
theorem ev_go {S : ji_S} (h : ji_ins k pc = some (ins, len)) (hr : ji_isret ins = false) (e : ji_nx false C k ins pc M lv st = .inl S) : ji_Ev C k pc M lv st o ↔ ji_Ev C k S.1 S.2.1 S.2.2.1 S.2.2.2 o := by
  rw [ji_ev_iff h hr]
  constructor
  · rintro ⟨S', h1, h2⟩
    rw [e] at h1
    cases h1
    exact h2
  · intro h1
    exact ⟨S, e, h1⟩
theorem ev_if {p : Prop} (dp : Decidable p) {A B : ji_S} (h : ji_ins k pc = some (ins, len)) (hr : ji_isret ins = false) (e : ji_nx false C k ins pc M lv st = if p then .inl A else .inl B) : ji_Ev C k pc M lv st o ↔ if p then ji_Ev C k A.1 A.2.1 A.2.2.1 A.2.2.2 o else ji_Ev C k B.1 B.2.1 B.2.2.1 B.2.2.2 o := by
  by_cases hp : p
  · rw [if_pos hp] at e ⊢
    exact ev_go h hr e
  · rw [if_neg hp] at e ⊢
    exact ev_go h hr e
theorem ev_cond {p : Prop} {A : ji_S} (h : ji_ins k pc = some (ins, len)) (hr : ji_isret ins = false) (e1 : p → ji_nx false C k ins pc M lv st = .inl A) (e2 : ¬ p → ji_nx false C k ins pc M lv st = ji_no) : ji_Ev C k pc M lv st o ↔ p ∧ ji_Ev C k A.1 A.2.1 A.2.2.1 A.2.2.2 o := by
  by_cases hp : p
  · rw [ev_go h hr (e1 hp)]
    exact ⟨fun q => ⟨hp, q⟩, fun q => q.2⟩
  · rw [ji_ev_iff h hr, e2 hp]
    constructor
    · rintro ⟨S, h1, -⟩; cases h1
    · rintro ⟨h1, -⟩; exact absurd h1 hp
theorem ev_ld {x : Option Value} {t : Value → Bool} (h : ji_ins k pc = some (ins, len)) (hr : ji_isret ins = false) (e : ji_nx false C k ins pc M lv st = ji_ld x t pc' M lv st) : ji_Ev C k pc M lv st o ↔ ji_evL x t (fun v => ji_Ev C k pc' M lv (v :: st) o) := by
  rw [ji_ev_iff h hr, e]
  constructor
  · rintro ⟨S, h1, h2⟩
    obtain ⟨v, rfl, ht, rfl⟩ := ji_ld_inv h1
    exact ⟨ht, h2⟩
  · intro h1
    cases x with
    | none => exact h1.elim
    | some v =>
      refine ⟨(pc', M, lv, v :: st), ?_, h1.2⟩
      show (if t v = true then ji_go pc' M lv (v :: st) else ji_no) = _
      rw [if_pos h1.1]
      rfl
theorem ev_iinc {i : Nat} {n : Int} (h : ji_ins k pc = some (.iinc i n, len)) : ji_Ev C k pc M lv st o ↔ ji_evL (lv.getD i none) ji_isI (fun v => match v with | .int x => i < lv.length ∧ ji_Ev C k (pc + 3) M (ji_s1 lv i (.int (x + Int32.ofInt n))) st o | _ => False) := by
  rw [ji_ev_iff h rfl]
  constructor
  · rintro ⟨S, h1, h2⟩
    obtain ⟨x, hx, hi, rfl⟩ := ji_ic_inv h1
    rw [hx]
    exact ⟨rfl, hi, h2⟩
  · intro h1
    cases hx : lv.getD i none with
    | none => rw [hx] at h1; exact h1.elim
    | some v =>
      rw [hx] at h1
      obtain ⟨ht, h2⟩ := h1
      cases v with
      | int x =>
        refine ⟨(pc + 3, M, ji_s1 lv i (.int (x + Int32.ofInt n)), st), ?_, h2.2⟩
        show ji_ic i n pc M lv st = _
        unfold ji_ic
        rw [hx]
        dsimp only
        rw [if_pos h2.1]
        rfl
      | _ => cases ht
theorem ev_getf {a c f z : Nat} {ix : Nat} (h : ji_ins k pc = some (.getfield ix, len)) (hf : ji_fd (ji_ow k) ix = some (c, f, z)) : ji_Ev C k pc M lv (.ref a :: st) o ↔ ji_kd M a = some (0, c) ∧ ji_Ev C k (pc + 3) M lv (ji_fv M a c f :: st) o := by
  refine ev_cond h rfl (A := (pc + 3, M, lv, ji_fv M a c f :: st)) (fun hp => ?_) (fun hp => ?_)
  · show ji_gf k ix pc M lv (.ref a :: st) = _
    unfold ji_gf
    rw [hf]
    dsimp only
    rw [if_pos hp]
    rfl
  · show ji_gf k ix pc M lv (.ref a :: st) = _
    unfold ji_gf
    rw [hf]
    dsimp only
    rw [if_neg hp]
theorem ev_getI {a c f z : Nat} {ix : Nat} (h : ji_ins k pc = some (.getfield ix, len)) (hf : ji_fd (ji_ow k) ix = some (c, f, z)) (ht : ji_fty c f = 0) : ji_Ev C k pc M lv (.ref a :: st) o ↔ ji_kd M a = some (0, c) ∧ ji_Ev C k (pc + 3) M lv (.int (ji_gI M a f) :: st) o := by
  have e : ji_fv M a c f = .int (ji_gI M a f) := by simp only [ji_fv, ht]
  rw [← e]
  exact ev_getf h hf
theorem ev_getL {a c f z : Nat} {ix : Nat} (h : ji_ins k pc = some (.getfield ix, len)) (hf : ji_fd (ji_ow k) ix = some (c, f, z)) (ht : ji_fty c f = 1) : ji_Ev C k pc M lv (.ref a :: st) o ↔ ji_kd M a = some (0, c) ∧ ji_Ev C k (pc + 3) M lv (.long (ji_gL M a f) :: st) o := by
  have e : ji_fv M a c f = .long (ji_gL M a f) := by simp only [ji_fv, ht]
  rw [← e]
  exact ev_getf h hf
theorem ev_getR {a c f z : Nat} {ix : Nat} (h : ji_ins k pc = some (.getfield ix, len)) (hf : ji_fd (ji_ow k) ix = some (c, f, z)) (ht : ji_fty c f = 2) : ji_Ev C k pc M lv (.ref a :: st) o ↔ ji_kd M a = some (0, c) ∧ ji_Ev C k (pc + 3) M lv (ji_rv (ji_gR M a f) :: st) o := by
  have e : ji_fv M a c f = ji_rv (ji_gR M a f) := by simp only [ji_fv, ht]
  rw [← e]
  exact ev_getf h hf
theorem ev_getXv {t : Nat} {ix : Nat} (h : ji_ins k pc = some (.getfield ix, len)) (ho : ji_ow k = 10) (hf : ji_xfd ix = some 0) : ji_Ev C k pc M lv (.retAddr t :: st) o ↔ (1 ≤ t ∧ t ≤ 3) ∧ ji_Ev C k (pc + 3) M lv (.retAddr (t + 3) :: st) o := by
  refine ev_cond h rfl (A := (pc + 3, M, lv, .retAddr (t + 3) :: st)) (fun hp => ?_) (fun hp => ?_)
  · show ji_gf k ix pc M lv (.retAddr t :: st) = _
    unfold ji_gf
    dsimp only
    rw [if_pos ⟨ho, hp.1, hp.2⟩, hf]
    rfl
  · show ji_gf k ix pc M lv (.retAddr t :: st) = _
    unfold ji_gf
    dsimp only
    rw [if_neg (fun q => hp ⟨q.2.1, q.2.2⟩)]
theorem ev_getXc {t : Nat} {ix : Nat} (h : ji_ins k pc = some (.getfield ix, len)) (ho : ji_ow k = 10) (hf : ji_xfd ix = some 1) : ji_Ev C k pc M lv (.retAddr t :: st) o ↔ (1 ≤ t ∧ t ≤ 3) ∧ ji_Ev C k (pc + 3) M lv (.int 0 :: st) o := by
  refine ev_cond h rfl (A := (pc + 3, M, lv, .int 0 :: st)) (fun hp => ?_) (fun hp => ?_)
  · show ji_gf k ix pc M lv (.retAddr t :: st) = _
    unfold ji_gf
    dsimp only
    rw [if_pos ⟨ho, hp.1, hp.2⟩, hf]
    rfl
  · show ji_gf k ix pc M lv (.retAddr t :: st) = _
    unfold ji_gf
    dsimp only
    rw [if_neg (fun q => hp ⟨q.2.1, q.2.2⟩)]
theorem ev_putI {a c f : Nat} {ix : Nat} {v : Int32} (h : ji_ins k pc = some (.putfield ix, len)) (hf : ji_fd (ji_ow k) ix = some (c, f, 0)) (ht : ji_fty c f = 0) (hp : ji_pf k c f = true) : ji_Ev C k pc M lv (.int v :: .ref a :: st) o ↔ ji_kd M a = some (0, c) ∧ ji_Ev C k (pc + 3) (ji_sI M a f v) lv st o := by
  have e : ji_wf M a c f (.int v) = some (ji_sI M a f v) := by simp only [ji_wf, ht]
  refine ev_cond h rfl (A := (pc + 3, ji_sI M a f v, lv, st)) (fun hq => ?_) (fun hq => ?_)
  · show ji_pu k ix pc M lv (.int v :: .ref a :: st) = _
    simp only [ji_pu, hf, hq, hp, e, and_self, if_true, ji_go]
  · show ji_pu k ix pc M lv (.int v :: .ref a :: st) = _
    simp only [ji_pu, hf, hq, false_and, if_false]
theorem ev_putL {a c f : Nat} {ix : Nat} {v : Int64} (h : ji_ins k pc = some (.putfield ix, len)) (hf : ji_fd (ji_ow k) ix = some (c, f, 0)) (ht : ji_fty c f = 1) (hp : ji_pf k c f = true) : ji_Ev C k pc M lv (.long v :: .ref a :: st) o ↔ ji_kd M a = some (0, c) ∧ ji_Ev C k (pc + 3) (ji_sL M a f v) lv st o := by
  have e : ji_wf M a c f (.long v) = some (ji_sL M a f v) := by simp only [ji_wf, ht]
  refine ev_cond h rfl (A := (pc + 3, ji_sL M a f v, lv, st)) (fun hq => ?_) (fun hq => ?_)
  · show ji_pu k ix pc M lv (.long v :: .ref a :: st) = _
    simp only [ji_pu, hf, hq, hp, e, and_self, if_true, ji_go]
  · show ji_pu k ix pc M lv (.long v :: .ref a :: st) = _
    simp only [ji_pu, hf, hq, false_and, if_false]
theorem ev_putR {a c f : Nat} {ix : Nat} {v : Nat} (h : ji_ins k pc = some (.putfield ix, len)) (hf : ji_fd (ji_ow k) ix = some (c, f, 0)) (ht : ji_fty c f = 2) (hp : ji_pf k c f = true) : ji_Ev C k pc M lv (.ref v :: .ref a :: st) o ↔ ji_kd M a = some (0, c) ∧ ji_Ev C k (pc + 3) (ji_sR M a f (some v)) lv st o := by
  have e : ji_wf M a c f (.ref v) = some (ji_sR M a f (some v)) := by simp only [ji_wf, ht]
  refine ev_cond h rfl (A := (pc + 3, ji_sR M a f (some v), lv, st)) (fun hq => ?_) (fun hq => ?_)
  · show ji_pu k ix pc M lv (.ref v :: .ref a :: st) = _
    simp only [ji_pu, hf, hq, hp, e, and_self, if_true, ji_go]
  · show ji_pu k ix pc M lv (.ref v :: .ref a :: st) = _
    simp only [ji_pu, hf, hq, false_and, if_false]
theorem ev_iald {i : Int32} {a : Nat} (h : ji_ins k pc = some (.iaload, len)) : ji_Ev C k pc M lv (.int i :: .ref a :: st) o ↔ ji_evA (ji_kd M a) (fun n => vp_in i n ∧ ji_Ev C k (pc + 1) M lv (.int (ji_gI M a i.toNatClampNeg) :: st) o) := by
  rw [ji_ev_iff h rfl]
  constructor
  · rintro ⟨S, h1, h2⟩
    have h1 : ji_ial pc M lv (.int i :: .ref a :: st) = .inl S := h1
    rcases ji_ial_inv h1 with ⟨i', a', r, n, e, hk, hin, rfl⟩ | ⟨i', r, l, e, -⟩
    · cases e
      rw [hk]
      exact ⟨hin, h2⟩
    · cases e
  · intro h1
    cases hk : ji_kd M a with
    | none => rw [hk] at h1; exact h1.elim
    | some κ =>
      obtain ⟨t, n⟩ := κ
      rw [hk] at h1
      match t, hk, h1 with
      | 1, hk, h1 =>
        refine ⟨(pc + 1, M, lv, .int (ji_gI M a i.toNatClampNeg) :: st), ?_, h1.2⟩
        show ji_ial pc M lv (.int i :: .ref a :: st) = _
        have hv : ¬ (i < 0 ∨ n ≤ i.toNatClampNeg) := h1.1
        simp only [ji_ial, hk, hv, if_false, ji_go]
      | 0, hk, h1 => exact h1.elim
      | t + 2, hk, h1 => exact h1.elim
theorem ev_iast {i v : Int32} {a : Nat} (h : ji_ins k pc = some (.iastore, len)) : ji_Ev C k pc M lv (.int v :: .int i :: .ref a :: st) o ↔ ji_evA (ji_kd M a) (fun n => vp_in i n ∧ ji_Ev C k (pc + 1) (ji_sI M a i.toNatClampNeg v) lv st o) := by
  rw [ji_ev_iff h rfl]
  constructor
  · rintro ⟨S, h1, h2⟩
    have h1 : ji_ias pc M lv (.int v :: .int i :: .ref a :: st) = .inl S := h1
    obtain ⟨v', i', a', r, n, e, hk, hin, rfl⟩ := ji_ias_inv h1
    cases e
    rw [hk]
    exact ⟨hin, h2⟩
  · intro h1
    cases hk : ji_kd M a with
    | none => rw [hk] at h1; exact h1.elim
    | some κ =>
      obtain ⟨t, n⟩ := κ
      rw [hk] at h1
      match t, hk, h1 with
      | 1, hk, h1 =>
        refine ⟨(pc + 1, ji_sI M a i.toNatClampNeg v, lv, st), ?_, h1.2⟩
        show ji_ias pc M lv (.int v :: .int i :: .ref a :: st) = _
        have hv : ¬ (i < 0 ∨ n ≤ i.toNatClampNeg) := h1.1
        simp only [ji_ias, hk, hv, if_false, ji_go]
      | 0, hk, h1 => exact h1.elim
      | t + 2, hk, h1 => exact h1.elim
theorem ev_aald {i : Int32} {a : Nat} (h : ji_ins k pc = some (.aaload, len)) : ji_Ev C k pc M lv (.int i :: .ref a :: st) o ↔ ji_evQ (ji_kd M a) (fun n => vp_in i n ∧ ji_Ev C k (pc + 1) M lv (ji_rv (ji_gR M a i.toNatClampNeg) :: st) o) := by
  rw [ji_ev_iff h rfl]
  constructor
  · rintro ⟨S, h1, h2⟩
    have h1 : ji_aal pc M lv (.int i :: .ref a :: st) = .inl S := h1
    obtain ⟨i', a', r, t, n, e, hk, ht, hin, rfl⟩ := ji_aal_inv h1
    cases e
    rw [hk]
    rcases ht with rfl | rfl
    · exact ⟨hin, h2⟩
    · exact ⟨hin, h2⟩
  · intro h1
    cases hk : ji_kd M a with
    | none => rw [hk] at h1; exact h1.elim
    | some κ =>
      obtain ⟨t, n⟩ := κ
      rw [hk] at h1
      match t, hk, h1 with
      | 2, hk, h1 =>
        refine ⟨(pc + 1, M, lv, ji_rv (ji_gR M a i.toNatClampNeg) :: st), ?_, h1.2⟩
        show ji_aal pc M lv (.int i :: .ref a :: st) = _
        have hv : ¬ (i < 0 ∨ n ≤ i.toNatClampNeg) := h1.1
        simp only [ji_aal, hk, hv, if_false, ji_go]
      | 3, hk, h1 =>
        refine ⟨(pc + 1, M, lv, ji_rv (ji_gR M a i.toNatClampNeg) :: st), ?_, h1.2⟩
        show ji_aal pc M lv (.int i :: .ref a :: st) = _
        have hv : ¬ (i < 0 ∨ n ≤ i.toNatClampNeg) := h1.1
        simp only [ji_aal, hk, hv, if_false, ji_go]
      | 0, hk, h1 => exact h1.elim
      | 1, hk, h1 => exact h1.elim
      | t + 4, hk, h1 => exact h1.elim
theorem ev_alen {a : Nat} (h : ji_ins k pc = some (.arraylength, len)) : ji_Ev C k pc M lv (.ref a :: st) o ↔ ji_evN (ji_kd M a) (fun n => ji_Ev C k (pc + 1) M lv (.int (Int32.ofNat n) :: st) o) := by
  rw [ji_ev_iff h rfl]
  constructor
  · rintro ⟨S, h1, h2⟩
    have h1 : ji_aln pc M lv (.ref a :: st) = .inl S := h1
    rcases ji_aln_inv h1 with ⟨a', r, t, n, e, hk, ht, rfl⟩ | ⟨t, r, l, e, -⟩
    · cases e
      rw [hk]
      rcases ht with rfl | rfl | rfl <;> exact h2
    · cases e
  · intro h1
    cases hk : ji_kd M a with
    | none => rw [hk] at h1; exact h1.elim
    | some κ =>
      obtain ⟨t, n⟩ := κ
      rw [hk] at h1
      have key : t = 1 ∨ t = 2 ∨ t = 3 → ji_nx false C k .arraylength pc M lv (.ref a :: st) = .inl (pc + 1, M, lv, .int (Int32.ofNat n) :: st) := by
        intro ht
        show ji_aln pc M lv (.ref a :: st) = _
        simp only [ji_aln, hk, ht, if_true, ji_go]
      match t, h1, key with
      | 1, h1, key => exact ⟨(pc + 1, M, lv, .int (Int32.ofNat n) :: st), key (by simp), h1⟩
      | 2, h1, key => exact ⟨(pc + 1, M, lv, .int (Int32.ofNat n) :: st), key (by simp), h1⟩
      | 3, h1, key => exact ⟨(pc + 1, M, lv, .int (Int32.ofNat n) :: st), key (by simp), h1⟩
      | 0, h1, key => exact h1.elim
      | t + 4, h1, key => exact h1.elim
theorem ev_alenX {t : Nat} {l : List Int32} (h : ji_ins k pc = some (.arraylength, len)) (hl : ji_xad t = some l) : ji_Ev C k pc M lv (.retAddr t :: st) o ↔ ji_Ev C k (pc + 1) M lv (.int (Int32.ofNat l.length) :: st) o := by
  refine ev_go (S := (pc + 1, M, lv, .int (Int32.ofNat l.length) :: st)) h rfl ?_
  show ji_aln pc M lv (.retAddr t :: st) = _
  unfold ji_aln
  dsimp only
  rw [hl]
  rfl
theorem ev_ialdX {i : Int32} {l : List Int32} (h : ji_ins k pc = some (.iaload, len)) (hl : ji_xad 0 = some l) : ji_Ev C k pc M lv (.int i :: .retAddr 0 :: st) o ↔ vp_in i l.length ∧ ji_Ev C k (pc + 1) M lv (.int (l.getD i.toNatClampNeg 0) :: st) o := by
  refine ev_cond h rfl (A := (pc + 1, M, lv, .int (l.getD i.toNatClampNeg 0) :: st)) (fun hp => ?_) (fun hp => ?_)
  · show ji_ial pc M lv (.int i :: .retAddr 0 :: st) = _
    unfold ji_ial
    dsimp only
    rw [if_pos rfl, hl]
    dsimp only
    rw [if_neg hp]
    rfl
  · show ji_ial pc M lv (.int i :: .retAddr 0 :: st) = _
    unfold ji_ial
    dsimp only
    rw [if_pos rfl, hl]
    dsimp only
    rw [if_pos (Classical.not_not.mp hp)]
theorem ev_bald {i : Int32} {t : Nat} {l : List Int32} (h : ji_ins k pc = some (.baload, len)) (ht : 4 ≤ t) (hl : ji_xad t = some l) : ji_Ev C k pc M lv (.int i :: .retAddr t :: st) o ↔ vp_in i l.length ∧ ji_Ev C k (pc + 1) M lv (.int (l.getD i.toNatClampNeg 0) :: st) o := by
  refine ev_cond h rfl (A := (pc + 1, M, lv, .int (l.getD i.toNatClampNeg 0) :: st)) (fun hp => ?_) (fun hp => ?_)
  · show ji_bal pc M lv (.int i :: .retAddr t :: st) = _
    unfold ji_bal
    dsimp only
    rw [if_pos ht, hl]
    dsimp only
    rw [if_neg hp]
    rfl
  · show ji_bal pc M lv (.int i :: .retAddr t :: st) = _
    unfold ji_bal
    dsimp only
    rw [if_pos ht, hl]
    dsimp only
    rw [if_pos (Classical.not_not.mp hp)]
theorem ev_inv {y n rc ix : Nat} {r : Value} {st' : List Value} (h : ji_ins k pc = some (.invokevirtual ix, len)) (hc : ji_cd (ji_ow k) ix = some (0, y, n, rc)) (hd : st.drop n = r :: st') : ji_Ev C k pc M lv st o ↔ (ji_rcb M rc r = true ∧ ji_ok8 st') ∧ ji_evC (C y (r :: (st.take n).reverse) M) (fun v M' => ji_Ev C k (pc + 3) M' lv (v.toList ++ st') o) := by
  rw [ji_ev_iff h rfl]
  constructor
  · rintro ⟨S, h1, h2⟩
    obtain ⟨y', n', rc', r', st'', v, M', e1, e2, e3, e4, e5, rfl⟩ := ji_iv_inv h1
    rw [hc] at e1
    cases e1
    rw [hd] at e2
    cases e2
    refine ⟨⟨e3, e4⟩, ?_⟩
    rw [e5]
    exact h2
  · rintro ⟨h1, h2⟩
    cases hq : C y (r :: (st.take n).reverse) M with
    | none => rw [hq] at h2; exact h2.elim
    | some q =>
      rw [hq] at h2
      refine ⟨(pc + 3, q.2, lv, q.1.toList ++ st'), ?_, h2⟩
      show ji_iv C k ix pc M lv st = _
      have h1' : ji_rcb M rc r = true ∧ (st'.map fun v => v.category).sum ≤ 8 := h1
      simp only [ji_iv, hc, hd, h1'.1, h1'.2, and_self, if_true, hq, ji_ret, ji_go]
theorem ev_ins1 {y n z ix : Nat} (h : ji_ins k pc = some (.invokestatic ix, len)) (hc : ji_cd (ji_ow k) ix = some (1, y, n, z) ∨ ji_cd (ji_ow k) ix = some (4, y, n, z)) : ji_Ev C k pc M lv st o ↔ (n ≤ st.length ∧ ji_ok8 (st.drop n)) ∧ ji_evC (C y (st.take n).reverse M) (fun v M' => ji_Ev C k (pc + 3) M' lv (v.toList ++ st.drop n) o) := by
  rw [ji_ev_iff h rfl]
  constructor
  · rintro ⟨S, h1, h2⟩
    rcases ji_is9_inv h1 with ⟨kd, y', n', z', v, M', hkd, e1, e2, e3, e4, rfl⟩ | ⟨z, n, dp, d, sp, s, st', n0, n1, e1, -⟩ | ⟨_, _, _, _, e1, -⟩ | ⟨_, _, _, _, e1, -⟩ | ⟨_, _, _, _, e1, -⟩
    · have e5 : y' = y ∧ n' = n := by rcases hc with hc | hc <;> (rw [hc] at e1; cases e1; exact ⟨rfl, rfl⟩)
      obtain ⟨rfl, rfl⟩ := e5
      refine ⟨⟨e2, e3⟩, ?_⟩
      rw [e4]
      exact h2
    all_goals rcases hc with hc | hc <;> (rw [hc] at e1; cases e1)
  · rintro ⟨h1, h2⟩
    cases hq : C y (st.take n).reverse M with
    | none => rw [hq] at h2; exact h2.elim
    | some q =>
      rw [hq] at h2
      refine ⟨(pc + 3, q.2, lv, q.1.toList ++ st.drop n), ?_, h2⟩
      show ji_is9 C k ix pc M lv st = _
      have h1' : n ≤ st.length ∧ ((st.drop n).map fun v => v.category).sum ≤ 8 := h1
      rcases hc with hc | hc <;> simp only [ji_is9, hc, h1'.1, h1'.2, and_self, if_true, hq, ji_ret, ji_go]
theorem ev_copy {n dp sp : Int32} {d s ix : Nat} (h : ji_ins k pc = some (.invokestatic ix, len)) {z1 z2 z3 : Nat} (hc : ji_cd (ji_ow k) ix = some (6, z1, z2, z3)) : ji_Ev C k pc M lv (.int n :: .int dp :: .ref d :: .int sp :: .ref s :: st) o ↔ ji_evA (ji_kd M s) (fun n0 => ji_evA (ji_kd M d) (fun n1 => (¬ sp < 0 ∧ ¬ dp < 0 ∧ ¬ n < 0 ∧ sp.toNatClampNeg + n.toNatClampNeg ≤ n0 ∧ dp.toNatClampNeg + n.toNatClampNeg ≤ n1 ∧ ji_ok8 st) ∧ ji_Ev C k (pc + 3) (ji_cp M s sp.toNatClampNeg d dp.toNatClampNeg n.toNatClampNeg) lv st o)) := by
  rw [ji_ev_iff h rfl]
  constructor
  · rintro ⟨S, h1, h2⟩
    rcases ji_is9_inv h1 with ⟨kd, y', n', z', v, M', hkd, e1, -⟩ | ⟨z, n, dp, d, sp, s, st', n0, n1, e1, e2, hk0, hk1, g1, g2, g3, g4, g5, g6, rfl⟩ | ⟨_, _, _, _, e1, -⟩ | ⟨_, _, _, _, e1, -⟩ | ⟨_, _, _, _, e1, -⟩
    · rw [hc] at e1
      rcases hkd with rfl | rfl <;> cases e1
    · cases e2
      rw [hk0, hk1]
      exact ⟨⟨g1, g2, g3, g4, g5, g6⟩, h2⟩
    all_goals (rw [hc] at e1; cases e1)
  · intro h1
    cases hk0 : ji_kd M s with
    | none => rw [hk0] at h1; exact h1.elim
    | some κ =>
      obtain ⟨t, n0⟩ := κ
      rw [hk0] at h1
      match t, hk0, h1 with
      | 0, hk0, h1 => exact h1.elim
      | t + 2, hk0, h1 => exact h1.elim
      | 1, hk0, h1 =>
        cases hk1 : ji_kd M d with
        | none => rw [hk1] at h1; exact h1.elim
        | some κ =>
          obtain ⟨t, n1⟩ := κ
          rw [hk1] at h1
          match t, hk1, h1 with
          | 0, hk1, h1 => exact h1.elim
          | t + 2, hk1, h1 => exact h1.elim
          | 1, hk1, h1 =>
            refine ⟨(pc + 3, ji_cp M s sp.toNatClampNeg d dp.toNatClampNeg n.toNatClampNeg, lv, st), ?_, h1.2⟩
            show ji_is9 C k ix pc M lv (.int n :: .int dp :: .ref d :: .int sp :: .ref s :: st) = _
            obtain ⟨⟨g1, g2, g3, g4, g5, g6⟩, -⟩ := h1
            have g6 : (st.map fun v => v.category).sum ≤ 8 := g6
            simp only [ji_is9, hc, hk0, hk1, g1, g2, g3, g4, g5, g6, not_false_eq_true, and_self, if_true, ji_go]
theorem ev_max {x y : Int32} {ix : Nat} (h : ji_ins k pc = some (.invokestatic ix, len)) {z1 z2 z3 : Nat} (hc : ji_cd (ji_ow k) ix = some (7, z1, z2, z3)) : ji_Ev C k pc M lv (.int y :: .int x :: st) o ↔ ji_ok8 st ∧ ji_Ev C k (pc + 3) M lv (.int (if x < y then y else x) :: st) o := by
  refine ev_cond h rfl (A := (pc + 3, M, lv, .int (if x < y then y else x) :: st)) (fun hp => ?_) (fun hp => ?_)
  · have hp : (st.map fun v => v.category).sum ≤ 8 := hp
    show ji_is9 C k ix pc M lv (.int y :: .int x :: st) = _
    simp only [ji_is9, hc, hp, if_true, ji_go]
  · have hp : ¬ (st.map fun v => v.category).sum ≤ 8 := hp
    show ji_is9 C k ix pc M lv (.int y :: .int x :: st) = _
    simp only [ji_is9, hc, hp, if_false]
theorem ev_min {x y : Int32} {ix : Nat} (h : ji_ins k pc = some (.invokestatic ix, len)) {z1 z2 z3 : Nat} (hc : ji_cd (ji_ow k) ix = some (8, z1, z2, z3)) : ji_Ev C k pc M lv (.int y :: .int x :: st) o ↔ ji_ok8 st ∧ ji_Ev C k (pc + 3) M lv (.int (if y < x then y else x) :: st) o := by
  refine ev_cond h rfl (A := (pc + 3, M, lv, .int (if y < x then y else x) :: st)) (fun hp => ?_) (fun hp => ?_)
  · have hp : (st.map fun v => v.category).sum ≤ 8 := hp
    show ji_is9 C k ix pc M lv (.int y :: .int x :: st) = _
    simp only [ji_is9, hc, hp, if_true, ji_go]
  · have hp : ¬ (st.map fun v => v.category).sum ≤ 8 := hp
    show ji_is9 C k ix pc M lv (.int y :: .int x :: st) = _
    simp only [ji_is9, hc, hp, if_false]
theorem ev_minL {x y : Int64} {ix : Nat} (h : ji_ins k pc = some (.invokestatic ix, len)) {z1 z2 z3 : Nat} (hc : ji_cd (ji_ow k) ix = some (9, z1, z2, z3)) : ji_Ev C k pc M lv (.long y :: .long x :: st) o ↔ ji_ok8 st ∧ ji_Ev C k (pc + 3) M lv (.long (if y < x then y else x) :: st) o := by
  refine ev_cond h rfl (A := (pc + 3, M, lv, .long (if y < x then y else x) :: st)) (fun hp => ?_) (fun hp => ?_)
  · have hp : (st.map fun v => v.category).sum ≤ 8 := hp
    show ji_is9 C k ix pc M lv (.long y :: .long x :: st) = _
    simp only [ji_is9, hc, hp, if_true, ji_go]
  · have hp : ¬ (st.map fun v => v.category).sum ≤ 8 := hp
    show ji_is9 C k ix pc M lv (.long y :: .long x :: st) = _
    simp only [ji_is9, hc, hp, if_false]
theorem ev_ireti {v : Int32} (h : ji_ins k pc = some (.ireturn, len)) (ht : (ji_m k).2.2.2.1 = some .int) : ji_Ev C k pc M lv [.int v] o ↔ o = (some (.int v), M) := by
  rw [ji_ev_ret h rfl]
  show ji_ir k M [.int v] = _ ↔ _
  unfold ji_ir
  rw [ht]
  dsimp only
  rw [if_pos (show narrow .int (.int v) = .int v from rfl)]
  constructor
  · intro q; cases q; rfl
  · intro q; rw [q]
theorem ev_iretb {v : Int32} {ty : FieldType} (h : ji_ins k pc = some (.ireturn, len)) (ht : (ji_m k).2.2.2.1 = some ty) : ji_Ev C k pc M lv [.int v] o ↔ narrow ty (.int v) = .int v ∧ o = (some (.int v), M) := by
  rw [ji_ev_ret h rfl]
  show ji_ir k M [.int v] = _ ↔ _
  unfold ji_ir
  rw [ht]
  dsimp only
  by_cases hn : narrow ty (.int v) = .int v
  · rw [if_pos hn]
    constructor
    · intro q; cases q; exact ⟨hn, rfl⟩
    · intro q; rw [q.2]
  · rw [if_neg hn]
    constructor
    · intro q; cases q
    · intro q; exact absurd q.1 hn
theorem ev_lret {v : Int64} (h : ji_ins k pc = some (.lreturn, len)) (ht : (ji_m k).2.2.2.1 = some .long) : ji_Ev C k pc M lv [.long v] o ↔ o = (some (.long v), M) := by
  rw [ji_ev_ret h rfl]
  show ji_lr k M [.long v] = _ ↔ _
  unfold ji_lr
  dsimp only
  rw [if_pos ht]
  constructor
  · intro q; cases q; rfl
  · intro q; rw [q]
theorem ev_vret (h : ji_ins k pc = some (.return_, len)) (ht : (ji_m k).2.2.2.1 = none) : ji_Ev C k pc M lv [] o ↔ o = (none, M) := by
  rw [ji_ev_ret h rfl]
  show ji_vr k M [] = _ ↔ _
  unfold ji_vr
  dsimp only
  rw [if_pos ht]
  constructor
  · intro q; cases q; rfl
  · intro q; rw [q]
end JIE
