/-! ===== what the interpreter's answers say, turned round; what the tables say of an entry ===== -/
theorem ji_go_inv {pc : Nat} {M : ji_M} {lv : ji_L} {st : List Value} {S : ji_S} (h : ji_go pc M lv st = .inl S) : S = (pc, M, lv, st) := by
  cases h; rfl
theorem ji_ld_inv {o : Option Value} {t : Value → Bool} {pc : Nat} {M : ji_M} {lv : ji_L} {st : List Value} {S : ji_S} (h : ji_ld o t pc M lv st = .inl S) : ∃ v, o = some v ∧ t v = true ∧ S = (pc, M, lv, v :: st) := by
  unfold ji_ld at h
  cases o with
  | none => cases h
  | some v =>
    dsimp only at h
    by_cases ht : t v = true
    · rw [if_pos ht] at h; exact ⟨v, rfl, ht, ji_go_inv h⟩
    · rw [if_neg ht] at h; cases h
theorem ji_sI1_inv {i pc : Nat} {M : ji_M} {lv : ji_L} {st : List Value} {S : ji_S} (h : ji_sI1 i pc M lv st = .inl S) : ∃ x r, st = .int x :: r ∧ i < lv.length ∧ S = (pc, M, ji_s1 lv i (.int x), r) := by
  unfold ji_sI1 at h
  split at h
  · split at h
    · exact ⟨_, _, rfl, ‹_›, ji_go_inv h⟩
    · cases h
  · cases h
theorem ji_sL1_inv {i pc : Nat} {M : ji_M} {lv : ji_L} {st : List Value} {S : ji_S} (h : ji_sL1 i pc M lv st = .inl S) : ∃ x r, st = .long x :: r ∧ i + 1 < lv.length ∧ S = (pc, M, ji_s2 lv i (.long x), r) := by
  unfold ji_sL1 at h
  split at h
  · split at h
    · exact ⟨_, _, rfl, ‹_›, ji_go_inv h⟩
    · cases h
  · cases h
theorem ji_sA1_inv {i pc : Nat} {M : ji_M} {lv : ji_L} {st : List Value} {S : ji_S} (h : ji_sA1 i pc M lv st = .inl S) : ∃ x r, st = .ref x :: r ∧ i < lv.length ∧ S = (pc, M, ji_s1 lv i (.ref x), r) := by
  unfold ji_sA1 at h
  split at h
  · split at h
    · exact ⟨_, _, rfl, ‹_›, ji_go_inv h⟩
    · cases h
  · cases h
theorem ji_bI_inv {f : Int32 → Int32 → Int32} {pc : Nat} {M : ji_M} {lv : ji_L} {st : List Value} {S : ji_S} (h : ji_bI f pc M lv st = .inl S) : ∃ y x r, st = .int y :: .int x :: r ∧ S = (pc, M, lv, .int (f x y) :: r) := by
  unfold ji_bI at h
  split at h
  · exact ⟨_, _, _, rfl, ji_go_inv h⟩
  · cases h
theorem ji_bD_inv {f : Int32 → Int32 → Int32} {pc : Nat} {M : ji_M} {lv : ji_L} {st : List Value} {S : ji_S} (h : ji_bD f pc M lv st = .inl S) : ∃ y x r, st = .int y :: .int x :: r ∧ ¬ y = 0 ∧ S = (pc, M, lv, .int (f x y) :: r) := by
  unfold ji_bD at h
  split at h
  · split at h
    · cases h
    · exact ⟨_, _, _, rfl, ‹_›, ji_go_inv h⟩
  · cases h
theorem ji_bL_inv {f : Int64 → Int64 → Int64} {pc : Nat} {M : ji_M} {lv : ji_L} {st : List Value} {S : ji_S} (h : ji_bL f pc M lv st = .inl S) : ∃ y x r, st = .long y :: .long x :: r ∧ S = (pc, M, lv, .long (f x y) :: r) := by
  unfold ji_bL at h
  split at h
  · exact ⟨_, _, _, rfl, ji_go_inv h⟩
  · cases h
theorem ji_bDL_inv {f : Int64 → Int64 → Int64} {pc : Nat} {M : ji_M} {lv : ji_L} {st : List Value} {S : ji_S} (h : ji_bDL f pc M lv st = .inl S) : ∃ y x r, st = .long y :: .long x :: r ∧ ¬ y = 0 ∧ S = (pc, M, lv, .long (f x y) :: r) := by
  unfold ji_bDL at h
  split at h
  · split at h
    · cases h
    · exact ⟨_, _, _, rfl, ‹_›, ji_go_inv h⟩
  · cases h
theorem ji_bS_inv {f : Int64 → Int32 → Int64} {pc : Nat} {M : ji_M} {lv : ji_L} {st : List Value} {S : ji_S} (h : ji_bS f pc M lv st = .inl S) : ∃ y x r, st = .int y :: .long x :: r ∧ S = (pc, M, lv, .long (f x y) :: r) := by
  unfold ji_bS at h
  split at h
  · exact ⟨_, _, _, rfl, ji_go_inv h⟩
  · cases h
theorem ji_uI_inv {f : Int32 → Value} {pc : Nat} {M : ji_M} {lv : ji_L} {st : List Value} {S : ji_S} (h : ji_uI f pc M lv st = .inl S) : ∃ x r, st = .int x :: r ∧ S = (pc, M, lv, f x :: r) := by
  unfold ji_uI at h
  split at h
  · exact ⟨_, _, rfl, ji_go_inv h⟩
  · cases h
theorem ji_uL_inv {f : Int64 → Value} {pc : Nat} {M : ji_M} {lv : ji_L} {st : List Value} {S : ji_S} (h : ji_uL f pc M lv st = .inl S) : ∃ x r, st = .long x :: r ∧ S = (pc, M, lv, f x :: r) := by
  unfold ji_uL at h
  split at h
  · exact ⟨_, _, rfl, ji_go_inv h⟩
  · cases h
theorem ji_jm_inv {pc : Nat} {off : Int} {M : ji_M} {lv : ji_L} {st : List Value} {S : ji_S} (h : ji_jm pc off M lv st = .inl S) : ∃ t : Nat, (pc : Int) + off = t ∧ S = (t, M, lv, st) := by
  unfold ji_jm at h
  split at h
  · refine ⟨((pc : Int) + off).toNat, ?_, ji_go_inv h⟩
    omega
  · cases h
theorem ji_if_inv {c : ClassFile.Cond} {x y : Int32} {A B : ji_S ⊕ ji_O} {S : ji_S} (h : ji_if c x y A B = .inl S) : (ji_if c x y True False ∧ A = .inl S) ∨ (¬ ji_if c x y True False ∧ B = .inl S) := by
  unfold ji_if at h ⊢
  cases c <;> dsimp only at h ⊢ <;> split at h <;> simp_all
theorem ji_du_inv {pc : Nat} {M : ji_M} {lv : ji_L} {st : List Value} {S : ji_S} (h : ji_du pc M lv st = .inl S) : ∃ v r, st = v :: r ∧ v.category = 1 ∧ S = (pc, M, lv, v :: v :: r) := by
  unfold ji_du at h
  split at h
  · split at h
    · exact ⟨_, _, rfl, ‹_›, ji_go_inv h⟩
    · cases h
  · cases h
theorem ji_dd2_inv {pc : Nat} {M : ji_M} {lv : ji_L} {st : List Value} {S : ji_S} (h : ji_dd2 pc M lv st = .inl S) : ∃ v w r, st = v :: w :: r ∧ v.category = 1 ∧ w.category = 1 ∧ S = (pc, M, lv, v :: w :: v :: w :: r) := by
  unfold ji_dd2 at h
  split at h
  · split at h
    · rename_i q
      exact ⟨_, _, _, rfl, q.1, q.2, ji_go_inv h⟩
    · cases h
  · cases h
theorem ji_po_inv {pc : Nat} {M : ji_M} {lv : ji_L} {st : List Value} {S : ji_S} (h : ji_po pc M lv st = .inl S) : ∃ v r, st = v :: r ∧ v.category = 1 ∧ S = (pc, M, lv, r) := by
  unfold ji_po at h
  split at h
  · split at h
    · exact ⟨_, _, rfl, ‹_›, ji_go_inv h⟩
    · cases h
  · cases h
theorem ji_ic_inv {i : Nat} {n : Int} {pc : Nat} {M : ji_M} {lv : ji_L} {st : List Value} {S : ji_S} (h : ji_ic i n pc M lv st = .inl S) : ∃ x, lv.getD i none = some (.int x) ∧ i < lv.length ∧ S = (pc + 3, M, ji_s1 lv i (.int (x + Int32.ofInt n)), st) := by
  unfold ji_ic at h
  split at h
  · split at h
    · exact ⟨_, ‹_›, ‹_›, ji_go_inv h⟩
    · cases h
  · cases h
theorem ji_gf_inv {k ix pc : Nat} {M : ji_M} {lv : ji_L} {st : List Value} {S : ji_S} (h : ji_gf k ix pc M lv st = .inl S) : (∃ a r c f z, st = .ref a :: r ∧ ji_fd (ji_ow k) ix = some (c, f, z) ∧ ji_kd M a = some (0, c) ∧ S = (pc + 3, M, lv, ji_fv M a c f :: r)) ∨
    (∃ t r z, st = .retAddr t :: r ∧ ji_ow k = 10 ∧ 1 ≤ t ∧ t ≤ 3 ∧ ji_xfd ix = some z ∧ S = (pc + 3, M, lv, (if z = 0 then .retAddr (t + 3) else .int 0) :: r)) := by
  unfold ji_gf at h
  split at h
  · split at h
    · split at h
      · exact Or.inl ⟨_, _, _, _, _, rfl, ‹_›, ‹_›, ji_go_inv h⟩
      · cases h
    · cases h
  · split at h
    · rename_i q
      split at h
      · refine Or.inr ⟨_, _, 0, rfl, q.1, q.2.1, q.2.2, ‹_›, ?_⟩
        rw [if_pos rfl]
        exact ji_go_inv h
      · rename_i z hz0 hz
        refine Or.inr ⟨_, _, z, rfl, q.1, q.2.1, q.2.2, ‹_›, ?_⟩
        rw [if_neg (fun e => hz0 e)]
        exact ji_go_inv h
      · cases h
    · cases h
  · cases h
theorem ji_pu_inv {k ix pc : Nat} {M : ji_M} {lv : ji_L} {st : List Value} {S : ji_S} (h : ji_pu k ix pc M lv st = .inl S) : ∃ v a r c f M', st = v :: .ref a :: r ∧ ji_fd (ji_ow k) ix = some (c, f, 0) ∧ ji_kd M a = some (0, c) ∧ ji_pf k c f = true ∧ ji_wf M a c f v = some M' ∧ S = (pc + 3, M', lv, r) := by
  unfold ji_pu at h
  split at h
  · split at h
    · split at h
      · rename_i q
        split at h
        · exact ⟨_, _, _, _, _, _, rfl, ‹_›, q.1, q.2, ‹_›, ji_go_inv h⟩
        · cases h
      · cases h
    · cases h
  · cases h
theorem ji_wf_inv {M M' : ji_M} {a c f : Nat} {v : Value} (h : ji_wf M a c f v = some M') : (∃ x, ji_fty c f = 0 ∧ v = .int x ∧ M' = ji_sI M a f x) ∨ (∃ x, ji_fty c f = 1 ∧ v = .long x ∧ M' = ji_sL M a f x) ∨ (∃ r, ji_fty c f = 2 ∧ v = .ref r ∧ M' = ji_sR M a f (some r)) := by
  unfold ji_wf at h
  split at h
  · exact Or.inl ⟨_, ‹_›, rfl, (Option.some.inj h).symm⟩
  · exact Or.inr (Or.inl ⟨_, ‹_›, rfl, (Option.some.inj h).symm⟩)
  · exact Or.inr (Or.inr ⟨_, ‹_›, rfl, (Option.some.inj h).symm⟩)
  · cases h
theorem ji_ial_inv {pc : Nat} {M : ji_M} {lv : ji_L} {st : List Value} {S : ji_S} (h : ji_ial pc M lv st = .inl S) : (∃ i a r n, st = .int i :: .ref a :: r ∧ ji_kd M a = some (1, n) ∧ vp_in i n ∧ S = (pc + 1, M, lv, .int (ji_gI M a i.toNatClampNeg) :: r)) ∨
    (∃ i r l, st = .int i :: .retAddr 0 :: r ∧ ji_xad 0 = some l ∧ vp_in i l.length ∧ S = (pc + 1, M, lv, .int (l.getD i.toNatClampNeg 0) :: r)) := by
  unfold ji_ial at h
  split at h
  · split at h
    · split at h
      · cases h
      · exact Or.inl ⟨_, _, _, _, rfl, ‹_›, ‹_›, ji_go_inv h⟩
    · cases h
  · split at h
    · rename_i e
      subst e
      split at h
      · split at h
        · cases h
        · exact Or.inr ⟨_, _, _, rfl, ‹_›, ‹_›, ji_go_inv h⟩
      · cases h
    · cases h
  · cases h
theorem ji_bal_inv {pc : Nat} {M : ji_M} {lv : ji_L} {st : List Value} {S : ji_S} (h : ji_bal pc M lv st = .inl S) : ∃ i t r l, st = .int i :: .retAddr t :: r ∧ 4 ≤ t ∧ ji_xad t = some l ∧ vp_in i l.length ∧ S = (pc + 1, M, lv, .int (l.getD i.toNatClampNeg 0) :: r) := by
  unfold ji_bal at h
  split at h
  · split at h
    · split at h
      · split at h
        · cases h
        · exact ⟨_, _, _, _, rfl, ‹_›, ‹_›, ‹_›, ji_go_inv h⟩
      · cases h
    · cases h
  · cases h
theorem ji_ias_inv {pc : Nat} {M : ji_M} {lv : ji_L} {st : List Value} {S : ji_S} (h : ji_ias pc M lv st = .inl S) : ∃ v i a r n, st = .int v :: .int i :: .ref a :: r ∧ ji_kd M a = some (1, n) ∧ vp_in i n ∧ S = (pc + 1, ji_sI M a i.toNatClampNeg v, lv, r) := by
  unfold ji_ias at h
  split at h
  · split at h
    · split at h
      · cases h
      · exact ⟨_, _, _, _, _, rfl, ‹_›, ‹_›, ji_go_inv h⟩
    · cases h
  · cases h
theorem ji_aal_inv {pc : Nat} {M : ji_M} {lv : ji_L} {st : List Value} {S : ji_S} (h : ji_aal pc M lv st = .inl S) : ∃ i a r t n, st = .int i :: .ref a :: r ∧ ji_kd M a = some (t, n) ∧ (t = 2 ∨ t = 3) ∧ vp_in i n ∧ S = (pc + 1, M, lv, ji_rv (ji_gR M a i.toNatClampNeg) :: r) := by
  unfold ji_aal at h
  split at h
  · split at h
    · split at h
      · cases h
      · exact ⟨_, _, _, _, _, rfl, ‹_›, Or.inl rfl, ‹_›, ji_go_inv h⟩
    · split at h
      · cases h
      · exact ⟨_, _, _, _, _, rfl, ‹_›, Or.inr rfl, ‹_›, ji_go_inv h⟩
    · cases h
  · cases h
theorem ji_aas_inv {pc : Nat} {M : ji_M} {lv : ji_L} {st : List Value} {S : ji_S} (h : ji_aas pc M lv st = .inl S) : ∃ v i a r n, st = .ref v :: .int i :: .ref a :: r ∧ ji_kd M a = some (3, n) ∧ ji_kd M v = some (0, 5) ∧ vp_in i n ∧ S = (pc + 1, ji_sR M a i.toNatClampNeg (some v), lv, r) := by
  unfold ji_aas at h
  split at h
  · split at h
    · split at h
      · split at h
        · cases h
        · exact ⟨_, _, _, _, _, rfl, ‹_›, ‹_›, ‹_›, ji_go_inv h⟩
      · cases h
    · cases h
  · cases h
theorem ji_aln_inv {pc : Nat} {M : ji_M} {lv : ji_L} {st : List Value} {S : ji_S} (h : ji_aln pc M lv st = .inl S) : (∃ a r t n, st = .ref a :: r ∧ ji_kd M a = some (t, n) ∧ (t = 1 ∨ t = 2 ∨ t = 3) ∧ S = (pc + 1, M, lv, .int (Int32.ofNat n) :: r)) ∨
    (∃ t r l, st = .retAddr t :: r ∧ ji_xad t = some l ∧ S = (pc + 1, M, lv, .int (Int32.ofNat l.length) :: r)) := by
  unfold ji_aln at h
  split at h
  · split at h
    · split at h
      · exact Or.inl ⟨_, _, _, _, rfl, ‹_›, ‹_›, ji_go_inv h⟩
      · cases h
    · cases h
  · split at h
    · exact Or.inr ⟨_, _, _, rfl, ‹_›, ji_go_inv h⟩
    · cases h
  · cases h
theorem ji_nw1_inv {al : Bool} {k ix pc : Nat} {M : ji_M} {lv : ji_L} {st : List Value} {S : ji_S} (h : ji_nw1 al k ix pc M lv st = .inl S) : ∃ c, al = true ∧ ji_nd (ji_ow k) ix = some c ∧ S = (pc + 3, ji_nO M (0, c), lv, .ref M.1.length :: st) := by
  unfold ji_nw1 at h
  split at h
  · split at h
    · exact ⟨_, ‹_›, ‹_›, ji_go_inv h⟩
    · cases h
  · cases h
theorem ji_na1_inv {al : Bool} {t pc : Nat} {M : ji_M} {lv : ji_L} {st : List Value} {S : ji_S} (h : ji_na1 al t pc M lv st = .inl S) : ∃ n r, st = .int n :: r ∧ al = true ∧ ¬ n < 0 ∧ n.toNatClampNeg ≤ 100000 ∧ S = (pc, ji_nO M (t, n.toNatClampNeg), lv, .ref M.1.length :: r) := by
  unfold ji_na1 at h
  split at h
  · split at h
    · rename_i q
      exact ⟨_, _, rfl, q.1, q.2.1, q.2.2, ji_go_inv h⟩
    · cases h
  · cases h
theorem ji_nm1_inv {al : Bool} {k ix pc : Nat} {M : ji_M} {lv : ji_L} {st : List Value} {S : ji_S} (h : ji_nm1 al k ix pc M lv st = .inl S) : ∃ n m r, st = .int n :: .int m :: r ∧ al = true ∧ ji_md (ji_ow k) ix = true ∧ ¬ n < 0 ∧ n.toNatClampNeg ≤ 100000 ∧ ¬ m < 0 ∧ m.toNatClampNeg ≤ 100000 ∧ S = (pc + 4, ji_nQ M m.toNatClampNeg n.toNatClampNeg, lv, .ref M.1.length :: r) := by
  unfold ji_nm1 at h
  split at h
  · split at h
    · rename_i q
      obtain ⟨q1, q2, q3, q4, q5, q6⟩ := q
      exact ⟨_, _, _, rfl, q1, q2, q3, q4, q5, q6, ji_go_inv h⟩
    · cases h
  · cases h
theorem ji_ret_inv {r : Option (Option Value × ji_M)} {pc : Nat} {lv : ji_L} {st : List Value} {S : ji_S} (h : ji_ret r pc lv st = .inl S) : ∃ v M', r = some (v, M') ∧ S = (pc + 3, M', lv, v.toList ++ st) := by
  unfold ji_ret at h
  split at h
  · exact ⟨_, _, rfl, ji_go_inv h⟩
  · cases h
theorem ji_iv_inv {C : ji_C} {k ix pc : Nat} {M : ji_M} {lv : ji_L} {st : List Value} {S : ji_S} (h : ji_iv C k ix pc M lv st = .inl S) : ∃ y n rc r st' v M', ji_cd (ji_ow k) ix = some (0, y, n, rc) ∧ st.drop n = r :: st' ∧ ji_rcb M rc r = true ∧ (st'.map fun v => v.category).sum ≤ 8 ∧ C y (r :: (st.take n).reverse) M = some (v, M') ∧ S = (pc + 3, M', lv, v.toList ++ st') := by
  unfold ji_iv at h
  split at h
  · split at h
    · split at h
      · rename_i q
        obtain ⟨v, M', e1, e2⟩ := ji_ret_inv h
        exact ⟨_, _, _, _, _, v, M', ‹_›, ‹_›, q.1, q.2, e1, e2⟩
      · cases h
    · cases h
  · cases h
theorem ji_ip_inv {C : ji_C} {k ix pc : Nat} {M : ji_M} {lv : ji_L} {st : List Value} {S : ji_S} (h : ji_ip C k ix pc M lv st = .inl S) : (∃ kd y n rc a st' v M', (kd = 2 ∨ kd = 3) ∧ ji_cd (ji_ow k) ix = some (kd, y, n, rc) ∧ st.drop n = .ref a :: st' ∧ ji_kd M a = some (0, rc) ∧ (st'.map fun v => v.category).sum ≤ 8 ∧ C y (.ref a :: (st.take n).reverse) M = some (v, M') ∧ S = (pc + 3, M', lv, v.toList ++ st')) ∨
    (∃ z a r, ji_cd (ji_ow k) ix = some (5, z) ∧ st = .ref a :: r ∧ (r.map fun v => v.category).sum ≤ 8 ∧ S = (pc + 3, M, lv, r)) := by
  unfold ji_ip at h
  split at h
  · split at h
    · split at h
      · rename_i q
        obtain ⟨v, M', e1, e2⟩ := ji_ret_inv h
        exact Or.inl ⟨2, _, _, _, _, _, v, M', Or.inl rfl, ‹_›, ‹_›, q.1, q.2, e1, e2⟩
      · cases h
    · cases h
  · split at h
    · split at h
      · rename_i q
        obtain ⟨v, M', e1, e2⟩ := ji_ret_inv h
        exact Or.inl ⟨3, _, _, _, _, _, v, M', Or.inr rfl, ‹_›, ‹_›, q.1, q.2, e1, e2⟩
      · cases h
    · cases h
  · split at h
    · split at h
      · exact Or.inr ⟨_, _, _, ‹_›, rfl, ‹_›, ji_go_inv h⟩
      · cases h
    · cases h
  · cases h
theorem ji_is9_inv {C : ji_C} {k ix pc : Nat} {M : ji_M} {lv : ji_L} {st : List Value} {S : ji_S} (h : ji_is9 C k ix pc M lv st = .inl S) : (∃ kd y n z v M', (kd = 1 ∨ kd = 4) ∧ ji_cd (ji_ow k) ix = some (kd, y, n, z) ∧ n ≤ st.length ∧ ((st.drop n).map fun v => v.category).sum ≤ 8 ∧ C y (st.take n).reverse M = some (v, M') ∧ S = (pc + 3, M', lv, v.toList ++ st.drop n)) ∨
    (∃ z n dp d sp s st' n0 n1, ji_cd (ji_ow k) ix = some (6, z) ∧ st = .int n :: .int dp :: .ref d :: .int sp :: .ref s :: st' ∧ ji_kd M s = some (1, n0) ∧ ji_kd M d = some (1, n1) ∧ ¬ sp < 0 ∧ ¬ dp < 0 ∧ ¬ n < 0 ∧ sp.toNatClampNeg + n.toNatClampNeg ≤ n0 ∧ dp.toNatClampNeg + n.toNatClampNeg ≤ n1 ∧ (st'.map fun v => v.category).sum ≤ 8 ∧ S = (pc + 3, ji_cp M s sp.toNatClampNeg d dp.toNatClampNeg n.toNatClampNeg, lv, st')) ∨
    (∃ z y x st', ji_cd (ji_ow k) ix = some (7, z) ∧ st = .int y :: .int x :: st' ∧ (st'.map fun v => v.category).sum ≤ 8 ∧ S = (pc + 3, M, lv, .int (if x < y then y else x) :: st')) ∨
    (∃ z y x st', ji_cd (ji_ow k) ix = some (8, z) ∧ st = .int y :: .int x :: st' ∧ (st'.map fun v => v.category).sum ≤ 8 ∧ S = (pc + 3, M, lv, .int (if y < x then y else x) :: st')) ∨
    (∃ z y x st', ji_cd (ji_ow k) ix = some (9, z) ∧ st = .long y :: .long x :: st' ∧ (st'.map fun v => v.category).sum ≤ 8 ∧ S = (pc + 3, M, lv, .long (if y < x then y else x) :: st')) := by
  unfold ji_is9 at h
  split at h
  · split at h
    · rename_i q
      obtain ⟨v, M', e1, e2⟩ := ji_ret_inv h
      exact Or.inl ⟨1, _, _, _, v, M', Or.inl rfl, ‹_›, q.1, q.2, e1, e2⟩
    · cases h
  · split at h
    · rename_i q
      obtain ⟨v, M', e1, e2⟩ := ji_ret_inv h
      exact Or.inl ⟨4, _, _, _, v, M', Or.inr rfl, ‹_›, q.1, q.2, e1, e2⟩
    · cases h
  · split at h
    · split at h
      · split at h
        · rename_i q
          obtain ⟨q1, q2, q3, q4, q5, q6⟩ := q
          exact Or.inr (Or.inl ⟨_, _, _, _, _, _, _, _, _, ‹_›, rfl, ‹_›, ‹_›, q1, q2, q3, q4, q5, q6, ji_go_inv h⟩)
        · cases h
      · cases h
    · cases h
  · split at h
    · split at h
      · exact Or.inr (Or.inr (Or.inl ⟨_, _, _, _, ‹_›, rfl, ‹_›, ji_go_inv h⟩))
      · cases h
    · cases h
  · split at h
    · split at h
      · exact Or.inr (Or.inr (Or.inr (Or.inl ⟨_, _, _, _, ‹_›, rfl, ‹_›, ji_go_inv h⟩)))
      · cases h
    · cases h
  · split at h
    · split at h
      · exact Or.inr (Or.inr (Or.inr (Or.inr ⟨_, _, _, _, ‹_›, rfl, ‹_›, ji_go_inv h⟩)))
      · cases h
    · cases h
  · cases h
/-! the tables -/
theorem ji_find {α : Type} {l : List (Nat × Nat × α)} {o ix : Nat} {e : Nat × Nat × α} (h : l.find? (fun e => e.1 == o && e.2.1 == ix) = some e) : e ∈ l ∧ e.1 = o ∧ e.2.1 = ix := by
  have h1 := List.find?_some h
  simp only [Bool.and_eq_true, beq_iff_eq] at h1
  exact ⟨List.mem_of_find?_eq_some h, h1.1, h1.2⟩
theorem ji_fd_ok {o ix c f z : Nat} (h : ji_fd o ix = some (c, f, z)) : ∃ q, ji_cl[c]? = some q ∧ f < q.2.2 ∧ (z = 0 → Cond.fieldLink (ji_nm o) ix (q.2.1 f).1 (q.2.1 f).2.1 (q.2.1 f).2.2.1 ∈ ji_tt) ∧ (¬ z = 0 → Cond.fieldLinkNest (ji_nm o) ix (q.2.1 f).1 (q.2.1 f).2.1 (q.2.1 f).2.2.1 "MudLibrary" ∈ ji_nw) := by
  unfold ji_fd at h
  cases he : ji_fl.find? (fun e => e.1 == o && e.2.1 == ix) with
  | none => rw [he] at h; cases h
  | some e =>
    rw [he] at h
    obtain ⟨hm, e1, e2⟩ := ji_find he
    have hk := List.all_eq_true.mp ji_fall e hm
    obtain ⟨a1, a2, a3, a4, a5, a6⟩ := e
    simp only [Option.map_some, Option.some.injEq, Prod.mk.injEq] at h
    obtain ⟨rfl, rfl, rfl⟩ := h
    dsimp only at e1 e2
    subst e1; subst e2
    unfold ji_fok at hk
    dsimp only at hk
    split at hk
    · cases hk
    · rename_i q hq
      simp only [Bool.and_eq_true, decide_eq_true_eq] at hk
      refine ⟨q, hq, hk.1, fun z => ?_, fun z => ?_⟩
      · have h2 := hk.2
        rw [if_pos z] at h2
        exact ji_is1_in h2
      · have h2 := hk.2
        rw [if_neg z] at h2
        exact List.mem_of_getElem? (of_decide_eq_true h2)
def ji_tyok (t : Nat) (ty : FieldType) : Prop := (t = 0 ∧ ty = .int) ∨ (t = 1 ∧ ty = .long) ∨ (t = 2 ∧ ((∃ n, ty = .object n) ∨ ∃ u, ty = .array u))
theorem ji_cl_nm : (List.range ji_cl.length).all (fun c => match ji_cl[c]? with | some q => decide (ji_nm c = q.1) && decide (ji_ncl c = q.2.2) | none => false) = true := by decide +kernel
theorem ji_cl_ok {c : Nat} {q : vw_C} (h : ji_cl[c]? = some q) : ∃ ty : Nat → FieldType, (∀ w ∈ u_ws q.1 q.2.1 q.2.2, w ∈ ji_tt) ∧ (∀ k, k < q.2.2 → parseFieldDescriptor (q.2.1 k).2.2.1 = some (ty k)) ∧ (∀ a, a < q.2.2 → ∀ b, b < q.2.2 → a ≠ b → (q.2.1 a).2.1 ≠ (q.2.1 b).2.1) ∧ (∀ k, k < q.2.2 → (q.2.1 k).1 = q.1) ∧ (∀ k, k < q.2.2 → ji_tyok (ji_fty c k) (ty k)) ∧ ji_nm c = q.1 ∧ ji_ncl c = q.2.2 := by
  have hc : c < ji_cl.length := (List.getElem?_eq_some_iff.mp h).1
  have hl : c < ji_lay.length := by rw [← ji_llen.1]; exact hc
  have ht : c < ji_ty.length := by rw [← ji_llen.2.1]; exact hc
  have hf : c < ji_fk.length := by rw [← ji_llen.2.2]; exact hc
  have hz : ((ji_cl.zip ji_lay).zip (ji_ty.zip ji_fk))[c]? = some ((q, ji_lay[c]), (ji_ty[c], ji_fk[c])) := by
    rw [List.getElem?_zip_eq_some]
    refine ⟨?_, ?_⟩
    · rw [List.getElem?_zip_eq_some]; exact ⟨h, List.getElem?_eq_getElem hl⟩
    · rw [List.getElem?_zip_eq_some]; exact ⟨List.getElem?_eq_getElem ht, List.getElem?_eq_getElem hf⟩
  have hk := List.all_eq_true.mp ji_lall _ (List.mem_of_getElem? hz)
  have hn := List.all_eq_true.mp ji_cl_nm c (List.mem_range.mpr hc)
  rw [h] at hn
  simp only [Bool.and_eq_true, decide_eq_true_eq] at hn
  have hfk : ∀ k, ji_fty c k = ji_fk[c].getD k 0 := by
    intro k
    unfold ji_fty
    rw [show ji_fk.getD c [] = ji_fk[c] by rw [List.getD_eq_getElem?_getD, List.getElem?_eq_getElem hf, Option.getD_some]]
  unfold ji_lok at hk
  dsimp only at hk
  simp only [Bool.and_eq_true, decide_eq_true_eq] at hk
  obtain ⟨⟨-, -⟩, hall⟩ := hk
  have each : ∀ k, k < q.2.2 → _ := fun k hkq => List.all_eq_true.mp hall k (List.mem_range.mpr hkq)
  simp only [Bool.and_eq_true, decide_eq_true_eq] at each
  refine ⟨ji_ty[c], fun w hw => ?_, fun k hkq => (each k hkq).1.1.1.2, fun a ha b hb hab => ?_, fun k hkq => (each k hkq).1.1.2, fun k hkq => ?_, hn.1, hn.2⟩
  · obtain ⟨k, hkr, rfl⟩ := List.mem_map.mp hw
    exact ji_is1_in (each k (List.mem_range.mp hkr)).1.1.1.1
  · have h2 := List.all_eq_true.mp (each a ha).2 b (List.mem_range.mpr hb)
    simp only [Bool.or_eq_true, decide_eq_true_eq] at h2
    rcases h2 with h2 | h2
    · exact absurd h2.symm hab
    · exact h2
  · have h2 := (each k hkq).1.2
    rw [hfk]
    unfold ji_tyok
    split at h2
    · exact Or.inl ⟨of_decide_eq_true h2, ‹_›⟩
    · exact Or.inr (Or.inl ⟨of_decide_eq_true h2, ‹_›⟩)
    · exact Or.inr (Or.inr ⟨of_decide_eq_true h2, Or.inl ⟨_, ‹_›⟩⟩)
    · exact Or.inr (Or.inr ⟨of_decide_eq_true h2, Or.inr ⟨_, ‹_›⟩⟩)
    · cases h2
theorem ji_cd_ok {o ix kd y n rc : Nat} (h : ji_cd o ix = some (kd, y, n, rc)) : ∃ a b c d, ji_cok (o, ix, kd, y, n, rc, a, b, c, d) = true := by
  unfold ji_cd at h
  cases he : ji_cs.find? (fun e => e.1 == o && e.2.1 == ix) with
  | none => rw [he] at h; cases h
  | some e =>
    rw [he] at h
    obtain ⟨hm, e1, e2⟩ := ji_find he
    have hk := List.all_eq_true.mp ji_call e hm
    obtain ⟨a1, a2, a3, a4, a5, a6, a7, a8, a9, a10⟩ := e
    simp only [Option.map_some, Option.some.injEq, Prod.mk.injEq] at h
    obtain ⟨rfl, rfl, rfl, rfl⟩ := h
    dsimp only at e1 e2
    subst e1; subst e2
    exact ⟨_, _, _, _, hk⟩
theorem ji_nd_ok {o ix c : Nat} (h : ji_nd o ix = some c) : ∃ q, ji_cl[c]? = some q ∧ Cond.classLink (ji_nm o) ix q.1 ∈ ji_tt ∧ Cond.instantiable q.1 q.2.2 ∈ ji_tt ∧ Cond.initialized q.1 ∈ ji_tt := by
  unfold ji_nd at h
  cases he : ji_nt.find? (fun e => e.1 == o && e.2.1 == ix) with
  | none => rw [he] at h; cases h
  | some e =>
    rw [he] at h
    obtain ⟨hm, e1, e2⟩ := ji_find he
    have hk := List.all_eq_true.mp ji_nall e hm
    obtain ⟨a1, a2, a3, a4, a5, a6⟩ := e
    simp only [Option.map_some, Option.some.injEq] at h
    dsimp only at e1 e2
    subst h; subst e1; subst e2
    unfold ji_nok at hk
    dsimp only at hk
    split at hk
    · cases hk
    · rename_i q hq
      simp only [Bool.and_eq_true] at hk
      exact ⟨q, hq, ji_is1_in hk.1.1, ji_is1_in hk.1.2, ji_is1_in hk.2⟩
theorem ji_md_ok {o ix : Nat} (h : ji_md o ix = true) : Cond.classLink (ji_nm o) ix "[[I" ∈ ji_tt := by
  unfold ji_md at h
  cases he : ji_mt.find? (fun e => e.1 == o && e.2.1 == ix) with
  | none => rw [he] at h; cases h
  | some e =>
    obtain ⟨hm, e1, e2⟩ := ji_find he
    have hk := List.all_eq_true.mp ji_mtall e hm
    rw [e1, e2] at hk
    exact ji_is1_in hk
theorem ji_ctd_ok {o ix : Nat} {v : Value} (h : ji_ctd o ix = some v) : (∃ z, v = .int z ∧ Cond.constant (ji_nm o) ix z ∈ ji_tt) ∨ (∃ z, v = .long z ∧ Cond.constantLong (ji_nm o) ix z ∈ ji_tt) ∨ (∃ k t, v = .retAddr (k + 1) ∧ ji_st[k]? = some t ∧ t.1 = ji_nm o ∧ t.2.1 = ix) := by
  unfold ji_ctd at h
  cases he : ji_ct.find? (fun e => e.1 == o && e.2.1 == ix) with
  | none => rw [he] at h; cases h
  | some e =>
    rw [he] at h
    obtain ⟨hm, e1, e2⟩ := ji_find he
    have hk := List.all_eq_true.mp ji_ctall e hm
    obtain ⟨a1, a2, a3, a4⟩ := e
    simp only [Option.map_some, Option.some.injEq] at h
    dsimp only at e1 e2
    subst h; subst e1; subst e2
    unfold ji_ctok at hk
    dsimp only at hk
    split at hk
    · exact Or.inl ⟨_, rfl, ji_is1_in hk⟩
    · exact Or.inr (Or.inl ⟨_, rfl, ji_is1_in hk⟩)
    · split at hk
      · simp only [Bool.and_eq_true, decide_eq_true_eq] at hk
        exact Or.inr (Or.inr ⟨_, _, rfl, ‹_›, hk.1.1, hk.1.2⟩)
      · cases hk
    · cases hk
theorem ji_sgd_ok {o ix : Nat} {v : Value} (h : ji_sgd o ix = some v) : (v = .retAddr 0 ∧ Cond.fieldLink (ji_nm o) ix "MudLibrary$Stock" "UNDER" "[I" ∈ ji_tt) ∨ (v = .int 1 ∧ Cond.fieldLink (ji_nm o) ix "java/lang/String" "COMPACT_STRINGS" "Z" ∈ ji_tt) ∨ (v = .retAddr 7 ∧ Cond.fieldLink (ji_nm o) ix "jdk/internal/util/Preconditions" "SIOOBE_FORMATTER" "Ljava/util/function/BiFunction;" ∈ ji_tt) := by
  unfold ji_sgd at h
  cases he : ji_sg.find? (fun e => e.1 == o && e.2.1 == ix) with
  | none => rw [he] at h; cases h
  | some e =>
    rw [he] at h
    obtain ⟨hm, e1, e2⟩ := ji_find he
    have hk := List.all_eq_true.mp ji_sgall e hm
    obtain ⟨a1, a2, a3, a4⟩ := e
    simp only [Option.map_some, Option.some.injEq] at h
    dsimp only at e1 e2
    subst h; subst e1; subst e2
    unfold ji_sgok at hk
    dsimp only at hk
    split at hk
    · exact Or.inl ⟨rfl, ji_is1_in hk⟩
    · simp only [Bool.and_eq_true, decide_eq_true_eq] at hk
      exact Or.inr (Or.inl ⟨by rw [hk.1], ji_is1_in hk.2⟩)
    · simp only [Bool.and_eq_true, decide_eq_true_eq] at hk
      exact Or.inr (Or.inr ⟨by rw [hk.1], ji_is1_in hk.2⟩)
    · cases hk
theorem ji_xfd_ok {ix z : Nat} (h : ji_xfd ix = some z) : (z = 0 ∧ Cond.fieldLink "java/lang/String" ix "java/lang/String" "value" "[B" ∈ ji_tt) ∨ (z = 1 ∧ Cond.fieldLink "java/lang/String" ix "java/lang/String" "coder" "B" ∈ ji_tt) := by
  unfold ji_xfd at h
  cases he : ji_xf.find? (fun e => e.1 == ix) with
  | none => rw [he] at h; cases h
  | some e =>
    rw [he] at h
    have h1 := List.find?_some he
    simp only [beq_iff_eq] at h1
    have hk := List.all_eq_true.mp ji_xfall e (List.mem_of_find?_eq_some he)
    obtain ⟨a1, a2, a3⟩ := e
    simp only [Option.map_some, Option.some.injEq] at h
    dsimp only at h1
    subst h; subst h1
    unfold ji_xfok at hk
    dsimp only at hk
    split at hk
    · exact Or.inl ⟨‹_›, ji_is1_in hk⟩
    · simp only [Bool.and_eq_true, decide_eq_true_eq] at hk
      exact Or.inr ⟨hk.1, ji_is1_in hk.2⟩
