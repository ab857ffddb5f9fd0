/-! ===== the rows of the class ===== -/
def ji_tx (t : Nat) : List Int32 := match ji_xad t with
  | some l => l
  | none => []
section JIS
variable {C : ji_C} {k pc pc' len : Nat} {ins : Instr} {M : ji_M} {lv : ji_L} {st : List Value} {o : Option Value × ji_M}
theorem ev_stI {i : Nat} {x : Int32} (h : ji_ins k pc = some (ins, len)) (hr : ji_isret ins = false) (e : ji_nx false C k ins pc M lv (.int x :: st) = ji_sI1 i pc' M lv (.int x :: st)) : ji_Ev C k pc M lv (.int x :: st) o ↔ i < lv.length ∧ ji_Ev C k pc' M (ji_s1 lv i (.int x)) st o :=
  ev_cond (A := (pc', M, ji_s1 lv i (.int x), st)) h hr (fun hp => e.trans (if_pos hp)) (fun hp => e.trans (if_neg hp))
theorem ev_stA {i a : Nat} (h : ji_ins k pc = some (ins, len)) (hr : ji_isret ins = false) (e : ji_nx false C k ins pc M lv (.ref a :: st) = ji_sA1 i pc' M lv (.ref a :: st)) : ji_Ev C k pc M lv (.ref a :: st) o ↔ i < lv.length ∧ ji_Ev C k pc' M (ji_s1 lv i (.ref a)) st o :=
  ev_cond (A := (pc', M, ji_s1 lv i (.ref a), st)) h hr (fun hp => e.trans (if_pos hp)) (fun hp => e.trans (if_neg hp))
theorem ev_stL {i : Nat} {u : Int64} (h : ji_ins k pc = some (ins, len)) (hr : ji_isret ins = false) (e : ji_nx false C k ins pc M lv (.long u :: st) = ji_sL1 i pc' M lv (.long u :: st)) : ji_Ev C k pc M lv (.long u :: st) o ↔ i + 1 < lv.length ∧ ji_Ev C k pc' M (ji_s2 lv i (.long u)) st o :=
  ev_cond (A := (pc', M, ji_s2 lv i (.long u), st)) h hr (fun hp => e.trans (if_pos hp)) (fun hp => e.trans (if_neg hp))
theorem ev_dvI {x y : Int32} (h : ji_ins k pc = some (.idiv, len)) : ji_Ev C k pc M lv (.int y :: .int x :: st) o ↔ ¬ y = 0 ∧ ji_Ev C k (pc + 1) M lv (.int (x / y) :: st) o :=
  ev_cond (A := (pc + 1, M, lv, .int (x / y) :: st)) h rfl (fun hp => if_neg hp) (fun hp => if_pos (Classical.not_not.mp hp))
theorem ev_dvR {x y : Int32} (h : ji_ins k pc = some (.irem, len)) : ji_Ev C k pc M lv (.int y :: .int x :: st) o ↔ ¬ y = 0 ∧ ji_Ev C k (pc + 1) M lv (.int (x - x / y * y) :: st) o :=
  ev_cond (A := (pc + 1, M, lv, .int (x - x / y * y) :: st)) h rfl (fun hp => if_neg hp) (fun hp => if_pos (Classical.not_not.mp hp))
theorem ev_dvL {u v : Int64} (h : ji_ins k pc = some (.ldiv, len)) : ji_Ev C k pc M lv (.long v :: .long u :: st) o ↔ ¬ v = 0 ∧ ji_Ev C k (pc + 1) M lv (.long (u / v) :: st) o :=
  ev_cond (A := (pc + 1, M, lv, .long (u / v) :: st)) h rfl (fun hp => if_neg hp) (fun hp => if_pos (Classical.not_not.mp hp))
theorem ev_brz {c : ClassFile.Cond} {off : Int} {t : Nat} {x : Int32} (h : ji_ins k pc = some (.ifCond c off, len)) (hp : 0 ≤ (pc : Int) + off) (ht : ((pc : Int) + off).toNat = t) : ji_Ev C k pc M lv (.int x :: st) o ↔ ji_if c x 0 (ji_Ev C k t M lv st o) (ji_Ev C k (pc + 3) M lv st o) := by
  subst ht
  rw [ji_ev_iff h rfl]
  have e : ji_nx false C k (.ifCond c off) pc M lv (.int x :: st) = ji_if c x 0 (ji_go ((pc : Int) + off).toNat M lv st) (ji_go (pc + 3) M lv st) := if_pos hp
  rw [e]
  cases c <;> (simp only [ji_if]; split <;> (constructor <;> first | (rintro ⟨S, h1, h2⟩; cases h1; exact h2) | (intro h2; exact ⟨_, rfl, h2⟩)))
theorem ev_brc {c : ClassFile.Cond} {off : Int} {t : Nat} {x y : Int32} (h : ji_ins k pc = some (.if_icmp c off, len)) (hp : 0 ≤ (pc : Int) + off) (ht : ((pc : Int) + off).toNat = t) : ji_Ev C k pc M lv (.int y :: .int x :: st) o ↔ ji_if c x y (ji_Ev C k t M lv st o) (ji_Ev C k (pc + 3) M lv st o) := by
  subst ht
  rw [ji_ev_iff h rfl]
  have e : ji_nx false C k (.if_icmp c off) pc M lv (.int y :: .int x :: st) = ji_if c x y (ji_go ((pc : Int) + off).toNat M lv st) (ji_go (pc + 3) M lv st) := if_pos hp
  rw [e]
  cases c <;> (simp only [ji_if]; split <;> (constructor <;> first | (rintro ⟨S, h1, h2⟩; cases h1; exact h2) | (intro h2; exact ⟨_, rfl, h2⟩)))
theorem ev_gt {off : Int} {t : Nat} (h : ji_ins k pc = some (.goto off, len)) (hp : 0 ≤ (pc : Int) + off) (ht : ((pc : Int) + off).toNat = t) : ji_Ev C k pc M lv st o ↔ ji_Ev C k t M lv st o := by
  subst ht
  exact ev_go (S := (((pc : Int) + off).toNat, M, lv, st)) h rfl (if_pos hp)
theorem ji_tab_all {P : Int → Prop} {x : Int32} {d : Int} : ∀ (l : List Int) (lo : Int32), P d → (∀ q ∈ l, P q) → P (ji_tab x lo l d) := by
  intro l
  induction l with
  | nil => intro lo h _; exact h
  | cons a r ih =>
    intro lo h h2
    rw [ji_tab]
    split
    · exact h2 a (List.mem_cons_self ..)
    · exact ih _ h (fun q hq => h2 q (List.mem_cons_of_mem _ hq))
theorem ji_lok_all {P : Int → Prop} {x : Int32} {d : Int} : ∀ (l : List (Int × Int)), P d → (∀ q ∈ l, P q.2) → P (ji_lok2 x l d) := by
  intro l
  induction l with
  | nil => intro h _; exact h
  | cons a r ih =>
    intro h h2
    rw [ji_lok2]
    split
    · exact h2 a (List.mem_cons_self ..)
    · exact ih h (fun q hq => h2 q (List.mem_cons_of_mem _ hq))
theorem ev_swT {d lo hi : Int} {offs : Array Int} {x : Int32} (h : ji_ins k pc = some (.tableswitch d lo hi offs, len)) (hc : (-1000000 ≤ lo ∧ lo + (offs.toList.length : Int) = hi + 1 ∧ hi ≤ 1000000) ∧ 0 ≤ (pc : Int) + d ∧ ∀ q ∈ offs.toList, 0 ≤ (pc : Int) + q) : ji_Ev C k pc M lv (.int x :: st) o ↔ ji_Ev C k ((pc : Int) + ji_tab x (Int32.ofInt lo) offs.toList d).toNat M lv st o := by
  refine ev_go (S := (((pc : Int) + ji_tab x (Int32.ofInt lo) offs.toList d).toNat, M, lv, st)) h rfl ?_
  show (if _ then ji_jm pc _ M lv st else ji_no) = _
  rw [if_pos hc.1]
  exact if_pos (ji_tab_all (P := fun q => 0 ≤ (pc : Int) + q) _ _ hc.2.1 hc.2.2)
theorem ev_swL {d : Int} {ps : Array (Int × Int)} {x : Int32} (h : ji_ins k pc = some (.lookupswitch d ps, len)) (hc : ((ps.toList.all fun q => decide ((Int32.ofInt q.1).toInt = q.1)) = true ∧ ((ps.toList.zip (ps.toList.drop 1)).all (fun (a, next) => a.1 < next.1)) = true) ∧ 0 ≤ (pc : Int) + d ∧ ∀ q ∈ ps.toList, 0 ≤ (pc : Int) + q.2) : ji_Ev C k pc M lv (.int x :: st) o ↔ ji_Ev C k ((pc : Int) + ji_lok2 x ps.toList d).toNat M lv st o := by
  refine ev_go (S := (((pc : Int) + ji_lok2 x ps.toList d).toNat, M, lv, st)) h rfl ?_
  show (if _ then ji_jm pc _ M lv st else ji_no) = _
  rw [if_pos hc.1]
  exact if_pos (ji_lok_all (P := fun q => 0 ≤ (pc : Int) + q) _ hc.2.1 hc.2.2)
theorem ev_sta {y n z ix : Nat} {a : List Value} (h : ji_ins k pc = some (.invokestatic ix, len)) (hc : ji_cd (ji_ow k) ix = some (1, y, n, z) ∨ ji_cd (ji_ow k) ix = some (4, y, n, z)) (hn : a.length = n) : ji_Ev C k pc M lv (a ++ st) o ↔ ji_ok8 st ∧ ji_evC (C y a.reverse M) (fun v M' => ji_Ev C k (pc + 3) M' lv (v.toList ++ st) o) := by
  have h1 := ev_ins1 (C := C) (M := M) (lv := lv) (st := a ++ st) (o := o) h hc
  have e1 : (a ++ st).take n = a := by rw [← hn]; exact List.take_left ..
  have e2 : (a ++ st).drop n = st := by rw [← hn]; exact List.drop_left ..
  rw [e1, e2] at h1
  rw [h1]
  constructor
  · exact fun q => ⟨q.1.2, q.2⟩
  · exact fun q => ⟨⟨by rw [List.length_append]; omega, q.1⟩, q.2⟩
end JIS
theorem fd_0_13 : ji_fd 0 13 = some (0, 0, 0) := by decide +kernel
theorem fd_0_16 : ji_fd 0 16 = some (0, 1, 0) := by decide +kernel
theorem fd_0_31 : ji_fd 0 31 = some (0, 2, 0) := by decide +kernel
theorem fd_1_13 : ji_fd 1 13 = some (1, 0, 0) := by decide +kernel
theorem fd_1_17 : ji_fd 1 17 = some (1, 1, 0) := by decide +kernel
theorem fd_1_21 : ji_fd 1 21 = some (1, 2, 0) := by decide +kernel
theorem fd_1_25 : ji_fd 1 25 = some (1, 4, 0) := by decide +kernel
theorem fd_1_29 : ji_fd 1 29 = some (1, 5, 0) := by decide +kernel
theorem fd_1_35 : ji_fd 1 35 = some (1, 3, 0) := by decide +kernel
theorem fd_1_57 : ji_fd 1 57 = some (5, 0, 1) := by decide +kernel
theorem fd_2_15 : ji_fd 2 15 = some (2, 0, 0) := by decide +kernel
theorem fd_2_21 : ji_fd 2 21 = some (2, 1, 0) := by decide +kernel
theorem fd_2_24 : ji_fd 2 24 = some (2, 2, 0) := by decide +kernel
theorem fd_2_28 : ji_fd 2 28 = some (2, 3, 0) := by decide +kernel
theorem fd_3_12 : ji_fd 3 12 = some (3, 0, 0) := by decide +kernel
theorem fd_3_20 : ji_fd 3 20 = some (3, 1, 0) := by decide +kernel
theorem fd_3_23 : ji_fd 3 23 = some (3, 2, 0) := by decide +kernel
theorem fd_3_26 : ji_fd 3 26 = some (3, 3, 0) := by decide +kernel
theorem fd_3_30 : ji_fd 3 30 = some (3, 4, 0) := by decide +kernel
theorem fd_3_49 : ji_fd 3 49 = some (3, 6, 0) := by decide +kernel
theorem fd_3_57 : ji_fd 3 57 = some (3, 7, 0) := by decide +kernel
theorem fd_3_74 : ji_fd 3 74 = some (3, 5, 0) := by decide +kernel
theorem fd_3_99 : ji_fd 3 99 = some (5, 0, 1) := by decide +kernel
theorem fd_4_11 : ji_fd 4 11 = some (4, 0, 0) := by decide +kernel
theorem fd_4_14 : ji_fd 4 14 = some (4, 1, 0) := by decide +kernel
theorem fd_4_18 : ji_fd 4 18 = some (4, 2, 0) := by decide +kernel
theorem fd_5_14 : ji_fd 5 14 = some (5, 0, 0) := by decide +kernel
theorem fd_5_20 : ji_fd 5 20 = some (5, 1, 0) := by decide +kernel
theorem fd_5_24 : ji_fd 5 24 = some (5, 2, 0) := by decide +kernel
theorem fd_5_27 : ji_fd 5 27 = some (5, 3, 0) := by decide +kernel
theorem fd_5_30 : ji_fd 5 30 = some (5, 4, 0) := by decide +kernel
theorem fd_5_33 : ji_fd 5 33 = some (5, 5, 0) := by decide +kernel
theorem fd_6_11 : ji_fd 6 11 = some (6, 0, 0) := by decide +kernel
theorem fd_6_15 : ji_fd 6 15 = some (6, 8, 0) := by decide +kernel
theorem fd_6_18 : ji_fd 6 18 = some (6, 1, 0) := by decide +kernel
theorem fd_6_28 : ji_fd 6 28 = some (6, 2, 0) := by decide +kernel
theorem fd_6_31 : ji_fd 6 31 = some (6, 6, 0) := by decide +kernel
theorem fd_6_34 : ji_fd 6 34 = some (6, 9, 0) := by decide +kernel
theorem fd_6_37 : ji_fd 6 37 = some (6, 7, 0) := by decide +kernel
theorem fd_6_53 : ji_fd 6 53 = some (6, 3, 0) := by decide +kernel
theorem fd_6_56 : ji_fd 6 56 = some (6, 4, 0) := by decide +kernel
theorem fd_6_82 : ji_fd 6 82 = some (6, 5, 0) := by decide +kernel
theorem fd_7_11 : ji_fd 7 11 = some (7, 0, 0) := by decide +kernel
theorem fd_7_15 : ji_fd 7 15 = some (7, 1, 0) := by decide +kernel
theorem fd_7_18 : ji_fd 7 18 = some (7, 2, 0) := by decide +kernel
theorem fd_7_21 : ji_fd 7 21 = some (7, 3, 0) := by decide +kernel
theorem fd_7_31 : ji_fd 7 31 = some (7, 4, 0) := by decide +kernel
theorem fd_7_35 : ji_fd 7 35 = some (7, 5, 0) := by decide +kernel
theorem fd_7_38 : ji_fd 7 38 = some (7, 6, 0) := by decide +kernel
theorem fd_7_41 : ji_fd 7 41 = some (7, 7, 0) := by decide +kernel
theorem fd_8_10 : ji_fd 8 10 = some (8, 0, 0) := by decide +kernel
theorem fd_8_19 : ji_fd 8 19 = some (8, 1, 0) := by decide +kernel
theorem fd_8_28 : ji_fd 8 28 = some (8, 2, 0) := by decide +kernel
theorem fd_8_35 : ji_fd 8 35 = some (8, 3, 0) := by decide +kernel
theorem fd_8_39 : ji_fd 8 39 = some (8, 4, 0) := by decide +kernel
theorem fd_8_42 : ji_fd 8 42 = some (8, 5, 0) := by decide +kernel
theorem fd_8_45 : ji_fd 8 45 = some (8, 6, 0) := by decide +kernel
theorem fd_8_51 : ji_fd 8 51 = some (8, 7, 0) := by decide +kernel
theorem fd_8_55 : ji_fd 8 55 = some (8, 8, 0) := by decide +kernel
theorem fd_8_58 : ji_fd 8 58 = some (8, 9, 0) := by decide +kernel
theorem fd_8_61 : ji_fd 8 61 = some (8, 10, 0) := by decide +kernel
theorem fd_8_64 : ji_fd 8 64 = some (8, 11, 0) := by decide +kernel
theorem fd_8_70 : ji_fd 8 70 = some (8, 12, 0) := by decide +kernel
theorem fd_8_77 : ji_fd 8 77 = some (8, 13, 0) := by decide +kernel
theorem fd_8_99 : ji_fd 8 99 = some (5, 1, 1) := by decide +kernel
theorem fd_8_111 : ji_fd 8 111 = some (5, 0, 1) := by decide +kernel
theorem fd_8_175 : ji_fd 8 175 = some (3, 0, 1) := by decide +kernel
theorem fd_8_256 : ji_fd 8 256 = some (7, 6, 1) := by decide +kernel
theorem fd_8_259 : ji_fd 8 259 = some (7, 7, 1) := by decide +kernel
theorem fd_8_265 : ji_fd 8 265 = some (3, 6, 1) := by decide +kernel
theorem fd_8_268 : ji_fd 8 268 = some (6, 1, 1) := by decide +kernel
theorem fd_8_270 : ji_fd 8 270 = some (3, 7, 1) := by decide +kernel
theorem fd_9_7 : ji_fd 9 7 = some (9, 0, 0) := by decide +kernel
theorem fd_9_13 : ji_fd 9 13 = some (9, 1, 0) := by decide +kernel
theorem fd_9_16 : ji_fd 9 16 = some (9, 2, 0) := by decide +kernel
theorem fd_9_19 : ji_fd 9 19 = some (9, 3, 0) := by decide +kernel
theorem fd_9_22 : ji_fd 9 22 = some (9, 4, 0) := by decide +kernel
theorem fd_9_25 : ji_fd 9 25 = some (9, 5, 0) := by decide +kernel
theorem fd_9_29 : ji_fd 9 29 = some (9, 6, 0) := by decide +kernel
theorem fd_9_33 : ji_fd 9 33 = some (9, 7, 0) := by decide +kernel
theorem fd_9_36 : ji_fd 9 36 = some (9, 8, 0) := by decide +kernel
theorem fd_9_39 : ji_fd 9 39 = some (9, 9, 0) := by decide +kernel
theorem fd_9_42 : ji_fd 9 42 = some (9, 10, 0) := by decide +kernel
theorem fd_9_45 : ji_fd 9 45 = some (9, 11, 0) := by decide +kernel
theorem fd_9_48 : ji_fd 9 48 = some (9, 12, 0) := by decide +kernel
theorem fd_9_51 : ji_fd 9 51 = some (9, 13, 0) := by decide +kernel
theorem fd_9_54 : ji_fd 9 54 = some (9, 14, 0) := by decide +kernel
theorem fd_9_57 : ji_fd 9 57 = some (9, 15, 0) := by decide +kernel
theorem fd_9_60 : ji_fd 9 60 = some (9, 16, 0) := by decide +kernel
theorem fd_9_63 : ji_fd 9 63 = some (9, 17, 0) := by decide +kernel
theorem fd_9_66 : ji_fd 9 66 = some (9, 18, 0) := by decide +kernel
theorem fd_9_69 : ji_fd 9 69 = some (9, 19, 0) := by decide +kernel
theorem fd_9_72 : ji_fd 9 72 = some (9, 20, 0) := by decide +kernel
theorem fd_9_75 : ji_fd 9 75 = some (9, 21, 0) := by decide +kernel
theorem fd_9_78 : ji_fd 9 78 = some (9, 22, 0) := by decide +kernel
theorem fd_9_81 : ji_fd 9 81 = some (9, 23, 0) := by decide +kernel
theorem fd_9_84 : ji_fd 9 84 = some (9, 24, 0) := by decide +kernel
theorem fd_9_87 : ji_fd 9 87 = some (9, 25, 0) := by decide +kernel
theorem fd_9_90 : ji_fd 9 90 = some (9, 26, 0) := by decide +kernel
theorem fd_9_93 : ji_fd 9 93 = some (9, 27, 0) := by decide +kernel
theorem fd_9_96 : ji_fd 9 96 = some (9, 28, 0) := by decide +kernel
theorem fd_9_99 : ji_fd 9 99 = some (9, 29, 0) := by decide +kernel
theorem fd_9_102 : ji_fd 9 102 = some (9, 30, 0) := by decide +kernel
theorem fd_9_105 : ji_fd 9 105 = some (9, 31, 0) := by decide +kernel
theorem fd_9_108 : ji_fd 9 108 = some (9, 32, 0) := by decide +kernel
theorem fd_9_111 : ji_fd 9 111 = some (9, 33, 0) := by decide +kernel
theorem fd_9_114 : ji_fd 9 114 = some (9, 34, 0) := by decide +kernel
theorem fd_9_117 : ji_fd 9 117 = some (9, 35, 0) := by decide +kernel
theorem fd_9_120 : ji_fd 9 120 = some (9, 36, 0) := by decide +kernel
theorem fd_9_123 : ji_fd 9 123 = some (9, 37, 0) := by decide +kernel
theorem fd_9_126 : ji_fd 9 126 = some (9, 38, 0) := by decide +kernel
theorem fd_9_129 : ji_fd 9 129 = some (9, 39, 0) := by decide +kernel
theorem fd_9_132 : ji_fd 9 132 = some (9, 40, 0) := by decide +kernel
theorem fd_9_135 : ji_fd 9 135 = some (9, 41, 0) := by decide +kernel
theorem fd_9_138 : ji_fd 9 138 = some (9, 42, 0) := by decide +kernel
theorem fd_9_141 : ji_fd 9 141 = some (9, 43, 0) := by decide +kernel
theorem fd_9_144 : ji_fd 9 144 = some (9, 44, 0) := by decide +kernel
theorem fd_9_147 : ji_fd 9 147 = some (9, 45, 0) := by decide +kernel
theorem fd_9_150 : ji_fd 9 150 = some (9, 46, 0) := by decide +kernel
theorem fd_9_153 : ji_fd 9 153 = some (9, 47, 0) := by decide +kernel
theorem fd_9_156 : ji_fd 9 156 = some (9, 48, 0) := by decide +kernel
theorem fd_9_159 : ji_fd 9 159 = some (9, 49, 0) := by decide +kernel
theorem fd_9_162 : ji_fd 9 162 = some (9, 50, 0) := by decide +kernel
theorem fd_9_165 : ji_fd 9 165 = some (9, 51, 0) := by decide +kernel
theorem fd_9_168 : ji_fd 9 168 = some (9, 52, 0) := by decide +kernel
theorem fd_9_171 : ji_fd 9 171 = some (9, 53, 0) := by decide +kernel
theorem fd_9_174 : ji_fd 9 174 = some (9, 54, 0) := by decide +kernel
theorem fd_9_177 : ji_fd 9 177 = some (9, 55, 0) := by decide +kernel
theorem fd_9_180 : ji_fd 9 180 = some (9, 56, 0) := by decide +kernel
theorem fd_9_183 : ji_fd 9 183 = some (9, 57, 0) := by decide +kernel
theorem fd_9_186 : ji_fd 9 186 = some (9, 58, 0) := by decide +kernel
theorem fd_9_189 : ji_fd 9 189 = some (9, 59, 0) := by decide +kernel
theorem fd_9_192 : ji_fd 9 192 = some (9, 60, 0) := by decide +kernel
theorem fd_9_195 : ji_fd 9 195 = some (9, 61, 0) := by decide +kernel
theorem fd_9_198 : ji_fd 9 198 = some (9, 62, 0) := by decide +kernel
theorem fd_9_201 : ji_fd 9 201 = some (9, 63, 0) := by decide +kernel
theorem fd_9_204 : ji_fd 9 204 = some (9, 64, 0) := by decide +kernel
theorem fd_9_207 : ji_fd 9 207 = some (9, 65, 0) := by decide +kernel
theorem fd_9_210 : ji_fd 9 210 = some (9, 66, 0) := by decide +kernel
theorem fd_9_213 : ji_fd 9 213 = some (9, 67, 0) := by decide +kernel
theorem fd_9_216 : ji_fd 9 216 = some (9, 68, 0) := by decide +kernel
theorem fd_9_219 : ji_fd 9 219 = some (9, 69, 0) := by decide +kernel
theorem fd_9_222 : ji_fd 9 222 = some (9, 70, 0) := by decide +kernel
theorem fd_9_225 : ji_fd 9 225 = some (9, 71, 0) := by decide +kernel
theorem fd_9_228 : ji_fd 9 228 = some (9, 72, 0) := by decide +kernel
theorem fd_9_231 : ji_fd 9 231 = some (9, 73, 0) := by decide +kernel
theorem fd_9_234 : ji_fd 9 234 = some (9, 74, 0) := by decide +kernel
theorem fd_9_237 : ji_fd 9 237 = some (9, 75, 0) := by decide +kernel
theorem fd_9_240 : ji_fd 9 240 = some (9, 76, 0) := by decide +kernel
theorem fd_9_243 : ji_fd 9 243 = some (9, 77, 0) := by decide +kernel
theorem fd_9_246 : ji_fd 9 246 = some (9, 78, 0) := by decide +kernel
theorem fd_9_249 : ji_fd 9 249 = some (9, 79, 0) := by decide +kernel
theorem fd_9_252 : ji_fd 9 252 = some (9, 80, 0) := by decide +kernel
theorem cd_0_19 : ji_cd 0 19 = some (0, 47, 0, 2) := by decide +kernel
theorem cd_0_25 : ji_cd 0 25 = some (8, 0, 2, 0) := by decide +kernel
theorem cd_0_35 : ji_cd 0 35 = some (1, 120, 2, 0) := by decide +kernel
theorem cd_0_41 : ji_cd 0 41 = some (0, 49, 2, 2) := by decide +kernel
theorem cd_0_44 : ji_cd 0 44 = some (1, 117, 2, 0) := by decide +kernel
theorem cd_0_47 : ji_cd 0 47 = some (0, 121, 2, 0) := by decide +kernel
theorem cd_0_50 : ji_cd 0 50 = some (0, 122, 3, 0) := by decide +kernel
theorem cd_0_54 : ji_cd 0 54 = some (0, 123, 3, 0) := by decide +kernel
theorem cd_0_58 : ji_cd 0 58 = some (7, 0, 2, 0) := by decide +kernel
theorem cd_0_61 : ji_cd 0 61 = some (0, 126, 2, 0) := by decide +kernel
theorem cd_1_39 : ji_cd 1 39 = some (0, 104, 1, 5) := by decide +kernel
theorem cd_1_43 : ji_cd 1 43 = some (1, 106, 3, 0) := by decide +kernel
theorem cd_1_47 : ji_cd 1 47 = some (0, 89, 1, 3) := by decide +kernel
theorem cd_1_53 : ji_cd 1 53 = some (0, 107, 1, 1) := by decide +kernel
theorem cd_1_61 : ji_cd 1 61 = some (0, 47, 0, 2) := by decide +kernel
theorem cd_1_67 : ji_cd 1 67 = some (0, 108, 1, 5) := by decide +kernel
theorem cd_1_71 : ji_cd 1 71 = some (0, 46, 1, 5) := by decide +kernel
theorem cd_1_74 : ji_cd 1 74 = some (6, 0, 5, 0) := by decide +kernel
theorem cd_1_84 : ji_cd 1 84 = some (9, 0, 2, 0) := by decide +kernel
theorem cd_2_31 : ji_cd 2 31 = some (0, 61, 0, 2) := by decide +kernel
theorem cd_2_35 : ji_cd 2 35 = some (0, 57, 3, 2) := by decide +kernel
theorem cd_2_39 : ji_cd 2 39 = some (6, 0, 5, 0) := by decide +kernel
theorem cd_3_35 : ji_cd 3 35 = some (0, 10, 0, 10) := by decide +kernel
theorem cd_3_41 : ji_cd 3 41 = some (0, 12, 1, 10) := by decide +kernel
theorem cd_3_45 : ji_cd 3 45 = some (0, 17, 1, 6) := by decide +kernel
theorem cd_3_53 : ji_cd 3 53 = some (0, 19, 2, 6) := by decide +kernel
theorem cd_3_60 : ji_cd 3 60 = some (0, 75, 1, 3) := by decide +kernel
theorem cd_3_64 : ji_cd 3 64 = some (4, 43, 3, 0) := by decide +kernel
theorem cd_3_68 : ji_cd 3 68 = some (8, 0, 2, 0) := by decide +kernel
theorem cd_3_77 : ji_cd 3 77 = some (7, 0, 2, 0) := by decide +kernel
theorem cd_3_80 : ji_cd 3 80 = some (0, 76, 1, 3) := by decide +kernel
theorem cd_3_83 : ji_cd 3 83 = some (0, 77, 2, 5) := by decide +kernel
theorem cd_3_88 : ji_cd 3 88 = some (0, 78, 0, 3) := by decide +kernel
theorem cd_3_91 : ji_cd 3 91 = some (1, 79, 3, 0) := by decide +kernel
theorem cd_3_95 : ji_cd 3 95 = some (0, 74, 3, 3) := by decide +kernel
theorem cd_3_103 : ji_cd 3 103 = some (0, 49, 2, 2) := by decide +kernel
theorem cd_3_108 : ji_cd 3 108 = some (1, 90, 2, 0) := by decide +kernel
theorem cd_3_114 : ji_cd 3 114 = some (0, 47, 0, 2) := by decide +kernel
theorem cd_3_117 : ji_cd 3 117 = some (0, 50, 1, 5) := by decide +kernel
theorem cd_3_121 : ji_cd 3 121 = some (0, 87, 3, 3) := by decide +kernel
theorem cd_4_21 : ji_cd 4 21 = some (1, 143, 1, 0) := by decide +kernel
theorem cd_4_25 : ji_cd 4 25 = some (0, 147, 1, 4) := by decide +kernel
theorem cd_4_29 : ji_cd 4 29 = some (8, 0, 2, 0) := by decide +kernel
theorem cd_4_35 : ji_cd 4 35 = some (7, 0, 2, 0) := by decide +kernel
theorem cd_4_38 : ji_cd 4 38 = some (1, 120, 2, 0) := by decide +kernel
theorem cd_4_44 : ji_cd 4 44 = some (0, 148, 2, 4) := by decide +kernel
theorem cd_4_48 : ji_cd 4 48 = some (0, 151, 3, 4) := by decide +kernel
theorem cd_4_52 : ji_cd 4 52 = some (6, 0, 5, 0) := by decide +kernel
theorem cd_5_36 : ji_cd 5 36 = some (4, 43, 3, 0) := by decide +kernel
theorem cd_5_45 : ji_cd 5 45 = some (0, 63, 4, 2) := by decide +kernel
theorem cd_5_49 : ji_cd 5 49 = some (0, 57, 3, 2) := by decide +kernel
theorem cd_5_53 : ji_cd 5 53 = some (0, 49, 2, 2) := by decide +kernel
theorem cd_5_57 : ji_cd 5 57 = some (0, 50, 1, 5) := by decide +kernel
theorem cd_5_61 : ji_cd 5 61 = some (1, 56, 2, 0) := by decide +kernel
theorem cd_5_64 : ji_cd 5 64 = some (1, 68, 2, 0) := by decide +kernel
theorem cd_5_67 : ji_cd 5 67 = some (1, 53, 2, 0) := by decide +kernel
theorem cd_5_70 : ji_cd 5 70 = some (0, 47, 0, 2) := by decide +kernel
theorem cd_5_74 : ji_cd 5 74 = some (1, 83, 2, 0) := by decide +kernel
theorem cd_5_78 : ji_cd 5 78 = some (0, 82, 2, 5) := by decide +kernel
theorem cd_5_81 : ji_cd 5 81 = some (1, 72, 2, 0) := by decide +kernel
theorem cd_5_84 : ji_cd 5 84 = some (0, 81, 2, 5) := by decide +kernel
theorem cd_5_87 : ji_cd 5 87 = some (0, 58, 3, 5) := by decide +kernel
theorem cd_5_90 : ji_cd 5 90 = some (0, 48, 2, 5) := by decide +kernel
theorem cd_5_93 : ji_cd 5 93 = some (1, 51, 1, 0) := by decide +kernel
theorem cd_5_96 : ji_cd 5 96 = some (8, 0, 2, 0) := by decide +kernel
theorem cd_5_101 : ji_cd 5 101 = some (7, 0, 2, 0) := by decide +kernel
theorem cd_5_104 : ji_cd 5 104 = some (0, 52, 2, 5) := by decide +kernel
theorem cd_5_107 : ji_cd 5 107 = some (1, 54, 2, 0) := by decide +kernel
theorem cd_5_110 : ji_cd 5 110 = some (1, 55, 1, 0) := by decide +kernel
theorem cd_5_113 : ji_cd 5 113 = some (0, 105, 1, 2) := by decide +kernel
theorem cd_6_24 : ji_cd 6 24 = some (0, 17, 1, 6) := by decide +kernel
theorem cd_6_40 : ji_cd 6 40 = some (0, 20, 0, 6) := by decide +kernel
theorem cd_6_43 : ji_cd 6 43 = some (0, 32, 1, 6) := by decide +kernel
theorem cd_6_46 : ji_cd 6 46 = some (0, 34, 0, 6) := by decide +kernel
theorem cd_6_49 : ji_cd 6 49 = some (0, 21, 1, 6) := by decide +kernel
theorem cd_6_59 : ji_cd 6 59 = some (1, 22, 1, 0) := by decide +kernel
theorem cd_6_63 : ji_cd 6 63 = some (0, 23, 0, 6) := by decide +kernel
theorem cd_6_66 : ji_cd 6 66 = some (1, 25, 1, 0) := by decide +kernel
theorem cd_6_69 : ji_cd 6 69 = some (0, 26, 0, 6) := by decide +kernel
theorem cd_6_74 : ji_cd 6 74 = some (0, 27, 1, 10) := by decide +kernel
theorem cd_6_79 : ji_cd 6 79 = some (0, 24, 1, 6) := by decide +kernel
theorem cd_6_87 : ji_cd 6 87 = some (0, 10, 0, 10) := by decide +kernel
theorem cd_6_90 : ji_cd 6 90 = some (0, 12, 1, 10) := by decide +kernel
theorem cd_6_94 : ji_cd 6 94 = some (0, 33, 0, 6) := by decide +kernel
theorem cd_6_97 : ji_cd 6 97 = some (0, 35, 0, 6) := by decide +kernel
theorem cd_6_100 : ji_cd 6 100 = some (0, 38, 1, 6) := by decide +kernel
theorem cd_6_103 : ji_cd 6 103 = some (0, 36, 0, 6) := by decide +kernel
theorem cd_6_106 : ji_cd 6 106 = some (0, 37, 0, 6) := by decide +kernel
theorem cd_6_110 : ji_cd 6 110 = some (0, 39, 0, 6) := by decide +kernel
theorem cd_6_113 : ji_cd 6 113 = some (0, 40, 0, 6) := by decide +kernel
theorem cd_6_116 : ji_cd 6 116 = some (0, 41, 0, 6) := by decide +kernel
theorem cd_7_25 : ji_cd 7 25 = some (8, 0, 2, 0) := by decide +kernel
theorem cd_7_44 : ji_cd 7 44 = some (1, 120, 2, 0) := by decide +kernel
theorem cd_7_50 : ji_cd 7 50 = some (1, 137, 4, 0) := by decide +kernel
theorem cd_7_54 : ji_cd 7 54 = some (0, 47, 0, 2) := by decide +kernel
theorem cd_7_60 : ji_cd 7 60 = some (0, 138, 2, 7) := by decide +kernel
theorem cd_7_64 : ji_cd 7 64 = some (0, 49, 2, 2) := by decide +kernel
theorem cd_7_67 : ji_cd 7 67 = some (0, 139, 2, 7) := by decide +kernel
theorem cd_7_71 : ji_cd 7 71 = some (6, 0, 5, 0) := by decide +kernel
theorem cd_8_84 : ji_cd 8 84 = some (0, 18, 0, 3) := by decide +kernel
theorem cd_8_89 : ji_cd 8 89 = some (1, 43, 3, 0) := by decide +kernel
theorem cd_8_95 : ji_cd 8 95 = some (0, 44, 2, 5) := by decide +kernel
theorem cd_8_103 : ji_cd 8 103 = some (0, 46, 1, 5) := by decide +kernel
theorem cd_8_107 : ji_cd 8 107 = some (1, 60, 1, 0) := by decide +kernel
theorem cd_8_114 : ji_cd 8 114 = some (0, 61, 0, 2) := by decide +kernel
theorem cd_8_118 : ji_cd 8 118 = some (0, 62, 2, 5) := by decide +kernel
theorem cd_8_121 : ji_cd 8 121 = some (0, 65, 1, 2) := by decide +kernel
theorem cd_8_124 : ji_cd 8 124 = some (0, 66, 1, 5) := by decide +kernel
theorem cd_8_128 : ji_cd 8 128 = some (0, 67, 1, 5) := by decide +kernel
theorem cd_8_131 : ji_cd 8 131 = some (0, 69, 1, 5) := by decide +kernel
theorem cd_8_134 : ji_cd 8 134 = some (0, 50, 1, 5) := by decide +kernel
theorem cd_8_137 : ji_cd 8 137 = some (1, 55, 1, 0) := by decide +kernel
theorem cd_8_140 : ji_cd 8 140 = some (0, 49, 2, 2) := by decide +kernel
theorem cd_8_143 : ji_cd 8 143 = some (1, 71, 1, 0) := by decide +kernel
theorem cd_8_146 : ji_cd 8 146 = some (1, 72, 2, 0) := by decide +kernel
theorem cd_8_150 : ji_cd 8 150 = some (0, 73, 1, 8) := by decide +kernel
theorem cd_8_153 : ji_cd 8 153 = some (0, 81, 2, 5) := by decide +kernel
theorem cd_8_156 : ji_cd 8 156 = some (0, 58, 3, 5) := by decide +kernel
theorem cd_8_160 : ji_cd 8 160 = some (1, 54, 2, 0) := by decide +kernel
theorem cd_8_163 : ji_cd 8 163 = some (0, 86, 2, 3) := by decide +kernel
theorem cd_8_167 : ji_cd 8 167 = some (0, 89, 1, 3) := by decide +kernel
theorem cd_8_171 : ji_cd 8 171 = some (0, 91, 2, 3) := by decide +kernel
theorem cd_8_179 : ji_cd 8 179 = some (0, 93, 2, 6) := by decide +kernel
theorem cd_8_185 : ji_cd 8 185 = some (0, 75, 1, 3) := by decide +kernel
theorem cd_8_188 : ji_cd 8 188 = some (0, 96, 1, 3) := by decide +kernel
theorem cd_8_191 : ji_cd 8 191 = some (0, 74, 3, 3) := by decide +kernel
theorem cd_8_195 : ji_cd 8 195 = some (0, 63, 4, 2) := by decide +kernel
theorem cd_8_199 : ji_cd 8 199 = some (0, 80, 3, 8) := by decide +kernel
theorem cd_8_202 : ji_cd 8 202 = some (0, 47, 0, 2) := by decide +kernel
theorem cd_8_205 : ji_cd 8 205 = some (1, 101, 1, 0) := by decide +kernel
theorem cd_8_210 : ji_cd 8 210 = some (1, 102, 2, 0) := by decide +kernel
theorem cd_8_213 : ji_cd 8 213 = some (0, 103, 4, 1) := by decide +kernel
theorem cd_8_217 : ji_cd 8 217 = some (0, 109, 0, 1) := by decide +kernel
theorem cd_8_220 : ji_cd 8 220 = some (0, 110, 1, 1) := by decide +kernel
theorem cd_8_223 : ji_cd 8 223 = some (0, 113, 1, 8) := by decide +kernel
theorem cd_8_226 : ji_cd 8 226 = some (8, 0, 2, 0) := by decide +kernel
theorem cd_8_231 : ji_cd 8 231 = some (1, 117, 2, 0) := by decide +kernel
theorem cd_8_234 : ji_cd 8 234 = some (0, 119, 2, 0) := by decide +kernel
theorem cd_8_238 : ji_cd 8 238 = some (0, 124, 0, 0) := by decide +kernel
theorem cd_8_241 : ji_cd 8 241 = some (0, 125, 1, 0) := by decide +kernel
theorem cd_8_244 : ji_cd 8 244 = some (7, 0, 2, 0) := by decide +kernel
theorem cd_8_247 : ji_cd 8 247 = some (0, 129, 1, 5) := by decide +kernel
theorem cd_8_250 : ji_cd 8 250 = some (0, 133, 2, 8) := by decide +kernel
theorem cd_8_253 : ji_cd 8 253 = some (0, 136, 3, 7) := by decide +kernel
theorem cd_8_262 : ji_cd 8 262 = some (0, 140, 1, 7) := by decide +kernel
theorem cd_8_273 : ji_cd 8 273 = some (0, 82, 2, 5) := by decide +kernel
theorem cd_8_276 : ji_cd 8 276 = some (1, 143, 1, 0) := by decide +kernel
theorem cd_8_279 : ji_cd 8 279 = some (0, 144, 3, 4) := by decide +kernel
theorem cd_8_282 : ji_cd 8 282 = some (0, 146, 1, 4) := by decide +kernel
theorem cd_8_285 : ji_cd 8 285 = some (0, 148, 2, 4) := by decide +kernel
theorem cd_8_287 : ji_cd 8 287 = some (0, 149, 3, 4) := by decide +kernel
theorem cd_8_290 : ji_cd 8 290 = some (0, 147, 1, 4) := by decide +kernel
theorem cd_8_293 : ji_cd 8 293 = some (0, 151, 3, 4) := by decide +kernel
theorem cd_8_296 : ji_cd 8 296 = some (0, 152, 5, 4) := by decide +kernel
theorem cd_8_300 : ji_cd 8 300 = some (0, 154, 2, 4) := by decide +kernel
theorem cd_8_301 : ji_cd 8 301 = some (0, 59, 2, 8) := by decide +kernel
theorem cd_8_304 : ji_cd 8 304 = some (1, 83, 2, 0) := by decide +kernel
theorem cd_9_255 : ji_cd 9 255 = some (0, 158, 3, 9) := by decide +kernel
theorem cd_9_262 : ji_cd 9 262 = some (0, 161, 1, 9) := by decide +kernel
theorem cd_9_266 : ji_cd 9 266 = some (0, 162, 1, 9) := by decide +kernel
theorem cd_9_269 : ji_cd 9 269 = some (0, 163, 1, 9) := by decide +kernel
theorem cd_9_272 : ji_cd 9 272 = some (0, 160, 0, 9) := by decide +kernel
theorem cd_9_275 : ji_cd 9 275 = some (0, 166, 1, 9) := by decide +kernel
theorem cd_9_279 : ji_cd 9 279 = some (0, 167, 2, 9) := by decide +kernel
theorem cd_9_283 : ji_cd 9 283 = some (0, 190, 1, 9) := by decide +kernel
theorem cd_9_286 : ji_cd 9 286 = some (0, 189, 2, 9) := by decide +kernel
theorem cd_9_290 : ji_cd 9 290 = some (0, 171, 3, 9) := by decide +kernel
theorem cd_9_294 : ji_cd 9 294 = some (0, 187, 3, 9) := by decide +kernel
theorem cd_9_297 : ji_cd 9 297 = some (0, 169, 2, 9) := by decide +kernel
theorem cd_9_301 : ji_cd 9 301 = some (0, 170, 1, 9) := by decide +kernel
theorem cd_9_304 : ji_cd 9 304 = some (0, 188, 2, 9) := by decide +kernel
theorem cd_9_309 : ji_cd 9 309 = some (0, 195, 1, 9) := by decide +kernel
theorem cd_9_313 : ji_cd 9 313 = some (0, 194, 0, 9) := by decide +kernel
theorem cd_9_341 : ji_cd 9 341 = some (0, 174, 1, 9) := by decide +kernel
theorem cd_9_344 : ji_cd 9 344 = some (0, 175, 1, 9) := by decide +kernel
theorem cd_9_353 : ji_cd 9 353 = some (0, 176, 1, 9) := by decide +kernel
theorem cd_9_357 : ji_cd 9 357 = some (0, 177, 1, 9) := by decide +kernel
theorem cd_9_360 : ji_cd 9 360 = some (0, 183, 1, 9) := by decide +kernel
theorem cd_9_363 : ji_cd 9 363 = some (0, 184, 1, 9) := by decide +kernel
theorem cd_9_367 : ji_cd 9 367 = some (0, 173, 0, 9) := by decide +kernel
theorem cd_9_370 : ji_cd 9 370 = some (0, 182, 1, 9) := by decide +kernel
theorem cd_9_373 : ji_cd 9 373 = some (0, 178, 1, 9) := by decide +kernel
theorem cd_9_376 : ji_cd 9 376 = some (0, 180, 1, 9) := by decide +kernel
theorem cd_9_379 : ji_cd 9 379 = some (0, 181, 1, 9) := by decide +kernel
theorem cd_9_382 : ji_cd 9 382 = some (0, 185, 0, 9) := by decide +kernel
theorem cd_9_386 : ji_cd 9 386 = some (0, 186, 1, 9) := by decide +kernel
theorem cd_9_389 : ji_cd 9 389 = some (0, 179, 0, 9) := by decide +kernel
theorem cd_9_393 : ji_cd 9 393 = some (0, 172, 1, 9) := by decide +kernel
theorem cd_9_396 : ji_cd 9 396 = some (0, 203, 2, 9) := by decide +kernel
theorem cd_9_400 : ji_cd 9 400 = some (0, 204, 2, 9) := by decide +kernel
theorem cd_9_409 : ji_cd 9 409 = some (0, 210, 2, 9) := by decide +kernel
theorem cd_9_412 : ji_cd 9 412 = some (0, 212, 0, 9) := by decide +kernel
theorem cd_9_415 : ji_cd 9 415 = some (0, 220, 2, 9) := by decide +kernel
theorem cd_9_418 : ji_cd 9 418 = some (0, 223, 1, 9) := by decide +kernel
theorem cd_9_421 : ji_cd 9 421 = some (0, 164, 2, 9) := by decide +kernel
theorem cd_10_335 : ji_cd 10 335 = some (0, 11, 0, 10) := by decide +kernel
theorem cd_10_492 : ji_cd 10 492 = some (0, 13, 0, 10) := by decide +kernel
theorem cd_10_495 : ji_cd 10 495 = some (1, 14, 2, 0) := by decide +kernel
theorem cd_10_505 : ji_cd 10 505 = some (0, 10, 0, 10) := by decide +kernel
theorem cd_10_633 : ji_cd 10 633 = some (0, 28, 2, 10) := by decide +kernel
theorem cd_10_637 : ji_cd 10 637 = some (1, 29, 4, 0) := by decide +kernel
theorem cd_10_1059 : ji_cd 10 1059 = some (1, 16, 3, 0) := by decide +kernel
theorem cd_11_9 : ji_cd 11 9 = some (1, 15, 2, 0) := by decide +kernel
theorem cd_11_38 : ji_cd 11 38 = some (8, 0, 2, 0) := by decide +kernel
theorem cd_11_88 : ji_cd 11 88 = some (1, 30, 1, 0) := by decide +kernel
theorem cd_11_92 : ji_cd 11 92 = some (7, 0, 2, 0) := by decide +kernel
theorem cd_11_95 : ji_cd 11 95 = some (1, 31, 4, 0) := by decide +kernel
section JIR
variable {C : ji_C} {M : ji_M} {lv l : ji_L} {l0 l1 l2 l3 l4 l5 l6 l7 l8 l9 l10 l11 : Option Value} {st : List Value} {o : Option Value × ji_M} {x y z : Int32} {u v : Int64} {a b : Nat} {p0 p1 p2 p3 p4 p5 : Value}
theorem s9_0 : ji_Ev C 9 0 M lv st o ↔ ji_Ev C 9 1 M lv (.int 0 :: st) o := ev_go (S := (1, M, lv, (.int 0 :: st))) rfl rfl rfl
theorem s9_1 : ji_Ev C 9 1 M lv (.int x :: st) o ↔ 1 < lv.length ∧ ji_Ev C 9 2 M (ji_s1 lv 1 (.int x)) st o := ev_stI rfl rfl rfl
theorem s9_2 : ji_Ev C 9 2 M (l0 :: some (.int x) :: l) st o ↔ ji_Ev C 9 3 M (l0 :: some (.int x) :: l) (.int x :: st) o := ev_go (S := (3, M, (l0 :: some (.int x) :: l), (.int x :: st))) rfl rfl rfl
theorem s9_3 : ji_Ev C 9 3 M lv st o ↔ ji_Ev C 9 5 M lv (.retAddr 1 :: st) o := ev_go (S := (5, M, lv, (.retAddr 1 :: st))) rfl rfl rfl
theorem s9_5x : ji_Ev C 9 5 M lv (.retAddr a :: st) o ↔ (ji_rcb M 10 (.retAddr a) = true ∧ ji_ok8 st) ∧ ji_evC (C 10 [.retAddr a] M) (fun v M' => ji_Ev C 9 8 M' lv (v.toList ++ st) o) := ev_inv (k := 9) rfl cd_3_35 rfl
theorem s9_8 : ji_Ev C 9 8 M lv (.int y :: .int x :: st) o ↔ if x < y then ji_Ev C 9 11 M lv st o else ji_Ev C 9 30 M lv st o := ev_brc (c := .ge) rfl (by decide) rfl
theorem s9_11 : ji_Ev C 9 11 M (some (.ref a) :: l) st o ↔ ji_Ev C 9 12 M (some (.ref a) :: l) (.ref a :: st) o := ev_go (S := (12, M, (some (.ref a) :: l), (.ref a :: st))) rfl rfl rfl
theorem s9_12 : ji_Ev C 9 12 M lv (.ref a :: st) o ↔ ji_kd M a = some (0, 3) ∧ ji_Ev C 9 15 M lv (ji_rv (ji_gR M a 0) :: st) o := ev_getR (k := 9) rfl fd_3_12 rfl
theorem s9_15 : ji_Ev C 9 15 M lv st o ↔ ji_Ev C 9 17 M lv (.retAddr 1 :: st) o := ev_go (S := (17, M, lv, (.retAddr 1 :: st))) rfl rfl rfl
theorem s9_17 : ji_Ev C 9 17 M (l0 :: some (.int x) :: l) st o ↔ ji_Ev C 9 18 M (l0 :: some (.int x) :: l) (.int x :: st) o := ev_go (S := (18, M, (l0 :: some (.int x) :: l), (.int x :: st))) rfl rfl rfl
theorem s9_18x : ji_Ev C 9 18 M lv (p0 :: .retAddr a :: st) o ↔ (ji_rcb M 10 (.retAddr a) = true ∧ ji_ok8 st) ∧ ji_evC (C 12 [.retAddr a, p0] M) (fun v M' => ji_Ev C 9 21 M' lv (v.toList ++ st) o) := ev_inv (k := 9) rfl cd_3_41 rfl
theorem s9_21 : ji_Ev C 9 21 M lv (p0 :: .ref a :: st) o ↔ (ji_rcb M 6 (.ref a) = true ∧ ji_ok8 st) ∧ ji_evC (C 17 [.ref a, p0] M) (fun v M' => ji_Ev C 9 24 M' lv (v.toList ++ st) o) := ev_inv (k := 9) rfl cd_3_45 rfl
theorem s9_24 : ji_Ev C 9 24 M lv st o ↔ ji_evL (lv.getD 1 none) ji_isI (fun v => match v with | .int x => 1 < lv.length ∧ ji_Ev C 9 27 M (ji_s1 lv 1 (.int (x + Int32.ofInt 1))) st o | _ => False) := ev_iinc rfl
theorem s9_27 : ji_Ev C 9 27 M lv st o ↔ ji_Ev C 9 2 M lv st o := ev_gt rfl (by decide) rfl
theorem s9_30 : ji_Ev C 9 30 M lv [] o ↔ o = (none, M) := ev_vret rfl rfl
theorem s10_0 : ji_Ev C 10 0 M (some (.ref a) :: l) st o ↔ ji_Ev C 10 1 M (some (.ref a) :: l) (.ref a :: st) o := ev_go (S := (1, M, (some (.ref a) :: l), (.ref a :: st))) rfl rfl rfl
theorem s10_0x : ji_Ev C 10 0 M (some (.retAddr a) :: l) st o ↔ ji_Ev C 10 1 M (some (.retAddr a) :: l) (.retAddr a :: st) o := ev_go (S := (1, M, (some (.retAddr a) :: l), (.retAddr a :: st))) rfl rfl rfl
theorem s10_1 : ji_Ev C 10 1 M lv (.retAddr a :: st) o ↔ (1 ≤ a ∧ a ≤ 3) ∧ ji_Ev C 10 4 M lv (.retAddr (a + 3) :: st) o := ev_getXv rfl rfl rfl
theorem s10_4 : ji_Ev C 10 4 M lv (.ref a :: st) o ↔ ji_evN (ji_kd M a) (fun n => ji_Ev C 10 5 M lv (.int (Int32.ofNat n) :: st) o) := ev_alen rfl
theorem s10_4_4 : ji_Ev C 10 4 M lv (.retAddr 4 :: st) o ↔ ji_Ev C 10 5 M lv (.int (Int32.ofNat (ji_tx 4).length) :: st) o := ev_alenX (l := ji_tx 4) rfl rfl
theorem s10_4_5 : ji_Ev C 10 4 M lv (.retAddr 5 :: st) o ↔ ji_Ev C 10 5 M lv (.int (Int32.ofNat (ji_tx 5).length) :: st) o := ev_alenX (l := ji_tx 5) rfl rfl
theorem s10_4_6 : ji_Ev C 10 4 M lv (.retAddr 6 :: st) o ↔ ji_Ev C 10 5 M lv (.int (Int32.ofNat (ji_tx 6).length) :: st) o := ev_alenX (l := ji_tx 6) rfl rfl
theorem s10_5 : ji_Ev C 10 5 M (some (.ref a) :: l) st o ↔ ji_Ev C 10 6 M (some (.ref a) :: l) (.ref a :: st) o := ev_go (S := (6, M, (some (.ref a) :: l), (.ref a :: st))) rfl rfl rfl
theorem s10_5x : ji_Ev C 10 5 M (some (.retAddr a) :: l) st o ↔ ji_Ev C 10 6 M (some (.retAddr a) :: l) (.retAddr a :: st) o := ev_go (S := (6, M, (some (.retAddr a) :: l), (.retAddr a :: st))) rfl rfl rfl
theorem s10_6x : ji_Ev C 10 6 M lv (.retAddr a :: st) o ↔ (ji_rcb M 10 (.retAddr a) = true ∧ ji_ok8 st) ∧ ji_evC (C 11 [.retAddr a] M) (fun v M' => ji_Ev C 10 9 M' lv (v.toList ++ st) o) := ev_inv (k := 10) rfl cd_10_335 rfl
theorem s10_9 : ji_Ev C 10 9 M lv (.int y :: .int x :: st) o ↔ ji_Ev C 10 10 M lv (.int (x >>> (y &&& 31)) :: st) o := ev_go (S := (10, M, lv, (.int (x >>> (y &&& 31)) :: st))) rfl rfl rfl
theorem s10_10 : ji_Ev C 10 10 M lv [.int x] o ↔ o = (some (.int x), M) := ev_ireti rfl rfl
theorem s11_0 : ji_Ev C 11 0 M lv st o ↔ ji_Ev C 11 3 M lv (.int 1 :: st) o := ev_go (S := (3, M, lv, (.int 1 :: st))) rfl rfl rfl
theorem s11_3 : ji_Ev C 11 3 M lv (.int x :: st) o ↔ if x = 0 then ji_Ev C 11 13 M lv st o else ji_Ev C 11 6 M lv st o := ev_brz (c := .eq) rfl (by decide) rfl
theorem s11_6 : ji_Ev C 11 6 M (some (.ref a) :: l) st o ↔ ji_Ev C 11 7 M (some (.ref a) :: l) (.ref a :: st) o := ev_go (S := (7, M, (some (.ref a) :: l), (.ref a :: st))) rfl rfl rfl
theorem s11_6x : ji_Ev C 11 6 M (some (.retAddr a) :: l) st o ↔ ji_Ev C 11 7 M (some (.retAddr a) :: l) (.retAddr a :: st) o := ev_go (S := (7, M, (some (.retAddr a) :: l), (.retAddr a :: st))) rfl rfl rfl
theorem s11_7 : ji_Ev C 11 7 M lv (.retAddr a :: st) o ↔ (1 ≤ a ∧ a ≤ 3) ∧ ji_Ev C 11 10 M lv (.int 0 :: st) o := ev_getXc rfl rfl rfl
theorem s11_10 : ji_Ev C 11 10 M lv st o ↔ ji_Ev C 11 14 M lv st o := ev_gt rfl (by decide) rfl
theorem s11_13 : ji_Ev C 11 13 M lv st o ↔ ji_Ev C 11 14 M lv (.int 1 :: st) o := ev_go (S := (14, M, lv, (.int 1 :: st))) rfl rfl rfl
theorem s11_14 : ji_Ev C 11 14 M lv [.int x] o ↔ narrow .byte (.int x) = .int x ∧ o = (some (.int x), M) := ev_iretb rfl rfl
theorem s12_0 : ji_Ev C 12 0 M (some (.ref a) :: l) st o ↔ ji_Ev C 12 1 M (some (.ref a) :: l) (.ref a :: st) o := ev_go (S := (1, M, (some (.ref a) :: l), (.ref a :: st))) rfl rfl rfl
theorem s12_0x : ji_Ev C 12 0 M (some (.retAddr a) :: l) st o ↔ ji_Ev C 12 1 M (some (.retAddr a) :: l) (.retAddr a :: st) o := ev_go (S := (1, M, (some (.retAddr a) :: l), (.retAddr a :: st))) rfl rfl rfl
theorem s12_1x : ji_Ev C 12 1 M lv (.retAddr a :: st) o ↔ (ji_rcb M 10 (.retAddr a) = true ∧ ji_ok8 st) ∧ ji_evC (C 13 [.retAddr a] M) (fun v M' => ji_Ev C 12 4 M' lv (v.toList ++ st) o) := ev_inv (k := 12) rfl cd_10_492 rfl
theorem s12_4 : ji_Ev C 12 4 M lv (.int x :: st) o ↔ if x = 0 then ji_Ev C 12 16 M lv st o else ji_Ev C 12 7 M lv st o := ev_brz (c := .eq) rfl (by decide) rfl
theorem s12_7 : ji_Ev C 12 7 M (some (.ref a) :: l) st o ↔ ji_Ev C 12 8 M (some (.ref a) :: l) (.ref a :: st) o := ev_go (S := (8, M, (some (.ref a) :: l), (.ref a :: st))) rfl rfl rfl
theorem s12_7x : ji_Ev C 12 7 M (some (.retAddr a) :: l) st o ↔ ji_Ev C 12 8 M (some (.retAddr a) :: l) (.retAddr a :: st) o := ev_go (S := (8, M, (some (.retAddr a) :: l), (.retAddr a :: st))) rfl rfl rfl
theorem s12_8 : ji_Ev C 12 8 M lv (.retAddr a :: st) o ↔ (1 ≤ a ∧ a ≤ 3) ∧ ji_Ev C 12 11 M lv (.retAddr (a + 3) :: st) o := ev_getXv rfl rfl rfl
theorem s12_11 : ji_Ev C 12 11 M (l0 :: some (.int x) :: l) st o ↔ ji_Ev C 12 12 M (l0 :: some (.int x) :: l) (.int x :: st) o := ev_go (S := (12, M, (l0 :: some (.int x) :: l), (.int x :: st))) rfl rfl rfl
theorem s12_12 : ji_Ev C 12 12 M lv (p1 :: p0 :: st) o ↔ ji_ok8 st ∧ ji_evC (C 14 [p0, p1] M) (fun v M' => ji_Ev C 12 15 M' lv (v.toList ++ st) o) := ev_sta (k := 12) (a := [p1, p0]) rfl (Or.inl cd_10_495) rfl
theorem s12_15 : ji_Ev C 12 15 M lv [.int x] o ↔ narrow .char (.int x) = .int x ∧ o = (some (.int x), M) := ev_iretb rfl rfl
theorem s12_16 : ji_Ev C 12 16 M (some (.ref a) :: l) st o ↔ ji_Ev C 12 17 M (some (.ref a) :: l) (.ref a :: st) o := ev_go (S := (17, M, (some (.ref a) :: l), (.ref a :: st))) rfl rfl rfl
theorem s12_16x : ji_Ev C 12 16 M (some (.retAddr a) :: l) st o ↔ ji_Ev C 12 17 M (some (.retAddr a) :: l) (.retAddr a :: st) o := ev_go (S := (17, M, (some (.retAddr a) :: l), (.retAddr a :: st))) rfl rfl rfl
theorem s12_17 : ji_Ev C 12 17 M lv (.retAddr a :: st) o ↔ (1 ≤ a ∧ a ≤ 3) ∧ ji_Ev C 12 20 M lv (.retAddr (a + 3) :: st) o := ev_getXv rfl rfl rfl
theorem s12_20 : ji_Ev C 12 20 M (l0 :: some (.int x) :: l) st o ↔ ji_Ev C 12 21 M (l0 :: some (.int x) :: l) (.int x :: st) o := ev_go (S := (21, M, (l0 :: some (.int x) :: l), (.int x :: st))) rfl rfl rfl
theorem s12_24 : ji_Ev C 12 24 M lv [.int x] o ↔ narrow .char (.int x) = .int x ∧ o = (some (.int x), M) := ev_iretb rfl rfl
theorem s13_0 : ji_Ev C 13 0 M lv st o ↔ ji_Ev C 13 3 M lv (.int 1 :: st) o := ev_go (S := (3, M, lv, (.int 1 :: st))) rfl rfl rfl
theorem s13_3 : ji_Ev C 13 3 M lv (.int x :: st) o ↔ if x = 0 then ji_Ev C 13 17 M lv st o else ji_Ev C 13 6 M lv st o := ev_brz (c := .eq) rfl (by decide) rfl
theorem s13_6 : ji_Ev C 13 6 M (some (.ref a) :: l) st o ↔ ji_Ev C 13 7 M (some (.ref a) :: l) (.ref a :: st) o := ev_go (S := (7, M, (some (.ref a) :: l), (.ref a :: st))) rfl rfl rfl
theorem s13_6x : ji_Ev C 13 6 M (some (.retAddr a) :: l) st o ↔ ji_Ev C 13 7 M (some (.retAddr a) :: l) (.retAddr a :: st) o := ev_go (S := (7, M, (some (.retAddr a) :: l), (.retAddr a :: st))) rfl rfl rfl
theorem s13_7 : ji_Ev C 13 7 M lv (.retAddr a :: st) o ↔ (1 ≤ a ∧ a ≤ 3) ∧ ji_Ev C 13 10 M lv (.int 0 :: st) o := ev_getXc rfl rfl rfl
theorem s13_10 : ji_Ev C 13 10 M lv (.int x :: st) o ↔ if x = 0 then ji_Ev C 13 13 M lv st o else ji_Ev C 13 17 M lv st o := ev_brz (c := .ne) rfl (by decide) rfl
theorem s13_13 : ji_Ev C 13 13 M lv st o ↔ ji_Ev C 13 14 M lv (.int 1 :: st) o := ev_go (S := (14, M, lv, (.int 1 :: st))) rfl rfl rfl
theorem s13_14 : ji_Ev C 13 14 M lv st o ↔ ji_Ev C 13 18 M lv st o := ev_gt rfl (by decide) rfl
theorem s13_17 : ji_Ev C 13 17 M lv st o ↔ ji_Ev C 13 18 M lv (.int 0 :: st) o := ev_go (S := (18, M, lv, (.int 0 :: st))) rfl rfl rfl
theorem s13_18 : ji_Ev C 13 18 M lv [.int x] o ↔ narrow .boolean (.int x) = .int x ∧ o = (some (.int x), M) := ev_iretb rfl rfl
theorem s14_0 : ji_Ev C 14 0 M (l0 :: some (.int x) :: l) st o ↔ ji_Ev C 14 1 M (l0 :: some (.int x) :: l) (.int x :: st) o := ev_go (S := (1, M, (l0 :: some (.int x) :: l), (.int x :: st))) rfl rfl rfl
theorem s14_1 : ji_Ev C 14 1 M (some (.ref a) :: l) st o ↔ ji_Ev C 14 2 M (some (.ref a) :: l) (.ref a :: st) o := ev_go (S := (2, M, (some (.ref a) :: l), (.ref a :: st))) rfl rfl rfl
theorem s14_1x : ji_Ev C 14 1 M (some (.retAddr a) :: l) st o ↔ ji_Ev C 14 2 M (some (.retAddr a) :: l) (.retAddr a :: st) o := ev_go (S := (2, M, (some (.retAddr a) :: l), (.retAddr a :: st))) rfl rfl rfl
theorem s14_2 : ji_Ev C 14 2 M lv (.ref a :: st) o ↔ ji_evN (ji_kd M a) (fun n => ji_Ev C 14 3 M lv (.int (Int32.ofNat n) :: st) o) := ev_alen rfl
theorem s14_2_4 : ji_Ev C 14 2 M lv (.retAddr 4 :: st) o ↔ ji_Ev C 14 3 M lv (.int (Int32.ofNat (ji_tx 4).length) :: st) o := ev_alenX (l := ji_tx 4) rfl rfl
theorem s14_2_5 : ji_Ev C 14 2 M lv (.retAddr 5 :: st) o ↔ ji_Ev C 14 3 M lv (.int (Int32.ofNat (ji_tx 5).length) :: st) o := ev_alenX (l := ji_tx 5) rfl rfl
theorem s14_2_6 : ji_Ev C 14 2 M lv (.retAddr 6 :: st) o ↔ ji_Ev C 14 3 M lv (.int (Int32.ofNat (ji_tx 6).length) :: st) o := ev_alenX (l := ji_tx 6) rfl rfl
theorem s14_3 : ji_Ev C 14 3 M lv (p1 :: p0 :: st) o ↔ ji_ok8 st ∧ ji_evC (C 15 [p0, p1] M) (fun v M' => ji_Ev C 14 6 M' lv (v.toList ++ st) o) := ev_sta (k := 14) (a := [p1, p0]) rfl (Or.inl cd_11_9) rfl
theorem s14_6 : ji_Ev C 14 6 M (some (.ref a) :: l) st o ↔ ji_Ev C 14 7 M (some (.ref a) :: l) (.ref a :: st) o := ev_go (S := (7, M, (some (.ref a) :: l), (.ref a :: st))) rfl rfl rfl
theorem s14_6x : ji_Ev C 14 6 M (some (.retAddr a) :: l) st o ↔ ji_Ev C 14 7 M (some (.retAddr a) :: l) (.retAddr a :: st) o := ev_go (S := (7, M, (some (.retAddr a) :: l), (.retAddr a :: st))) rfl rfl rfl
theorem s14_7 : ji_Ev C 14 7 M (l0 :: some (.int x) :: l) st o ↔ ji_Ev C 14 8 M (l0 :: some (.int x) :: l) (.int x :: st) o := ev_go (S := (8, M, (l0 :: some (.int x) :: l), (.int x :: st))) rfl rfl rfl
theorem s14_8_4 : ji_Ev C 14 8 M lv (.int x :: .retAddr 4 :: st) o ↔ vp_in x (ji_tx 4).length ∧ ji_Ev C 14 9 M lv (.int ((ji_tx 4).getD x.toNatClampNeg 0) :: st) o := ev_bald (l := ji_tx 4) rfl (by decide) rfl
theorem s14_8_5 : ji_Ev C 14 8 M lv (.int x :: .retAddr 5 :: st) o ↔ vp_in x (ji_tx 5).length ∧ ji_Ev C 14 9 M lv (.int ((ji_tx 5).getD x.toNatClampNeg 0) :: st) o := ev_bald (l := ji_tx 5) rfl (by decide) rfl
theorem s14_8_6 : ji_Ev C 14 8 M lv (.int x :: .retAddr 6 :: st) o ↔ vp_in x (ji_tx 6).length ∧ ji_Ev C 14 9 M lv (.int ((ji_tx 6).getD x.toNatClampNeg 0) :: st) o := ev_bald (l := ji_tx 6) rfl (by decide) rfl
theorem s14_9 : ji_Ev C 14 9 M lv st o ↔ ji_Ev C 14 12 M lv (.int 255 :: st) o := ev_go (S := (12, M, lv, (.int 255 :: st))) rfl rfl rfl
theorem s14_12 : ji_Ev C 14 12 M lv (.int y :: .int x :: st) o ↔ ji_Ev C 14 13 M lv (.int (x &&& y) :: st) o := ev_go (S := (13, M, lv, (.int (x &&& y) :: st))) rfl rfl rfl
theorem s14_13 : ji_Ev C 14 13 M lv (.int x :: st) o ↔ ji_Ev C 14 14 M lv (.int (x.toUInt32 % 65536).toInt32 :: st) o := ev_go (S := (14, M, lv, (.int (x.toUInt32 % 65536).toInt32 :: st))) rfl rfl rfl
theorem s14_14 : ji_Ev C 14 14 M lv [.int x] o ↔ narrow .char (.int x) = .int x ∧ o = (some (.int x), M) := ev_iretb rfl rfl
theorem s15_0 : ji_Ev C 15 0 M (some (.int x) :: l) st o ↔ ji_Ev C 15 1 M (some (.int x) :: l) (.int x :: st) o := ev_go (S := (1, M, (some (.int x) :: l), (.int x :: st))) rfl rfl rfl
theorem s15_1 : ji_Ev C 15 1 M (l0 :: some (.int x) :: l) st o ↔ ji_Ev C 15 2 M (l0 :: some (.int x) :: l) (.int x :: st) o := ev_go (S := (2, M, (l0 :: some (.int x) :: l), (.int x :: st))) rfl rfl rfl
theorem s15_2 : ji_Ev C 15 2 M lv st o ↔ ji_Ev C 15 5 M lv (.retAddr 7 :: st) o := ev_go (S := (5, M, lv, (.retAddr 7 :: st))) rfl rfl rfl
theorem s15_5 : ji_Ev C 15 5 M lv (p2 :: p1 :: p0 :: st) o ↔ ji_ok8 st ∧ ji_evC (C 16 [p0, p1, p2] M) (fun v M' => ji_Ev C 15 8 M' lv (v.toList ++ st) o) := ev_sta (k := 15) (a := [p2, p1, p0]) rfl (Or.inl cd_10_1059) rfl
theorem s15_8 : ji_Ev C 15 8 M lv (.int x :: st) o ↔ ji_Ev C 15 9 M lv st o := ev_go (S := (9, M, lv, st)) rfl rfl rfl
theorem s15_8r : ji_Ev C 15 8 M lv (.ref a :: st) o ↔ ji_Ev C 15 9 M lv st o := ev_go (S := (9, M, lv, st)) rfl rfl rfl
theorem s15_9 : ji_Ev C 15 9 M lv [] o ↔ o = (none, M) := ev_vret rfl rfl
theorem s16_0 : ji_Ev C 16 0 M (some (.int x) :: l) st o ↔ ji_Ev C 16 1 M (some (.int x) :: l) (.int x :: st) o := ev_go (S := (1, M, (some (.int x) :: l), (.int x :: st))) rfl rfl rfl
theorem s16_1 : ji_Ev C 16 1 M lv (.int x :: st) o ↔ if x < 0 then ji_Ev C 16 9 M lv st o else ji_Ev C 16 4 M lv st o := ev_brz (c := .lt) rfl (by decide) rfl
theorem s16_4 : ji_Ev C 16 4 M (some (.int x) :: l) st o ↔ ji_Ev C 16 5 M (some (.int x) :: l) (.int x :: st) o := ev_go (S := (5, M, (some (.int x) :: l), (.int x :: st))) rfl rfl rfl
theorem s16_5 : ji_Ev C 16 5 M (l0 :: some (.int x) :: l) st o ↔ ji_Ev C 16 6 M (l0 :: some (.int x) :: l) (.int x :: st) o := ev_go (S := (6, M, (l0 :: some (.int x) :: l), (.int x :: st))) rfl rfl rfl
theorem s16_6 : ji_Ev C 16 6 M lv (.int y :: .int x :: st) o ↔ if x < y then ji_Ev C 16 16 M lv st o else ji_Ev C 16 9 M lv st o := ev_brc (c := .lt) rfl (by decide) rfl
theorem s16_9 : ji_Ev C 16 9 M (l0 :: l1 :: some (.ref a) :: l) st o ↔ ji_Ev C 16 10 M (l0 :: l1 :: some (.ref a) :: l) (.ref a :: st) o := ev_go (S := (10, M, (l0 :: l1 :: some (.ref a) :: l), (.ref a :: st))) rfl rfl rfl
theorem s16_9x : ji_Ev C 16 9 M (l0 :: l1 :: some (.retAddr a) :: l) st o ↔ ji_Ev C 16 10 M (l0 :: l1 :: some (.retAddr a) :: l) (.retAddr a :: st) o := ev_go (S := (10, M, (l0 :: l1 :: some (.retAddr a) :: l), (.retAddr a :: st))) rfl rfl rfl
theorem s16_10 : ji_Ev C 16 10 M (some (.int x) :: l) st o ↔ ji_Ev C 16 11 M (some (.int x) :: l) (.int x :: st) o := ev_go (S := (11, M, (some (.int x) :: l), (.int x :: st))) rfl rfl rfl
theorem s16_11 : ji_Ev C 16 11 M (l0 :: some (.int x) :: l) st o ↔ ji_Ev C 16 12 M (l0 :: some (.int x) :: l) (.int x :: st) o := ev_go (S := (12, M, (l0 :: some (.int x) :: l), (.int x :: st))) rfl rfl rfl
theorem s16_16 : ji_Ev C 16 16 M (some (.int x) :: l) st o ↔ ji_Ev C 16 17 M (some (.int x) :: l) (.int x :: st) o := ev_go (S := (17, M, (some (.int x) :: l), (.int x :: st))) rfl rfl rfl
theorem s16_17 : ji_Ev C 16 17 M lv [.int x] o ↔ o = (some (.int x), M) := ev_ireti rfl rfl
theorem s17_0 : ji_Ev C 17 0 M (some (.ref a) :: l) st o ↔ ji_Ev C 17 1 M (some (.ref a) :: l) (.ref a :: st) o := ev_go (S := (1, M, (some (.ref a) :: l), (.ref a :: st))) rfl rfl rfl
theorem s17_1 : ji_Ev C 17 1 M lv (.ref a :: st) o ↔ ji_kd M a = some (0, 6) ∧ ji_Ev C 17 4 M lv (.int (ji_gI M a 1) :: st) o := ev_getI (k := 17) rfl fd_6_18 rfl
theorem s17_4 : ji_Ev C 17 4 M lv st o ↔ ji_Ev C 17 7 M lv (.int 160 :: st) o := ev_go (S := (7, M, lv, (.int 160 :: st))) rfl rfl rfl
theorem s17_7 : ji_Ev C 17 7 M lv (.int y :: .int x :: st) o ↔ if x < y then ji_Ev C 17 10 M lv st o else ji_Ev C 17 30 M lv st o := ev_brc (c := .ge) rfl (by decide) rfl
theorem s17_10 : ji_Ev C 17 10 M (some (.ref a) :: l) st o ↔ ji_Ev C 17 11 M (some (.ref a) :: l) (.ref a :: st) o := ev_go (S := (11, M, (some (.ref a) :: l), (.ref a :: st))) rfl rfl rfl
theorem s17_11 : ji_Ev C 17 11 M lv (.ref a :: st) o ↔ ji_kd M a = some (0, 6) ∧ ji_Ev C 17 14 M lv (ji_rv (ji_gR M a 0) :: st) o := ev_getR (k := 17) rfl fd_6_11 rfl
theorem s17_14 : ji_Ev C 17 14 M (some (.ref a) :: l) st o ↔ ji_Ev C 17 15 M (some (.ref a) :: l) (.ref a :: st) o := ev_go (S := (15, M, (some (.ref a) :: l), (.ref a :: st))) rfl rfl rfl
theorem s17_15 : ji_Ev C 17 15 M lv (.ref a :: st) o ↔ ji_kd M a = some (0, 6) ∧ ji_Ev C 17 18 M lv (.int (ji_gI M a 1) :: st) o := ev_getI (k := 17) rfl fd_6_18 rfl
theorem s17_18 : ji_Ev C 17 18 M (l0 :: some (.int x) :: l) st o ↔ ji_Ev C 17 19 M (l0 :: some (.int x) :: l) (.int x :: st) o := ev_go (S := (19, M, (l0 :: some (.int x) :: l), (.int x :: st))) rfl rfl rfl
theorem s17_19 : ji_Ev C 17 19 M lv (.int y :: .int x :: .ref a :: st) o ↔ ji_evA (ji_kd M a) (fun n => vp_in x n ∧ ji_Ev C 17 20 (ji_sI M a x.toNatClampNeg y) lv st o) := ev_iast rfl
theorem s17_20 : ji_Ev C 17 20 M (some (.ref a) :: l) st o ↔ ji_Ev C 17 21 M (some (.ref a) :: l) (.ref a :: st) o := ev_go (S := (21, M, (some (.ref a) :: l), (.ref a :: st))) rfl rfl rfl
theorem s17_21 : ji_Ev C 17 21 M lv (.int x :: st) o ↔ ji_Ev C 17 22 M lv (.int x :: .int x :: st) o := ev_go (S := (22, M, lv, (.int x :: .int x :: st))) rfl rfl rfl
theorem s17_21r : ji_Ev C 17 21 M lv (.ref a :: st) o ↔ ji_Ev C 17 22 M lv (.ref a :: .ref a :: st) o := ev_go (S := (22, M, lv, (.ref a :: .ref a :: st))) rfl rfl rfl
theorem s17_22 : ji_Ev C 17 22 M lv (.ref a :: st) o ↔ ji_kd M a = some (0, 6) ∧ ji_Ev C 17 25 M lv (.int (ji_gI M a 1) :: st) o := ev_getI (k := 17) rfl fd_6_18 rfl
theorem s17_25 : ji_Ev C 17 25 M lv st o ↔ ji_Ev C 17 26 M lv (.int 1 :: st) o := ev_go (S := (26, M, lv, (.int 1 :: st))) rfl rfl rfl
theorem s17_26 : ji_Ev C 17 26 M lv (.int y :: .int x :: st) o ↔ ji_Ev C 17 27 M lv (.int (x + y) :: st) o := ev_go (S := (27, M, lv, (.int (x + y) :: st))) rfl rfl rfl
theorem s17_27 : ji_Ev C 17 27 M lv (.int x :: .ref a :: st) o ↔ ji_kd M a = some (0, 6) ∧ ji_Ev C 17 30 (ji_sI M a 1 x) lv st o := ev_putI (k := 17) rfl fd_6_18 rfl (by decide)
theorem s17_30 : ji_Ev C 17 30 M lv [] o ↔ o = (none, M) := ev_vret rfl rfl
theorem s18_0 : ji_Ev C 18 0 M (some (.ref a) :: l) st o ↔ ji_Ev C 18 1 M (some (.ref a) :: l) (.ref a :: st) o := ev_go (S := (1, M, (some (.ref a) :: l), (.ref a :: st))) rfl rfl rfl
theorem s18_1 : ji_Ev C 18 1 M lv (.ref a :: st) o ↔ ji_kd M a = some (0, 3) ∧ ji_Ev C 18 4 M lv (.int (ji_gI M a 6) :: st) o := ev_getI (k := 18) rfl fd_3_49 rfl
theorem s18_4 : ji_Ev C 18 4 M lv st o ↔ ji_Ev C 18 6 M lv (.int 6 :: st) o := ev_go (S := (6, M, lv, (.int 6 :: st))) rfl rfl rfl
theorem s18_6 : ji_Ev C 18 6 M lv (.int y :: .int x :: st) o ↔ if x < y then ji_Ev C 18 12 M lv st o else ji_Ev C 18 9 M lv st o := ev_brc (c := .lt) rfl (by decide) rfl
theorem s18_9 : ji_Ev C 18 9 M lv st o ↔ ji_Ev C 18 11 M lv (.int (-4) :: st) o := ev_go (S := (11, M, lv, (.int (-4) :: st))) rfl rfl rfl
theorem s18_11 : ji_Ev C 18 11 M lv [.int x] o ↔ o = (some (.int x), M) := ev_ireti rfl rfl
theorem s18_12 : ji_Ev C 18 12 M (some (.ref a) :: l) st o ↔ ji_Ev C 18 13 M (some (.ref a) :: l) (.ref a :: st) o := ev_go (S := (13, M, (some (.ref a) :: l), (.ref a :: st))) rfl rfl rfl
theorem s18_13 : ji_Ev C 18 13 M lv (.ref a :: st) o ↔ ji_kd M a = some (0, 3) ∧ ji_Ev C 18 16 M lv (ji_rv (ji_gR M a 0) :: st) o := ev_getR (k := 18) rfl fd_3_12 rfl
theorem s18_16 : ji_Ev C 18 16 M (some (.ref a) :: l) st o ↔ ji_Ev C 18 17 M (some (.ref a) :: l) (.ref a :: st) o := ev_go (S := (17, M, (some (.ref a) :: l), (.ref a :: st))) rfl rfl rfl
theorem s18_17 : ji_Ev C 18 17 M lv (.ref a :: st) o ↔ ji_kd M a = some (0, 3) ∧ ji_Ev C 18 20 M lv (ji_rv (ji_gR M a 1) :: st) o := ev_getR (k := 18) rfl fd_3_20 rfl
theorem s18_20 : ji_Ev C 18 20 M (some (.ref a) :: l) st o ↔ ji_Ev C 18 21 M (some (.ref a) :: l) (.ref a :: st) o := ev_go (S := (21, M, (some (.ref a) :: l), (.ref a :: st))) rfl rfl rfl
theorem s18_21 : ji_Ev C 18 21 M lv (.ref a :: st) o ↔ ji_kd M a = some (0, 3) ∧ ji_Ev C 18 24 M lv (.int (ji_gI M a 6) :: st) o := ev_getI (k := 18) rfl fd_3_49 rfl
theorem s18_24 : ji_Ev C 18 24 M lv (.int x :: .ref a :: st) o ↔ ji_evQ (ji_kd M a) (fun n => vp_in x n ∧ ji_Ev C 18 25 M lv (ji_rv (ji_gR M a x.toNatClampNeg) :: st) o) := ev_aald rfl
theorem s18_25 : ji_Ev C 18 25 M (some (.ref a) :: l) st o ↔ ji_Ev C 18 26 M (some (.ref a) :: l) (.ref a :: st) o := ev_go (S := (26, M, (some (.ref a) :: l), (.ref a :: st))) rfl rfl rfl
theorem s18_26 : ji_Ev C 18 26 M lv (.ref a :: st) o ↔ ji_kd M a = some (0, 3) ∧ ji_Ev C 18 29 M lv (ji_rv (ji_gR M a 2) :: st) o := ev_getR (k := 18) rfl fd_3_23 rfl
theorem s18_29 : ji_Ev C 18 29 M (some (.ref a) :: l) st o ↔ ji_Ev C 18 30 M (some (.ref a) :: l) (.ref a :: st) o := ev_go (S := (30, M, (some (.ref a) :: l), (.ref a :: st))) rfl rfl rfl
theorem s18_30 : ji_Ev C 18 30 M lv (.ref a :: st) o ↔ ji_kd M a = some (0, 3) ∧ ji_Ev C 18 33 M lv (.int (ji_gI M a 6) :: st) o := ev_getI (k := 18) rfl fd_3_49 rfl
theorem s18_33 : ji_Ev C 18 33 M lv (.int x :: .ref a :: st) o ↔ ji_evQ (ji_kd M a) (fun n => vp_in x n ∧ ji_Ev C 18 34 M lv (ji_rv (ji_gR M a x.toNatClampNeg) :: st) o) := ev_aald rfl
theorem s18_34 : ji_Ev C 18 34 M lv (p1 :: p0 :: .ref a :: st) o ↔ (ji_rcb M 6 (.ref a) = true ∧ ji_ok8 st) ∧ ji_evC (C 19 [.ref a, p0, p1] M) (fun v M' => ji_Ev C 18 37 M' lv (v.toList ++ st) o) := ev_inv (k := 18) rfl cd_3_53 rfl
theorem s18_37 : ji_Ev C 18 37 M lv (.int x :: st) o ↔ 1 < lv.length ∧ ji_Ev C 18 38 M (ji_s1 lv 1 (.int x)) st o := ev_stI rfl rfl rfl
theorem s18_38 : ji_Ev C 18 38 M (l0 :: some (.int x) :: l) st o ↔ ji_Ev C 18 39 M (l0 :: some (.int x) :: l) (.int x :: st) o := ev_go (S := (39, M, (l0 :: some (.int x) :: l), (.int x :: st))) rfl rfl rfl
theorem s18_39 : ji_Ev C 18 39 M lv st o ↔ ji_Ev C 18 40 M lv (.int (-1) :: st) o := ev_go (S := (40, M, lv, (.int (-1) :: st))) rfl rfl rfl
theorem s18_40 : ji_Ev C 18 40 M lv (.int y :: .int x :: st) o ↔ if x = y then ji_Ev C 18 48 M lv st o else ji_Ev C 18 43 M lv st o := ev_brc (c := .eq) rfl (by decide) rfl
theorem s18_43 : ji_Ev C 18 43 M lv st o ↔ ji_Ev C 18 45 M lv (.int (-100) :: st) o := ev_go (S := (45, M, lv, (.int (-100) :: st))) rfl rfl rfl
theorem s18_45 : ji_Ev C 18 45 M (l0 :: some (.int x) :: l) st o ↔ ji_Ev C 18 46 M (l0 :: some (.int x) :: l) (.int x :: st) o := ev_go (S := (46, M, (l0 :: some (.int x) :: l), (.int x :: st))) rfl rfl rfl
theorem s18_46 : ji_Ev C 18 46 M lv (.int y :: .int x :: st) o ↔ ji_Ev C 18 47 M lv (.int (x - y) :: st) o := ev_go (S := (47, M, lv, (.int (x - y) :: st))) rfl rfl rfl
theorem s18_47 : ji_Ev C 18 47 M lv [.int x] o ↔ o = (some (.int x), M) := ev_ireti rfl rfl
theorem s18_48 : ji_Ev C 18 48 M (some (.ref a) :: l) st o ↔ ji_Ev C 18 49 M (some (.ref a) :: l) (.ref a :: st) o := ev_go (S := (49, M, (some (.ref a) :: l), (.ref a :: st))) rfl rfl rfl
theorem s18_49 : ji_Ev C 18 49 M lv (.int x :: st) o ↔ ji_Ev C 18 50 M lv (.int x :: .int x :: st) o := ev_go (S := (50, M, lv, (.int x :: .int x :: st))) rfl rfl rfl
theorem s18_49r : ji_Ev C 18 49 M lv (.ref a :: st) o ↔ ji_Ev C 18 50 M lv (.ref a :: .ref a :: st) o := ev_go (S := (50, M, lv, (.ref a :: .ref a :: st))) rfl rfl rfl
theorem s18_50 : ji_Ev C 18 50 M lv (.ref a :: st) o ↔ ji_kd M a = some (0, 3) ∧ ji_Ev C 18 53 M lv (.int (ji_gI M a 6) :: st) o := ev_getI (k := 18) rfl fd_3_49 rfl
theorem s18_53 : ji_Ev C 18 53 M lv st o ↔ ji_Ev C 18 54 M lv (.int 1 :: st) o := ev_go (S := (54, M, lv, (.int 1 :: st))) rfl rfl rfl
theorem s18_54 : ji_Ev C 18 54 M lv (.int y :: .int x :: st) o ↔ ji_Ev C 18 55 M lv (.int (x + y) :: st) o := ev_go (S := (55, M, lv, (.int (x + y) :: st))) rfl rfl rfl
theorem s18_55 : ji_Ev C 18 55 M lv (.int x :: .ref a :: st) o ↔ ji_kd M a = some (0, 3) ∧ ji_Ev C 18 58 (ji_sI M a 6 x) lv st o := ev_putI (k := 18) rfl fd_3_49 rfl (by decide)
theorem s18_58 : ji_Ev C 18 58 M (some (.ref a) :: l) st o ↔ ji_Ev C 18 59 M (some (.ref a) :: l) (.ref a :: st) o := ev_go (S := (59, M, (some (.ref a) :: l), (.ref a :: st))) rfl rfl rfl
theorem s18_59 : ji_Ev C 18 59 M lv (.ref a :: st) o ↔ ji_kd M a = some (0, 3) ∧ ji_Ev C 18 62 M lv (.int (ji_gI M a 6) :: st) o := ev_getI (k := 18) rfl fd_3_49 rfl
theorem s18_62 : ji_Ev C 18 62 M lv st o ↔ ji_Ev C 18 63 M lv (.int 1 :: st) o := ev_go (S := (63, M, lv, (.int 1 :: st))) rfl rfl rfl
theorem s18_63 : ji_Ev C 18 63 M lv (.int y :: .int x :: st) o ↔ ji_Ev C 18 64 M lv (.int (x - y) :: st) o := ev_go (S := (64, M, lv, (.int (x - y) :: st))) rfl rfl rfl
theorem s18_64 : ji_Ev C 18 64 M lv [.int x] o ↔ o = (some (.int x), M) := ev_ireti rfl rfl
theorem s19_0 : ji_Ev C 19 0 M (some (.ref a) :: l) st o ↔ ji_Ev C 19 1 M (some (.ref a) :: l) (.ref a :: st) o := ev_go (S := (1, M, (some (.ref a) :: l), (.ref a :: st))) rfl rfl rfl
theorem s19_1 : ji_Ev C 19 1 M (l0 :: some (.ref a) :: l) st o ↔ ji_Ev C 19 2 M (l0 :: some (.ref a) :: l) (.ref a :: st) o := ev_go (S := (2, M, (l0 :: some (.ref a) :: l), (.ref a :: st))) rfl rfl rfl
theorem s19_2 : ji_Ev C 19 2 M lv (.ref b :: .ref a :: st) o ↔ ji_kd M a = some (0, 6) ∧ ji_Ev C 19 5 (ji_sR M a 8 (some b)) lv st o := ev_putR (k := 19) rfl fd_6_15 rfl (by decide)
theorem s19_5 : ji_Ev C 19 5 M (some (.ref a) :: l) st o ↔ ji_Ev C 19 6 M (some (.ref a) :: l) (.ref a :: st) o := ev_go (S := (6, M, (some (.ref a) :: l), (.ref a :: st))) rfl rfl rfl
theorem s19_6 : ji_Ev C 19 6 M lv st o ↔ ji_Ev C 19 7 M lv (.int 0 :: st) o := ev_go (S := (7, M, lv, (.int 0 :: st))) rfl rfl rfl
theorem s19_7 : ji_Ev C 19 7 M lv (.int x :: .ref a :: st) o ↔ ji_kd M a = some (0, 6) ∧ ji_Ev C 19 10 (ji_sI M a 2 x) lv st o := ev_putI (k := 19) rfl fd_6_28 rfl (by decide)
theorem s19_10 : ji_Ev C 19 10 M (some (.ref a) :: l) st o ↔ ji_Ev C 19 11 M (some (.ref a) :: l) (.ref a :: st) o := ev_go (S := (11, M, (some (.ref a) :: l), (.ref a :: st))) rfl rfl rfl
theorem s19_11 : ji_Ev C 19 11 M lv st o ↔ ji_Ev C 19 12 M lv (.int 0 :: st) o := ev_go (S := (12, M, lv, (.int 0 :: st))) rfl rfl rfl
theorem s19_12 : ji_Ev C 19 12 M lv (.int x :: .ref a :: st) o ↔ ji_kd M a = some (0, 6) ∧ ji_Ev C 19 15 (ji_sI M a 6 x) lv st o := ev_putI (k := 19) rfl fd_6_31 rfl (by decide)
theorem s19_15 : ji_Ev C 19 15 M (some (.ref a) :: l) st o ↔ ji_Ev C 19 16 M (some (.ref a) :: l) (.ref a :: st) o := ev_go (S := (16, M, (some (.ref a) :: l), (.ref a :: st))) rfl rfl rfl
theorem s19_16 : ji_Ev C 19 16 M lv st o ↔ ji_Ev C 19 17 M lv (.int 0 :: st) o := ev_go (S := (17, M, lv, (.int 0 :: st))) rfl rfl rfl
theorem s19_17 : ji_Ev C 19 17 M lv (.int x :: .ref a :: st) o ↔ ji_kd M a = some (0, 6) ∧ ji_Ev C 19 20 (ji_sI M a 9 x) lv st o := ev_putI (k := 19) rfl fd_6_34 rfl (by decide)
theorem s19_20 : ji_Ev C 19 20 M (some (.ref a) :: l) st o ↔ ji_Ev C 19 21 M (some (.ref a) :: l) (.ref a :: st) o := ev_go (S := (21, M, (some (.ref a) :: l), (.ref a :: st))) rfl rfl rfl
theorem s19_21 : ji_Ev C 19 21 M lv st o ↔ ji_Ev C 19 22 M lv (.int (-1) :: st) o := ev_go (S := (22, M, lv, (.int (-1) :: st))) rfl rfl rfl
theorem s19_22 : ji_Ev C 19 22 M lv (.int x :: .ref a :: st) o ↔ ji_kd M a = some (0, 6) ∧ ji_Ev C 19 25 (ji_sI M a 7 x) lv st o := ev_putI (k := 19) rfl fd_6_37 rfl (by decide)
theorem s19_25 : ji_Ev C 19 25 M (some (.ref a) :: l) st o ↔ ji_Ev C 19 26 M (some (.ref a) :: l) (.ref a :: st) o := ev_go (S := (26, M, (some (.ref a) :: l), (.ref a :: st))) rfl rfl rfl
theorem s19_26 : ji_Ev C 19 26 M lv (.ref a :: st) o ↔ (ji_rcb M 6 (.ref a) = true ∧ ji_ok8 st) ∧ ji_evC (C 20 [.ref a] M) (fun v M' => ji_Ev C 19 29 M' lv (v.toList ++ st) o) := ev_inv (k := 19) rfl cd_6_40 rfl
theorem s19_29 : ji_Ev C 19 29 M lv st o ↔ ji_Ev C 19 30 M lv (.int 0 :: st) o := ev_go (S := (30, M, lv, (.int 0 :: st))) rfl rfl rfl
theorem s19_30 : ji_Ev C 19 30 M lv (.int x :: st) o ↔ 3 < lv.length ∧ ji_Ev C 19 31 M (ji_s1 lv 3 (.int x)) st o := ev_stI rfl rfl rfl
theorem s19_31 : ji_Ev C 19 31 M (l0 :: l1 :: l2 :: some (.int x) :: l) st o ↔ ji_Ev C 19 32 M (l0 :: l1 :: l2 :: some (.int x) :: l) (.int x :: st) o := ev_go (S := (32, M, (l0 :: l1 :: l2 :: some (.int x) :: l), (.int x :: st))) rfl rfl rfl
theorem s19_32 : ji_Ev C 19 32 M lv st o ↔ ji_Ev C 19 33 M lv (.int 3 :: st) o := ev_go (S := (33, M, lv, (.int 3 :: st))) rfl rfl rfl
theorem s19_33 : ji_Ev C 19 33 M lv (.int y :: .int x :: st) o ↔ if x < y then ji_Ev C 19 36 M lv st o else ji_Ev C 19 74 M lv st o := ev_brc (c := .ge) rfl (by decide) rfl
theorem s19_36 : ji_Ev C 19 36 M (l0 :: l1 :: l2 :: some (.int x) :: l) st o ↔ ji_Ev C 19 37 M (l0 :: l1 :: l2 :: some (.int x) :: l) (.int x :: st) o := ev_go (S := (37, M, (l0 :: l1 :: l2 :: some (.int x) :: l), (.int x :: st))) rfl rfl rfl
theorem s19_37 : ji_Ev C 19 37 M (l0 :: l1 :: some (.ref a) :: l) st o ↔ ji_Ev C 19 38 M (l0 :: l1 :: some (.ref a) :: l) (.ref a :: st) o := ev_go (S := (38, M, (l0 :: l1 :: some (.ref a) :: l), (.ref a :: st))) rfl rfl rfl
theorem s19_38 : ji_Ev C 19 38 M lv (.ref a :: st) o ↔ ji_evN (ji_kd M a) (fun n => ji_Ev C 19 39 M lv (.int (Int32.ofNat n) :: st) o) := ev_alen rfl
theorem s19_39 : ji_Ev C 19 39 M lv (.int y :: .int x :: st) o ↔ if x < y then ji_Ev C 19 42 M lv st o else ji_Ev C 19 74 M lv st o := ev_brc (c := .ge) rfl (by decide) rfl
theorem s19_42 : ji_Ev C 19 42 M (some (.ref a) :: l) st o ↔ ji_Ev C 19 43 M (some (.ref a) :: l) (.ref a :: st) o := ev_go (S := (43, M, (some (.ref a) :: l), (.ref a :: st))) rfl rfl rfl
theorem s19_43 : ji_Ev C 19 43 M lv st o ↔ ji_Ev C 19 46 M lv (.int 2000 :: st) o := ev_go (S := (46, M, lv, (.int 2000 :: st))) rfl rfl rfl
theorem s19_46 : ji_Ev C 19 46 M (l0 :: l1 :: l2 :: some (.int x) :: l) st o ↔ ji_Ev C 19 47 M (l0 :: l1 :: l2 :: some (.int x) :: l) (.int x :: st) o := ev_go (S := (47, M, (l0 :: l1 :: l2 :: some (.int x) :: l), (.int x :: st))) rfl rfl rfl
theorem s19_47 : ji_Ev C 19 47 M lv (.int y :: .int x :: st) o ↔ ji_Ev C 19 48 M lv (.int (x + y) :: st) o := ev_go (S := (48, M, lv, (.int (x + y) :: st))) rfl rfl rfl
theorem s19_48 : ji_Ev C 19 48 M lv (p0 :: .ref a :: st) o ↔ (ji_rcb M 6 (.ref a) = true ∧ ji_ok8 st) ∧ ji_evC (C 32 [.ref a, p0] M) (fun v M' => ji_Ev C 19 51 M' lv (v.toList ++ st) o) := ev_inv (k := 19) rfl cd_6_43 rfl
theorem s19_51 : ji_Ev C 19 51 M (some (.ref a) :: l) st o ↔ ji_Ev C 19 52 M (some (.ref a) :: l) (.ref a :: st) o := ev_go (S := (52, M, (some (.ref a) :: l), (.ref a :: st))) rfl rfl rfl
theorem s19_52 : ji_Ev C 19 52 M lv (.ref a :: st) o ↔ (ji_rcb M 6 (.ref a) = true ∧ ji_ok8 st) ∧ ji_evC (C 34 [.ref a] M) (fun v M' => ji_Ev C 19 55 M' lv (v.toList ++ st) o) := ev_inv (k := 19) rfl cd_6_46 rfl
theorem s19_55 : ji_Ev C 19 55 M (some (.ref a) :: l) st o ↔ ji_Ev C 19 56 M (some (.ref a) :: l) (.ref a :: st) o := ev_go (S := (56, M, (some (.ref a) :: l), (.ref a :: st))) rfl rfl rfl
theorem s19_56 : ji_Ev C 19 56 M lv st o ↔ ji_Ev C 19 58 M lv (.int 59 :: st) o := ev_go (S := (58, M, lv, (.int 59 :: st))) rfl rfl rfl
theorem s19_58 : ji_Ev C 19 58 M lv (p0 :: .ref a :: st) o ↔ (ji_rcb M 6 (.ref a) = true ∧ ji_ok8 st) ∧ ji_evC (C 32 [.ref a, p0] M) (fun v M' => ji_Ev C 19 61 M' lv (v.toList ++ st) o) := ev_inv (k := 19) rfl cd_6_43 rfl
theorem s19_61 : ji_Ev C 19 61 M (l0 :: l1 :: some (.ref a) :: l) st o ↔ ji_Ev C 19 62 M (l0 :: l1 :: some (.ref a) :: l) (.ref a :: st) o := ev_go (S := (62, M, (l0 :: l1 :: some (.ref a) :: l), (.ref a :: st))) rfl rfl rfl
theorem s19_62 : ji_Ev C 19 62 M (l0 :: l1 :: l2 :: some (.int x) :: l) st o ↔ ji_Ev C 19 63 M (l0 :: l1 :: l2 :: some (.int x) :: l) (.int x :: st) o := ev_go (S := (63, M, (l0 :: l1 :: l2 :: some (.int x) :: l), (.int x :: st))) rfl rfl rfl
theorem s19_63 : ji_Ev C 19 63 M (some (.ref a) :: l) st o ↔ ji_Ev C 19 64 M (some (.ref a) :: l) (.ref a :: st) o := ev_go (S := (64, M, (some (.ref a) :: l), (.ref a :: st))) rfl rfl rfl
theorem s19_64 : ji_Ev C 19 64 M lv (.ref a :: st) o ↔ ji_kd M a = some (0, 6) ∧ ji_Ev C 19 67 M lv (.int (ji_gI M a 9) :: st) o := ev_getI (k := 19) rfl fd_6_34 rfl
theorem s19_67 : ji_Ev C 19 67 M lv (.int y :: .int x :: .ref a :: st) o ↔ ji_evA (ji_kd M a) (fun n => vp_in x n ∧ ji_Ev C 19 68 (ji_sI M a x.toNatClampNeg y) lv st o) := ev_iast rfl
theorem s19_68 : ji_Ev C 19 68 M lv st o ↔ ji_evL (lv.getD 3 none) ji_isI (fun v => match v with | .int x => 3 < lv.length ∧ ji_Ev C 19 71 M (ji_s1 lv 3 (.int (x + Int32.ofInt 1))) st o | _ => False) := ev_iinc rfl
theorem s19_71 : ji_Ev C 19 71 M lv st o ↔ ji_Ev C 19 31 M lv st o := ev_gt rfl (by decide) rfl
theorem s19_74 : ji_Ev C 19 74 M (some (.ref a) :: l) st o ↔ ji_Ev C 19 75 M (some (.ref a) :: l) (.ref a :: st) o := ev_go (S := (75, M, (some (.ref a) :: l), (.ref a :: st))) rfl rfl rfl
theorem s19_75 : ji_Ev C 19 75 M lv st o ↔ ji_Ev C 19 78 M lv (.int 1000 :: st) o := ev_go (S := (78, M, lv, (.int 1000 :: st))) rfl rfl rfl
theorem s19_78 : ji_Ev C 19 78 M lv (p0 :: .ref a :: st) o ↔ (ji_rcb M 6 (.ref a) = true ∧ ji_ok8 st) ∧ ji_evC (C 32 [.ref a, p0] M) (fun v M' => ji_Ev C 19 81 M' lv (v.toList ++ st) o) := ev_inv (k := 19) rfl cd_6_43 rfl
theorem s19_81 : ji_Ev C 19 81 M (some (.ref a) :: l) st o ↔ ji_Ev C 19 82 M (some (.ref a) :: l) (.ref a :: st) o := ev_go (S := (82, M, (some (.ref a) :: l), (.ref a :: st))) rfl rfl rfl
theorem s19_82 : ji_Ev C 19 82 M lv st o ↔ ji_Ev C 19 83 M lv (.int 0 :: st) o := ev_go (S := (83, M, lv, (.int 0 :: st))) rfl rfl rfl
theorem s19_83 : ji_Ev C 19 83 M lv (.int x :: .ref a :: st) o ↔ ji_kd M a = some (0, 6) ∧ ji_Ev C 19 86 (ji_sI M a 1 x) lv st o := ev_putI (k := 19) rfl fd_6_18 rfl (by decide)
theorem s19_86 : ji_Ev C 19 86 M (some (.ref a) :: l) st o ↔ ji_Ev C 19 87 M (some (.ref a) :: l) (.ref a :: st) o := ev_go (S := (87, M, (some (.ref a) :: l), (.ref a :: st))) rfl rfl rfl
theorem s19_87 : ji_Ev C 19 87 M lv (.ref a :: st) o ↔ ji_kd M a = some (0, 6) ∧ ji_Ev C 19 90 M lv (.int (ji_gI M a 7) :: st) o := ev_getI (k := 19) rfl fd_6_37 rfl
theorem s19_90 : ji_Ev C 19 90 M lv [.int x] o ↔ o = (some (.int x), M) := ev_ireti rfl rfl
theorem s20_0 : ji_Ev C 20 0 M (some (.ref a) :: l) st o ↔ ji_Ev C 20 1 M (some (.ref a) :: l) (.ref a :: st) o := ev_go (S := (1, M, (some (.ref a) :: l), (.ref a :: st))) rfl rfl rfl
theorem s20_1 : ji_Ev C 20 1 M lv (.ref a :: st) o ↔ ji_kd M a = some (0, 6) ∧ ji_Ev C 20 4 M lv (.int (ji_gI M a 2) :: st) o := ev_getI (k := 20) rfl fd_6_28 rfl
theorem s20_4 : ji_Ev C 20 4 M (some (.ref a) :: l) st o ↔ ji_Ev C 20 5 M (some (.ref a) :: l) (.ref a :: st) o := ev_go (S := (5, M, (some (.ref a) :: l), (.ref a :: st))) rfl rfl rfl
theorem s20_5 : ji_Ev C 20 5 M lv (.ref a :: st) o ↔ ji_kd M a = some (0, 6) ∧ ji_Ev C 20 8 M lv (.int (ji_gI M a 1) :: st) o := ev_getI (k := 20) rfl fd_6_18 rfl
theorem s20_8 : ji_Ev C 20 8 M lv (.int y :: .int x :: st) o ↔ if x < y then ji_Ev C 20 11 M lv st o else ji_Ev C 20 50 M lv st o := ev_brc (c := .ge) rfl (by decide) rfl
theorem s20_11 : ji_Ev C 20 11 M (some (.ref a) :: l) st o ↔ ji_Ev C 20 12 M (some (.ref a) :: l) (.ref a :: st) o := ev_go (S := (12, M, (some (.ref a) :: l), (.ref a :: st))) rfl rfl rfl
theorem s20_12 : ji_Ev C 20 12 M (some (.ref a) :: l) st o ↔ ji_Ev C 20 13 M (some (.ref a) :: l) (.ref a :: st) o := ev_go (S := (13, M, (some (.ref a) :: l), (.ref a :: st))) rfl rfl rfl
theorem s20_13 : ji_Ev C 20 13 M lv (.ref a :: st) o ↔ ji_kd M a = some (0, 6) ∧ ji_Ev C 20 16 M lv (.int (ji_gI M a 2) :: st) o := ev_getI (k := 20) rfl fd_6_28 rfl
theorem s20_16 : ji_Ev C 20 16 M lv (p0 :: .ref a :: st) o ↔ (ji_rcb M 6 (.ref a) = true ∧ ji_ok8 st) ∧ ji_evC (C 21 [.ref a, p0] M) (fun v M' => ji_Ev C 20 19 M' lv (v.toList ++ st) o) := ev_inv (k := 20) rfl cd_6_49 rfl
theorem s20_19 : ji_Ev C 20 19 M lv st o ↔ ji_Ev C 20 21 M lv (.int 32 :: st) o := ev_go (S := (21, M, lv, (.int 32 :: st))) rfl rfl rfl
theorem s20_21 : ji_Ev C 20 21 M lv (.int y :: .int x :: st) o ↔ if x = y then ji_Ev C 20 37 M lv st o else ji_Ev C 20 24 M lv st o := ev_brc (c := .eq) rfl (by decide) rfl
theorem s20_24 : ji_Ev C 20 24 M (some (.ref a) :: l) st o ↔ ji_Ev C 20 25 M (some (.ref a) :: l) (.ref a :: st) o := ev_go (S := (25, M, (some (.ref a) :: l), (.ref a :: st))) rfl rfl rfl
theorem s20_25 : ji_Ev C 20 25 M (some (.ref a) :: l) st o ↔ ji_Ev C 20 26 M (some (.ref a) :: l) (.ref a :: st) o := ev_go (S := (26, M, (some (.ref a) :: l), (.ref a :: st))) rfl rfl rfl
theorem s20_26 : ji_Ev C 20 26 M lv (.ref a :: st) o ↔ ji_kd M a = some (0, 6) ∧ ji_Ev C 20 29 M lv (.int (ji_gI M a 2) :: st) o := ev_getI (k := 20) rfl fd_6_28 rfl
theorem s20_29 : ji_Ev C 20 29 M lv (p0 :: .ref a :: st) o ↔ (ji_rcb M 6 (.ref a) = true ∧ ji_ok8 st) ∧ ji_evC (C 21 [.ref a, p0] M) (fun v M' => ji_Ev C 20 32 M' lv (v.toList ++ st) o) := ev_inv (k := 20) rfl cd_6_49 rfl
theorem s20_32 : ji_Ev C 20 32 M lv st o ↔ ji_Ev C 20 34 M lv (.int 10 :: st) o := ev_go (S := (34, M, lv, (.int 10 :: st))) rfl rfl rfl
theorem s20_34 : ji_Ev C 20 34 M lv (.int y :: .int x :: st) o ↔ if x = y then ji_Ev C 20 37 M lv st o else ji_Ev C 20 50 M lv st o := ev_brc (c := .ne) rfl (by decide) rfl
theorem s20_37 : ji_Ev C 20 37 M (some (.ref a) :: l) st o ↔ ji_Ev C 20 38 M (some (.ref a) :: l) (.ref a :: st) o := ev_go (S := (38, M, (some (.ref a) :: l), (.ref a :: st))) rfl rfl rfl
theorem s20_38 : ji_Ev C 20 38 M lv (.int x :: st) o ↔ ji_Ev C 20 39 M lv (.int x :: .int x :: st) o := ev_go (S := (39, M, lv, (.int x :: .int x :: st))) rfl rfl rfl
theorem s20_38r : ji_Ev C 20 38 M lv (.ref a :: st) o ↔ ji_Ev C 20 39 M lv (.ref a :: .ref a :: st) o := ev_go (S := (39, M, lv, (.ref a :: .ref a :: st))) rfl rfl rfl
theorem s20_39 : ji_Ev C 20 39 M lv (.ref a :: st) o ↔ ji_kd M a = some (0, 6) ∧ ji_Ev C 20 42 M lv (.int (ji_gI M a 2) :: st) o := ev_getI (k := 20) rfl fd_6_28 rfl
theorem s20_42 : ji_Ev C 20 42 M lv st o ↔ ji_Ev C 20 43 M lv (.int 1 :: st) o := ev_go (S := (43, M, lv, (.int 1 :: st))) rfl rfl rfl
theorem s20_43 : ji_Ev C 20 43 M lv (.int y :: .int x :: st) o ↔ ji_Ev C 20 44 M lv (.int (x + y) :: st) o := ev_go (S := (44, M, lv, (.int (x + y) :: st))) rfl rfl rfl
theorem s20_44 : ji_Ev C 20 44 M lv (.int x :: .ref a :: st) o ↔ ji_kd M a = some (0, 6) ∧ ji_Ev C 20 47 (ji_sI M a 2 x) lv st o := ev_putI (k := 20) rfl fd_6_28 rfl (by decide)
theorem s20_47 : ji_Ev C 20 47 M lv st o ↔ ji_Ev C 20 0 M lv st o := ev_gt rfl (by decide) rfl
theorem s20_50 : ji_Ev C 20 50 M (some (.ref a) :: l) st o ↔ ji_Ev C 20 51 M (some (.ref a) :: l) (.ref a :: st) o := ev_go (S := (51, M, (some (.ref a) :: l), (.ref a :: st))) rfl rfl rfl
theorem s20_51 : ji_Ev C 20 51 M (some (.ref a) :: l) st o ↔ ji_Ev C 20 52 M (some (.ref a) :: l) (.ref a :: st) o := ev_go (S := (52, M, (some (.ref a) :: l), (.ref a :: st))) rfl rfl rfl
theorem s20_52 : ji_Ev C 20 52 M lv (.ref a :: st) o ↔ ji_kd M a = some (0, 6) ∧ ji_Ev C 20 55 M lv (.int (ji_gI M a 2) :: st) o := ev_getI (k := 20) rfl fd_6_28 rfl
theorem s20_55 : ji_Ev C 20 55 M lv (.int x :: .ref a :: st) o ↔ ji_kd M a = some (0, 6) ∧ ji_Ev C 20 58 (ji_sI M a 3 x) lv st o := ev_putI (k := 20) rfl fd_6_53 rfl (by decide)
theorem s20_58 : ji_Ev C 20 58 M (some (.ref a) :: l) st o ↔ ji_Ev C 20 59 M (some (.ref a) :: l) (.ref a :: st) o := ev_go (S := (59, M, (some (.ref a) :: l), (.ref a :: st))) rfl rfl rfl
theorem s20_59 : ji_Ev C 20 59 M (some (.ref a) :: l) st o ↔ ji_Ev C 20 60 M (some (.ref a) :: l) (.ref a :: st) o := ev_go (S := (60, M, (some (.ref a) :: l), (.ref a :: st))) rfl rfl rfl
theorem s20_60 : ji_Ev C 20 60 M lv (.ref a :: st) o ↔ ji_kd M a = some (0, 6) ∧ ji_Ev C 20 63 M lv (.int (ji_gI M a 2) :: st) o := ev_getI (k := 20) rfl fd_6_28 rfl
theorem s20_63 : ji_Ev C 20 63 M lv (p0 :: .ref a :: st) o ↔ (ji_rcb M 6 (.ref a) = true ∧ ji_ok8 st) ∧ ji_evC (C 21 [.ref a, p0] M) (fun v M' => ji_Ev C 20 66 M' lv (v.toList ++ st) o) := ev_inv (k := 20) rfl cd_6_49 rfl
theorem s20_66 : ji_Ev C 20 66 M lv (.int x :: st) o ↔ 1 < lv.length ∧ ji_Ev C 20 67 M (ji_s1 lv 1 (.int x)) st o := ev_stI rfl rfl rfl
theorem s20_67 : ji_Ev C 20 67 M (some (.ref a) :: l) st o ↔ ji_Ev C 20 68 M (some (.ref a) :: l) (.ref a :: st) o := ev_go (S := (68, M, (some (.ref a) :: l), (.ref a :: st))) rfl rfl rfl
theorem s20_68 : ji_Ev C 20 68 M lv (.ref a :: st) o ↔ ji_kd M a = some (0, 6) ∧ ji_Ev C 20 71 M lv (.int (ji_gI M a 2) :: st) o := ev_getI (k := 20) rfl fd_6_28 rfl
theorem s20_71 : ji_Ev C 20 71 M (some (.ref a) :: l) st o ↔ ji_Ev C 20 72 M (some (.ref a) :: l) (.ref a :: st) o := ev_go (S := (72, M, (some (.ref a) :: l), (.ref a :: st))) rfl rfl rfl
theorem s20_72 : ji_Ev C 20 72 M lv (.ref a :: st) o ↔ ji_kd M a = some (0, 6) ∧ ji_Ev C 20 75 M lv (.int (ji_gI M a 1) :: st) o := ev_getI (k := 20) rfl fd_6_18 rfl
theorem s20_75 : ji_Ev C 20 75 M lv (.int y :: .int x :: st) o ↔ if x < y then ji_Ev C 20 88 M lv st o else ji_Ev C 20 78 M lv st o := ev_brc (c := .lt) rfl (by decide) rfl
theorem s20_78 : ji_Ev C 20 78 M (some (.ref a) :: l) st o ↔ ji_Ev C 20 79 M (some (.ref a) :: l) (.ref a :: st) o := ev_go (S := (79, M, (some (.ref a) :: l), (.ref a :: st))) rfl rfl rfl
theorem s20_79 : ji_Ev C 20 79 M lv st o ↔ ji_Ev C 20 82 M lv (.int 1000 :: st) o := ev_go (S := (82, M, lv, (.int 1000 :: st))) rfl rfl rfl
theorem s20_82 : ji_Ev C 20 82 M lv (.int x :: .ref a :: st) o ↔ ji_kd M a = some (0, 6) ∧ ji_Ev C 20 85 (ji_sI M a 4 x) lv st o := ev_putI (k := 20) rfl fd_6_56 rfl (by decide)
theorem s20_85 : ji_Ev C 20 85 M lv st o ↔ ji_Ev C 20 147 M lv st o := ev_gt rfl (by decide) rfl
theorem s20_88 : ji_Ev C 20 88 M (l0 :: some (.int x) :: l) st o ↔ ji_Ev C 20 89 M (l0 :: some (.int x) :: l) (.int x :: st) o := ev_go (S := (89, M, (l0 :: some (.int x) :: l), (.int x :: st))) rfl rfl rfl
theorem s20_89 : ji_Ev C 20 89 M lv (p0 :: st) o ↔ ji_ok8 st ∧ ji_evC (C 22 [p0] M) (fun v M' => ji_Ev C 20 92 M' lv (v.toList ++ st) o) := ev_sta (k := 20) (a := [p0]) rfl (Or.inl cd_6_59) rfl
theorem s20_92 : ji_Ev C 20 92 M lv (.int x :: st) o ↔ if x = 0 then ji_Ev C 20 102 M lv st o else ji_Ev C 20 95 M lv st o := ev_brz (c := .eq) rfl (by decide) rfl
theorem s20_95 : ji_Ev C 20 95 M (some (.ref a) :: l) st o ↔ ji_Ev C 20 96 M (some (.ref a) :: l) (.ref a :: st) o := ev_go (S := (96, M, (some (.ref a) :: l), (.ref a :: st))) rfl rfl rfl
theorem s20_96 : ji_Ev C 20 96 M lv (.ref a :: st) o ↔ (ji_rcb M 6 (.ref a) = true ∧ ji_ok8 st) ∧ ji_evC (C 23 [.ref a] M) (fun v M' => ji_Ev C 20 99 M' lv (v.toList ++ st) o) := ev_inv (k := 20) rfl cd_6_63 rfl
theorem s20_99 : ji_Ev C 20 99 M lv st o ↔ ji_Ev C 20 147 M lv st o := ev_gt rfl (by decide) rfl
theorem s20_102 : ji_Ev C 20 102 M (l0 :: some (.int x) :: l) st o ↔ ji_Ev C 20 103 M (l0 :: some (.int x) :: l) (.int x :: st) o := ev_go (S := (103, M, (l0 :: some (.int x) :: l), (.int x :: st))) rfl rfl rfl
theorem s20_103 : ji_Ev C 20 103 M lv (p0 :: st) o ↔ ji_ok8 st ∧ ji_evC (C 25 [p0] M) (fun v M' => ji_Ev C 20 106 M' lv (v.toList ++ st) o) := ev_sta (k := 20) (a := [p0]) rfl (Or.inl cd_6_66) rfl
theorem s20_106 : ji_Ev C 20 106 M lv (.int x :: st) o ↔ if x = 0 then ji_Ev C 20 116 M lv st o else ji_Ev C 20 109 M lv st o := ev_brz (c := .eq) rfl (by decide) rfl
theorem s20_109 : ji_Ev C 20 109 M (some (.ref a) :: l) st o ↔ ji_Ev C 20 110 M (some (.ref a) :: l) (.ref a :: st) o := ev_go (S := (110, M, (some (.ref a) :: l), (.ref a :: st))) rfl rfl rfl
theorem s20_110 : ji_Ev C 20 110 M lv (.ref a :: st) o ↔ (ji_rcb M 6 (.ref a) = true ∧ ji_ok8 st) ∧ ji_evC (C 26 [.ref a] M) (fun v M' => ji_Ev C 20 113 M' lv (v.toList ++ st) o) := ev_inv (k := 20) rfl cd_6_69 rfl
theorem s20_113 : ji_Ev C 20 113 M lv st o ↔ ji_Ev C 20 147 M lv st o := ev_gt rfl (by decide) rfl
theorem s20_116 : ji_Ev C 20 116 M (some (.ref a) :: l) st o ↔ ji_Ev C 20 117 M (some (.ref a) :: l) (.ref a :: st) o := ev_go (S := (117, M, (some (.ref a) :: l), (.ref a :: st))) rfl rfl rfl
theorem s20_117 : ji_Ev C 20 117 M lv st o ↔ ji_Ev C 20 119 M lv (.retAddr 3 :: st) o := ev_go (S := (119, M, lv, (.retAddr 3 :: st))) rfl rfl rfl
theorem s20_119 : ji_Ev C 20 119 M (l0 :: some (.int x) :: l) st o ↔ ji_Ev C 20 120 M (l0 :: some (.int x) :: l) (.int x :: st) o := ev_go (S := (120, M, (l0 :: some (.int x) :: l), (.int x :: st))) rfl rfl rfl
theorem s20_120 : ji_Ev C 20 120 M lv (.int x :: st) o ↔ ji_Ev C 20 121 M lv (.int (x.toUInt32 % 65536).toInt32 :: st) o := ev_go (S := (121, M, lv, (.int (x.toUInt32 % 65536).toInt32 :: st))) rfl rfl rfl
theorem s20_121x : ji_Ev C 20 121 M lv (p0 :: .retAddr a :: st) o ↔ (ji_rcb M 10 (.retAddr a) = true ∧ ji_ok8 st) ∧ ji_evC (C 27 [.retAddr a, p0] M) (fun v M' => ji_Ev C 20 124 M' lv (v.toList ++ st) o) := ev_inv (k := 20) rfl cd_6_74 rfl
theorem s20_124 : ji_Ev C 20 124 M lv (.int x :: st) o ↔ if x < 0 then ji_Ev C 20 131 M lv st o else ji_Ev C 20 127 M lv st o := ev_brz (c := .lt) rfl (by decide) rfl
theorem s20_127 : ji_Ev C 20 127 M (l0 :: some (.int x) :: l) st o ↔ ji_Ev C 20 128 M (l0 :: some (.int x) :: l) (.int x :: st) o := ev_go (S := (128, M, (l0 :: some (.int x) :: l), (.int x :: st))) rfl rfl rfl
theorem s20_128 : ji_Ev C 20 128 M lv st o ↔ ji_Ev C 20 134 M lv st o := ev_gt rfl (by decide) rfl
theorem s20_131 : ji_Ev C 20 131 M lv st o ↔ ji_Ev C 20 134 M lv (.int 1001 :: st) o := ev_go (S := (134, M, lv, (.int 1001 :: st))) rfl rfl rfl
theorem s20_134 : ji_Ev C 20 134 M lv (.int x :: .ref a :: st) o ↔ ji_kd M a = some (0, 6) ∧ ji_Ev C 20 137 (ji_sI M a 4 x) lv st o := ev_putI (k := 20) rfl fd_6_56 rfl (by decide)
theorem s20_137 : ji_Ev C 20 137 M (some (.ref a) :: l) st o ↔ ji_Ev C 20 138 M (some (.ref a) :: l) (.ref a :: st) o := ev_go (S := (138, M, (some (.ref a) :: l), (.ref a :: st))) rfl rfl rfl
theorem s20_138 : ji_Ev C 20 138 M lv (.int x :: st) o ↔ ji_Ev C 20 139 M lv (.int x :: .int x :: st) o := ev_go (S := (139, M, lv, (.int x :: .int x :: st))) rfl rfl rfl
theorem s20_138r : ji_Ev C 20 138 M lv (.ref a :: st) o ↔ ji_Ev C 20 139 M lv (.ref a :: .ref a :: st) o := ev_go (S := (139, M, lv, (.ref a :: .ref a :: st))) rfl rfl rfl
theorem s20_139 : ji_Ev C 20 139 M lv (.ref a :: st) o ↔ ji_kd M a = some (0, 6) ∧ ji_Ev C 20 142 M lv (.int (ji_gI M a 2) :: st) o := ev_getI (k := 20) rfl fd_6_28 rfl
theorem s20_142 : ji_Ev C 20 142 M lv st o ↔ ji_Ev C 20 143 M lv (.int 1 :: st) o := ev_go (S := (143, M, lv, (.int 1 :: st))) rfl rfl rfl
theorem s20_143 : ji_Ev C 20 143 M lv (.int y :: .int x :: st) o ↔ ji_Ev C 20 144 M lv (.int (x + y) :: st) o := ev_go (S := (144, M, lv, (.int (x + y) :: st))) rfl rfl rfl
theorem s20_144 : ji_Ev C 20 144 M lv (.int x :: .ref a :: st) o ↔ ji_kd M a = some (0, 6) ∧ ji_Ev C 20 147 (ji_sI M a 2 x) lv st o := ev_putI (k := 20) rfl fd_6_28 rfl (by decide)
theorem s20_147 : ji_Ev C 20 147 M lv [] o ↔ o = (none, M) := ev_vret rfl rfl
theorem s21_0 : ji_Ev C 21 0 M (l0 :: some (.int x) :: l) st o ↔ ji_Ev C 21 1 M (l0 :: some (.int x) :: l) (.int x :: st) o := ev_go (S := (1, M, (l0 :: some (.int x) :: l), (.int x :: st))) rfl rfl rfl
theorem s21_1 : ji_Ev C 21 1 M lv (.int x :: st) o ↔ if x < 0 then ji_Ev C 21 28 M lv st o else ji_Ev C 21 4 M lv st o := ev_brz (c := .lt) rfl (by decide) rfl
theorem s21_4 : ji_Ev C 21 4 M (l0 :: some (.int x) :: l) st o ↔ ji_Ev C 21 5 M (l0 :: some (.int x) :: l) (.int x :: st) o := ev_go (S := (5, M, (l0 :: some (.int x) :: l), (.int x :: st))) rfl rfl rfl
theorem s21_5 : ji_Ev C 21 5 M (some (.ref a) :: l) st o ↔ ji_Ev C 21 6 M (some (.ref a) :: l) (.ref a :: st) o := ev_go (S := (6, M, (some (.ref a) :: l), (.ref a :: st))) rfl rfl rfl
theorem s21_6 : ji_Ev C 21 6 M lv (.ref a :: st) o ↔ ji_kd M a = some (0, 6) ∧ ji_Ev C 21 9 M lv (.int (ji_gI M a 1) :: st) o := ev_getI (k := 21) rfl fd_6_18 rfl
theorem s21_9 : ji_Ev C 21 9 M lv (.int y :: .int x :: st) o ↔ if x < y then ji_Ev C 21 12 M lv st o else ji_Ev C 21 28 M lv st o := ev_brc (c := .ge) rfl (by decide) rfl
theorem s21_12 : ji_Ev C 21 12 M (l0 :: some (.int x) :: l) st o ↔ ji_Ev C 21 13 M (l0 :: some (.int x) :: l) (.int x :: st) o := ev_go (S := (13, M, (l0 :: some (.int x) :: l), (.int x :: st))) rfl rfl rfl
theorem s21_13 : ji_Ev C 21 13 M lv st o ↔ ji_Ev C 21 16 M lv (.int 160 :: st) o := ev_go (S := (16, M, lv, (.int 160 :: st))) rfl rfl rfl
theorem s21_16 : ji_Ev C 21 16 M lv (.int y :: .int x :: st) o ↔ if x < y then ji_Ev C 21 19 M lv st o else ji_Ev C 21 28 M lv st o := ev_brc (c := .ge) rfl (by decide) rfl
theorem s21_19 : ji_Ev C 21 19 M (some (.ref a) :: l) st o ↔ ji_Ev C 21 20 M (some (.ref a) :: l) (.ref a :: st) o := ev_go (S := (20, M, (some (.ref a) :: l), (.ref a :: st))) rfl rfl rfl
theorem s21_20 : ji_Ev C 21 20 M lv (.ref a :: st) o ↔ ji_kd M a = some (0, 6) ∧ ji_Ev C 21 23 M lv (ji_rv (ji_gR M a 0) :: st) o := ev_getR (k := 21) rfl fd_6_11 rfl
theorem s21_23 : ji_Ev C 21 23 M (l0 :: some (.int x) :: l) st o ↔ ji_Ev C 21 24 M (l0 :: some (.int x) :: l) (.int x :: st) o := ev_go (S := (24, M, (l0 :: some (.int x) :: l), (.int x :: st))) rfl rfl rfl
theorem s21_24 : ji_Ev C 21 24 M lv (.int x :: .ref a :: st) o ↔ ji_evA (ji_kd M a) (fun n => vp_in x n ∧ ji_Ev C 21 25 M lv (.int (ji_gI M a x.toNatClampNeg) :: st) o) := ev_iald rfl
theorem s21_25 : ji_Ev C 21 25 M lv st o ↔ ji_Ev C 21 29 M lv st o := ev_gt rfl (by decide) rfl
theorem s21_28 : ji_Ev C 21 28 M lv st o ↔ ji_Ev C 21 29 M lv (.int 0 :: st) o := ev_go (S := (29, M, lv, (.int 0 :: st))) rfl rfl rfl
theorem s21_29 : ji_Ev C 21 29 M lv [.int x] o ↔ o = (some (.int x), M) := ev_ireti rfl rfl
theorem s22_0 : ji_Ev C 22 0 M (some (.int x) :: l) st o ↔ ji_Ev C 22 1 M (some (.int x) :: l) (.int x :: st) o := ev_go (S := (1, M, (some (.int x) :: l), (.int x :: st))) rfl rfl rfl
theorem s22_1 : ji_Ev C 22 1 M lv st o ↔ ji_Ev C 22 3 M lv (.int 97 :: st) o := ev_go (S := (3, M, lv, (.int 97 :: st))) rfl rfl rfl
theorem s22_3 : ji_Ev C 22 3 M lv (.int y :: .int x :: st) o ↔ if x < y then ji_Ev C 22 16 M lv st o else ji_Ev C 22 6 M lv st o := ev_brc (c := .lt) rfl (by decide) rfl
theorem s22_6 : ji_Ev C 22 6 M (some (.int x) :: l) st o ↔ ji_Ev C 22 7 M (some (.int x) :: l) (.int x :: st) o := ev_go (S := (7, M, (some (.int x) :: l), (.int x :: st))) rfl rfl rfl
theorem s22_7 : ji_Ev C 22 7 M lv st o ↔ ji_Ev C 22 9 M lv (.int 122 :: st) o := ev_go (S := (9, M, lv, (.int 122 :: st))) rfl rfl rfl
theorem s22_9 : ji_Ev C 22 9 M lv (.int y :: .int x :: st) o ↔ if y < x then ji_Ev C 22 16 M lv st o else ji_Ev C 22 12 M lv st o := ev_brc (c := .gt) rfl (by decide) rfl
theorem s22_12 : ji_Ev C 22 12 M lv st o ↔ ji_Ev C 22 13 M lv (.int 1 :: st) o := ev_go (S := (13, M, lv, (.int 1 :: st))) rfl rfl rfl
theorem s22_13 : ji_Ev C 22 13 M lv st o ↔ ji_Ev C 22 17 M lv st o := ev_gt rfl (by decide) rfl
theorem s22_16 : ji_Ev C 22 16 M lv st o ↔ ji_Ev C 22 17 M lv (.int 0 :: st) o := ev_go (S := (17, M, lv, (.int 0 :: st))) rfl rfl rfl
theorem s22_17 : ji_Ev C 22 17 M lv [.int x] o ↔ narrow .boolean (.int x) = .int x ∧ o = (some (.int x), M) := ev_iretb rfl rfl
theorem s23_0 : ji_Ev C 23 0 M (some (.ref a) :: l) st o ↔ ji_Ev C 23 1 M (some (.ref a) :: l) (.ref a :: st) o := ev_go (S := (1, M, (some (.ref a) :: l), (.ref a :: st))) rfl rfl rfl
theorem s23_1 : ji_Ev C 23 1 M lv (.ref a :: st) o ↔ ji_kd M a = some (0, 6) ∧ ji_Ev C 23 4 M lv (.int (ji_gI M a 2) :: st) o := ev_getI (k := 23) rfl fd_6_28 rfl
theorem s23_4 : ji_Ev C 23 4 M (some (.ref a) :: l) st o ↔ ji_Ev C 23 5 M (some (.ref a) :: l) (.ref a :: st) o := ev_go (S := (5, M, (some (.ref a) :: l), (.ref a :: st))) rfl rfl rfl
theorem s23_5 : ji_Ev C 23 5 M lv (.ref a :: st) o ↔ ji_kd M a = some (0, 6) ∧ ji_Ev C 23 8 M lv (.int (ji_gI M a 1) :: st) o := ev_getI (k := 23) rfl fd_6_18 rfl
theorem s23_8 : ji_Ev C 23 8 M lv (.int y :: .int x :: st) o ↔ if x < y then ji_Ev C 23 11 M lv st o else ji_Ev C 23 38 M lv st o := ev_brc (c := .ge) rfl (by decide) rfl
theorem s23_11 : ji_Ev C 23 11 M (some (.ref a) :: l) st o ↔ ji_Ev C 23 12 M (some (.ref a) :: l) (.ref a :: st) o := ev_go (S := (12, M, (some (.ref a) :: l), (.ref a :: st))) rfl rfl rfl
theorem s23_12 : ji_Ev C 23 12 M (some (.ref a) :: l) st o ↔ ji_Ev C 23 13 M (some (.ref a) :: l) (.ref a :: st) o := ev_go (S := (13, M, (some (.ref a) :: l), (.ref a :: st))) rfl rfl rfl
theorem s23_13 : ji_Ev C 23 13 M lv (.ref a :: st) o ↔ ji_kd M a = some (0, 6) ∧ ji_Ev C 23 16 M lv (.int (ji_gI M a 2) :: st) o := ev_getI (k := 23) rfl fd_6_28 rfl
theorem s23_16 : ji_Ev C 23 16 M lv (p0 :: .ref a :: st) o ↔ (ji_rcb M 6 (.ref a) = true ∧ ji_ok8 st) ∧ ji_evC (C 21 [.ref a, p0] M) (fun v M' => ji_Ev C 23 19 M' lv (v.toList ++ st) o) := ev_inv (k := 23) rfl cd_6_49 rfl
theorem s23_19 : ji_Ev C 23 19 M lv (p0 :: st) o ↔ ji_ok8 st ∧ ji_evC (C 22 [p0] M) (fun v M' => ji_Ev C 23 22 M' lv (v.toList ++ st) o) := ev_sta (k := 23) (a := [p0]) rfl (Or.inl cd_6_59) rfl
theorem s23_22 : ji_Ev C 23 22 M lv (.int x :: st) o ↔ if x = 0 then ji_Ev C 23 38 M lv st o else ji_Ev C 23 25 M lv st o := ev_brz (c := .eq) rfl (by decide) rfl
theorem s23_25 : ji_Ev C 23 25 M (some (.ref a) :: l) st o ↔ ji_Ev C 23 26 M (some (.ref a) :: l) (.ref a :: st) o := ev_go (S := (26, M, (some (.ref a) :: l), (.ref a :: st))) rfl rfl rfl
theorem s23_26 : ji_Ev C 23 26 M lv (.int x :: st) o ↔ ji_Ev C 23 27 M lv (.int x :: .int x :: st) o := ev_go (S := (27, M, lv, (.int x :: .int x :: st))) rfl rfl rfl
theorem s23_26r : ji_Ev C 23 26 M lv (.ref a :: st) o ↔ ji_Ev C 23 27 M lv (.ref a :: .ref a :: st) o := ev_go (S := (27, M, lv, (.ref a :: .ref a :: st))) rfl rfl rfl
theorem s23_27 : ji_Ev C 23 27 M lv (.ref a :: st) o ↔ ji_kd M a = some (0, 6) ∧ ji_Ev C 23 30 M lv (.int (ji_gI M a 2) :: st) o := ev_getI (k := 23) rfl fd_6_28 rfl
theorem s23_30 : ji_Ev C 23 30 M lv st o ↔ ji_Ev C 23 31 M lv (.int 1 :: st) o := ev_go (S := (31, M, lv, (.int 1 :: st))) rfl rfl rfl
theorem s23_31 : ji_Ev C 23 31 M lv (.int y :: .int x :: st) o ↔ ji_Ev C 23 32 M lv (.int (x + y) :: st) o := ev_go (S := (32, M, lv, (.int (x + y) :: st))) rfl rfl rfl
theorem s23_32 : ji_Ev C 23 32 M lv (.int x :: .ref a :: st) o ↔ ji_kd M a = some (0, 6) ∧ ji_Ev C 23 35 (ji_sI M a 2 x) lv st o := ev_putI (k := 23) rfl fd_6_28 rfl (by decide)
theorem s23_35 : ji_Ev C 23 35 M lv st o ↔ ji_Ev C 23 0 M lv st o := ev_gt rfl (by decide) rfl
theorem s23_38 : ji_Ev C 23 38 M (some (.ref a) :: l) st o ↔ ji_Ev C 23 39 M (some (.ref a) :: l) (.ref a :: st) o := ev_go (S := (39, M, (some (.ref a) :: l), (.ref a :: st))) rfl rfl rfl
theorem s23_39 : ji_Ev C 23 39 M lv st o ↔ ji_Ev C 23 42 M lv (.int 1001 :: st) o := ev_go (S := (42, M, lv, (.int 1001 :: st))) rfl rfl rfl
theorem s23_42 : ji_Ev C 23 42 M lv (.int x :: .ref a :: st) o ↔ ji_kd M a = some (0, 6) ∧ ji_Ev C 23 45 (ji_sI M a 4 x) lv st o := ev_putI (k := 23) rfl fd_6_56 rfl (by decide)
theorem s23_45 : ji_Ev C 23 45 M lv st o ↔ ji_Ev C 23 46 M lv (.int 0 :: st) o := ev_go (S := (46, M, lv, (.int 0 :: st))) rfl rfl rfl
theorem s23_46 : ji_Ev C 23 46 M lv (.int x :: st) o ↔ 1 < lv.length ∧ ji_Ev C 23 47 M (ji_s1 lv 1 (.int x)) st o := ev_stI rfl rfl rfl
theorem s23_47 : ji_Ev C 23 47 M (l0 :: some (.int x) :: l) st o ↔ ji_Ev C 23 48 M (l0 :: some (.int x) :: l) (.int x :: st) o := ev_go (S := (48, M, (l0 :: some (.int x) :: l), (.int x :: st))) rfl rfl rfl
theorem s23_48 : ji_Ev C 23 48 M lv st o ↔ ji_Ev C 23 50 M lv (.int 12 :: st) o := ev_go (S := (50, M, lv, (.int 12 :: st))) rfl rfl rfl
theorem s23_50 : ji_Ev C 23 50 M lv (.int y :: .int x :: st) o ↔ if x < y then ji_Ev C 23 53 M lv st o else ji_Ev C 23 96 M lv st o := ev_brc (c := .ge) rfl (by decide) rfl
theorem s23_53 : ji_Ev C 23 53 M (some (.ref a) :: l) st o ↔ ji_Ev C 23 54 M (some (.ref a) :: l) (.ref a :: st) o := ev_go (S := (54, M, (some (.ref a) :: l), (.ref a :: st))) rfl rfl rfl
theorem s23_54 : ji_Ev C 23 54 M (l0 :: some (.int x) :: l) st o ↔ ji_Ev C 23 55 M (l0 :: some (.int x) :: l) (.int x :: st) o := ev_go (S := (55, M, (l0 :: some (.int x) :: l), (.int x :: st))) rfl rfl rfl
theorem s23_55 : ji_Ev C 23 55 M lv (p0 :: .ref a :: st) o ↔ (ji_rcb M 6 (.ref a) = true ∧ ji_ok8 st) ∧ ji_evC (C 24 [.ref a, p0] M) (fun v M' => ji_Ev C 23 58 M' lv (v.toList ++ st) o) := ev_inv (k := 23) rfl cd_6_79 rfl
theorem s23_58 : ji_Ev C 23 58 M lv (.int x :: st) o ↔ if x = 0 then ji_Ev C 23 90 M lv st o else ji_Ev C 23 61 M lv st o := ev_brz (c := .eq) rfl (by decide) rfl
theorem s23_61 : ji_Ev C 23 61 M (some (.ref a) :: l) st o ↔ ji_Ev C 23 62 M (some (.ref a) :: l) (.ref a :: st) o := ev_go (S := (62, M, (some (.ref a) :: l), (.ref a :: st))) rfl rfl rfl
theorem s23_62 : ji_Ev C 23 62 M (l0 :: some (.int x) :: l) st o ↔ ji_Ev C 23 63 M (l0 :: some (.int x) :: l) (.int x :: st) o := ev_go (S := (63, M, (l0 :: some (.int x) :: l), (.int x :: st))) rfl rfl rfl
theorem s23_63 : ji_Ev C 23 63 M lv st o ↔ ji_Ev C 23 65 M lv (.int 6 :: st) o := ev_go (S := (65, M, lv, (.int 6 :: st))) rfl rfl rfl
theorem s23_65 : ji_Ev C 23 65 M lv (.int y :: .int x :: st) o ↔ if x < y then ji_Ev C 23 68 M lv st o else ji_Ev C 23 74 M lv st o := ev_brc (c := .ge) rfl (by decide) rfl
theorem s23_68 : ji_Ev C 23 68 M lv st o ↔ ji_Ev C 23 71 M lv (.int 1003 :: st) o := ev_go (S := (71, M, lv, (.int 1003 :: st))) rfl rfl rfl
theorem s23_71 : ji_Ev C 23 71 M lv st o ↔ ji_Ev C 23 82 M lv st o := ev_gt rfl (by decide) rfl
theorem s23_74 : ji_Ev C 23 74 M lv st o ↔ ji_Ev C 23 77 M lv (.int 2000 :: st) o := ev_go (S := (77, M, lv, (.int 2000 :: st))) rfl rfl rfl
theorem s23_77 : ji_Ev C 23 77 M (l0 :: some (.int x) :: l) st o ↔ ji_Ev C 23 78 M (l0 :: some (.int x) :: l) (.int x :: st) o := ev_go (S := (78, M, (l0 :: some (.int x) :: l), (.int x :: st))) rfl rfl rfl
theorem s23_78 : ji_Ev C 23 78 M lv (.int y :: .int x :: st) o ↔ ji_Ev C 23 79 M lv (.int (x + y) :: st) o := ev_go (S := (79, M, lv, (.int (x + y) :: st))) rfl rfl rfl
theorem s23_79 : ji_Ev C 23 79 M lv st o ↔ ji_Ev C 23 81 M lv (.int 6 :: st) o := ev_go (S := (81, M, lv, (.int 6 :: st))) rfl rfl rfl
theorem s23_81 : ji_Ev C 23 81 M lv (.int y :: .int x :: st) o ↔ ji_Ev C 23 82 M lv (.int (x - y) :: st) o := ev_go (S := (82, M, lv, (.int (x - y) :: st))) rfl rfl rfl
theorem s23_82 : ji_Ev C 23 82 M lv (.int x :: .ref a :: st) o ↔ ji_kd M a = some (0, 6) ∧ ji_Ev C 23 85 (ji_sI M a 4 x) lv st o := ev_putI (k := 23) rfl fd_6_56 rfl (by decide)
theorem s23_85 : ji_Ev C 23 85 M (some (.ref a) :: l) st o ↔ ji_Ev C 23 86 M (some (.ref a) :: l) (.ref a :: st) o := ev_go (S := (86, M, (some (.ref a) :: l), (.ref a :: st))) rfl rfl rfl
theorem s23_86 : ji_Ev C 23 86 M (l0 :: some (.int x) :: l) st o ↔ ji_Ev C 23 87 M (l0 :: some (.int x) :: l) (.int x :: st) o := ev_go (S := (87, M, (l0 :: some (.int x) :: l), (.int x :: st))) rfl rfl rfl
theorem s23_87 : ji_Ev C 23 87 M lv (.int x :: .ref a :: st) o ↔ ji_kd M a = some (0, 6) ∧ ji_Ev C 23 90 (ji_sI M a 5 x) lv st o := ev_putI (k := 23) rfl fd_6_82 rfl (by decide)
theorem s23_90 : ji_Ev C 23 90 M lv st o ↔ ji_evL (lv.getD 1 none) ji_isI (fun v => match v with | .int x => 1 < lv.length ∧ ji_Ev C 23 93 M (ji_s1 lv 1 (.int (x + Int32.ofInt 1))) st o | _ => False) := ev_iinc rfl
theorem s23_93 : ji_Ev C 23 93 M lv st o ↔ ji_Ev C 23 47 M lv st o := ev_gt rfl (by decide) rfl
theorem s23_96 : ji_Ev C 23 96 M lv [] o ↔ o = (none, M) := ev_vret rfl rfl
theorem s24_0 : ji_Ev C 24 0 M (some (.ref a) :: l) st o ↔ ji_Ev C 24 1 M (some (.ref a) :: l) (.ref a :: st) o := ev_go (S := (1, M, (some (.ref a) :: l), (.ref a :: st))) rfl rfl rfl
theorem s24_1 : ji_Ev C 24 1 M lv (.ref a :: st) o ↔ ji_kd M a = some (0, 6) ∧ ji_Ev C 24 4 M lv (.int (ji_gI M a 2) :: st) o := ev_getI (k := 24) rfl fd_6_28 rfl
theorem s24_4 : ji_Ev C 24 4 M (some (.ref a) :: l) st o ↔ ji_Ev C 24 5 M (some (.ref a) :: l) (.ref a :: st) o := ev_go (S := (5, M, (some (.ref a) :: l), (.ref a :: st))) rfl rfl rfl
theorem s24_5 : ji_Ev C 24 5 M lv (.ref a :: st) o ↔ ji_kd M a = some (0, 6) ∧ ji_Ev C 24 8 M lv (.int (ji_gI M a 3) :: st) o := ev_getI (k := 24) rfl fd_6_53 rfl
theorem s24_8 : ji_Ev C 24 8 M lv (.int y :: .int x :: st) o ↔ ji_Ev C 24 9 M lv (.int (x - y) :: st) o := ev_go (S := (9, M, lv, (.int (x - y) :: st))) rfl rfl rfl
theorem s24_9 : ji_Ev C 24 9 M lv (.int x :: st) o ↔ 2 < lv.length ∧ ji_Ev C 24 10 M (ji_s1 lv 2 (.int x)) st o := ev_stI rfl rfl rfl
theorem s24_10 : ji_Ev C 24 10 M (l0 :: some (.int x) :: l) st o ↔ ji_Ev C 24 11 M (l0 :: some (.int x) :: l) (.int x :: st) o := ev_go (S := (11, M, (l0 :: some (.int x) :: l), (.int x :: st))) rfl rfl rfl
theorem s24_11 : ji_Ev C 24 11 M lv st o ↔ ji_Ev C 24 13 M lv (.int 6 :: st) o := ev_go (S := (13, M, lv, (.int 6 :: st))) rfl rfl rfl
theorem s24_13 : ji_Ev C 24 13 M lv (.int y :: .int x :: st) o ↔ ji_Ev C 24 14 M lv (.int (x * y) :: st) o := ev_go (S := (14, M, lv, (.int (x * y) :: st))) rfl rfl rfl
theorem s24_14 : ji_Ev C 24 14 M lv (.int x :: st) o ↔ 3 < lv.length ∧ ji_Ev C 24 15 M (ji_s1 lv 3 (.int x)) st o := ev_stI rfl rfl rfl
theorem s24_15 : ji_Ev C 24 15 M (l0 :: l1 :: some (.int x) :: l) st o ↔ ji_Ev C 24 16 M (l0 :: l1 :: some (.int x) :: l) (.int x :: st) o := ev_go (S := (16, M, (l0 :: l1 :: some (.int x) :: l), (.int x :: st))) rfl rfl rfl
theorem s24_16 : ji_Ev C 24 16 M lv st o ↔ ji_Ev C 24 18 M lv (.int 6 :: st) o := ev_go (S := (18, M, lv, (.int 6 :: st))) rfl rfl rfl
theorem s24_18 : ji_Ev C 24 18 M lv (.int y :: .int x :: st) o ↔ if x < y then ji_Ev C 24 21 M lv st o else ji_Ev C 24 37 M lv st o := ev_brc (c := .ge) rfl (by decide) rfl
theorem s24_21 : ji_Ev C 24 21 M (l0 :: l1 :: l2 :: some (.int x) :: l) st o ↔ ji_Ev C 24 22 M (l0 :: l1 :: l2 :: some (.int x) :: l) (.int x :: st) o := ev_go (S := (22, M, (l0 :: l1 :: l2 :: some (.int x) :: l), (.int x :: st))) rfl rfl rfl
theorem s24_22 : ji_Ev C 24 22 M lv (.int x :: st) o ↔ if x < 0 then ji_Ev C 24 37 M lv st o else ji_Ev C 24 25 M lv st o := ev_brz (c := .lt) rfl (by decide) rfl
theorem s24_25 : ji_Ev C 24 25 M (l0 :: l1 :: l2 :: some (.int x) :: l) st o ↔ ji_Ev C 24 26 M (l0 :: l1 :: l2 :: some (.int x) :: l) (.int x :: st) o := ev_go (S := (26, M, (l0 :: l1 :: l2 :: some (.int x) :: l), (.int x :: st))) rfl rfl rfl
theorem s24_26 : ji_Ev C 24 26 M lv st o ↔ ji_Ev C 24 28 M lv (.int 6 :: st) o := ev_go (S := (28, M, lv, (.int 6 :: st))) rfl rfl rfl
theorem s24_28 : ji_Ev C 24 28 M lv (.int y :: .int x :: st) o ↔ ji_Ev C 24 29 M lv (.int (x + y) :: st) o := ev_go (S := (29, M, lv, (.int (x + y) :: st))) rfl rfl rfl
theorem s24_29 : ji_Ev C 24 29 M lv st o ↔ ji_Ev C 24 31 M lv (.retAddr 2 :: st) o := ev_go (S := (31, M, lv, (.retAddr 2 :: st))) rfl rfl rfl
theorem s24_31x : ji_Ev C 24 31 M lv (.retAddr a :: st) o ↔ (ji_rcb M 10 (.retAddr a) = true ∧ ji_ok8 st) ∧ ji_evC (C 10 [.retAddr a] M) (fun v M' => ji_Ev C 24 34 M' lv (v.toList ++ st) o) := ev_inv (k := 24) rfl cd_6_87 rfl
theorem s24_34 : ji_Ev C 24 34 M lv (.int y :: .int x :: st) o ↔ if y < x then ji_Ev C 24 37 M lv st o else ji_Ev C 24 39 M lv st o := ev_brc (c := .le) rfl (by decide) rfl
theorem s24_37 : ji_Ev C 24 37 M lv st o ↔ ji_Ev C 24 38 M lv (.int 0 :: st) o := ev_go (S := (38, M, lv, (.int 0 :: st))) rfl rfl rfl
theorem s24_38 : ji_Ev C 24 38 M lv [.int x] o ↔ narrow .boolean (.int x) = .int x ∧ o = (some (.int x), M) := ev_iretb rfl rfl
theorem s24_39 : ji_Ev C 24 39 M lv st o ↔ ji_Ev C 24 40 M lv (.int 0 :: st) o := ev_go (S := (40, M, lv, (.int 0 :: st))) rfl rfl rfl
theorem s24_40 : ji_Ev C 24 40 M lv (.int x :: st) o ↔ 4 < lv.length ∧ ji_Ev C 24 42 M (ji_s1 lv 4 (.int x)) st o := ev_stI rfl rfl rfl
theorem s24_42 : ji_Ev C 24 42 M (l0 :: l1 :: l2 :: l3 :: some (.int x) :: l) st o ↔ ji_Ev C 24 44 M (l0 :: l1 :: l2 :: l3 :: some (.int x) :: l) (.int x :: st) o := ev_go (S := (44, M, (l0 :: l1 :: l2 :: l3 :: some (.int x) :: l), (.int x :: st))) rfl rfl rfl
theorem s24_44 : ji_Ev C 24 44 M (l0 :: l1 :: some (.int x) :: l) st o ↔ ji_Ev C 24 45 M (l0 :: l1 :: some (.int x) :: l) (.int x :: st) o := ev_go (S := (45, M, (l0 :: l1 :: some (.int x) :: l), (.int x :: st))) rfl rfl rfl
theorem s24_45 : ji_Ev C 24 45 M lv (.int y :: .int x :: st) o ↔ if x < y then ji_Ev C 24 48 M lv st o else ji_Ev C 24 95 M lv st o := ev_brc (c := .ge) rfl (by decide) rfl
theorem s24_48 : ji_Ev C 24 48 M (some (.ref a) :: l) st o ↔ ji_Ev C 24 49 M (some (.ref a) :: l) (.ref a :: st) o := ev_go (S := (49, M, (some (.ref a) :: l), (.ref a :: st))) rfl rfl rfl
theorem s24_49 : ji_Ev C 24 49 M lv (.ref a :: st) o ↔ ji_kd M a = some (0, 6) ∧ ji_Ev C 24 52 M lv (.int (ji_gI M a 3) :: st) o := ev_getI (k := 24) rfl fd_6_53 rfl
theorem s24_52 : ji_Ev C 24 52 M (l0 :: l1 :: l2 :: l3 :: some (.int x) :: l) st o ↔ ji_Ev C 24 54 M (l0 :: l1 :: l2 :: l3 :: some (.int x) :: l) (.int x :: st) o := ev_go (S := (54, M, (l0 :: l1 :: l2 :: l3 :: some (.int x) :: l), (.int x :: st))) rfl rfl rfl
theorem s24_54 : ji_Ev C 24 54 M lv (.int y :: .int x :: st) o ↔ ji_Ev C 24 55 M lv (.int (x + y) :: st) o := ev_go (S := (55, M, lv, (.int (x + y) :: st))) rfl rfl rfl
theorem s24_55 : ji_Ev C 24 55 M (some (.ref a) :: l) st o ↔ ji_Ev C 24 56 M (some (.ref a) :: l) (.ref a :: st) o := ev_go (S := (56, M, (some (.ref a) :: l), (.ref a :: st))) rfl rfl rfl
theorem s24_56 : ji_Ev C 24 56 M lv (.ref a :: st) o ↔ ji_kd M a = some (0, 6) ∧ ji_Ev C 24 59 M lv (ji_rv (ji_gR M a 0) :: st) o := ev_getR (k := 24) rfl fd_6_11 rfl
theorem s24_59 : ji_Ev C 24 59 M lv (.ref a :: st) o ↔ ji_evN (ji_kd M a) (fun n => ji_Ev C 24 60 M lv (.int (Int32.ofNat n) :: st) o) := ev_alen rfl
theorem s24_60 : ji_Ev C 24 60 M lv (.int y :: .int x :: st) o ↔ if x < y then ji_Ev C 24 63 M lv st o else ji_Ev C 24 95 M lv st o := ev_brc (c := .ge) rfl (by decide) rfl
theorem s24_63 : ji_Ev C 24 63 M lv st o ↔ ji_Ev C 24 65 M lv (.retAddr 2 :: st) o := ev_go (S := (65, M, lv, (.retAddr 2 :: st))) rfl rfl rfl
theorem s24_65 : ji_Ev C 24 65 M (l0 :: l1 :: l2 :: some (.int x) :: l) st o ↔ ji_Ev C 24 66 M (l0 :: l1 :: l2 :: some (.int x) :: l) (.int x :: st) o := ev_go (S := (66, M, (l0 :: l1 :: l2 :: some (.int x) :: l), (.int x :: st))) rfl rfl rfl
theorem s24_66 : ji_Ev C 24 66 M (l0 :: l1 :: l2 :: l3 :: some (.int x) :: l) st o ↔ ji_Ev C 24 68 M (l0 :: l1 :: l2 :: l3 :: some (.int x) :: l) (.int x :: st) o := ev_go (S := (68, M, (l0 :: l1 :: l2 :: l3 :: some (.int x) :: l), (.int x :: st))) rfl rfl rfl
theorem s24_68 : ji_Ev C 24 68 M lv (.int y :: .int x :: st) o ↔ ji_Ev C 24 69 M lv (.int (x + y) :: st) o := ev_go (S := (69, M, lv, (.int (x + y) :: st))) rfl rfl rfl
theorem s24_69x : ji_Ev C 24 69 M lv (p0 :: .retAddr a :: st) o ↔ (ji_rcb M 10 (.retAddr a) = true ∧ ji_ok8 st) ∧ ji_evC (C 12 [.retAddr a, p0] M) (fun v M' => ji_Ev C 24 72 M' lv (v.toList ++ st) o) := ev_inv (k := 24) rfl cd_6_90 rfl
theorem s24_72 : ji_Ev C 24 72 M (some (.ref a) :: l) st o ↔ ji_Ev C 24 73 M (some (.ref a) :: l) (.ref a :: st) o := ev_go (S := (73, M, (some (.ref a) :: l), (.ref a :: st))) rfl rfl rfl
theorem s24_73 : ji_Ev C 24 73 M lv (.ref a :: st) o ↔ ji_kd M a = some (0, 6) ∧ ji_Ev C 24 76 M lv (ji_rv (ji_gR M a 0) :: st) o := ev_getR (k := 24) rfl fd_6_11 rfl
theorem s24_76 : ji_Ev C 24 76 M (some (.ref a) :: l) st o ↔ ji_Ev C 24 77 M (some (.ref a) :: l) (.ref a :: st) o := ev_go (S := (77, M, (some (.ref a) :: l), (.ref a :: st))) rfl rfl rfl
theorem s24_77 : ji_Ev C 24 77 M lv (.ref a :: st) o ↔ ji_kd M a = some (0, 6) ∧ ji_Ev C 24 80 M lv (.int (ji_gI M a 3) :: st) o := ev_getI (k := 24) rfl fd_6_53 rfl
theorem s24_80 : ji_Ev C 24 80 M (l0 :: l1 :: l2 :: l3 :: some (.int x) :: l) st o ↔ ji_Ev C 24 82 M (l0 :: l1 :: l2 :: l3 :: some (.int x) :: l) (.int x :: st) o := ev_go (S := (82, M, (l0 :: l1 :: l2 :: l3 :: some (.int x) :: l), (.int x :: st))) rfl rfl rfl
theorem s24_82 : ji_Ev C 24 82 M lv (.int y :: .int x :: st) o ↔ ji_Ev C 24 83 M lv (.int (x + y) :: st) o := ev_go (S := (83, M, lv, (.int (x + y) :: st))) rfl rfl rfl
theorem s24_83 : ji_Ev C 24 83 M lv (.int x :: .ref a :: st) o ↔ ji_evA (ji_kd M a) (fun n => vp_in x n ∧ ji_Ev C 24 84 M lv (.int (ji_gI M a x.toNatClampNeg) :: st) o) := ev_iald rfl
theorem s24_84 : ji_Ev C 24 84 M lv (.int y :: .int x :: st) o ↔ if x = y then ji_Ev C 24 89 M lv st o else ji_Ev C 24 87 M lv st o := ev_brc (c := .eq) rfl (by decide) rfl
theorem s24_87 : ji_Ev C 24 87 M lv st o ↔ ji_Ev C 24 88 M lv (.int 0 :: st) o := ev_go (S := (88, M, lv, (.int 0 :: st))) rfl rfl rfl
theorem s24_88 : ji_Ev C 24 88 M lv [.int x] o ↔ narrow .boolean (.int x) = .int x ∧ o = (some (.int x), M) := ev_iretb rfl rfl
theorem s24_89 : ji_Ev C 24 89 M lv st o ↔ ji_evL (lv.getD 4 none) ji_isI (fun v => match v with | .int x => 4 < lv.length ∧ ji_Ev C 24 92 M (ji_s1 lv 4 (.int (x + Int32.ofInt 1))) st o | _ => False) := ev_iinc rfl
theorem s24_92 : ji_Ev C 24 92 M lv st o ↔ ji_Ev C 24 42 M lv st o := ev_gt rfl (by decide) rfl
theorem s24_95 : ji_Ev C 24 95 M lv st o ↔ ji_Ev C 24 97 M lv (.retAddr 2 :: st) o := ev_go (S := (97, M, lv, (.retAddr 2 :: st))) rfl rfl rfl
theorem s24_97 : ji_Ev C 24 97 M (l0 :: l1 :: l2 :: some (.int x) :: l) st o ↔ ji_Ev C 24 98 M (l0 :: l1 :: l2 :: some (.int x) :: l) (.int x :: st) o := ev_go (S := (98, M, (l0 :: l1 :: l2 :: some (.int x) :: l), (.int x :: st))) rfl rfl rfl
theorem s24_98 : ji_Ev C 24 98 M (l0 :: l1 :: some (.int x) :: l) st o ↔ ji_Ev C 24 99 M (l0 :: l1 :: some (.int x) :: l) (.int x :: st) o := ev_go (S := (99, M, (l0 :: l1 :: some (.int x) :: l), (.int x :: st))) rfl rfl rfl
theorem s24_99 : ji_Ev C 24 99 M lv (.int y :: .int x :: st) o ↔ ji_Ev C 24 100 M lv (.int (x + y) :: st) o := ev_go (S := (100, M, lv, (.int (x + y) :: st))) rfl rfl rfl
theorem s24_100x : ji_Ev C 24 100 M lv (p0 :: .retAddr a :: st) o ↔ (ji_rcb M 10 (.retAddr a) = true ∧ ji_ok8 st) ∧ ji_evC (C 12 [.retAddr a, p0] M) (fun v M' => ji_Ev C 24 103 M' lv (v.toList ++ st) o) := ev_inv (k := 24) rfl cd_6_90 rfl
theorem s24_103 : ji_Ev C 24 103 M lv st o ↔ ji_Ev C 24 105 M lv (.int 32 :: st) o := ev_go (S := (105, M, lv, (.int 32 :: st))) rfl rfl rfl
theorem s24_105 : ji_Ev C 24 105 M lv (.int y :: .int x :: st) o ↔ if x = y then ji_Ev C 24 108 M lv st o else ji_Ev C 24 112 M lv st o := ev_brc (c := .ne) rfl (by decide) rfl
theorem s24_108 : ji_Ev C 24 108 M lv st o ↔ ji_Ev C 24 109 M lv (.int 1 :: st) o := ev_go (S := (109, M, lv, (.int 1 :: st))) rfl rfl rfl
theorem s24_109 : ji_Ev C 24 109 M lv st o ↔ ji_Ev C 24 113 M lv st o := ev_gt rfl (by decide) rfl
theorem s24_112 : ji_Ev C 24 112 M lv st o ↔ ji_Ev C 24 113 M lv (.int 0 :: st) o := ev_go (S := (113, M, lv, (.int 0 :: st))) rfl rfl rfl
theorem s24_113 : ji_Ev C 24 113 M lv [.int x] o ↔ narrow .boolean (.int x) = .int x ∧ o = (some (.int x), M) := ev_iretb rfl rfl
theorem s25_0 : ji_Ev C 25 0 M (some (.int x) :: l) st o ↔ ji_Ev C 25 1 M (some (.int x) :: l) (.int x :: st) o := ev_go (S := (1, M, (some (.int x) :: l), (.int x :: st))) rfl rfl rfl
theorem s25_1 : ji_Ev C 25 1 M lv st o ↔ ji_Ev C 25 3 M lv (.int 48 :: st) o := ev_go (S := (3, M, lv, (.int 48 :: st))) rfl rfl rfl
theorem s25_3 : ji_Ev C 25 3 M lv (.int y :: .int x :: st) o ↔ if x < y then ji_Ev C 25 16 M lv st o else ji_Ev C 25 6 M lv st o := ev_brc (c := .lt) rfl (by decide) rfl
theorem s25_6 : ji_Ev C 25 6 M (some (.int x) :: l) st o ↔ ji_Ev C 25 7 M (some (.int x) :: l) (.int x :: st) o := ev_go (S := (7, M, (some (.int x) :: l), (.int x :: st))) rfl rfl rfl
theorem s25_7 : ji_Ev C 25 7 M lv st o ↔ ji_Ev C 25 9 M lv (.int 57 :: st) o := ev_go (S := (9, M, lv, (.int 57 :: st))) rfl rfl rfl
theorem s25_9 : ji_Ev C 25 9 M lv (.int y :: .int x :: st) o ↔ if y < x then ji_Ev C 25 16 M lv st o else ji_Ev C 25 12 M lv st o := ev_brc (c := .gt) rfl (by decide) rfl
theorem s25_12 : ji_Ev C 25 12 M lv st o ↔ ji_Ev C 25 13 M lv (.int 1 :: st) o := ev_go (S := (13, M, lv, (.int 1 :: st))) rfl rfl rfl
theorem s25_13 : ji_Ev C 25 13 M lv st o ↔ ji_Ev C 25 17 M lv st o := ev_gt rfl (by decide) rfl
theorem s25_16 : ji_Ev C 25 16 M lv st o ↔ ji_Ev C 25 17 M lv (.int 0 :: st) o := ev_go (S := (17, M, lv, (.int 0 :: st))) rfl rfl rfl
theorem s25_17 : ji_Ev C 25 17 M lv [.int x] o ↔ narrow .boolean (.int x) = .int x ∧ o = (some (.int x), M) := ev_iretb rfl rfl
theorem s26_0 : ji_Ev C 26 0 M (some (.ref a) :: l) st o ↔ ji_Ev C 26 1 M (some (.ref a) :: l) (.ref a :: st) o := ev_go (S := (1, M, (some (.ref a) :: l), (.ref a :: st))) rfl rfl rfl
theorem s26_1 : ji_Ev C 26 1 M lv st o ↔ ji_Ev C 26 2 M lv (.int 0 :: st) o := ev_go (S := (2, M, lv, (.int 0 :: st))) rfl rfl rfl
theorem s26_2 : ji_Ev C 26 2 M lv (.int x :: .ref a :: st) o ↔ ji_kd M a = some (0, 6) ∧ ji_Ev C 26 5 (ji_sI M a 5 x) lv st o := ev_putI (k := 26) rfl fd_6_82 rfl (by decide)
theorem s26_5 : ji_Ev C 26 5 M (some (.ref a) :: l) st o ↔ ji_Ev C 26 6 M (some (.ref a) :: l) (.ref a :: st) o := ev_go (S := (6, M, (some (.ref a) :: l), (.ref a :: st))) rfl rfl rfl
theorem s26_6 : ji_Ev C 26 6 M lv (.ref a :: st) o ↔ ji_kd M a = some (0, 6) ∧ ji_Ev C 26 9 M lv (.int (ji_gI M a 2) :: st) o := ev_getI (k := 26) rfl fd_6_28 rfl
theorem s26_9 : ji_Ev C 26 9 M (some (.ref a) :: l) st o ↔ ji_Ev C 26 10 M (some (.ref a) :: l) (.ref a :: st) o := ev_go (S := (10, M, (some (.ref a) :: l), (.ref a :: st))) rfl rfl rfl
theorem s26_10 : ji_Ev C 26 10 M lv (.ref a :: st) o ↔ ji_kd M a = some (0, 6) ∧ ji_Ev C 26 13 M lv (.int (ji_gI M a 1) :: st) o := ev_getI (k := 26) rfl fd_6_18 rfl
theorem s26_13 : ji_Ev C 26 13 M lv (.int y :: .int x :: st) o ↔ if x < y then ji_Ev C 26 16 M lv st o else ji_Ev C 26 66 M lv st o := ev_brc (c := .ge) rfl (by decide) rfl
theorem s26_16 : ji_Ev C 26 16 M (some (.ref a) :: l) st o ↔ ji_Ev C 26 17 M (some (.ref a) :: l) (.ref a :: st) o := ev_go (S := (17, M, (some (.ref a) :: l), (.ref a :: st))) rfl rfl rfl
theorem s26_17 : ji_Ev C 26 17 M (some (.ref a) :: l) st o ↔ ji_Ev C 26 18 M (some (.ref a) :: l) (.ref a :: st) o := ev_go (S := (18, M, (some (.ref a) :: l), (.ref a :: st))) rfl rfl rfl
theorem s26_18 : ji_Ev C 26 18 M lv (.ref a :: st) o ↔ ji_kd M a = some (0, 6) ∧ ji_Ev C 26 21 M lv (.int (ji_gI M a 2) :: st) o := ev_getI (k := 26) rfl fd_6_28 rfl
theorem s26_21 : ji_Ev C 26 21 M lv (p0 :: .ref a :: st) o ↔ (ji_rcb M 6 (.ref a) = true ∧ ji_ok8 st) ∧ ji_evC (C 21 [.ref a, p0] M) (fun v M' => ji_Ev C 26 24 M' lv (v.toList ++ st) o) := ev_inv (k := 26) rfl cd_6_49 rfl
theorem s26_24 : ji_Ev C 26 24 M lv (p0 :: st) o ↔ ji_ok8 st ∧ ji_evC (C 25 [p0] M) (fun v M' => ji_Ev C 26 27 M' lv (v.toList ++ st) o) := ev_sta (k := 26) (a := [p0]) rfl (Or.inl cd_6_66) rfl
theorem s26_27 : ji_Ev C 26 27 M lv (.int x :: st) o ↔ if x = 0 then ji_Ev C 26 66 M lv st o else ji_Ev C 26 30 M lv st o := ev_brz (c := .eq) rfl (by decide) rfl
theorem s26_30 : ji_Ev C 26 30 M (some (.ref a) :: l) st o ↔ ji_Ev C 26 31 M (some (.ref a) :: l) (.ref a :: st) o := ev_go (S := (31, M, (some (.ref a) :: l), (.ref a :: st))) rfl rfl rfl
theorem s26_31 : ji_Ev C 26 31 M (some (.ref a) :: l) st o ↔ ji_Ev C 26 32 M (some (.ref a) :: l) (.ref a :: st) o := ev_go (S := (32, M, (some (.ref a) :: l), (.ref a :: st))) rfl rfl rfl
theorem s26_32 : ji_Ev C 26 32 M lv (.ref a :: st) o ↔ ji_kd M a = some (0, 6) ∧ ji_Ev C 26 35 M lv (.int (ji_gI M a 5) :: st) o := ev_getI (k := 26) rfl fd_6_82 rfl
theorem s26_35 : ji_Ev C 26 35 M lv st o ↔ ji_Ev C 26 37 M lv (.int 10 :: st) o := ev_go (S := (37, M, lv, (.int 10 :: st))) rfl rfl rfl
theorem s26_37 : ji_Ev C 26 37 M lv (.int y :: .int x :: st) o ↔ ji_Ev C 26 38 M lv (.int (x * y) :: st) o := ev_go (S := (38, M, lv, (.int (x * y) :: st))) rfl rfl rfl
theorem s26_38 : ji_Ev C 26 38 M (some (.ref a) :: l) st o ↔ ji_Ev C 26 39 M (some (.ref a) :: l) (.ref a :: st) o := ev_go (S := (39, M, (some (.ref a) :: l), (.ref a :: st))) rfl rfl rfl
theorem s26_39 : ji_Ev C 26 39 M (some (.ref a) :: l) st o ↔ ji_Ev C 26 40 M (some (.ref a) :: l) (.ref a :: st) o := ev_go (S := (40, M, (some (.ref a) :: l), (.ref a :: st))) rfl rfl rfl
theorem s26_40 : ji_Ev C 26 40 M lv (.ref a :: st) o ↔ ji_kd M a = some (0, 6) ∧ ji_Ev C 26 43 M lv (.int (ji_gI M a 2) :: st) o := ev_getI (k := 26) rfl fd_6_28 rfl
theorem s26_43 : ji_Ev C 26 43 M lv (p0 :: .ref a :: st) o ↔ (ji_rcb M 6 (.ref a) = true ∧ ji_ok8 st) ∧ ji_evC (C 21 [.ref a, p0] M) (fun v M' => ji_Ev C 26 46 M' lv (v.toList ++ st) o) := ev_inv (k := 26) rfl cd_6_49 rfl
theorem s26_46 : ji_Ev C 26 46 M lv (.int y :: .int x :: st) o ↔ ji_Ev C 26 47 M lv (.int (x + y) :: st) o := ev_go (S := (47, M, lv, (.int (x + y) :: st))) rfl rfl rfl
theorem s26_47 : ji_Ev C 26 47 M lv st o ↔ ji_Ev C 26 49 M lv (.int 48 :: st) o := ev_go (S := (49, M, lv, (.int 48 :: st))) rfl rfl rfl
theorem s26_49 : ji_Ev C 26 49 M lv (.int y :: .int x :: st) o ↔ ji_Ev C 26 50 M lv (.int (x - y) :: st) o := ev_go (S := (50, M, lv, (.int (x - y) :: st))) rfl rfl rfl
theorem s26_50 : ji_Ev C 26 50 M lv (.int x :: .ref a :: st) o ↔ ji_kd M a = some (0, 6) ∧ ji_Ev C 26 53 (ji_sI M a 5 x) lv st o := ev_putI (k := 26) rfl fd_6_82 rfl (by decide)
theorem s26_53 : ji_Ev C 26 53 M (some (.ref a) :: l) st o ↔ ji_Ev C 26 54 M (some (.ref a) :: l) (.ref a :: st) o := ev_go (S := (54, M, (some (.ref a) :: l), (.ref a :: st))) rfl rfl rfl
theorem s26_54 : ji_Ev C 26 54 M lv (.int x :: st) o ↔ ji_Ev C 26 55 M lv (.int x :: .int x :: st) o := ev_go (S := (55, M, lv, (.int x :: .int x :: st))) rfl rfl rfl
theorem s26_54r : ji_Ev C 26 54 M lv (.ref a :: st) o ↔ ji_Ev C 26 55 M lv (.ref a :: .ref a :: st) o := ev_go (S := (55, M, lv, (.ref a :: .ref a :: st))) rfl rfl rfl
theorem s26_55 : ji_Ev C 26 55 M lv (.ref a :: st) o ↔ ji_kd M a = some (0, 6) ∧ ji_Ev C 26 58 M lv (.int (ji_gI M a 2) :: st) o := ev_getI (k := 26) rfl fd_6_28 rfl
theorem s26_58 : ji_Ev C 26 58 M lv st o ↔ ji_Ev C 26 59 M lv (.int 1 :: st) o := ev_go (S := (59, M, lv, (.int 1 :: st))) rfl rfl rfl
theorem s26_59 : ji_Ev C 26 59 M lv (.int y :: .int x :: st) o ↔ ji_Ev C 26 60 M lv (.int (x + y) :: st) o := ev_go (S := (60, M, lv, (.int (x + y) :: st))) rfl rfl rfl
theorem s26_60 : ji_Ev C 26 60 M lv (.int x :: .ref a :: st) o ↔ ji_kd M a = some (0, 6) ∧ ji_Ev C 26 63 (ji_sI M a 2 x) lv st o := ev_putI (k := 26) rfl fd_6_28 rfl (by decide)
theorem s26_63 : ji_Ev C 26 63 M lv st o ↔ ji_Ev C 26 5 M lv st o := ev_gt rfl (by decide) rfl
theorem s26_66 : ji_Ev C 26 66 M (some (.ref a) :: l) st o ↔ ji_Ev C 26 67 M (some (.ref a) :: l) (.ref a :: st) o := ev_go (S := (67, M, (some (.ref a) :: l), (.ref a :: st))) rfl rfl rfl
theorem s26_67 : ji_Ev C 26 67 M (some (.ref a) :: l) st o ↔ ji_Ev C 26 68 M (some (.ref a) :: l) (.ref a :: st) o := ev_go (S := (68, M, (some (.ref a) :: l), (.ref a :: st))) rfl rfl rfl
theorem s26_68 : ji_Ev C 26 68 M lv (.ref a :: st) o ↔ ji_kd M a = some (0, 6) ∧ ji_Ev C 26 71 M lv (.int (ji_gI M a 2) :: st) o := ev_getI (k := 26) rfl fd_6_28 rfl
theorem s26_71 : ji_Ev C 26 71 M (some (.ref a) :: l) st o ↔ ji_Ev C 26 72 M (some (.ref a) :: l) (.ref a :: st) o := ev_go (S := (72, M, (some (.ref a) :: l), (.ref a :: st))) rfl rfl rfl
theorem s26_72 : ji_Ev C 26 72 M lv (.ref a :: st) o ↔ ji_kd M a = some (0, 6) ∧ ji_Ev C 26 75 M lv (.int (ji_gI M a 3) :: st) o := ev_getI (k := 26) rfl fd_6_53 rfl
theorem s26_75 : ji_Ev C 26 75 M lv (.int y :: .int x :: st) o ↔ ji_Ev C 26 76 M lv (.int (x - y) :: st) o := ev_go (S := (76, M, lv, (.int (x - y) :: st))) rfl rfl rfl
theorem s26_76 : ji_Ev C 26 76 M lv st o ↔ ji_Ev C 26 77 M lv (.int 4 :: st) o := ev_go (S := (77, M, lv, (.int 4 :: st))) rfl rfl rfl
theorem s26_77 : ji_Ev C 26 77 M lv (.int y :: .int x :: st) o ↔ if y < x then ji_Ev C 26 80 M lv st o else ji_Ev C 26 86 M lv st o := ev_brc (c := .le) rfl (by decide) rfl
theorem s26_80 : ji_Ev C 26 80 M lv st o ↔ ji_Ev C 26 83 M lv (.int 1001 :: st) o := ev_go (S := (83, M, lv, (.int 1001 :: st))) rfl rfl rfl
theorem s26_83 : ji_Ev C 26 83 M lv st o ↔ ji_Ev C 26 89 M lv st o := ev_gt rfl (by decide) rfl
theorem s26_86 : ji_Ev C 26 86 M lv st o ↔ ji_Ev C 26 89 M lv (.int 1002 :: st) o := ev_go (S := (89, M, lv, (.int 1002 :: st))) rfl rfl rfl
theorem s26_89 : ji_Ev C 26 89 M lv (.int x :: .ref a :: st) o ↔ ji_kd M a = some (0, 6) ∧ ji_Ev C 26 92 (ji_sI M a 4 x) lv st o := ev_putI (k := 26) rfl fd_6_56 rfl (by decide)
theorem s26_92 : ji_Ev C 26 92 M lv [] o ↔ o = (none, M) := ev_vret rfl rfl
theorem s27_0 : ji_Ev C 27 0 M (some (.ref a) :: l) st o ↔ ji_Ev C 27 1 M (some (.ref a) :: l) (.ref a :: st) o := ev_go (S := (1, M, (some (.ref a) :: l), (.ref a :: st))) rfl rfl rfl
theorem s27_0x : ji_Ev C 27 0 M (some (.retAddr a) :: l) st o ↔ ji_Ev C 27 1 M (some (.retAddr a) :: l) (.retAddr a :: st) o := ev_go (S := (1, M, (some (.retAddr a) :: l), (.retAddr a :: st))) rfl rfl rfl
theorem s27_1 : ji_Ev C 27 1 M (l0 :: some (.int x) :: l) st o ↔ ji_Ev C 27 2 M (l0 :: some (.int x) :: l) (.int x :: st) o := ev_go (S := (2, M, (l0 :: some (.int x) :: l), (.int x :: st))) rfl rfl rfl
theorem s27_2 : ji_Ev C 27 2 M lv st o ↔ ji_Ev C 27 3 M lv (.int 0 :: st) o := ev_go (S := (3, M, lv, (.int 0 :: st))) rfl rfl rfl
theorem s27_3x : ji_Ev C 27 3 M lv (p1 :: p0 :: .retAddr a :: st) o ↔ (ji_rcb M 10 (.retAddr a) = true ∧ ji_ok8 st) ∧ ji_evC (C 28 [.retAddr a, p0, p1] M) (fun v M' => ji_Ev C 27 6 M' lv (v.toList ++ st) o) := ev_inv (k := 27) rfl cd_10_633 rfl
theorem s27_6 : ji_Ev C 27 6 M lv [.int x] o ↔ o = (some (.int x), M) := ev_ireti rfl rfl
theorem s28_0 : ji_Ev C 28 0 M (some (.ref a) :: l) st o ↔ ji_Ev C 28 1 M (some (.ref a) :: l) (.ref a :: st) o := ev_go (S := (1, M, (some (.ref a) :: l), (.ref a :: st))) rfl rfl rfl
theorem s28_0x : ji_Ev C 28 0 M (some (.retAddr a) :: l) st o ↔ ji_Ev C 28 1 M (some (.retAddr a) :: l) (.retAddr a :: st) o := ev_go (S := (1, M, (some (.retAddr a) :: l), (.retAddr a :: st))) rfl rfl rfl
theorem s28_1x : ji_Ev C 28 1 M lv (.retAddr a :: st) o ↔ (ji_rcb M 10 (.retAddr a) = true ∧ ji_ok8 st) ∧ ji_evC (C 13 [.retAddr a] M) (fun v M' => ji_Ev C 28 4 M' lv (v.toList ++ st) o) := ev_inv (k := 28) rfl cd_10_492 rfl
theorem s28_4 : ji_Ev C 28 4 M lv (.int x :: st) o ↔ if x = 0 then ji_Ev C 28 23 M lv st o else ji_Ev C 28 7 M lv st o := ev_brz (c := .eq) rfl (by decide) rfl
theorem s28_7 : ji_Ev C 28 7 M (some (.ref a) :: l) st o ↔ ji_Ev C 28 8 M (some (.ref a) :: l) (.ref a :: st) o := ev_go (S := (8, M, (some (.ref a) :: l), (.ref a :: st))) rfl rfl rfl
theorem s28_7x : ji_Ev C 28 7 M (some (.retAddr a) :: l) st o ↔ ji_Ev C 28 8 M (some (.retAddr a) :: l) (.retAddr a :: st) o := ev_go (S := (8, M, (some (.retAddr a) :: l), (.retAddr a :: st))) rfl rfl rfl
theorem s28_8 : ji_Ev C 28 8 M lv (.retAddr a :: st) o ↔ (1 ≤ a ∧ a ≤ 3) ∧ ji_Ev C 28 11 M lv (.retAddr (a + 3) :: st) o := ev_getXv rfl rfl rfl
theorem s28_11 : ji_Ev C 28 11 M (l0 :: some (.int x) :: l) st o ↔ ji_Ev C 28 12 M (l0 :: some (.int x) :: l) (.int x :: st) o := ev_go (S := (12, M, (l0 :: some (.int x) :: l), (.int x :: st))) rfl rfl rfl
theorem s28_12 : ji_Ev C 28 12 M (l0 :: l1 :: some (.int x) :: l) st o ↔ ji_Ev C 28 13 M (l0 :: l1 :: some (.int x) :: l) (.int x :: st) o := ev_go (S := (13, M, (l0 :: l1 :: some (.int x) :: l), (.int x :: st))) rfl rfl rfl
theorem s28_13 : ji_Ev C 28 13 M (some (.ref a) :: l) st o ↔ ji_Ev C 28 14 M (some (.ref a) :: l) (.ref a :: st) o := ev_go (S := (14, M, (some (.ref a) :: l), (.ref a :: st))) rfl rfl rfl
theorem s28_13x : ji_Ev C 28 13 M (some (.retAddr a) :: l) st o ↔ ji_Ev C 28 14 M (some (.retAddr a) :: l) (.retAddr a :: st) o := ev_go (S := (14, M, (some (.retAddr a) :: l), (.retAddr a :: st))) rfl rfl rfl
theorem s28_14x : ji_Ev C 28 14 M lv (.retAddr a :: st) o ↔ (ji_rcb M 10 (.retAddr a) = true ∧ ji_ok8 st) ∧ ji_evC (C 10 [.retAddr a] M) (fun v M' => ji_Ev C 28 17 M' lv (v.toList ++ st) o) := ev_inv (k := 28) rfl cd_10_505 rfl
theorem s28_17 : ji_Ev C 28 17 M lv (p3 :: p2 :: p1 :: p0 :: st) o ↔ ji_ok8 st ∧ ji_evC (C 29 [p0, p1, p2, p3] M) (fun v M' => ji_Ev C 28 20 M' lv (v.toList ++ st) o) := ev_sta (k := 28) (a := [p3, p2, p1, p0]) rfl (Or.inl cd_10_637) rfl
theorem s28_20 : ji_Ev C 28 20 M lv st o ↔ ji_Ev C 28 36 M lv st o := ev_gt rfl (by decide) rfl
theorem s28_23 : ji_Ev C 28 23 M (some (.ref a) :: l) st o ↔ ji_Ev C 28 24 M (some (.ref a) :: l) (.ref a :: st) o := ev_go (S := (24, M, (some (.ref a) :: l), (.ref a :: st))) rfl rfl rfl
theorem s28_23x : ji_Ev C 28 23 M (some (.retAddr a) :: l) st o ↔ ji_Ev C 28 24 M (some (.retAddr a) :: l) (.retAddr a :: st) o := ev_go (S := (24, M, (some (.retAddr a) :: l), (.retAddr a :: st))) rfl rfl rfl
theorem s28_24 : ji_Ev C 28 24 M lv (.retAddr a :: st) o ↔ (1 ≤ a ∧ a ≤ 3) ∧ ji_Ev C 28 27 M lv (.retAddr (a + 3) :: st) o := ev_getXv rfl rfl rfl
theorem s28_27 : ji_Ev C 28 27 M (l0 :: some (.int x) :: l) st o ↔ ji_Ev C 28 28 M (l0 :: some (.int x) :: l) (.int x :: st) o := ev_go (S := (28, M, (l0 :: some (.int x) :: l), (.int x :: st))) rfl rfl rfl
theorem s28_28 : ji_Ev C 28 28 M (l0 :: l1 :: some (.int x) :: l) st o ↔ ji_Ev C 28 29 M (l0 :: l1 :: some (.int x) :: l) (.int x :: st) o := ev_go (S := (29, M, (l0 :: l1 :: some (.int x) :: l), (.int x :: st))) rfl rfl rfl
theorem s28_29 : ji_Ev C 28 29 M (some (.ref a) :: l) st o ↔ ji_Ev C 28 30 M (some (.ref a) :: l) (.ref a :: st) o := ev_go (S := (30, M, (some (.ref a) :: l), (.ref a :: st))) rfl rfl rfl
theorem s28_29x : ji_Ev C 28 29 M (some (.retAddr a) :: l) st o ↔ ji_Ev C 28 30 M (some (.retAddr a) :: l) (.retAddr a :: st) o := ev_go (S := (30, M, (some (.retAddr a) :: l), (.retAddr a :: st))) rfl rfl rfl
theorem s28_30x : ji_Ev C 28 30 M lv (.retAddr a :: st) o ↔ (ji_rcb M 10 (.retAddr a) = true ∧ ji_ok8 st) ∧ ji_evC (C 10 [.retAddr a] M) (fun v M' => ji_Ev C 28 33 M' lv (v.toList ++ st) o) := ev_inv (k := 28) rfl cd_10_505 rfl
theorem s28_36 : ji_Ev C 28 36 M lv [.int x] o ↔ o = (some (.int x), M) := ev_ireti rfl rfl
theorem s29_0 : ji_Ev C 29 0 M (l0 :: some (.int x) :: l) st o ↔ ji_Ev C 29 1 M (l0 :: some (.int x) :: l) (.int x :: st) o := ev_go (S := (1, M, (l0 :: some (.int x) :: l), (.int x :: st))) rfl rfl rfl
theorem s29_1 : ji_Ev C 29 1 M lv (p0 :: st) o ↔ ji_ok8 st ∧ ji_evC (C 30 [p0] M) (fun v M' => ji_Ev C 29 4 M' lv (v.toList ++ st) o) := ev_sta (k := 29) (a := [p0]) rfl (Or.inl cd_11_88) rfl
theorem s29_4 : ji_Ev C 29 4 M lv (.int x :: st) o ↔ if x = 0 then ji_Ev C 29 7 M lv st o else ji_Ev C 29 9 M lv st o := ev_brz (c := .ne) rfl (by decide) rfl
theorem s29_7 : ji_Ev C 29 7 M lv st o ↔ ji_Ev C 29 8 M lv (.int (-1) :: st) o := ev_go (S := (8, M, lv, (.int (-1) :: st))) rfl rfl rfl
theorem s29_8 : ji_Ev C 29 8 M lv [.int x] o ↔ o = (some (.int x), M) := ev_ireti rfl rfl
theorem s29_9 : ji_Ev C 29 9 M (l0 :: l1 :: some (.int x) :: l) st o ↔ ji_Ev C 29 10 M (l0 :: l1 :: some (.int x) :: l) (.int x :: st) o := ev_go (S := (10, M, (l0 :: l1 :: some (.int x) :: l), (.int x :: st))) rfl rfl rfl
theorem s29_10 : ji_Ev C 29 10 M lv st o ↔ ji_Ev C 29 11 M lv (.int 0 :: st) o := ev_go (S := (11, M, lv, (.int 0 :: st))) rfl rfl rfl
theorem s29_11 : ji_Ev C 29 11 M lv (.int y :: .int x :: st) o ↔ ji_ok8 st ∧ ji_Ev C 29 14 M lv (.int (if x < y then y else x) :: st) o := ev_max (k := 29) rfl cd_11_92
theorem s29_14 : ji_Ev C 29 14 M lv (.int x :: st) o ↔ 2 < lv.length ∧ ji_Ev C 29 15 M (ji_s1 lv 2 (.int x)) st o := ev_stI rfl rfl rfl
theorem s29_15 : ji_Ev C 29 15 M (l0 :: l1 :: l2 :: some (.int x) :: l) st o ↔ ji_Ev C 29 16 M (l0 :: l1 :: l2 :: some (.int x) :: l) (.int x :: st) o := ev_go (S := (16, M, (l0 :: l1 :: l2 :: some (.int x) :: l), (.int x :: st))) rfl rfl rfl
theorem s29_16 : ji_Ev C 29 16 M (some (.ref a) :: l) st o ↔ ji_Ev C 29 17 M (some (.ref a) :: l) (.ref a :: st) o := ev_go (S := (17, M, (some (.ref a) :: l), (.ref a :: st))) rfl rfl rfl
theorem s29_16x : ji_Ev C 29 16 M (some (.retAddr a) :: l) st o ↔ ji_Ev C 29 17 M (some (.retAddr a) :: l) (.retAddr a :: st) o := ev_go (S := (17, M, (some (.retAddr a) :: l), (.retAddr a :: st))) rfl rfl rfl
theorem s29_17 : ji_Ev C 29 17 M lv (.ref a :: st) o ↔ ji_evN (ji_kd M a) (fun n => ji_Ev C 29 18 M lv (.int (Int32.ofNat n) :: st) o) := ev_alen rfl
theorem s29_17_4 : ji_Ev C 29 17 M lv (.retAddr 4 :: st) o ↔ ji_Ev C 29 18 M lv (.int (Int32.ofNat (ji_tx 4).length) :: st) o := ev_alenX (l := ji_tx 4) rfl rfl
theorem s29_17_5 : ji_Ev C 29 17 M lv (.retAddr 5 :: st) o ↔ ji_Ev C 29 18 M lv (.int (Int32.ofNat (ji_tx 5).length) :: st) o := ev_alenX (l := ji_tx 5) rfl rfl
theorem s29_17_6 : ji_Ev C 29 17 M lv (.retAddr 6 :: st) o ↔ ji_Ev C 29 18 M lv (.int (Int32.ofNat (ji_tx 6).length) :: st) o := ev_alenX (l := ji_tx 6) rfl rfl
theorem s29_18 : ji_Ev C 29 18 M lv (.int y :: .int x :: st) o ↔ ji_ok8 st ∧ ji_Ev C 29 21 M lv (.int (if y < x then y else x) :: st) o := ev_min (k := 29) rfl cd_11_38
theorem s29_21 : ji_Ev C 29 21 M lv (.int x :: st) o ↔ 3 < lv.length ∧ ji_Ev C 29 22 M (ji_s1 lv 3 (.int x)) st o := ev_stI rfl rfl rfl
theorem s29_22 : ji_Ev C 29 22 M (l0 :: l1 :: some (.int x) :: l) st o ↔ ji_Ev C 29 23 M (l0 :: l1 :: some (.int x) :: l) (.int x :: st) o := ev_go (S := (23, M, (l0 :: l1 :: some (.int x) :: l), (.int x :: st))) rfl rfl rfl
theorem s29_23 : ji_Ev C 29 23 M (l0 :: l1 :: l2 :: some (.int x) :: l) st o ↔ ji_Ev C 29 24 M (l0 :: l1 :: l2 :: some (.int x) :: l) (.int x :: st) o := ev_go (S := (24, M, (l0 :: l1 :: l2 :: some (.int x) :: l), (.int x :: st))) rfl rfl rfl
theorem s29_24 : ji_Ev C 29 24 M lv (.int y :: .int x :: st) o ↔ if x < y then ji_Ev C 29 29 M lv st o else ji_Ev C 29 27 M lv st o := ev_brc (c := .lt) rfl (by decide) rfl
theorem s29_27 : ji_Ev C 29 27 M lv st o ↔ ji_Ev C 29 28 M lv (.int (-1) :: st) o := ev_go (S := (28, M, lv, (.int (-1) :: st))) rfl rfl rfl
theorem s29_28 : ji_Ev C 29 28 M lv [.int x] o ↔ o = (some (.int x), M) := ev_ireti rfl rfl
theorem s29_29 : ji_Ev C 29 29 M (some (.ref a) :: l) st o ↔ ji_Ev C 29 30 M (some (.ref a) :: l) (.ref a :: st) o := ev_go (S := (30, M, (some (.ref a) :: l), (.ref a :: st))) rfl rfl rfl
theorem s29_29x : ji_Ev C 29 29 M (some (.retAddr a) :: l) st o ↔ ji_Ev C 29 30 M (some (.retAddr a) :: l) (.retAddr a :: st) o := ev_go (S := (30, M, (some (.retAddr a) :: l), (.retAddr a :: st))) rfl rfl rfl
theorem s29_30 : ji_Ev C 29 30 M (l0 :: some (.int x) :: l) st o ↔ ji_Ev C 29 31 M (l0 :: some (.int x) :: l) (.int x :: st) o := ev_go (S := (31, M, (l0 :: some (.int x) :: l), (.int x :: st))) rfl rfl rfl
theorem s29_31 : ji_Ev C 29 31 M (l0 :: l1 :: some (.int x) :: l) st o ↔ ji_Ev C 29 32 M (l0 :: l1 :: some (.int x) :: l) (.int x :: st) o := ev_go (S := (32, M, (l0 :: l1 :: some (.int x) :: l), (.int x :: st))) rfl rfl rfl
theorem s29_32 : ji_Ev C 29 32 M (l0 :: l1 :: l2 :: some (.int x) :: l) st o ↔ ji_Ev C 29 33 M (l0 :: l1 :: l2 :: some (.int x) :: l) (.int x :: st) o := ev_go (S := (33, M, (l0 :: l1 :: l2 :: some (.int x) :: l), (.int x :: st))) rfl rfl rfl
theorem s29_33 : ji_Ev C 29 33 M lv (p3 :: p2 :: p1 :: p0 :: st) o ↔ ji_ok8 st ∧ ji_evC (C 31 [p0, p1, p2, p3] M) (fun v M' => ji_Ev C 29 36 M' lv (v.toList ++ st) o) := ev_sta (k := 29) (a := [p3, p2, p1, p0]) rfl (Or.inl cd_11_95) rfl
theorem s29_36 : ji_Ev C 29 36 M lv [.int x] o ↔ o = (some (.int x), M) := ev_ireti rfl rfl
theorem s30_0 : ji_Ev C 30 0 M (some (.int x) :: l) st o ↔ ji_Ev C 30 1 M (some (.int x) :: l) (.int x :: st) o := ev_go (S := (1, M, (some (.int x) :: l), (.int x :: st))) rfl rfl rfl
theorem s30_1 : ji_Ev C 30 1 M lv (.int x :: st) o ↔ if x < 0 then ji_Ev C 30 15 M lv st o else ji_Ev C 30 4 M lv st o := ev_brz (c := .lt) rfl (by decide) rfl
theorem s30_4 : ji_Ev C 30 4 M (some (.int x) :: l) st o ↔ ji_Ev C 30 5 M (some (.int x) :: l) (.int x :: st) o := ev_go (S := (5, M, (some (.int x) :: l), (.int x :: st))) rfl rfl rfl
theorem s30_5 : ji_Ev C 30 5 M lv st o ↔ ji_Ev C 30 8 M lv (.int 255 :: st) o := ev_go (S := (8, M, lv, (.int 255 :: st))) rfl rfl rfl
theorem s30_8 : ji_Ev C 30 8 M lv (.int y :: .int x :: st) o ↔ if y < x then ji_Ev C 30 15 M lv st o else ji_Ev C 30 11 M lv st o := ev_brc (c := .gt) rfl (by decide) rfl
theorem s30_11 : ji_Ev C 30 11 M lv st o ↔ ji_Ev C 30 12 M lv (.int 1 :: st) o := ev_go (S := (12, M, lv, (.int 1 :: st))) rfl rfl rfl
theorem s30_12 : ji_Ev C 30 12 M lv st o ↔ ji_Ev C 30 16 M lv st o := ev_gt rfl (by decide) rfl
theorem s30_15 : ji_Ev C 30 15 M lv st o ↔ ji_Ev C 30 16 M lv (.int 0 :: st) o := ev_go (S := (16, M, lv, (.int 0 :: st))) rfl rfl rfl
theorem s30_16 : ji_Ev C 30 16 M lv [.int x] o ↔ narrow .boolean (.int x) = .int x ∧ o = (some (.int x), M) := ev_iretb rfl rfl
theorem s31_0 : ji_Ev C 31 0 M (l0 :: some (.int x) :: l) st o ↔ ji_Ev C 31 1 M (l0 :: some (.int x) :: l) (.int x :: st) o := ev_go (S := (1, M, (l0 :: some (.int x) :: l), (.int x :: st))) rfl rfl rfl
theorem s31_1 : ji_Ev C 31 1 M lv (.int x :: st) o ↔ ji_Ev C 31 2 M lv (.int x.toInt8.toInt32 :: st) o := ev_go (S := (2, M, lv, (.int x.toInt8.toInt32 :: st))) rfl rfl rfl
theorem s31_2 : ji_Ev C 31 2 M lv (.int x :: st) o ↔ 4 < lv.length ∧ ji_Ev C 31 4 M (ji_s1 lv 4 (.int x)) st o := ev_stI rfl rfl rfl
theorem s31_4 : ji_Ev C 31 4 M (l0 :: l1 :: some (.int x) :: l) st o ↔ ji_Ev C 31 5 M (l0 :: l1 :: some (.int x) :: l) (.int x :: st) o := ev_go (S := (5, M, (l0 :: l1 :: some (.int x) :: l), (.int x :: st))) rfl rfl rfl
theorem s31_5 : ji_Ev C 31 5 M lv (.int x :: st) o ↔ 5 < lv.length ∧ ji_Ev C 31 7 M (ji_s1 lv 5 (.int x)) st o := ev_stI rfl rfl rfl
theorem s31_7 : ji_Ev C 31 7 M (l0 :: l1 :: l2 :: l3 :: l4 :: some (.int x) :: l) st o ↔ ji_Ev C 31 9 M (l0 :: l1 :: l2 :: l3 :: l4 :: some (.int x) :: l) (.int x :: st) o := ev_go (S := (9, M, (l0 :: l1 :: l2 :: l3 :: l4 :: some (.int x) :: l), (.int x :: st))) rfl rfl rfl
theorem s31_9 : ji_Ev C 31 9 M (l0 :: l1 :: l2 :: some (.int x) :: l) st o ↔ ji_Ev C 31 10 M (l0 :: l1 :: l2 :: some (.int x) :: l) (.int x :: st) o := ev_go (S := (10, M, (l0 :: l1 :: l2 :: some (.int x) :: l), (.int x :: st))) rfl rfl rfl
theorem s31_10 : ji_Ev C 31 10 M lv (.int y :: .int x :: st) o ↔ if x < y then ji_Ev C 31 13 M lv st o else ji_Ev C 31 31 M lv st o := ev_brc (c := .ge) rfl (by decide) rfl
theorem s31_13 : ji_Ev C 31 13 M (some (.ref a) :: l) st o ↔ ji_Ev C 31 14 M (some (.ref a) :: l) (.ref a :: st) o := ev_go (S := (14, M, (some (.ref a) :: l), (.ref a :: st))) rfl rfl rfl
theorem s31_13x : ji_Ev C 31 13 M (some (.retAddr a) :: l) st o ↔ ji_Ev C 31 14 M (some (.retAddr a) :: l) (.retAddr a :: st) o := ev_go (S := (14, M, (some (.retAddr a) :: l), (.retAddr a :: st))) rfl rfl rfl
theorem s31_14 : ji_Ev C 31 14 M (l0 :: l1 :: l2 :: l3 :: l4 :: some (.int x) :: l) st o ↔ ji_Ev C 31 16 M (l0 :: l1 :: l2 :: l3 :: l4 :: some (.int x) :: l) (.int x :: st) o := ev_go (S := (16, M, (l0 :: l1 :: l2 :: l3 :: l4 :: some (.int x) :: l), (.int x :: st))) rfl rfl rfl
theorem s31_16_4 : ji_Ev C 31 16 M lv (.int x :: .retAddr 4 :: st) o ↔ vp_in x (ji_tx 4).length ∧ ji_Ev C 31 17 M lv (.int ((ji_tx 4).getD x.toNatClampNeg 0) :: st) o := ev_bald (l := ji_tx 4) rfl (by decide) rfl
theorem s31_16_5 : ji_Ev C 31 16 M lv (.int x :: .retAddr 5 :: st) o ↔ vp_in x (ji_tx 5).length ∧ ji_Ev C 31 17 M lv (.int ((ji_tx 5).getD x.toNatClampNeg 0) :: st) o := ev_bald (l := ji_tx 5) rfl (by decide) rfl
theorem s31_16_6 : ji_Ev C 31 16 M lv (.int x :: .retAddr 6 :: st) o ↔ vp_in x (ji_tx 6).length ∧ ji_Ev C 31 17 M lv (.int ((ji_tx 6).getD x.toNatClampNeg 0) :: st) o := ev_bald (l := ji_tx 6) rfl (by decide) rfl
theorem s31_17 : ji_Ev C 31 17 M (l0 :: l1 :: l2 :: l3 :: some (.int x) :: l) st o ↔ ji_Ev C 31 19 M (l0 :: l1 :: l2 :: l3 :: some (.int x) :: l) (.int x :: st) o := ev_go (S := (19, M, (l0 :: l1 :: l2 :: l3 :: some (.int x) :: l), (.int x :: st))) rfl rfl rfl
theorem s31_19 : ji_Ev C 31 19 M lv (.int y :: .int x :: st) o ↔ if x = y then ji_Ev C 31 22 M lv st o else ji_Ev C 31 25 M lv st o := ev_brc (c := .ne) rfl (by decide) rfl
theorem s31_22 : ji_Ev C 31 22 M (l0 :: l1 :: l2 :: l3 :: l4 :: some (.int x) :: l) st o ↔ ji_Ev C 31 24 M (l0 :: l1 :: l2 :: l3 :: l4 :: some (.int x) :: l) (.int x :: st) o := ev_go (S := (24, M, (l0 :: l1 :: l2 :: l3 :: l4 :: some (.int x) :: l), (.int x :: st))) rfl rfl rfl
theorem s31_24 : ji_Ev C 31 24 M lv [.int x] o ↔ o = (some (.int x), M) := ev_ireti rfl rfl
theorem s31_25 : ji_Ev C 31 25 M lv st o ↔ ji_evL (lv.getD 5 none) ji_isI (fun v => match v with | .int x => 5 < lv.length ∧ ji_Ev C 31 28 M (ji_s1 lv 5 (.int (x + Int32.ofInt 1))) st o | _ => False) := ev_iinc rfl
theorem s31_28 : ji_Ev C 31 28 M lv st o ↔ ji_Ev C 31 7 M lv st o := ev_gt rfl (by decide) rfl
theorem s31_31 : ji_Ev C 31 31 M lv st o ↔ ji_Ev C 31 32 M lv (.int (-1) :: st) o := ev_go (S := (32, M, lv, (.int (-1) :: st))) rfl rfl rfl
theorem s31_32 : ji_Ev C 31 32 M lv [.int x] o ↔ o = (some (.int x), M) := ev_ireti rfl rfl
theorem s32_0 : ji_Ev C 32 0 M (some (.ref a) :: l) st o ↔ ji_Ev C 32 1 M (some (.ref a) :: l) (.ref a :: st) o := ev_go (S := (1, M, (some (.ref a) :: l), (.ref a :: st))) rfl rfl rfl
theorem s32_1 : ji_Ev C 32 1 M lv (.ref a :: st) o ↔ ji_kd M a = some (0, 6) ∧ ji_Ev C 32 4 M lv (.int (ji_gI M a 4) :: st) o := ev_getI (k := 32) rfl fd_6_56 rfl
theorem s32_4 : ji_Ev C 32 4 M (l0 :: some (.int x) :: l) st o ↔ ji_Ev C 32 5 M (l0 :: some (.int x) :: l) (.int x :: st) o := ev_go (S := (5, M, (l0 :: some (.int x) :: l), (.int x :: st))) rfl rfl rfl
theorem s32_5 : ji_Ev C 32 5 M lv (.int y :: .int x :: st) o ↔ if x = y then ji_Ev C 32 15 M lv st o else ji_Ev C 32 8 M lv st o := ev_brc (c := .eq) rfl (by decide) rfl
theorem s32_8 : ji_Ev C 32 8 M (some (.ref a) :: l) st o ↔ ji_Ev C 32 9 M (some (.ref a) :: l) (.ref a :: st) o := ev_go (S := (9, M, (some (.ref a) :: l), (.ref a :: st))) rfl rfl rfl
theorem s32_9 : ji_Ev C 32 9 M lv (.ref a :: st) o ↔ (ji_rcb M 6 (.ref a) = true ∧ ji_ok8 st) ∧ ji_evC (C 33 [.ref a] M) (fun v M' => ji_Ev C 32 12 M' lv (v.toList ++ st) o) := ev_inv (k := 32) rfl cd_6_94 rfl
theorem s32_12 : ji_Ev C 32 12 M lv st o ↔ ji_Ev C 32 26 M lv st o := ev_gt rfl (by decide) rfl
theorem s32_15 : ji_Ev C 32 15 M (l0 :: some (.int x) :: l) st o ↔ ji_Ev C 32 16 M (l0 :: some (.int x) :: l) (.int x :: st) o := ev_go (S := (16, M, (l0 :: some (.int x) :: l), (.int x :: st))) rfl rfl rfl
theorem s32_16 : ji_Ev C 32 16 M lv st o ↔ ji_Ev C 32 19 M lv (.int 1000 :: st) o := ev_go (S := (19, M, lv, (.int 1000 :: st))) rfl rfl rfl
theorem s32_19 : ji_Ev C 32 19 M lv (.int y :: .int x :: st) o ↔ if x = y then ji_Ev C 32 26 M lv st o else ji_Ev C 32 22 M lv st o := ev_brc (c := .eq) rfl (by decide) rfl
theorem s32_22 : ji_Ev C 32 22 M (some (.ref a) :: l) st o ↔ ji_Ev C 32 23 M (some (.ref a) :: l) (.ref a :: st) o := ev_go (S := (23, M, (some (.ref a) :: l), (.ref a :: st))) rfl rfl rfl
theorem s32_23 : ji_Ev C 32 23 M lv (.ref a :: st) o ↔ (ji_rcb M 6 (.ref a) = true ∧ ji_ok8 st) ∧ ji_evC (C 20 [.ref a] M) (fun v M' => ji_Ev C 32 26 M' lv (v.toList ++ st) o) := ev_inv (k := 32) rfl cd_6_40 rfl
theorem s32_26 : ji_Ev C 32 26 M lv [] o ↔ o = (none, M) := ev_vret rfl rfl
theorem s33_0 : ji_Ev C 33 0 M (some (.ref a) :: l) st o ↔ ji_Ev C 33 1 M (some (.ref a) :: l) (.ref a :: st) o := ev_go (S := (1, M, (some (.ref a) :: l), (.ref a :: st))) rfl rfl rfl
theorem s33_1 : ji_Ev C 33 1 M lv (.ref a :: st) o ↔ ji_kd M a = some (0, 6) ∧ ji_Ev C 33 4 M lv (.int (ji_gI M a 7) :: st) o := ev_getI (k := 33) rfl fd_6_37 rfl
theorem s33_4 : ji_Ev C 33 4 M lv st o ↔ ji_Ev C 33 5 M lv (.int (-1) :: st) o := ev_go (S := (5, M, lv, (.int (-1) :: st))) rfl rfl rfl
theorem s33_5 : ji_Ev C 33 5 M lv (.int y :: .int x :: st) o ↔ if x = y then ji_Ev C 33 8 M lv st o else ji_Ev C 33 16 M lv st o := ev_brc (c := .ne) rfl (by decide) rfl
theorem s33_8 : ji_Ev C 33 8 M (some (.ref a) :: l) st o ↔ ji_Ev C 33 9 M (some (.ref a) :: l) (.ref a :: st) o := ev_go (S := (9, M, (some (.ref a) :: l), (.ref a :: st))) rfl rfl rfl
theorem s33_9 : ji_Ev C 33 9 M (some (.ref a) :: l) st o ↔ ji_Ev C 33 10 M (some (.ref a) :: l) (.ref a :: st) o := ev_go (S := (10, M, (some (.ref a) :: l), (.ref a :: st))) rfl rfl rfl
theorem s33_10 : ji_Ev C 33 10 M lv (.ref a :: st) o ↔ ji_kd M a = some (0, 6) ∧ ji_Ev C 33 13 M lv (.int (ji_gI M a 3) :: st) o := ev_getI (k := 33) rfl fd_6_53 rfl
theorem s33_13 : ji_Ev C 33 13 M lv (.int x :: .ref a :: st) o ↔ ji_kd M a = some (0, 6) ∧ ji_Ev C 33 16 (ji_sI M a 7 x) lv st o := ev_putI (k := 33) rfl fd_6_37 rfl (by decide)
theorem s33_16 : ji_Ev C 33 16 M (some (.ref a) :: l) st o ↔ ji_Ev C 33 17 M (some (.ref a) :: l) (.ref a :: st) o := ev_go (S := (17, M, (some (.ref a) :: l), (.ref a :: st))) rfl rfl rfl
theorem s33_17 : ji_Ev C 33 17 M lv st o ↔ ji_Ev C 33 20 M lv (.int 1001 :: st) o := ev_go (S := (20, M, lv, (.int 1001 :: st))) rfl rfl rfl
theorem s33_20 : ji_Ev C 33 20 M lv (.int x :: .ref a :: st) o ↔ ji_kd M a = some (0, 6) ∧ ji_Ev C 33 23 (ji_sI M a 4 x) lv st o := ev_putI (k := 33) rfl fd_6_56 rfl (by decide)
theorem s33_23 : ji_Ev C 33 23 M lv [] o ↔ o = (none, M) := ev_vret rfl rfl
theorem s34_0 : ji_Ev C 34 0 M (some (.ref a) :: l) st o ↔ ji_Ev C 34 1 M (some (.ref a) :: l) (.ref a :: st) o := ev_go (S := (1, M, (some (.ref a) :: l), (.ref a :: st))) rfl rfl rfl
theorem s34_1 : ji_Ev C 34 1 M lv (.ref a :: st) o ↔ (ji_rcb M 6 (.ref a) = true ∧ ji_ok8 st) ∧ ji_evC (C 35 [.ref a] M) (fun v M' => ji_Ev C 34 4 M' lv (v.toList ++ st) o) := ev_inv (k := 34) rfl cd_6_97 rfl
theorem s34_4 : ji_Ev C 34 4 M lv st o ↔ ji_Ev C 34 5 M lv (.int 0 :: st) o := ev_go (S := (5, M, lv, (.int 0 :: st))) rfl rfl rfl
theorem s34_5 : ji_Ev C 34 5 M lv (.int x :: st) o ↔ 1 < lv.length ∧ ji_Ev C 34 6 M (ji_s1 lv 1 (.int x)) st o := ev_stI rfl rfl rfl
theorem s34_6 : ji_Ev C 34 6 M (l0 :: some (.int x) :: l) st o ↔ ji_Ev C 34 7 M (l0 :: some (.int x) :: l) (.int x :: st) o := ev_go (S := (7, M, (l0 :: some (.int x) :: l), (.int x :: st))) rfl rfl rfl
theorem s34_7 : ji_Ev C 34 7 M lv st o ↔ ji_Ev C 34 10 M lv (.int 160 :: st) o := ev_go (S := (10, M, lv, (.int 160 :: st))) rfl rfl rfl
theorem s34_10 : ji_Ev C 34 10 M lv (.int y :: .int x :: st) o ↔ if x < y then ji_Ev C 34 13 M lv st o else ji_Ev C 34 43 M lv st o := ev_brc (c := .ge) rfl (by decide) rfl
theorem s34_13 : ji_Ev C 34 13 M (some (.ref a) :: l) st o ↔ ji_Ev C 34 14 M (some (.ref a) :: l) (.ref a :: st) o := ev_go (S := (14, M, (some (.ref a) :: l), (.ref a :: st))) rfl rfl rfl
theorem s34_14 : ji_Ev C 34 14 M lv (.ref a :: st) o ↔ ji_kd M a = some (0, 6) ∧ ji_Ev C 34 17 M lv (.int (ji_gI M a 4) :: st) o := ev_getI (k := 34) rfl fd_6_56 rfl
theorem s34_17 : ji_Ev C 34 17 M lv st o ↔ ji_Ev C 34 20 M lv (.int 2003 :: st) o := ev_go (S := (20, M, lv, (.int 2003 :: st))) rfl rfl rfl
theorem s34_20 : ji_Ev C 34 20 M lv (.int y :: .int x :: st) o ↔ if x = y then ji_Ev C 34 23 M lv st o else ji_Ev C 34 43 M lv st o := ev_brc (c := .ne) rfl (by decide) rfl
theorem s34_23 : ji_Ev C 34 23 M (some (.ref a) :: l) st o ↔ ji_Ev C 34 24 M (some (.ref a) :: l) (.ref a :: st) o := ev_go (S := (24, M, (some (.ref a) :: l), (.ref a :: st))) rfl rfl rfl
theorem s34_24 : ji_Ev C 34 24 M lv (.ref a :: st) o ↔ (ji_rcb M 6 (.ref a) = true ∧ ji_ok8 st) ∧ ji_evC (C 20 [.ref a] M) (fun v M' => ji_Ev C 34 27 M' lv (v.toList ++ st) o) := ev_inv (k := 34) rfl cd_6_40 rfl
theorem s34_27 : ji_Ev C 34 27 M (some (.ref a) :: l) st o ↔ ji_Ev C 34 28 M (some (.ref a) :: l) (.ref a :: st) o := ev_go (S := (28, M, (some (.ref a) :: l), (.ref a :: st))) rfl rfl rfl
theorem s34_28 : ji_Ev C 34 28 M lv (.ref a :: st) o ↔ (ji_rcb M 6 (.ref a) = true ∧ ji_ok8 st) ∧ ji_evC (C 35 [.ref a] M) (fun v M' => ji_Ev C 34 31 M' lv (v.toList ++ st) o) := ev_inv (k := 34) rfl cd_6_97 rfl
theorem s34_31 : ji_Ev C 34 31 M (some (.ref a) :: l) st o ↔ ji_Ev C 34 32 M (some (.ref a) :: l) (.ref a :: st) o := ev_go (S := (32, M, (some (.ref a) :: l), (.ref a :: st))) rfl rfl rfl
theorem s34_32 : ji_Ev C 34 32 M lv st o ↔ ji_Ev C 34 34 M lv (.int (-11) :: st) o := ev_go (S := (34, M, lv, (.int (-11) :: st))) rfl rfl rfl
theorem s34_34 : ji_Ev C 34 34 M lv (p0 :: .ref a :: st) o ↔ (ji_rcb M 6 (.ref a) = true ∧ ji_ok8 st) ∧ ji_evC (C 38 [.ref a, p0] M) (fun v M' => ji_Ev C 34 37 M' lv (v.toList ++ st) o) := ev_inv (k := 34) rfl cd_6_100 rfl
theorem s34_37 : ji_Ev C 34 37 M lv st o ↔ ji_evL (lv.getD 1 none) ji_isI (fun v => match v with | .int x => 1 < lv.length ∧ ji_Ev C 34 40 M (ji_s1 lv 1 (.int (x + Int32.ofInt 1))) st o | _ => False) := ev_iinc rfl
theorem s34_40 : ji_Ev C 34 40 M lv st o ↔ ji_Ev C 34 6 M lv st o := ev_gt rfl (by decide) rfl
theorem s34_43 : ji_Ev C 34 43 M lv [] o ↔ o = (none, M) := ev_vret rfl rfl
theorem s35_0 : ji_Ev C 35 0 M (some (.ref a) :: l) st o ↔ ji_Ev C 35 1 M (some (.ref a) :: l) (.ref a :: st) o := ev_go (S := (1, M, (some (.ref a) :: l), (.ref a :: st))) rfl rfl rfl
theorem s35_1 : ji_Ev C 35 1 M lv (.ref a :: st) o ↔ (ji_rcb M 6 (.ref a) = true ∧ ji_ok8 st) ∧ ji_evC (C 36 [.ref a] M) (fun v M' => ji_Ev C 35 4 M' lv (v.toList ++ st) o) := ev_inv (k := 35) rfl cd_6_103 rfl
theorem s35_4 : ji_Ev C 35 4 M lv st o ↔ ji_Ev C 35 5 M lv (.int 0 :: st) o := ev_go (S := (5, M, lv, (.int 0 :: st))) rfl rfl rfl
theorem s35_5 : ji_Ev C 35 5 M lv (.int x :: st) o ↔ 1 < lv.length ∧ ji_Ev C 35 6 M (ji_s1 lv 1 (.int x)) st o := ev_stI rfl rfl rfl
theorem s35_6 : ji_Ev C 35 6 M (l0 :: some (.int x) :: l) st o ↔ ji_Ev C 35 7 M (l0 :: some (.int x) :: l) (.int x :: st) o := ev_go (S := (7, M, (l0 :: some (.int x) :: l), (.int x :: st))) rfl rfl rfl
theorem s35_7 : ji_Ev C 35 7 M lv st o ↔ ji_Ev C 35 10 M lv (.int 160 :: st) o := ev_go (S := (10, M, lv, (.int 160 :: st))) rfl rfl rfl
theorem s35_10 : ji_Ev C 35 10 M lv (.int y :: .int x :: st) o ↔ if x < y then ji_Ev C 35 13 M lv st o else ji_Ev C 35 43 M lv st o := ev_brc (c := .ge) rfl (by decide) rfl
theorem s35_13 : ji_Ev C 35 13 M (some (.ref a) :: l) st o ↔ ji_Ev C 35 14 M (some (.ref a) :: l) (.ref a :: st) o := ev_go (S := (14, M, (some (.ref a) :: l), (.ref a :: st))) rfl rfl rfl
theorem s35_14 : ji_Ev C 35 14 M lv (.ref a :: st) o ↔ ji_kd M a = some (0, 6) ∧ ji_Ev C 35 17 M lv (.int (ji_gI M a 4) :: st) o := ev_getI (k := 35) rfl fd_6_56 rfl
theorem s35_17 : ji_Ev C 35 17 M lv st o ↔ ji_Ev C 35 20 M lv (.int 2004 :: st) o := ev_go (S := (20, M, lv, (.int 2004 :: st))) rfl rfl rfl
theorem s35_20 : ji_Ev C 35 20 M lv (.int y :: .int x :: st) o ↔ if x = y then ji_Ev C 35 23 M lv st o else ji_Ev C 35 43 M lv st o := ev_brc (c := .ne) rfl (by decide) rfl
theorem s35_23 : ji_Ev C 35 23 M (some (.ref a) :: l) st o ↔ ji_Ev C 35 24 M (some (.ref a) :: l) (.ref a :: st) o := ev_go (S := (24, M, (some (.ref a) :: l), (.ref a :: st))) rfl rfl rfl
theorem s35_24 : ji_Ev C 35 24 M lv (.ref a :: st) o ↔ (ji_rcb M 6 (.ref a) = true ∧ ji_ok8 st) ∧ ji_evC (C 20 [.ref a] M) (fun v M' => ji_Ev C 35 27 M' lv (v.toList ++ st) o) := ev_inv (k := 35) rfl cd_6_40 rfl
theorem s35_27 : ji_Ev C 35 27 M (some (.ref a) :: l) st o ↔ ji_Ev C 35 28 M (some (.ref a) :: l) (.ref a :: st) o := ev_go (S := (28, M, (some (.ref a) :: l), (.ref a :: st))) rfl rfl rfl
theorem s35_28 : ji_Ev C 35 28 M lv (.ref a :: st) o ↔ (ji_rcb M 6 (.ref a) = true ∧ ji_ok8 st) ∧ ji_evC (C 36 [.ref a] M) (fun v M' => ji_Ev C 35 31 M' lv (v.toList ++ st) o) := ev_inv (k := 35) rfl cd_6_103 rfl
theorem s35_31 : ji_Ev C 35 31 M (some (.ref a) :: l) st o ↔ ji_Ev C 35 32 M (some (.ref a) :: l) (.ref a :: st) o := ev_go (S := (32, M, (some (.ref a) :: l), (.ref a :: st))) rfl rfl rfl
theorem s35_32 : ji_Ev C 35 32 M lv st o ↔ ji_Ev C 35 34 M lv (.int (-12) :: st) o := ev_go (S := (34, M, lv, (.int (-12) :: st))) rfl rfl rfl
theorem s35_34 : ji_Ev C 35 34 M lv (p0 :: .ref a :: st) o ↔ (ji_rcb M 6 (.ref a) = true ∧ ji_ok8 st) ∧ ji_evC (C 38 [.ref a, p0] M) (fun v M' => ji_Ev C 35 37 M' lv (v.toList ++ st) o) := ev_inv (k := 35) rfl cd_6_100 rfl
theorem s35_37 : ji_Ev C 35 37 M lv st o ↔ ji_evL (lv.getD 1 none) ji_isI (fun v => match v with | .int x => 1 < lv.length ∧ ji_Ev C 35 40 M (ji_s1 lv 1 (.int (x + Int32.ofInt 1))) st o | _ => False) := ev_iinc rfl
theorem s35_40 : ji_Ev C 35 40 M lv st o ↔ ji_Ev C 35 6 M lv st o := ev_gt rfl (by decide) rfl
theorem s35_43 : ji_Ev C 35 43 M lv [] o ↔ o = (none, M) := ev_vret rfl rfl
theorem s36_0 : ji_Ev C 36 0 M (some (.ref a) :: l) st o ↔ ji_Ev C 36 1 M (some (.ref a) :: l) (.ref a :: st) o := ev_go (S := (1, M, (some (.ref a) :: l), (.ref a :: st))) rfl rfl rfl
theorem s36_1 : ji_Ev C 36 1 M lv (.ref a :: st) o ↔ ji_kd M a = some (0, 6) ∧ ji_Ev C 36 4 M lv (.int (ji_gI M a 6) :: st) o := ev_getI (k := 36) rfl fd_6_31 rfl
theorem s36_4 : ji_Ev C 36 4 M lv (.int x :: st) o ↔ 1 < lv.length ∧ ji_Ev C 36 5 M (ji_s1 lv 1 (.int x)) st o := ev_stI rfl rfl rfl
theorem s36_5 : ji_Ev C 36 5 M lv st o ↔ ji_Ev C 36 6 M lv (.int 0 :: st) o := ev_go (S := (6, M, lv, (.int 0 :: st))) rfl rfl rfl
theorem s36_6 : ji_Ev C 36 6 M lv (.int x :: st) o ↔ 2 < lv.length ∧ ji_Ev C 36 7 M (ji_s1 lv 2 (.int x)) st o := ev_stI rfl rfl rfl
theorem s36_7 : ji_Ev C 36 7 M (l0 :: l1 :: some (.int x) :: l) st o ↔ ji_Ev C 36 8 M (l0 :: l1 :: some (.int x) :: l) (.int x :: st) o := ev_go (S := (8, M, (l0 :: l1 :: some (.int x) :: l), (.int x :: st))) rfl rfl rfl
theorem s36_8 : ji_Ev C 36 8 M lv st o ↔ ji_Ev C 36 9 M lv (.int 5 :: st) o := ev_go (S := (9, M, lv, (.int 5 :: st))) rfl rfl rfl
theorem s36_9 : ji_Ev C 36 9 M lv (.int y :: .int x :: st) o ↔ if y < x then ji_Ev C 36 39 M lv st o else ji_Ev C 36 12 M lv st o := ev_brc (c := .gt) rfl (by decide) rfl
theorem s36_12 : ji_Ev C 36 12 M (some (.ref a) :: l) st o ↔ ji_Ev C 36 13 M (some (.ref a) :: l) (.ref a :: st) o := ev_go (S := (13, M, (some (.ref a) :: l), (.ref a :: st))) rfl rfl rfl
theorem s36_13 : ji_Ev C 36 13 M lv (.ref a :: st) o ↔ ji_kd M a = some (0, 6) ∧ ji_Ev C 36 16 M lv (.int (ji_gI M a 4) :: st) o := ev_getI (k := 36) rfl fd_6_56 rfl
theorem s36_16 : ji_Ev C 36 16 M lv st o ↔ ji_Ev C 36 19 M lv (.int 2005 :: st) o := ev_go (S := (19, M, lv, (.int 2005 :: st))) rfl rfl rfl
theorem s36_19 : ji_Ev C 36 19 M lv (.int y :: .int x :: st) o ↔ if x = y then ji_Ev C 36 22 M lv st o else ji_Ev C 36 39 M lv st o := ev_brc (c := .ne) rfl (by decide) rfl
theorem s36_22 : ji_Ev C 36 22 M (some (.ref a) :: l) st o ↔ ji_Ev C 36 23 M (some (.ref a) :: l) (.ref a :: st) o := ev_go (S := (23, M, (some (.ref a) :: l), (.ref a :: st))) rfl rfl rfl
theorem s36_23 : ji_Ev C 36 23 M lv (.ref a :: st) o ↔ (ji_rcb M 6 (.ref a) = true ∧ ji_ok8 st) ∧ ji_evC (C 37 [.ref a] M) (fun v M' => ji_Ev C 36 26 M' lv (v.toList ++ st) o) := ev_inv (k := 36) rfl cd_6_106 rfl
theorem s36_26 : ji_Ev C 36 26 M lv (.int x :: st) o ↔ if x = 0 then ji_Ev C 36 39 M lv st o else ji_Ev C 36 29 M lv st o := ev_brz (c := .eq) rfl (by decide) rfl
theorem s36_29 : ji_Ev C 36 29 M (some (.ref a) :: l) st o ↔ ji_Ev C 36 30 M (some (.ref a) :: l) (.ref a :: st) o := ev_go (S := (30, M, (some (.ref a) :: l), (.ref a :: st))) rfl rfl rfl
theorem s36_30 : ji_Ev C 36 30 M lv (.ref a :: st) o ↔ (ji_rcb M 6 (.ref a) = true ∧ ji_ok8 st) ∧ ji_evC (C 20 [.ref a] M) (fun v M' => ji_Ev C 36 33 M' lv (v.toList ++ st) o) := ev_inv (k := 36) rfl cd_6_40 rfl
theorem s36_33 : ji_Ev C 36 33 M lv st o ↔ ji_evL (lv.getD 2 none) ji_isI (fun v => match v with | .int x => 2 < lv.length ∧ ji_Ev C 36 36 M (ji_s1 lv 2 (.int (x + Int32.ofInt 1))) st o | _ => False) := ev_iinc rfl
theorem s36_36 : ji_Ev C 36 36 M lv st o ↔ ji_Ev C 36 7 M lv st o := ev_gt rfl (by decide) rfl
theorem s36_39 : ji_Ev C 36 39 M (some (.ref a) :: l) st o ↔ ji_Ev C 36 40 M (some (.ref a) :: l) (.ref a :: st) o := ev_go (S := (40, M, (some (.ref a) :: l), (.ref a :: st))) rfl rfl rfl
theorem s36_40 : ji_Ev C 36 40 M lv (.ref a :: st) o ↔ (ji_rcb M 6 (.ref a) = true ∧ ji_ok8 st) ∧ ji_evC (C 39 [.ref a] M) (fun v M' => ji_Ev C 36 43 M' lv (v.toList ++ st) o) := ev_inv (k := 36) rfl cd_6_110 rfl
theorem s36_43 : ji_Ev C 36 43 M (some (.ref a) :: l) st o ↔ ji_Ev C 36 44 M (some (.ref a) :: l) (.ref a :: st) o := ev_go (S := (44, M, (some (.ref a) :: l), (.ref a :: st))) rfl rfl rfl
theorem s36_44 : ji_Ev C 36 44 M lv (.ref a :: st) o ↔ ji_kd M a = some (0, 6) ∧ ji_Ev C 36 47 M lv (.int (ji_gI M a 4) :: st) o := ev_getI (k := 36) rfl fd_6_56 rfl
theorem s36_47 : ji_Ev C 36 47 M lv st o ↔ ji_Ev C 36 49 M lv (.int 60 :: st) o := ev_go (S := (49, M, lv, (.int 60 :: st))) rfl rfl rfl
theorem s36_49 : ji_Ev C 36 49 M lv (.int y :: .int x :: st) o ↔ if x = y then ji_Ev C 36 61 M lv st o else ji_Ev C 36 52 M lv st o := ev_brc (c := .eq) rfl (by decide) rfl
theorem s36_52 : ji_Ev C 36 52 M (some (.ref a) :: l) st o ↔ ji_Ev C 36 53 M (some (.ref a) :: l) (.ref a :: st) o := ev_go (S := (53, M, (some (.ref a) :: l), (.ref a :: st))) rfl rfl rfl
theorem s36_53 : ji_Ev C 36 53 M lv (.ref a :: st) o ↔ ji_kd M a = some (0, 6) ∧ ji_Ev C 36 56 M lv (.int (ji_gI M a 4) :: st) o := ev_getI (k := 36) rfl fd_6_56 rfl
theorem s36_56 : ji_Ev C 36 56 M lv st o ↔ ji_Ev C 36 58 M lv (.int 61 :: st) o := ev_go (S := (58, M, lv, (.int 61 :: st))) rfl rfl rfl
theorem s36_58 : ji_Ev C 36 58 M lv (.int y :: .int x :: st) o ↔ if x = y then ji_Ev C 36 61 M lv st o else ji_Ev C 36 91 M lv st o := ev_brc (c := .ne) rfl (by decide) rfl
theorem s36_61 : ji_Ev C 36 61 M (some (.ref a) :: l) st o ↔ ji_Ev C 36 62 M (some (.ref a) :: l) (.ref a :: st) o := ev_go (S := (62, M, (some (.ref a) :: l), (.ref a :: st))) rfl rfl rfl
theorem s36_62 : ji_Ev C 36 62 M lv (.ref a :: st) o ↔ ji_kd M a = some (0, 6) ∧ ji_Ev C 36 65 M lv (.int (ji_gI M a 4) :: st) o := ev_getI (k := 36) rfl fd_6_56 rfl
theorem s36_65 : ji_Ev C 36 65 M lv st o ↔ ji_Ev C 36 67 M lv (.int 60 :: st) o := ev_go (S := (67, M, lv, (.int 60 :: st))) rfl rfl rfl
theorem s36_67 : ji_Ev C 36 67 M lv (.int y :: .int x :: st) o ↔ if x = y then ji_Ev C 36 70 M lv st o else ji_Ev C 36 75 M lv st o := ev_brc (c := .ne) rfl (by decide) rfl
theorem s36_70 : ji_Ev C 36 70 M lv st o ↔ ji_Ev C 36 72 M lv (.int (-18) :: st) o := ev_go (S := (72, M, lv, (.int (-18) :: st))) rfl rfl rfl
theorem s36_72 : ji_Ev C 36 72 M lv st o ↔ ji_Ev C 36 77 M lv st o := ev_gt rfl (by decide) rfl
theorem s36_75 : ji_Ev C 36 75 M lv st o ↔ ji_Ev C 36 77 M lv (.int (-19) :: st) o := ev_go (S := (77, M, lv, (.int (-19) :: st))) rfl rfl rfl
theorem s36_77 : ji_Ev C 36 77 M lv (.int x :: st) o ↔ 2 < lv.length ∧ ji_Ev C 36 78 M (ji_s1 lv 2 (.int x)) st o := ev_stI rfl rfl rfl
theorem s36_78 : ji_Ev C 36 78 M (some (.ref a) :: l) st o ↔ ji_Ev C 36 79 M (some (.ref a) :: l) (.ref a :: st) o := ev_go (S := (79, M, (some (.ref a) :: l), (.ref a :: st))) rfl rfl rfl
theorem s36_79 : ji_Ev C 36 79 M lv (.ref a :: st) o ↔ (ji_rcb M 6 (.ref a) = true ∧ ji_ok8 st) ∧ ji_evC (C 20 [.ref a] M) (fun v M' => ji_Ev C 36 82 M' lv (v.toList ++ st) o) := ev_inv (k := 36) rfl cd_6_40 rfl
theorem s36_82 : ji_Ev C 36 82 M (some (.ref a) :: l) st o ↔ ji_Ev C 36 83 M (some (.ref a) :: l) (.ref a :: st) o := ev_go (S := (83, M, (some (.ref a) :: l), (.ref a :: st))) rfl rfl rfl
theorem s36_83 : ji_Ev C 36 83 M lv (.ref a :: st) o ↔ (ji_rcb M 6 (.ref a) = true ∧ ji_ok8 st) ∧ ji_evC (C 39 [.ref a] M) (fun v M' => ji_Ev C 36 86 M' lv (v.toList ++ st) o) := ev_inv (k := 36) rfl cd_6_110 rfl
theorem s36_86 : ji_Ev C 36 86 M (some (.ref a) :: l) st o ↔ ji_Ev C 36 87 M (some (.ref a) :: l) (.ref a :: st) o := ev_go (S := (87, M, (some (.ref a) :: l), (.ref a :: st))) rfl rfl rfl
theorem s36_87 : ji_Ev C 36 87 M (l0 :: l1 :: some (.int x) :: l) st o ↔ ji_Ev C 36 88 M (l0 :: l1 :: some (.int x) :: l) (.int x :: st) o := ev_go (S := (88, M, (l0 :: l1 :: some (.int x) :: l), (.int x :: st))) rfl rfl rfl
theorem s36_88 : ji_Ev C 36 88 M lv (p0 :: .ref a :: st) o ↔ (ji_rcb M 6 (.ref a) = true ∧ ji_ok8 st) ∧ ji_evC (C 38 [.ref a, p0] M) (fun v M' => ji_Ev C 36 91 M' lv (v.toList ++ st) o) := ev_inv (k := 36) rfl cd_6_100 rfl
theorem s36_91 : ji_Ev C 36 91 M (some (.ref a) :: l) st o ↔ ji_Ev C 36 92 M (some (.ref a) :: l) (.ref a :: st) o := ev_go (S := (92, M, (some (.ref a) :: l), (.ref a :: st))) rfl rfl rfl
theorem s36_92 : ji_Ev C 36 92 M lv (.ref a :: st) o ↔ ji_kd M a = some (0, 6) ∧ ji_Ev C 36 95 M lv (.int (ji_gI M a 6) :: st) o := ev_getI (k := 36) rfl fd_6_31 rfl
theorem s36_95 : ji_Ev C 36 95 M (l0 :: some (.int x) :: l) st o ↔ ji_Ev C 36 96 M (l0 :: some (.int x) :: l) (.int x :: st) o := ev_go (S := (96, M, (l0 :: some (.int x) :: l), (.int x :: st))) rfl rfl rfl
theorem s36_96 : ji_Ev C 36 96 M lv (.int y :: .int x :: st) o ↔ if y < x then ji_Ev C 36 99 M lv st o else ji_Ev C 36 118 M lv st o := ev_brc (c := .le) rfl (by decide) rfl
theorem s36_99 : ji_Ev C 36 99 M (some (.ref a) :: l) st o ↔ ji_Ev C 36 100 M (some (.ref a) :: l) (.ref a :: st) o := ev_go (S := (100, M, (some (.ref a) :: l), (.ref a :: st))) rfl rfl rfl
theorem s36_100 : ji_Ev C 36 100 M lv st o ↔ ji_Ev C 36 102 M lv (.int (-13) :: st) o := ev_go (S := (102, M, lv, (.int (-13) :: st))) rfl rfl rfl
theorem s36_102 : ji_Ev C 36 102 M lv (p0 :: .ref a :: st) o ↔ (ji_rcb M 6 (.ref a) = true ∧ ji_ok8 st) ∧ ji_evC (C 38 [.ref a, p0] M) (fun v M' => ji_Ev C 36 105 M' lv (v.toList ++ st) o) := ev_inv (k := 36) rfl cd_6_100 rfl
theorem s36_105 : ji_Ev C 36 105 M (some (.ref a) :: l) st o ↔ ji_Ev C 36 106 M (some (.ref a) :: l) (.ref a :: st) o := ev_go (S := (106, M, (some (.ref a) :: l), (.ref a :: st))) rfl rfl rfl
theorem s36_106 : ji_Ev C 36 106 M lv (.int x :: st) o ↔ ji_Ev C 36 107 M lv (.int x :: .int x :: st) o := ev_go (S := (107, M, lv, (.int x :: .int x :: st))) rfl rfl rfl
theorem s36_106r : ji_Ev C 36 106 M lv (.ref a :: st) o ↔ ji_Ev C 36 107 M lv (.ref a :: .ref a :: st) o := ev_go (S := (107, M, lv, (.ref a :: .ref a :: st))) rfl rfl rfl
theorem s36_107 : ji_Ev C 36 107 M lv (.ref a :: st) o ↔ ji_kd M a = some (0, 6) ∧ ji_Ev C 36 110 M lv (.int (ji_gI M a 6) :: st) o := ev_getI (k := 36) rfl fd_6_31 rfl
theorem s36_110 : ji_Ev C 36 110 M lv st o ↔ ji_Ev C 36 111 M lv (.int 1 :: st) o := ev_go (S := (111, M, lv, (.int 1 :: st))) rfl rfl rfl
theorem s36_111 : ji_Ev C 36 111 M lv (.int y :: .int x :: st) o ↔ ji_Ev C 36 112 M lv (.int (x - y) :: st) o := ev_go (S := (112, M, lv, (.int (x - y) :: st))) rfl rfl rfl
theorem s36_112 : ji_Ev C 36 112 M lv (.int x :: .ref a :: st) o ↔ ji_kd M a = some (0, 6) ∧ ji_Ev C 36 115 (ji_sI M a 6 x) lv st o := ev_putI (k := 36) rfl fd_6_31 rfl (by decide)
theorem s36_115 : ji_Ev C 36 115 M lv st o ↔ ji_Ev C 36 91 M lv st o := ev_gt rfl (by decide) rfl
theorem s36_118 : ji_Ev C 36 118 M lv [] o ↔ o = (none, M) := ev_vret rfl rfl
theorem s37_0 : ji_Ev C 37 0 M (some (.ref a) :: l) st o ↔ ji_Ev C 37 1 M (some (.ref a) :: l) (.ref a :: st) o := ev_go (S := (1, M, (some (.ref a) :: l), (.ref a :: st))) rfl rfl rfl
theorem s37_1 : ji_Ev C 37 1 M lv (.ref a :: st) o ↔ ji_kd M a = some (0, 6) ∧ ji_Ev C 37 4 M lv (.int (ji_gI M a 6) :: st) o := ev_getI (k := 37) rfl fd_6_31 rfl
theorem s37_4 : ji_Ev C 37 4 M lv st o ↔ ji_Ev C 37 5 M lv (.int 5 :: st) o := ev_go (S := (5, M, lv, (.int 5 :: st))) rfl rfl rfl
theorem s37_5 : ji_Ev C 37 5 M lv (.int y :: .int x :: st) o ↔ if x < y then ji_Ev C 37 14 M lv st o else ji_Ev C 37 8 M lv st o := ev_brc (c := .lt) rfl (by decide) rfl
theorem s37_8 : ji_Ev C 37 8 M (some (.ref a) :: l) st o ↔ ji_Ev C 37 9 M (some (.ref a) :: l) (.ref a :: st) o := ev_go (S := (9, M, (some (.ref a) :: l), (.ref a :: st))) rfl rfl rfl
theorem s37_9 : ji_Ev C 37 9 M lv (.ref a :: st) o ↔ (ji_rcb M 6 (.ref a) = true ∧ ji_ok8 st) ∧ ji_evC (C 33 [.ref a] M) (fun v M' => ji_Ev C 37 12 M' lv (v.toList ++ st) o) := ev_inv (k := 37) rfl cd_6_94 rfl
theorem s37_12 : ji_Ev C 37 12 M lv st o ↔ ji_Ev C 37 13 M lv (.int 0 :: st) o := ev_go (S := (13, M, lv, (.int 0 :: st))) rfl rfl rfl
theorem s37_13 : ji_Ev C 37 13 M lv [.int x] o ↔ narrow .boolean (.int x) = .int x ∧ o = (some (.int x), M) := ev_iretb rfl rfl
theorem s37_14 : ji_Ev C 37 14 M (some (.ref a) :: l) st o ↔ ji_Ev C 37 15 M (some (.ref a) :: l) (.ref a :: st) o := ev_go (S := (15, M, (some (.ref a) :: l), (.ref a :: st))) rfl rfl rfl
theorem s37_15 : ji_Ev C 37 15 M lv (.int x :: st) o ↔ ji_Ev C 37 16 M lv (.int x :: .int x :: st) o := ev_go (S := (16, M, lv, (.int x :: .int x :: st))) rfl rfl rfl
theorem s37_15r : ji_Ev C 37 15 M lv (.ref a :: st) o ↔ ji_Ev C 37 16 M lv (.ref a :: .ref a :: st) o := ev_go (S := (16, M, lv, (.ref a :: .ref a :: st))) rfl rfl rfl
theorem s37_16 : ji_Ev C 37 16 M lv (.ref a :: st) o ↔ ji_kd M a = some (0, 6) ∧ ji_Ev C 37 19 M lv (.int (ji_gI M a 6) :: st) o := ev_getI (k := 37) rfl fd_6_31 rfl
theorem s37_19 : ji_Ev C 37 19 M lv st o ↔ ji_Ev C 37 20 M lv (.int 1 :: st) o := ev_go (S := (20, M, lv, (.int 1 :: st))) rfl rfl rfl
theorem s37_20 : ji_Ev C 37 20 M lv (.int y :: .int x :: st) o ↔ ji_Ev C 37 21 M lv (.int (x + y) :: st) o := ev_go (S := (21, M, lv, (.int (x + y) :: st))) rfl rfl rfl
theorem s37_21 : ji_Ev C 37 21 M lv (.int x :: .ref a :: st) o ↔ ji_kd M a = some (0, 6) ∧ ji_Ev C 37 24 (ji_sI M a 6 x) lv st o := ev_putI (k := 37) rfl fd_6_31 rfl (by decide)
theorem s37_24 : ji_Ev C 37 24 M lv st o ↔ ji_Ev C 37 25 M lv (.int 1 :: st) o := ev_go (S := (25, M, lv, (.int 1 :: st))) rfl rfl rfl
theorem s37_25 : ji_Ev C 37 25 M lv [.int x] o ↔ narrow .boolean (.int x) = .int x ∧ o = (some (.int x), M) := ev_iretb rfl rfl
theorem s38_0 : ji_Ev C 38 0 M (some (.ref a) :: l) st o ↔ ji_Ev C 38 1 M (some (.ref a) :: l) (.ref a :: st) o := ev_go (S := (1, M, (some (.ref a) :: l), (.ref a :: st))) rfl rfl rfl
theorem s38_1 : ji_Ev C 38 1 M lv (.ref a :: st) o ↔ ji_kd M a = some (0, 6) ∧ ji_Ev C 38 4 M lv (.int (ji_gI M a 9) :: st) o := ev_getI (k := 38) rfl fd_6_34 rfl
theorem s38_4 : ji_Ev C 38 4 M (some (.ref a) :: l) st o ↔ ji_Ev C 38 5 M (some (.ref a) :: l) (.ref a :: st) o := ev_go (S := (5, M, (some (.ref a) :: l), (.ref a :: st))) rfl rfl rfl
theorem s38_5 : ji_Ev C 38 5 M lv (.ref a :: st) o ↔ ji_kd M a = some (0, 6) ∧ ji_Ev C 38 8 M lv (ji_rv (ji_gR M a 8) :: st) o := ev_getR (k := 38) rfl fd_6_15 rfl
theorem s38_8 : ji_Ev C 38 8 M lv (.ref a :: st) o ↔ ji_evN (ji_kd M a) (fun n => ji_Ev C 38 9 M lv (.int (Int32.ofNat n) :: st) o) := ev_alen rfl
theorem s38_9 : ji_Ev C 38 9 M lv (.int y :: .int x :: st) o ↔ if x < y then ji_Ev C 38 12 M lv st o else ji_Ev C 38 32 M lv st o := ev_brc (c := .ge) rfl (by decide) rfl
theorem s38_12 : ji_Ev C 38 12 M (some (.ref a) :: l) st o ↔ ji_Ev C 38 13 M (some (.ref a) :: l) (.ref a :: st) o := ev_go (S := (13, M, (some (.ref a) :: l), (.ref a :: st))) rfl rfl rfl
theorem s38_13 : ji_Ev C 38 13 M lv (.ref a :: st) o ↔ ji_kd M a = some (0, 6) ∧ ji_Ev C 38 16 M lv (ji_rv (ji_gR M a 8) :: st) o := ev_getR (k := 38) rfl fd_6_15 rfl
theorem s38_16 : ji_Ev C 38 16 M (some (.ref a) :: l) st o ↔ ji_Ev C 38 17 M (some (.ref a) :: l) (.ref a :: st) o := ev_go (S := (17, M, (some (.ref a) :: l), (.ref a :: st))) rfl rfl rfl
theorem s38_17 : ji_Ev C 38 17 M lv (.ref a :: st) o ↔ ji_kd M a = some (0, 6) ∧ ji_Ev C 38 20 M lv (.int (ji_gI M a 9) :: st) o := ev_getI (k := 38) rfl fd_6_34 rfl
theorem s38_20 : ji_Ev C 38 20 M (l0 :: some (.int x) :: l) st o ↔ ji_Ev C 38 21 M (l0 :: some (.int x) :: l) (.int x :: st) o := ev_go (S := (21, M, (l0 :: some (.int x) :: l), (.int x :: st))) rfl rfl rfl
theorem s38_21 : ji_Ev C 38 21 M lv (.int y :: .int x :: .ref a :: st) o ↔ ji_evA (ji_kd M a) (fun n => vp_in x n ∧ ji_Ev C 38 22 (ji_sI M a x.toNatClampNeg y) lv st o) := ev_iast rfl
theorem s38_22 : ji_Ev C 38 22 M (some (.ref a) :: l) st o ↔ ji_Ev C 38 23 M (some (.ref a) :: l) (.ref a :: st) o := ev_go (S := (23, M, (some (.ref a) :: l), (.ref a :: st))) rfl rfl rfl
theorem s38_23 : ji_Ev C 38 23 M lv (.int x :: st) o ↔ ji_Ev C 38 24 M lv (.int x :: .int x :: st) o := ev_go (S := (24, M, lv, (.int x :: .int x :: st))) rfl rfl rfl
theorem s38_23r : ji_Ev C 38 23 M lv (.ref a :: st) o ↔ ji_Ev C 38 24 M lv (.ref a :: .ref a :: st) o := ev_go (S := (24, M, lv, (.ref a :: .ref a :: st))) rfl rfl rfl
theorem s38_24 : ji_Ev C 38 24 M lv (.ref a :: st) o ↔ ji_kd M a = some (0, 6) ∧ ji_Ev C 38 27 M lv (.int (ji_gI M a 9) :: st) o := ev_getI (k := 38) rfl fd_6_34 rfl
theorem s38_27 : ji_Ev C 38 27 M lv st o ↔ ji_Ev C 38 28 M lv (.int 1 :: st) o := ev_go (S := (28, M, lv, (.int 1 :: st))) rfl rfl rfl
theorem s38_28 : ji_Ev C 38 28 M lv (.int y :: .int x :: st) o ↔ ji_Ev C 38 29 M lv (.int (x + y) :: st) o := ev_go (S := (29, M, lv, (.int (x + y) :: st))) rfl rfl rfl
theorem s38_29 : ji_Ev C 38 29 M lv (.int x :: .ref a :: st) o ↔ ji_kd M a = some (0, 6) ∧ ji_Ev C 38 32 (ji_sI M a 9 x) lv st o := ev_putI (k := 38) rfl fd_6_34 rfl (by decide)
theorem s38_32 : ji_Ev C 38 32 M lv [] o ↔ o = (none, M) := ev_vret rfl rfl
theorem s39_0 : ji_Ev C 39 0 M (some (.ref a) :: l) st o ↔ ji_Ev C 39 1 M (some (.ref a) :: l) (.ref a :: st) o := ev_go (S := (1, M, (some (.ref a) :: l), (.ref a :: st))) rfl rfl rfl
theorem s39_1 : ji_Ev C 39 1 M lv (.ref a :: st) o ↔ (ji_rcb M 6 (.ref a) = true ∧ ji_ok8 st) ∧ ji_evC (C 40 [.ref a] M) (fun v M' => ji_Ev C 39 4 M' lv (v.toList ++ st) o) := ev_inv (k := 39) rfl cd_6_113 rfl
theorem s39_4 : ji_Ev C 39 4 M lv st o ↔ ji_Ev C 39 5 M lv (.int 0 :: st) o := ev_go (S := (5, M, lv, (.int 0 :: st))) rfl rfl rfl
theorem s39_5 : ji_Ev C 39 5 M lv (.int x :: st) o ↔ 1 < lv.length ∧ ji_Ev C 39 6 M (ji_s1 lv 1 (.int x)) st o := ev_stI rfl rfl rfl
theorem s39_6 : ji_Ev C 39 6 M (l0 :: some (.int x) :: l) st o ↔ ji_Ev C 39 7 M (l0 :: some (.int x) :: l) (.int x :: st) o := ev_go (S := (7, M, (l0 :: some (.int x) :: l), (.int x :: st))) rfl rfl rfl
theorem s39_7 : ji_Ev C 39 7 M lv st o ↔ ji_Ev C 39 10 M lv (.int 160 :: st) o := ev_go (S := (10, M, lv, (.int 160 :: st))) rfl rfl rfl
theorem s39_10 : ji_Ev C 39 10 M lv (.int y :: .int x :: st) o ↔ if x < y then ji_Ev C 39 13 M lv st o else ji_Ev C 39 67 M lv st o := ev_brc (c := .ge) rfl (by decide) rfl
theorem s39_13 : ji_Ev C 39 13 M (some (.ref a) :: l) st o ↔ ji_Ev C 39 14 M (some (.ref a) :: l) (.ref a :: st) o := ev_go (S := (14, M, (some (.ref a) :: l), (.ref a :: st))) rfl rfl rfl
theorem s39_14 : ji_Ev C 39 14 M lv (.ref a :: st) o ↔ ji_kd M a = some (0, 6) ∧ ji_Ev C 39 17 M lv (.int (ji_gI M a 4) :: st) o := ev_getI (k := 39) rfl fd_6_56 rfl
theorem s39_17 : ji_Ev C 39 17 M lv st o ↔ ji_Ev C 39 19 M lv (.int 43 :: st) o := ev_go (S := (19, M, lv, (.int 43 :: st))) rfl rfl rfl
theorem s39_19 : ji_Ev C 39 19 M lv (.int y :: .int x :: st) o ↔ if x = y then ji_Ev C 39 31 M lv st o else ji_Ev C 39 22 M lv st o := ev_brc (c := .eq) rfl (by decide) rfl
theorem s39_22 : ji_Ev C 39 22 M (some (.ref a) :: l) st o ↔ ji_Ev C 39 23 M (some (.ref a) :: l) (.ref a :: st) o := ev_go (S := (23, M, (some (.ref a) :: l), (.ref a :: st))) rfl rfl rfl
theorem s39_23 : ji_Ev C 39 23 M lv (.ref a :: st) o ↔ ji_kd M a = some (0, 6) ∧ ji_Ev C 39 26 M lv (.int (ji_gI M a 4) :: st) o := ev_getI (k := 39) rfl fd_6_56 rfl
theorem s39_26 : ji_Ev C 39 26 M lv st o ↔ ji_Ev C 39 28 M lv (.int 45 :: st) o := ev_go (S := (28, M, lv, (.int 45 :: st))) rfl rfl rfl
theorem s39_28 : ji_Ev C 39 28 M lv (.int y :: .int x :: st) o ↔ if x = y then ji_Ev C 39 31 M lv st o else ji_Ev C 39 67 M lv st o := ev_brc (c := .ne) rfl (by decide) rfl
theorem s39_31 : ji_Ev C 39 31 M (some (.ref a) :: l) st o ↔ ji_Ev C 39 32 M (some (.ref a) :: l) (.ref a :: st) o := ev_go (S := (32, M, (some (.ref a) :: l), (.ref a :: st))) rfl rfl rfl
theorem s39_32 : ji_Ev C 39 32 M lv (.ref a :: st) o ↔ ji_kd M a = some (0, 6) ∧ ji_Ev C 39 35 M lv (.int (ji_gI M a 4) :: st) o := ev_getI (k := 39) rfl fd_6_56 rfl
theorem s39_35 : ji_Ev C 39 35 M lv st o ↔ ji_Ev C 39 37 M lv (.int 43 :: st) o := ev_go (S := (37, M, lv, (.int 43 :: st))) rfl rfl rfl
theorem s39_37 : ji_Ev C 39 37 M lv (.int y :: .int x :: st) o ↔ if x = y then ji_Ev C 39 40 M lv st o else ji_Ev C 39 45 M lv st o := ev_brc (c := .ne) rfl (by decide) rfl
theorem s39_40 : ji_Ev C 39 40 M lv st o ↔ ji_Ev C 39 42 M lv (.int (-15) :: st) o := ev_go (S := (42, M, lv, (.int (-15) :: st))) rfl rfl rfl
theorem s39_42 : ji_Ev C 39 42 M lv st o ↔ ji_Ev C 39 47 M lv st o := ev_gt rfl (by decide) rfl
theorem s39_45 : ji_Ev C 39 45 M lv st o ↔ ji_Ev C 39 47 M lv (.int (-16) :: st) o := ev_go (S := (47, M, lv, (.int (-16) :: st))) rfl rfl rfl
theorem s39_47 : ji_Ev C 39 47 M lv (.int x :: st) o ↔ 2 < lv.length ∧ ji_Ev C 39 48 M (ji_s1 lv 2 (.int x)) st o := ev_stI rfl rfl rfl
theorem s39_48 : ji_Ev C 39 48 M (some (.ref a) :: l) st o ↔ ji_Ev C 39 49 M (some (.ref a) :: l) (.ref a :: st) o := ev_go (S := (49, M, (some (.ref a) :: l), (.ref a :: st))) rfl rfl rfl
theorem s39_49 : ji_Ev C 39 49 M lv (.ref a :: st) o ↔ (ji_rcb M 6 (.ref a) = true ∧ ji_ok8 st) ∧ ji_evC (C 20 [.ref a] M) (fun v M' => ji_Ev C 39 52 M' lv (v.toList ++ st) o) := ev_inv (k := 39) rfl cd_6_40 rfl
theorem s39_52 : ji_Ev C 39 52 M (some (.ref a) :: l) st o ↔ ji_Ev C 39 53 M (some (.ref a) :: l) (.ref a :: st) o := ev_go (S := (53, M, (some (.ref a) :: l), (.ref a :: st))) rfl rfl rfl
theorem s39_53 : ji_Ev C 39 53 M lv (.ref a :: st) o ↔ (ji_rcb M 6 (.ref a) = true ∧ ji_ok8 st) ∧ ji_evC (C 40 [.ref a] M) (fun v M' => ji_Ev C 39 56 M' lv (v.toList ++ st) o) := ev_inv (k := 39) rfl cd_6_113 rfl
theorem s39_56 : ji_Ev C 39 56 M (some (.ref a) :: l) st o ↔ ji_Ev C 39 57 M (some (.ref a) :: l) (.ref a :: st) o := ev_go (S := (57, M, (some (.ref a) :: l), (.ref a :: st))) rfl rfl rfl
theorem s39_57 : ji_Ev C 39 57 M (l0 :: l1 :: some (.int x) :: l) st o ↔ ji_Ev C 39 58 M (l0 :: l1 :: some (.int x) :: l) (.int x :: st) o := ev_go (S := (58, M, (l0 :: l1 :: some (.int x) :: l), (.int x :: st))) rfl rfl rfl
theorem s39_58 : ji_Ev C 39 58 M lv (p0 :: .ref a :: st) o ↔ (ji_rcb M 6 (.ref a) = true ∧ ji_ok8 st) ∧ ji_evC (C 38 [.ref a, p0] M) (fun v M' => ji_Ev C 39 61 M' lv (v.toList ++ st) o) := ev_inv (k := 39) rfl cd_6_100 rfl
theorem s39_61 : ji_Ev C 39 61 M lv st o ↔ ji_evL (lv.getD 1 none) ji_isI (fun v => match v with | .int x => 1 < lv.length ∧ ji_Ev C 39 64 M (ji_s1 lv 1 (.int (x + Int32.ofInt 1))) st o | _ => False) := ev_iinc rfl
theorem s39_64 : ji_Ev C 39 64 M lv st o ↔ ji_Ev C 39 6 M lv st o := ev_gt rfl (by decide) rfl
theorem s39_67 : ji_Ev C 39 67 M lv [] o ↔ o = (none, M) := ev_vret rfl rfl
theorem s40_0 : ji_Ev C 40 0 M (some (.ref a) :: l) st o ↔ ji_Ev C 40 1 M (some (.ref a) :: l) (.ref a :: st) o := ev_go (S := (1, M, (some (.ref a) :: l), (.ref a :: st))) rfl rfl rfl
theorem s40_1 : ji_Ev C 40 1 M lv (.ref a :: st) o ↔ (ji_rcb M 6 (.ref a) = true ∧ ji_ok8 st) ∧ ji_evC (C 41 [.ref a] M) (fun v M' => ji_Ev C 40 4 M' lv (v.toList ++ st) o) := ev_inv (k := 40) rfl cd_6_116 rfl
theorem s40_4 : ji_Ev C 40 4 M lv st o ↔ ji_Ev C 40 5 M lv (.int 0 :: st) o := ev_go (S := (5, M, lv, (.int 0 :: st))) rfl rfl rfl
theorem s40_5 : ji_Ev C 40 5 M lv (.int x :: st) o ↔ 1 < lv.length ∧ ji_Ev C 40 6 M (ji_s1 lv 1 (.int x)) st o := ev_stI rfl rfl rfl
theorem s40_6 : ji_Ev C 40 6 M (l0 :: some (.int x) :: l) st o ↔ ji_Ev C 40 7 M (l0 :: some (.int x) :: l) (.int x :: st) o := ev_go (S := (7, M, (l0 :: some (.int x) :: l), (.int x :: st))) rfl rfl rfl
theorem s40_7 : ji_Ev C 40 7 M lv st o ↔ ji_Ev C 40 10 M lv (.int 160 :: st) o := ev_go (S := (10, M, lv, (.int 160 :: st))) rfl rfl rfl
theorem s40_10 : ji_Ev C 40 10 M lv (.int y :: .int x :: st) o ↔ if x < y then ji_Ev C 40 13 M lv st o else ji_Ev C 40 42 M lv st o := ev_brc (c := .ge) rfl (by decide) rfl
theorem s40_13 : ji_Ev C 40 13 M (some (.ref a) :: l) st o ↔ ji_Ev C 40 14 M (some (.ref a) :: l) (.ref a :: st) o := ev_go (S := (14, M, (some (.ref a) :: l), (.ref a :: st))) rfl rfl rfl
theorem s40_14 : ji_Ev C 40 14 M lv (.ref a :: st) o ↔ ji_kd M a = some (0, 6) ∧ ji_Ev C 40 17 M lv (.int (ji_gI M a 4) :: st) o := ev_getI (k := 40) rfl fd_6_56 rfl
theorem s40_17 : ji_Ev C 40 17 M lv st o ↔ ji_Ev C 40 19 M lv (.int 42 :: st) o := ev_go (S := (19, M, lv, (.int 42 :: st))) rfl rfl rfl
theorem s40_19 : ji_Ev C 40 19 M lv (.int y :: .int x :: st) o ↔ if x = y then ji_Ev C 40 22 M lv st o else ji_Ev C 40 42 M lv st o := ev_brc (c := .ne) rfl (by decide) rfl
theorem s40_22 : ji_Ev C 40 22 M (some (.ref a) :: l) st o ↔ ji_Ev C 40 23 M (some (.ref a) :: l) (.ref a :: st) o := ev_go (S := (23, M, (some (.ref a) :: l), (.ref a :: st))) rfl rfl rfl
theorem s40_23 : ji_Ev C 40 23 M lv (.ref a :: st) o ↔ (ji_rcb M 6 (.ref a) = true ∧ ji_ok8 st) ∧ ji_evC (C 20 [.ref a] M) (fun v M' => ji_Ev C 40 26 M' lv (v.toList ++ st) o) := ev_inv (k := 40) rfl cd_6_40 rfl
theorem s40_26 : ji_Ev C 40 26 M (some (.ref a) :: l) st o ↔ ji_Ev C 40 27 M (some (.ref a) :: l) (.ref a :: st) o := ev_go (S := (27, M, (some (.ref a) :: l), (.ref a :: st))) rfl rfl rfl
theorem s40_27 : ji_Ev C 40 27 M lv (.ref a :: st) o ↔ (ji_rcb M 6 (.ref a) = true ∧ ji_ok8 st) ∧ ji_evC (C 41 [.ref a] M) (fun v M' => ji_Ev C 40 30 M' lv (v.toList ++ st) o) := ev_inv (k := 40) rfl cd_6_116 rfl
theorem s40_30 : ji_Ev C 40 30 M (some (.ref a) :: l) st o ↔ ji_Ev C 40 31 M (some (.ref a) :: l) (.ref a :: st) o := ev_go (S := (31, M, (some (.ref a) :: l), (.ref a :: st))) rfl rfl rfl
theorem s40_31 : ji_Ev C 40 31 M lv st o ↔ ji_Ev C 40 33 M lv (.int (-17) :: st) o := ev_go (S := (33, M, lv, (.int (-17) :: st))) rfl rfl rfl
theorem s40_33 : ji_Ev C 40 33 M lv (p0 :: .ref a :: st) o ↔ (ji_rcb M 6 (.ref a) = true ∧ ji_ok8 st) ∧ ji_evC (C 38 [.ref a, p0] M) (fun v M' => ji_Ev C 40 36 M' lv (v.toList ++ st) o) := ev_inv (k := 40) rfl cd_6_100 rfl
theorem s40_36 : ji_Ev C 40 36 M lv st o ↔ ji_evL (lv.getD 1 none) ji_isI (fun v => match v with | .int x => 1 < lv.length ∧ ji_Ev C 40 39 M (ji_s1 lv 1 (.int (x + Int32.ofInt 1))) st o | _ => False) := ev_iinc rfl
theorem s40_39 : ji_Ev C 40 39 M lv st o ↔ ji_Ev C 40 6 M lv st o := ev_gt rfl (by decide) rfl
theorem s40_42 : ji_Ev C 40 42 M lv [] o ↔ o = (none, M) := ev_vret rfl rfl
theorem s41_0 : ji_Ev C 41 0 M (some (.ref a) :: l) st o ↔ ji_Ev C 41 1 M (some (.ref a) :: l) (.ref a :: st) o := ev_go (S := (1, M, (some (.ref a) :: l), (.ref a :: st))) rfl rfl rfl
theorem s41_1 : ji_Ev C 41 1 M lv (.ref a :: st) o ↔ ji_kd M a = some (0, 6) ∧ ji_Ev C 41 4 M lv (.int (ji_gI M a 6) :: st) o := ev_getI (k := 41) rfl fd_6_31 rfl
theorem s41_4 : ji_Ev C 41 4 M lv (.int x :: st) o ↔ 1 < lv.length ∧ ji_Ev C 41 5 M (ji_s1 lv 1 (.int x)) st o := ev_stI rfl rfl rfl
theorem s41_5 : ji_Ev C 41 5 M lv st o ↔ ji_Ev C 41 6 M lv (.int 0 :: st) o := ev_go (S := (6, M, lv, (.int 0 :: st))) rfl rfl rfl
theorem s41_6 : ji_Ev C 41 6 M lv (.int x :: st) o ↔ 2 < lv.length ∧ ji_Ev C 41 7 M (ji_s1 lv 2 (.int x)) st o := ev_stI rfl rfl rfl
theorem s41_7 : ji_Ev C 41 7 M (l0 :: l1 :: some (.int x) :: l) st o ↔ ji_Ev C 41 8 M (l0 :: l1 :: some (.int x) :: l) (.int x :: st) o := ev_go (S := (8, M, (l0 :: l1 :: some (.int x) :: l), (.int x :: st))) rfl rfl rfl
theorem s41_8 : ji_Ev C 41 8 M lv st o ↔ ji_Ev C 41 9 M lv (.int 5 :: st) o := ev_go (S := (9, M, lv, (.int 5 :: st))) rfl rfl rfl
theorem s41_9 : ji_Ev C 41 9 M lv (.int y :: .int x :: st) o ↔ if y < x then ji_Ev C 41 38 M lv st o else ji_Ev C 41 12 M lv st o := ev_brc (c := .gt) rfl (by decide) rfl
theorem s41_12 : ji_Ev C 41 12 M (some (.ref a) :: l) st o ↔ ji_Ev C 41 13 M (some (.ref a) :: l) (.ref a :: st) o := ev_go (S := (13, M, (some (.ref a) :: l), (.ref a :: st))) rfl rfl rfl
theorem s41_13 : ji_Ev C 41 13 M lv (.ref a :: st) o ↔ ji_kd M a = some (0, 6) ∧ ji_Ev C 41 16 M lv (.int (ji_gI M a 4) :: st) o := ev_getI (k := 41) rfl fd_6_56 rfl
theorem s41_16 : ji_Ev C 41 16 M lv st o ↔ ji_Ev C 41 18 M lv (.int 45 :: st) o := ev_go (S := (18, M, lv, (.int 45 :: st))) rfl rfl rfl
theorem s41_18 : ji_Ev C 41 18 M lv (.int y :: .int x :: st) o ↔ if x = y then ji_Ev C 41 21 M lv st o else ji_Ev C 41 38 M lv st o := ev_brc (c := .ne) rfl (by decide) rfl
theorem s41_21 : ji_Ev C 41 21 M (some (.ref a) :: l) st o ↔ ji_Ev C 41 22 M (some (.ref a) :: l) (.ref a :: st) o := ev_go (S := (22, M, (some (.ref a) :: l), (.ref a :: st))) rfl rfl rfl
theorem s41_22 : ji_Ev C 41 22 M lv (.ref a :: st) o ↔ (ji_rcb M 6 (.ref a) = true ∧ ji_ok8 st) ∧ ji_evC (C 37 [.ref a] M) (fun v M' => ji_Ev C 41 25 M' lv (v.toList ++ st) o) := ev_inv (k := 41) rfl cd_6_106 rfl
theorem s41_25 : ji_Ev C 41 25 M lv (.int x :: st) o ↔ if x = 0 then ji_Ev C 41 38 M lv st o else ji_Ev C 41 28 M lv st o := ev_brz (c := .eq) rfl (by decide) rfl
theorem s41_28 : ji_Ev C 41 28 M (some (.ref a) :: l) st o ↔ ji_Ev C 41 29 M (some (.ref a) :: l) (.ref a :: st) o := ev_go (S := (29, M, (some (.ref a) :: l), (.ref a :: st))) rfl rfl rfl
theorem s41_29 : ji_Ev C 41 29 M lv (.ref a :: st) o ↔ (ji_rcb M 6 (.ref a) = true ∧ ji_ok8 st) ∧ ji_evC (C 20 [.ref a] M) (fun v M' => ji_Ev C 41 32 M' lv (v.toList ++ st) o) := ev_inv (k := 41) rfl cd_6_40 rfl
theorem s41_32 : ji_Ev C 41 32 M lv st o ↔ ji_evL (lv.getD 2 none) ji_isI (fun v => match v with | .int x => 2 < lv.length ∧ ji_Ev C 41 35 M (ji_s1 lv 2 (.int (x + Int32.ofInt 1))) st o | _ => False) := ev_iinc rfl
theorem s41_35 : ji_Ev C 41 35 M lv st o ↔ ji_Ev C 41 7 M lv st o := ev_gt rfl (by decide) rfl
theorem s41_38 : ji_Ev C 41 38 M (some (.ref a) :: l) st o ↔ ji_Ev C 41 39 M (some (.ref a) :: l) (.ref a :: st) o := ev_go (S := (39, M, (some (.ref a) :: l), (.ref a :: st))) rfl rfl rfl
theorem s41_39 : ji_Ev C 41 39 M lv (.ref a :: st) o ↔ ji_kd M a = some (0, 6) ∧ ji_Ev C 41 42 M lv (.int (ji_gI M a 4) :: st) o := ev_getI (k := 41) rfl fd_6_56 rfl
theorem s41_42 : ji_Ev C 41 42 M lv (.int x :: st) o ↔ if x = 40 then ji_Ev C 41 108 M lv st o else if x = 1002 then ji_Ev C 41 76 M lv st o else if x = 1003 then ji_Ev C 41 91 M lv st o else ji_Ev C 41 142 M lv st o := by
  refine (ev_swL rfl (by decide)).trans ?_
  show ji_Ev C 41 ((42 : Int) + (if x = 40 then 66 else if x = 1002 then 34 else if x = 1003 then 49 else 100)).toNat M lv st o ↔ _
  by_cases h0 : x = 40
  · rw [if_pos h0, if_pos h0]; exact Iff.rfl
  rw [if_neg h0, if_neg h0]
  by_cases h1 : x = 1002
  · rw [if_pos h1, if_pos h1]; exact Iff.rfl
  rw [if_neg h1, if_neg h1]
  by_cases h2 : x = 1003
  · rw [if_pos h2, if_pos h2]; exact Iff.rfl
  rw [if_neg h2, if_neg h2]
  exact Iff.rfl
theorem s41_76 : ji_Ev C 41 76 M (some (.ref a) :: l) st o ↔ ji_Ev C 41 77 M (some (.ref a) :: l) (.ref a :: st) o := ev_go (S := (77, M, (some (.ref a) :: l), (.ref a :: st))) rfl rfl rfl
theorem s41_77 : ji_Ev C 41 77 M (some (.ref a) :: l) st o ↔ ji_Ev C 41 78 M (some (.ref a) :: l) (.ref a :: st) o := ev_go (S := (78, M, (some (.ref a) :: l), (.ref a :: st))) rfl rfl rfl
theorem s41_78 : ji_Ev C 41 78 M lv (.ref a :: st) o ↔ ji_kd M a = some (0, 6) ∧ ji_Ev C 41 81 M lv (.int (ji_gI M a 5) :: st) o := ev_getI (k := 41) rfl fd_6_82 rfl
theorem s41_81 : ji_Ev C 41 81 M lv (p0 :: .ref a :: st) o ↔ (ji_rcb M 6 (.ref a) = true ∧ ji_ok8 st) ∧ ji_evC (C 38 [.ref a, p0] M) (fun v M' => ji_Ev C 41 84 M' lv (v.toList ++ st) o) := ev_inv (k := 41) rfl cd_6_100 rfl
theorem s41_84 : ji_Ev C 41 84 M (some (.ref a) :: l) st o ↔ ji_Ev C 41 85 M (some (.ref a) :: l) (.ref a :: st) o := ev_go (S := (85, M, (some (.ref a) :: l), (.ref a :: st))) rfl rfl rfl
theorem s41_85 : ji_Ev C 41 85 M lv (.ref a :: st) o ↔ (ji_rcb M 6 (.ref a) = true ∧ ji_ok8 st) ∧ ji_evC (C 20 [.ref a] M) (fun v M' => ji_Ev C 41 88 M' lv (v.toList ++ st) o) := ev_inv (k := 41) rfl cd_6_40 rfl
theorem s41_88 : ji_Ev C 41 88 M lv st o ↔ ji_Ev C 41 146 M lv st o := ev_gt rfl (by decide) rfl
theorem s41_91 : ji_Ev C 41 91 M (some (.ref a) :: l) st o ↔ ji_Ev C 41 92 M (some (.ref a) :: l) (.ref a :: st) o := ev_go (S := (92, M, (some (.ref a) :: l), (.ref a :: st))) rfl rfl rfl
theorem s41_92 : ji_Ev C 41 92 M lv st o ↔ ji_Ev C 41 93 M lv (.int (-1) :: st) o := ev_go (S := (93, M, lv, (.int (-1) :: st))) rfl rfl rfl
theorem s41_93 : ji_Ev C 41 93 M (some (.ref a) :: l) st o ↔ ji_Ev C 41 94 M (some (.ref a) :: l) (.ref a :: st) o := ev_go (S := (94, M, (some (.ref a) :: l), (.ref a :: st))) rfl rfl rfl
theorem s41_94 : ji_Ev C 41 94 M lv (.ref a :: st) o ↔ ji_kd M a = some (0, 6) ∧ ji_Ev C 41 97 M lv (.int (ji_gI M a 5) :: st) o := ev_getI (k := 41) rfl fd_6_82 rfl
theorem s41_97 : ji_Ev C 41 97 M lv (.int y :: .int x :: st) o ↔ ji_Ev C 41 98 M lv (.int (x - y) :: st) o := ev_go (S := (98, M, lv, (.int (x - y) :: st))) rfl rfl rfl
theorem s41_98 : ji_Ev C 41 98 M lv (p0 :: .ref a :: st) o ↔ (ji_rcb M 6 (.ref a) = true ∧ ji_ok8 st) ∧ ji_evC (C 38 [.ref a, p0] M) (fun v M' => ji_Ev C 41 101 M' lv (v.toList ++ st) o) := ev_inv (k := 41) rfl cd_6_100 rfl
theorem s41_101 : ji_Ev C 41 101 M (some (.ref a) :: l) st o ↔ ji_Ev C 41 102 M (some (.ref a) :: l) (.ref a :: st) o := ev_go (S := (102, M, (some (.ref a) :: l), (.ref a :: st))) rfl rfl rfl
theorem s41_102 : ji_Ev C 41 102 M lv (.ref a :: st) o ↔ (ji_rcb M 6 (.ref a) = true ∧ ji_ok8 st) ∧ ji_evC (C 20 [.ref a] M) (fun v M' => ji_Ev C 41 105 M' lv (v.toList ++ st) o) := ev_inv (k := 41) rfl cd_6_40 rfl
theorem s41_105 : ji_Ev C 41 105 M lv st o ↔ ji_Ev C 41 146 M lv st o := ev_gt rfl (by decide) rfl
theorem s41_108 : ji_Ev C 41 108 M (some (.ref a) :: l) st o ↔ ji_Ev C 41 109 M (some (.ref a) :: l) (.ref a :: st) o := ev_go (S := (109, M, (some (.ref a) :: l), (.ref a :: st))) rfl rfl rfl
theorem s41_109 : ji_Ev C 41 109 M lv (.ref a :: st) o ↔ (ji_rcb M 6 (.ref a) = true ∧ ji_ok8 st) ∧ ji_evC (C 37 [.ref a] M) (fun v M' => ji_Ev C 41 112 M' lv (v.toList ++ st) o) := ev_inv (k := 41) rfl cd_6_106 rfl
theorem s41_112 : ji_Ev C 41 112 M lv (.int x :: st) o ↔ if x = 0 then ji_Ev C 41 146 M lv st o else ji_Ev C 41 115 M lv st o := ev_brz (c := .eq) rfl (by decide) rfl
theorem s41_115 : ji_Ev C 41 115 M (some (.ref a) :: l) st o ↔ ji_Ev C 41 116 M (some (.ref a) :: l) (.ref a :: st) o := ev_go (S := (116, M, (some (.ref a) :: l), (.ref a :: st))) rfl rfl rfl
theorem s41_116 : ji_Ev C 41 116 M lv (.ref a :: st) o ↔ (ji_rcb M 6 (.ref a) = true ∧ ji_ok8 st) ∧ ji_evC (C 20 [.ref a] M) (fun v M' => ji_Ev C 41 119 M' lv (v.toList ++ st) o) := ev_inv (k := 41) rfl cd_6_40 rfl
theorem s41_119 : ji_Ev C 41 119 M (some (.ref a) :: l) st o ↔ ji_Ev C 41 120 M (some (.ref a) :: l) (.ref a :: st) o := ev_go (S := (120, M, (some (.ref a) :: l), (.ref a :: st))) rfl rfl rfl
theorem s41_120 : ji_Ev C 41 120 M lv (.ref a :: st) o ↔ (ji_rcb M 6 (.ref a) = true ∧ ji_ok8 st) ∧ ji_evC (C 34 [.ref a] M) (fun v M' => ji_Ev C 41 123 M' lv (v.toList ++ st) o) := ev_inv (k := 41) rfl cd_6_46 rfl
theorem s41_123 : ji_Ev C 41 123 M (some (.ref a) :: l) st o ↔ ji_Ev C 41 124 M (some (.ref a) :: l) (.ref a :: st) o := ev_go (S := (124, M, (some (.ref a) :: l), (.ref a :: st))) rfl rfl rfl
theorem s41_124 : ji_Ev C 41 124 M lv (.int x :: st) o ↔ ji_Ev C 41 125 M lv (.int x :: .int x :: st) o := ev_go (S := (125, M, lv, (.int x :: .int x :: st))) rfl rfl rfl
theorem s41_124r : ji_Ev C 41 124 M lv (.ref a :: st) o ↔ ji_Ev C 41 125 M lv (.ref a :: .ref a :: st) o := ev_go (S := (125, M, lv, (.ref a :: .ref a :: st))) rfl rfl rfl
theorem s41_125 : ji_Ev C 41 125 M lv (.ref a :: st) o ↔ ji_kd M a = some (0, 6) ∧ ji_Ev C 41 128 M lv (.int (ji_gI M a 6) :: st) o := ev_getI (k := 41) rfl fd_6_31 rfl
theorem s41_128 : ji_Ev C 41 128 M lv st o ↔ ji_Ev C 41 129 M lv (.int 1 :: st) o := ev_go (S := (129, M, lv, (.int 1 :: st))) rfl rfl rfl
theorem s41_129 : ji_Ev C 41 129 M lv (.int y :: .int x :: st) o ↔ ji_Ev C 41 130 M lv (.int (x - y) :: st) o := ev_go (S := (130, M, lv, (.int (x - y) :: st))) rfl rfl rfl
theorem s41_130 : ji_Ev C 41 130 M lv (.int x :: .ref a :: st) o ↔ ji_kd M a = some (0, 6) ∧ ji_Ev C 41 133 (ji_sI M a 6 x) lv st o := ev_putI (k := 41) rfl fd_6_31 rfl (by decide)
theorem s41_133 : ji_Ev C 41 133 M (some (.ref a) :: l) st o ↔ ji_Ev C 41 134 M (some (.ref a) :: l) (.ref a :: st) o := ev_go (S := (134, M, (some (.ref a) :: l), (.ref a :: st))) rfl rfl rfl
theorem s41_134 : ji_Ev C 41 134 M lv st o ↔ ji_Ev C 41 136 M lv (.int 41 :: st) o := ev_go (S := (136, M, lv, (.int 41 :: st))) rfl rfl rfl
theorem s41_136 : ji_Ev C 41 136 M lv (p0 :: .ref a :: st) o ↔ (ji_rcb M 6 (.ref a) = true ∧ ji_ok8 st) ∧ ji_evC (C 32 [.ref a, p0] M) (fun v M' => ji_Ev C 41 139 M' lv (v.toList ++ st) o) := ev_inv (k := 41) rfl cd_6_43 rfl
theorem s41_139 : ji_Ev C 41 139 M lv st o ↔ ji_Ev C 41 146 M lv st o := ev_gt rfl (by decide) rfl
theorem s41_142 : ji_Ev C 41 142 M (some (.ref a) :: l) st o ↔ ji_Ev C 41 143 M (some (.ref a) :: l) (.ref a :: st) o := ev_go (S := (143, M, (some (.ref a) :: l), (.ref a :: st))) rfl rfl rfl
theorem s41_143 : ji_Ev C 41 143 M lv (.ref a :: st) o ↔ (ji_rcb M 6 (.ref a) = true ∧ ji_ok8 st) ∧ ji_evC (C 33 [.ref a] M) (fun v M' => ji_Ev C 41 146 M' lv (v.toList ++ st) o) := ev_inv (k := 41) rfl cd_6_94 rfl
theorem s41_146 : ji_Ev C 41 146 M (some (.ref a) :: l) st o ↔ ji_Ev C 41 147 M (some (.ref a) :: l) (.ref a :: st) o := ev_go (S := (147, M, (some (.ref a) :: l), (.ref a :: st))) rfl rfl rfl
theorem s41_147 : ji_Ev C 41 147 M lv (.ref a :: st) o ↔ ji_kd M a = some (0, 6) ∧ ji_Ev C 41 150 M lv (.int (ji_gI M a 6) :: st) o := ev_getI (k := 41) rfl fd_6_31 rfl
theorem s41_150 : ji_Ev C 41 150 M (l0 :: some (.int x) :: l) st o ↔ ji_Ev C 41 151 M (l0 :: some (.int x) :: l) (.int x :: st) o := ev_go (S := (151, M, (l0 :: some (.int x) :: l), (.int x :: st))) rfl rfl rfl
theorem s41_151 : ji_Ev C 41 151 M lv (.int y :: .int x :: st) o ↔ if y < x then ji_Ev C 41 154 M lv st o else ji_Ev C 41 173 M lv st o := ev_brc (c := .le) rfl (by decide) rfl
theorem s41_154 : ji_Ev C 41 154 M (some (.ref a) :: l) st o ↔ ji_Ev C 41 155 M (some (.ref a) :: l) (.ref a :: st) o := ev_go (S := (155, M, (some (.ref a) :: l), (.ref a :: st))) rfl rfl rfl
theorem s41_155 : ji_Ev C 41 155 M lv st o ↔ ji_Ev C 41 157 M lv (.int (-14) :: st) o := ev_go (S := (157, M, lv, (.int (-14) :: st))) rfl rfl rfl
theorem s41_157 : ji_Ev C 41 157 M lv (p0 :: .ref a :: st) o ↔ (ji_rcb M 6 (.ref a) = true ∧ ji_ok8 st) ∧ ji_evC (C 38 [.ref a, p0] M) (fun v M' => ji_Ev C 41 160 M' lv (v.toList ++ st) o) := ev_inv (k := 41) rfl cd_6_100 rfl
theorem s41_160 : ji_Ev C 41 160 M (some (.ref a) :: l) st o ↔ ji_Ev C 41 161 M (some (.ref a) :: l) (.ref a :: st) o := ev_go (S := (161, M, (some (.ref a) :: l), (.ref a :: st))) rfl rfl rfl
theorem s41_161 : ji_Ev C 41 161 M lv (.int x :: st) o ↔ ji_Ev C 41 162 M lv (.int x :: .int x :: st) o := ev_go (S := (162, M, lv, (.int x :: .int x :: st))) rfl rfl rfl
theorem s41_161r : ji_Ev C 41 161 M lv (.ref a :: st) o ↔ ji_Ev C 41 162 M lv (.ref a :: .ref a :: st) o := ev_go (S := (162, M, lv, (.ref a :: .ref a :: st))) rfl rfl rfl
theorem s41_162 : ji_Ev C 41 162 M lv (.ref a :: st) o ↔ ji_kd M a = some (0, 6) ∧ ji_Ev C 41 165 M lv (.int (ji_gI M a 6) :: st) o := ev_getI (k := 41) rfl fd_6_31 rfl
theorem s41_165 : ji_Ev C 41 165 M lv st o ↔ ji_Ev C 41 166 M lv (.int 1 :: st) o := ev_go (S := (166, M, lv, (.int 1 :: st))) rfl rfl rfl
theorem s41_166 : ji_Ev C 41 166 M lv (.int y :: .int x :: st) o ↔ ji_Ev C 41 167 M lv (.int (x - y) :: st) o := ev_go (S := (167, M, lv, (.int (x - y) :: st))) rfl rfl rfl
theorem s41_167 : ji_Ev C 41 167 M lv (.int x :: .ref a :: st) o ↔ ji_kd M a = some (0, 6) ∧ ji_Ev C 41 170 (ji_sI M a 6 x) lv st o := ev_putI (k := 41) rfl fd_6_31 rfl (by decide)
theorem s41_170 : ji_Ev C 41 170 M lv st o ↔ ji_Ev C 41 146 M lv st o := ev_gt rfl (by decide) rfl
theorem s41_173 : ji_Ev C 41 173 M lv [] o ↔ o = (none, M) := ev_vret rfl rfl
theorem s42_0 : ji_Ev C 42 0 M (l0 :: some (.int x) :: l) st o ↔ ji_Ev C 42 1 M (l0 :: some (.int x) :: l) (.int x :: st) o := ev_go (S := (1, M, (l0 :: some (.int x) :: l), (.int x :: st))) rfl rfl rfl
theorem s42_1 : ji_Ev C 42 1 M lv (.int x :: st) o ↔ if x = 0 then ji_Ev C 42 4 M lv st o else ji_Ev C 42 9 M lv st o := ev_brz (c := .ne) rfl (by decide) rfl
theorem s42_4 : ji_Ev C 42 4 M lv st o ↔ ji_Ev C 42 6 M lv (.int 40 :: st) o := ev_go (S := (6, M, lv, (.int 40 :: st))) rfl rfl rfl
theorem s42_6 : ji_Ev C 42 6 M lv st o ↔ ji_Ev C 42 22 M lv st o := ev_gt rfl (by decide) rfl
theorem s42_9 : ji_Ev C 42 9 M (l0 :: some (.int x) :: l) st o ↔ ji_Ev C 42 10 M (l0 :: some (.int x) :: l) (.int x :: st) o := ev_go (S := (10, M, (l0 :: some (.int x) :: l), (.int x :: st))) rfl rfl rfl
theorem s42_10 : ji_Ev C 42 10 M lv st o ↔ ji_Ev C 42 11 M lv (.int 3 :: st) o := ev_go (S := (11, M, lv, (.int 3 :: st))) rfl rfl rfl
theorem s42_11 : ji_Ev C 42 11 M lv (.int y :: .int x :: st) o ↔ if x = y then ji_Ev C 42 14 M lv st o else ji_Ev C 42 19 M lv st o := ev_brc (c := .ne) rfl (by decide) rfl
theorem s42_14 : ji_Ev C 42 14 M lv st o ↔ ji_Ev C 42 16 M lv (.int (999999) :: st) o := ev_go (S := (16, M, lv, (.int (999999) :: st))) rfl rfl rfl
theorem s42_16 : ji_Ev C 42 16 M lv st o ↔ ji_Ev C 42 22 M lv st o := ev_gt rfl (by decide) rfl
theorem s42_19 : ji_Ev C 42 19 M lv st o ↔ ji_Ev C 42 22 M lv (.int 9999 :: st) o := ev_go (S := (22, M, lv, (.int 9999 :: st))) rfl rfl rfl
theorem s42_22 : ji_Ev C 42 22 M lv (.int x :: st) o ↔ 3 < lv.length ∧ ji_Ev C 42 23 M (ji_s1 lv 3 (.int x)) st o := ev_stI rfl rfl rfl
theorem s42_23 : ji_Ev C 42 23 M (l0 :: some (.int x) :: l) st o ↔ ji_Ev C 42 24 M (l0 :: some (.int x) :: l) (.int x :: st) o := ev_go (S := (24, M, (l0 :: some (.int x) :: l), (.int x :: st))) rfl rfl rfl
theorem s42_24 : ji_Ev C 42 24 M lv st o ↔ ji_Ev C 42 25 M lv (.int 0 :: st) o := ev_go (S := (25, M, lv, (.int 0 :: st))) rfl rfl rfl
theorem s42_25 : ji_Ev C 42 25 M lv st o ↔ ji_Ev C 42 26 M lv (.int 3 :: st) o := ev_go (S := (26, M, lv, (.int 3 :: st))) rfl rfl rfl
theorem s42_26 : ji_Ev C 42 26 M lv (p2 :: p1 :: p0 :: st) o ↔ ji_ok8 st ∧ ji_evC (C 43 [p0, p1, p2] M) (fun v M' => ji_Ev C 42 29 M' lv (v.toList ++ st) o) := ev_sta (k := 42) (a := [p2, p1, p0]) rfl (Or.inl cd_8_89) rfl
theorem s42_29 : ji_Ev C 42 29 M lv (.int x :: st) o ↔ if x = 0 then ji_Ev C 42 41 M lv st o else ji_Ev C 42 32 M lv st o := ev_brz (c := .eq) rfl (by decide) rfl
theorem s42_32 : ji_Ev C 42 32 M (l0 :: l1 :: some (.int x) :: l) st o ↔ ji_Ev C 42 33 M (l0 :: l1 :: some (.int x) :: l) (.int x :: st) o := ev_go (S := (33, M, (l0 :: l1 :: some (.int x) :: l), (.int x :: st))) rfl rfl rfl
theorem s42_33 : ji_Ev C 42 33 M lv st o ↔ ji_Ev C 42 34 M lv (.int 0 :: st) o := ev_go (S := (34, M, lv, (.int 0 :: st))) rfl rfl rfl
theorem s42_34 : ji_Ev C 42 34 M (l0 :: l1 :: l2 :: some (.int x) :: l) st o ↔ ji_Ev C 42 35 M (l0 :: l1 :: l2 :: some (.int x) :: l) (.int x :: st) o := ev_go (S := (35, M, (l0 :: l1 :: l2 :: some (.int x) :: l), (.int x :: st))) rfl rfl rfl
theorem s42_35 : ji_Ev C 42 35 M lv (p2 :: p1 :: p0 :: st) o ↔ ji_ok8 st ∧ ji_evC (C 43 [p0, p1, p2] M) (fun v M' => ji_Ev C 42 38 M' lv (v.toList ++ st) o) := ev_sta (k := 42) (a := [p2, p1, p0]) rfl (Or.inl cd_8_89) rfl
theorem s42_38 : ji_Ev C 42 38 M lv (.int x :: st) o ↔ if x = 0 then ji_Ev C 42 41 M lv st o else ji_Ev C 42 45 M lv st o := ev_brz (c := .ne) rfl (by decide) rfl
theorem s42_41 : ji_Ev C 42 41 M lv st o ↔ ji_Ev C 42 44 M lv (.long (-4611686018427387904) :: st) o := ev_go (S := (44, M, lv, (.long (-4611686018427387904) :: st))) rfl rfl rfl
theorem s42_44 : ji_Ev C 42 44 M lv [.long u] o ↔ o = (some (.long u), M) := ev_lret rfl rfl
theorem s42_45 : ji_Ev C 42 45 M (some (.ref a) :: l) st o ↔ ji_Ev C 42 46 M (some (.ref a) :: l) (.ref a :: st) o := ev_go (S := (46, M, (some (.ref a) :: l), (.ref a :: st))) rfl rfl rfl
theorem s42_46 : ji_Ev C 42 46 M lv (.ref a :: st) o ↔ ji_kd M a = some (0, 8) ∧ ji_Ev C 42 49 M lv (ji_rv (ji_gR M a 0) :: st) o := ev_getR (k := 42) rfl fd_8_10 rfl
theorem s42_49 : ji_Ev C 42 49 M (l0 :: some (.int x) :: l) st o ↔ ji_Ev C 42 50 M (l0 :: some (.int x) :: l) (.int x :: st) o := ev_go (S := (50, M, (l0 :: some (.int x) :: l), (.int x :: st))) rfl rfl rfl
theorem s42_50 : ji_Ev C 42 50 M (l0 :: l1 :: some (.int x) :: l) st o ↔ ji_Ev C 42 51 M (l0 :: l1 :: some (.int x) :: l) (.int x :: st) o := ev_go (S := (51, M, (l0 :: l1 :: some (.int x) :: l), (.int x :: st))) rfl rfl rfl
theorem s42_51 : ji_Ev C 42 51 M lv (p1 :: p0 :: .ref a :: st) o ↔ (ji_rcb M 5 (.ref a) = true ∧ ji_ok8 st) ∧ ji_evC (C 44 [.ref a, p0, p1] M) (fun v M' => ji_Ev C 42 54 M' lv (v.toList ++ st) o) := ev_inv (k := 42) rfl cd_8_95 rfl
theorem s42_54 : ji_Ev C 42 54 M lv (.int x :: st) o ↔ ji_Ev C 42 55 M lv (.long x.toInt64 :: st) o := ev_go (S := (55, M, lv, (.long x.toInt64 :: st))) rfl rfl rfl
theorem s42_55 : ji_Ev C 42 55 M lv [.long u] o ↔ o = (some (.long u), M) := ev_lret rfl rfl
theorem s43_0 : ji_Ev C 43 0 M (some (.int x) :: l) st o ↔ ji_Ev C 43 1 M (some (.int x) :: l) (.int x :: st) o := ev_go (S := (1, M, (some (.int x) :: l), (.int x :: st))) rfl rfl rfl
theorem s43_1 : ji_Ev C 43 1 M (l0 :: some (.int x) :: l) st o ↔ ji_Ev C 43 2 M (l0 :: some (.int x) :: l) (.int x :: st) o := ev_go (S := (2, M, (l0 :: some (.int x) :: l), (.int x :: st))) rfl rfl rfl
theorem s43_2 : ji_Ev C 43 2 M lv (.int y :: .int x :: st) o ↔ if x < y then ji_Ev C 43 14 M lv st o else ji_Ev C 43 5 M lv st o := ev_brc (c := .lt) rfl (by decide) rfl
theorem s43_5 : ji_Ev C 43 5 M (some (.int x) :: l) st o ↔ ji_Ev C 43 6 M (some (.int x) :: l) (.int x :: st) o := ev_go (S := (6, M, (some (.int x) :: l), (.int x :: st))) rfl rfl rfl
theorem s43_6 : ji_Ev C 43 6 M (l0 :: l1 :: some (.int x) :: l) st o ↔ ji_Ev C 43 7 M (l0 :: l1 :: some (.int x) :: l) (.int x :: st) o := ev_go (S := (7, M, (l0 :: l1 :: some (.int x) :: l), (.int x :: st))) rfl rfl rfl
theorem s43_7 : ji_Ev C 43 7 M lv (.int y :: .int x :: st) o ↔ if y < x then ji_Ev C 43 14 M lv st o else ji_Ev C 43 10 M lv st o := ev_brc (c := .gt) rfl (by decide) rfl
theorem s43_10 : ji_Ev C 43 10 M lv st o ↔ ji_Ev C 43 11 M lv (.int 1 :: st) o := ev_go (S := (11, M, lv, (.int 1 :: st))) rfl rfl rfl
theorem s43_11 : ji_Ev C 43 11 M lv st o ↔ ji_Ev C 43 15 M lv st o := ev_gt rfl (by decide) rfl
theorem s43_14 : ji_Ev C 43 14 M lv st o ↔ ji_Ev C 43 15 M lv (.int 0 :: st) o := ev_go (S := (15, M, lv, (.int 0 :: st))) rfl rfl rfl
theorem s43_15 : ji_Ev C 43 15 M lv [.int x] o ↔ narrow .boolean (.int x) = .int x ∧ o = (some (.int x), M) := ev_iretb rfl rfl
theorem s44_0 : ji_Ev C 44 0 M (l0 :: some (.int x) :: l) st o ↔ ji_Ev C 44 1 M (l0 :: some (.int x) :: l) (.int x :: st) o := ev_go (S := (1, M, (l0 :: some (.int x) :: l), (.int x :: st))) rfl rfl rfl
theorem s44_1 : ji_Ev C 44 1 M lv (.int x :: st) o ↔ if x = 0 then ji_Ev C 44 28 M lv st o else if x = 1 then ji_Ev C 44 41 M lv st o else if x = 2 then ji_Ev C 44 54 M lv st o else ji_Ev C 44 67 M lv st o := by
  refine (ev_swT rfl (by decide)).trans ?_
  show ji_Ev C 44 ((1 : Int) + (if x = 0 then 27 else if x = 1 then 40 else if x = 2 then 53 else 66)).toNat M lv st o ↔ _
  by_cases h0 : x = 0
  · rw [if_pos h0, if_pos h0]; exact Iff.rfl
  rw [if_neg h0, if_neg h0]
  by_cases h1 : x = 1
  · rw [if_pos h1, if_pos h1]; exact Iff.rfl
  rw [if_neg h1, if_neg h1]
  by_cases h2 : x = 2
  · rw [if_pos h2, if_pos h2]; exact Iff.rfl
  rw [if_neg h2, if_neg h2]
  exact Iff.rfl
theorem s44_28 : ji_Ev C 44 28 M (some (.ref a) :: l) st o ↔ ji_Ev C 44 29 M (some (.ref a) :: l) (.ref a :: st) o := ev_go (S := (29, M, (some (.ref a) :: l), (.ref a :: st))) rfl rfl rfl
theorem s44_29 : ji_Ev C 44 29 M lv (.ref a :: st) o ↔ ji_kd M a = some (0, 5) ∧ ji_Ev C 44 32 M lv (.int (ji_gI M a 2) :: st) o := ev_getI (k := 44) rfl fd_5_24 rfl
theorem s44_32 : ji_Ev C 44 32 M lv (.int x :: st) o ↔ 3 < lv.length ∧ ji_Ev C 44 33 M (ji_s1 lv 3 (.int x)) st o := ev_stI rfl rfl rfl
theorem s44_33 : ji_Ev C 44 33 M (some (.ref a) :: l) st o ↔ ji_Ev C 44 34 M (some (.ref a) :: l) (.ref a :: st) o := ev_go (S := (34, M, (some (.ref a) :: l), (.ref a :: st))) rfl rfl rfl
theorem s44_34 : ji_Ev C 44 34 M (l0 :: l1 :: some (.int x) :: l) st o ↔ ji_Ev C 44 35 M (l0 :: l1 :: some (.int x) :: l) (.int x :: st) o := ev_go (S := (35, M, (l0 :: l1 :: some (.int x) :: l), (.int x :: st))) rfl rfl rfl
theorem s44_35 : ji_Ev C 44 35 M lv (.int x :: .ref a :: st) o ↔ ji_kd M a = some (0, 5) ∧ ji_Ev C 44 38 (ji_sI M a 2 x) lv st o := ev_putI (k := 44) rfl fd_5_24 rfl (by decide)
theorem s44_38 : ji_Ev C 44 38 M lv st o ↔ ji_Ev C 44 77 M lv st o := ev_gt rfl (by decide) rfl
theorem s44_41 : ji_Ev C 44 41 M (some (.ref a) :: l) st o ↔ ji_Ev C 44 42 M (some (.ref a) :: l) (.ref a :: st) o := ev_go (S := (42, M, (some (.ref a) :: l), (.ref a :: st))) rfl rfl rfl
theorem s44_42 : ji_Ev C 44 42 M lv (.ref a :: st) o ↔ ji_kd M a = some (0, 5) ∧ ji_Ev C 44 45 M lv (.int (ji_gI M a 3) :: st) o := ev_getI (k := 44) rfl fd_5_27 rfl
theorem s44_45 : ji_Ev C 44 45 M lv (.int x :: st) o ↔ 3 < lv.length ∧ ji_Ev C 44 46 M (ji_s1 lv 3 (.int x)) st o := ev_stI rfl rfl rfl
theorem s44_46 : ji_Ev C 44 46 M (some (.ref a) :: l) st o ↔ ji_Ev C 44 47 M (some (.ref a) :: l) (.ref a :: st) o := ev_go (S := (47, M, (some (.ref a) :: l), (.ref a :: st))) rfl rfl rfl
theorem s44_47 : ji_Ev C 44 47 M (l0 :: l1 :: some (.int x) :: l) st o ↔ ji_Ev C 44 48 M (l0 :: l1 :: some (.int x) :: l) (.int x :: st) o := ev_go (S := (48, M, (l0 :: l1 :: some (.int x) :: l), (.int x :: st))) rfl rfl rfl
theorem s44_48 : ji_Ev C 44 48 M lv (.int x :: .ref a :: st) o ↔ ji_kd M a = some (0, 5) ∧ ji_Ev C 44 51 (ji_sI M a 3 x) lv st o := ev_putI (k := 44) rfl fd_5_27 rfl (by decide)
theorem s44_51 : ji_Ev C 44 51 M lv st o ↔ ji_Ev C 44 77 M lv st o := ev_gt rfl (by decide) rfl
theorem s44_54 : ji_Ev C 44 54 M (some (.ref a) :: l) st o ↔ ji_Ev C 44 55 M (some (.ref a) :: l) (.ref a :: st) o := ev_go (S := (55, M, (some (.ref a) :: l), (.ref a :: st))) rfl rfl rfl
theorem s44_55 : ji_Ev C 44 55 M lv (.ref a :: st) o ↔ ji_kd M a = some (0, 5) ∧ ji_Ev C 44 58 M lv (.int (ji_gI M a 4) :: st) o := ev_getI (k := 44) rfl fd_5_30 rfl
theorem s44_58 : ji_Ev C 44 58 M lv (.int x :: st) o ↔ 3 < lv.length ∧ ji_Ev C 44 59 M (ji_s1 lv 3 (.int x)) st o := ev_stI rfl rfl rfl
theorem s44_59 : ji_Ev C 44 59 M (some (.ref a) :: l) st o ↔ ji_Ev C 44 60 M (some (.ref a) :: l) (.ref a :: st) o := ev_go (S := (60, M, (some (.ref a) :: l), (.ref a :: st))) rfl rfl rfl
theorem s44_60 : ji_Ev C 44 60 M (l0 :: l1 :: some (.int x) :: l) st o ↔ ji_Ev C 44 61 M (l0 :: l1 :: some (.int x) :: l) (.int x :: st) o := ev_go (S := (61, M, (l0 :: l1 :: some (.int x) :: l), (.int x :: st))) rfl rfl rfl
theorem s44_61 : ji_Ev C 44 61 M lv (.int x :: .ref a :: st) o ↔ ji_kd M a = some (0, 5) ∧ ji_Ev C 44 64 (ji_sI M a 4 x) lv st o := ev_putI (k := 44) rfl fd_5_30 rfl (by decide)
theorem s44_64 : ji_Ev C 44 64 M lv st o ↔ ji_Ev C 44 77 M lv st o := ev_gt rfl (by decide) rfl
theorem s44_67 : ji_Ev C 44 67 M (some (.ref a) :: l) st o ↔ ji_Ev C 44 68 M (some (.ref a) :: l) (.ref a :: st) o := ev_go (S := (68, M, (some (.ref a) :: l), (.ref a :: st))) rfl rfl rfl
theorem s44_68 : ji_Ev C 44 68 M lv (.ref a :: st) o ↔ ji_kd M a = some (0, 5) ∧ ji_Ev C 44 71 M lv (.int (ji_gI M a 5) :: st) o := ev_getI (k := 44) rfl fd_5_33 rfl
theorem s44_71 : ji_Ev C 44 71 M lv (.int x :: st) o ↔ 3 < lv.length ∧ ji_Ev C 44 72 M (ji_s1 lv 3 (.int x)) st o := ev_stI rfl rfl rfl
theorem s44_72 : ji_Ev C 44 72 M (some (.ref a) :: l) st o ↔ ji_Ev C 44 73 M (some (.ref a) :: l) (.ref a :: st) o := ev_go (S := (73, M, (some (.ref a) :: l), (.ref a :: st))) rfl rfl rfl
theorem s44_73 : ji_Ev C 44 73 M (l0 :: l1 :: some (.int x) :: l) st o ↔ ji_Ev C 44 74 M (l0 :: l1 :: some (.int x) :: l) (.int x :: st) o := ev_go (S := (74, M, (l0 :: l1 :: some (.int x) :: l), (.int x :: st))) rfl rfl rfl
theorem s44_74 : ji_Ev C 44 74 M lv (.int x :: .ref a :: st) o ↔ ji_kd M a = some (0, 5) ∧ ji_Ev C 44 77 (ji_sI M a 5 x) lv st o := ev_putI (k := 44) rfl fd_5_33 rfl (by decide)
theorem s44_77 : ji_Ev C 44 77 M (l0 :: l1 :: l2 :: some (.int x) :: l) st o ↔ ji_Ev C 44 78 M (l0 :: l1 :: l2 :: some (.int x) :: l) (.int x :: st) o := ev_go (S := (78, M, (l0 :: l1 :: l2 :: some (.int x) :: l), (.int x :: st))) rfl rfl rfl
theorem s44_78 : ji_Ev C 44 78 M lv [.int x] o ↔ o = (some (.int x), M) := ev_ireti rfl rfl
theorem s45_0 : ji_Ev C 45 0 M (l0 :: some (.int x) :: l) st o ↔ ji_Ev C 45 1 M (l0 :: some (.int x) :: l) (.int x :: st) o := ev_go (S := (1, M, (l0 :: some (.int x) :: l), (.int x :: st))) rfl rfl rfl
theorem s45_1 : ji_Ev C 45 1 M lv st o ↔ ji_Ev C 45 2 M lv (.int 1 :: st) o := ev_go (S := (2, M, lv, (.int 1 :: st))) rfl rfl rfl
theorem s45_2 : ji_Ev C 45 2 M lv st o ↔ ji_Ev C 45 4 M lv (.int 100 :: st) o := ev_go (S := (4, M, lv, (.int 100 :: st))) rfl rfl rfl
theorem s45_4 : ji_Ev C 45 4 M lv (p2 :: p1 :: p0 :: st) o ↔ ji_ok8 st ∧ ji_evC (C 43 [p0, p1, p2] M) (fun v M' => ji_Ev C 45 7 M' lv (v.toList ++ st) o) := ev_sta (k := 45) (a := [p2, p1, p0]) rfl (Or.inl cd_8_89) rfl
theorem s45_7 : ji_Ev C 45 7 M lv (.int x :: st) o ↔ if x = 0 then ji_Ev C 45 10 M lv st o else ji_Ev C 45 13 M lv st o := ev_brz (c := .ne) rfl (by decide) rfl
theorem s45_10 : ji_Ev C 45 10 M lv st o ↔ ji_Ev C 45 12 M lv (.int (-2) :: st) o := ev_go (S := (12, M, lv, (.int (-2) :: st))) rfl rfl rfl
theorem s45_12 : ji_Ev C 45 12 M lv [.int x] o ↔ o = (some (.int x), M) := ev_ireti rfl rfl
theorem s45_13 : ji_Ev C 45 13 M (some (.ref a) :: l) st o ↔ ji_Ev C 45 14 M (some (.ref a) :: l) (.ref a :: st) o := ev_go (S := (14, M, (some (.ref a) :: l), (.ref a :: st))) rfl rfl rfl
theorem s45_14 : ji_Ev C 45 14 M lv (.ref a :: st) o ↔ ji_kd M a = some (0, 8) ∧ ji_Ev C 45 17 M lv (ji_rv (ji_gR M a 0) :: st) o := ev_getR (k := 45) rfl fd_8_10 rfl
theorem s45_17 : ji_Ev C 45 17 M lv (.ref a :: st) o ↔ ji_kd M a = some (0, 5) ∧ ji_Ev C 45 20 M lv (.int (ji_gI M a 1) :: st) o := ev_getI (k := 45) rfl fd_8_99 rfl
theorem s45_20 : ji_Ev C 45 20 M (l0 :: some (.int x) :: l) st o ↔ ji_Ev C 45 21 M (l0 :: some (.int x) :: l) (.int x :: st) o := ev_go (S := (21, M, (l0 :: some (.int x) :: l), (.int x :: st))) rfl rfl rfl
theorem s45_21 : ji_Ev C 45 21 M lv (.int y :: .int x :: st) o ↔ ji_Ev C 45 22 M lv (.int (x + y) :: st) o := ev_go (S := (22, M, lv, (.int (x + y) :: st))) rfl rfl rfl
theorem s45_22 : ji_Ev C 45 22 M lv st o ↔ ji_Ev C 45 25 M lv (.int 999 :: st) o := ev_go (S := (25, M, lv, (.int 999 :: st))) rfl rfl rfl
theorem s45_25 : ji_Ev C 45 25 M lv (.int y :: .int x :: st) o ↔ if y < x then ji_Ev C 45 28 M lv st o else ji_Ev C 45 31 M lv st o := ev_brc (c := .le) rfl (by decide) rfl
theorem s45_28 : ji_Ev C 45 28 M lv st o ↔ ji_Ev C 45 30 M lv (.int (-4) :: st) o := ev_go (S := (30, M, lv, (.int (-4) :: st))) rfl rfl rfl
theorem s45_30 : ji_Ev C 45 30 M lv [.int x] o ↔ o = (some (.int x), M) := ev_ireti rfl rfl
theorem s45_31 : ji_Ev C 45 31 M (some (.ref a) :: l) st o ↔ ji_Ev C 45 32 M (some (.ref a) :: l) (.ref a :: st) o := ev_go (S := (32, M, (some (.ref a) :: l), (.ref a :: st))) rfl rfl rfl
theorem s45_32 : ji_Ev C 45 32 M lv (.ref a :: st) o ↔ ji_kd M a = some (0, 8) ∧ ji_Ev C 45 35 M lv (ji_rv (ji_gR M a 0) :: st) o := ev_getR (k := 45) rfl fd_8_10 rfl
theorem s45_35 : ji_Ev C 45 35 M (l0 :: some (.int x) :: l) st o ↔ ji_Ev C 45 36 M (l0 :: some (.int x) :: l) (.int x :: st) o := ev_go (S := (36, M, (l0 :: some (.int x) :: l), (.int x :: st))) rfl rfl rfl
theorem s45_36 : ji_Ev C 45 36 M lv (p0 :: .ref a :: st) o ↔ (ji_rcb M 5 (.ref a) = true ∧ ji_ok8 st) ∧ ji_evC (C 46 [.ref a, p0] M) (fun v M' => ji_Ev C 45 39 M' lv (v.toList ++ st) o) := ev_inv (k := 45) rfl cd_8_103 rfl
theorem s45_39 : ji_Ev C 45 39 M (some (.ref a) :: l) st o ↔ ji_Ev C 45 40 M (some (.ref a) :: l) (.ref a :: st) o := ev_go (S := (40, M, (some (.ref a) :: l), (.ref a :: st))) rfl rfl rfl
theorem s45_40 : ji_Ev C 45 40 M lv (.ref a :: st) o ↔ ji_kd M a = some (0, 8) ∧ ji_Ev C 45 43 M lv (ji_rv (ji_gR M a 0) :: st) o := ev_getR (k := 45) rfl fd_8_10 rfl
theorem s45_43 : ji_Ev C 45 43 M lv (.ref a :: st) o ↔ ji_kd M a = some (0, 5) ∧ ji_Ev C 45 46 M lv (.int (ji_gI M a 1) :: st) o := ev_getI (k := 45) rfl fd_8_99 rfl
theorem s45_46 : ji_Ev C 45 46 M lv [.int x] o ↔ o = (some (.int x), M) := ev_ireti rfl rfl
theorem s46_0 : ji_Ev C 46 0 M lv st o ↔ ji_Ev C 46 1 M lv (.int 0 :: st) o := ev_go (S := (1, M, lv, (.int 0 :: st))) rfl rfl rfl
theorem s46_1 : ji_Ev C 46 1 M lv (.int x :: st) o ↔ 2 < lv.length ∧ ji_Ev C 46 2 M (ji_s1 lv 2 (.int x)) st o := ev_stI rfl rfl rfl
theorem s46_2 : ji_Ev C 46 2 M (l0 :: l1 :: some (.int x) :: l) st o ↔ ji_Ev C 46 3 M (l0 :: l1 :: some (.int x) :: l) (.int x :: st) o := ev_go (S := (3, M, (l0 :: l1 :: some (.int x) :: l), (.int x :: st))) rfl rfl rfl
theorem s46_3 : ji_Ev C 46 3 M (some (.ref a) :: l) st o ↔ ji_Ev C 46 4 M (some (.ref a) :: l) (.ref a :: st) o := ev_go (S := (4, M, (some (.ref a) :: l), (.ref a :: st))) rfl rfl rfl
theorem s46_4 : ji_Ev C 46 4 M lv (.ref a :: st) o ↔ ji_kd M a = some (0, 5) ∧ ji_Ev C 46 7 M lv (ji_rv (ji_gR M a 0) :: st) o := ev_getR (k := 46) rfl fd_5_14 rfl
theorem s46_7 : ji_Ev C 46 7 M lv (.ref a :: st) o ↔ (ji_rcb M 2 (.ref a) = true ∧ ji_ok8 st) ∧ ji_evC (C 47 [.ref a] M) (fun v M' => ji_Ev C 46 10 M' lv (v.toList ++ st) o) := ev_inv (k := 46) rfl cd_5_70 rfl
theorem s46_10 : ji_Ev C 46 10 M lv (.int y :: .int x :: st) o ↔ if x < y then ji_Ev C 46 13 M lv st o else ji_Ev C 46 25 M lv st o := ev_brc (c := .ge) rfl (by decide) rfl
theorem s46_13 : ji_Ev C 46 13 M (some (.ref a) :: l) st o ↔ ji_Ev C 46 14 M (some (.ref a) :: l) (.ref a :: st) o := ev_go (S := (14, M, (some (.ref a) :: l), (.ref a :: st))) rfl rfl rfl
theorem s46_14 : ji_Ev C 46 14 M (l0 :: l1 :: some (.int x) :: l) st o ↔ ji_Ev C 46 15 M (l0 :: l1 :: some (.int x) :: l) (.int x :: st) o := ev_go (S := (15, M, (l0 :: l1 :: some (.int x) :: l), (.int x :: st))) rfl rfl rfl
theorem s46_15 : ji_Ev C 46 15 M (l0 :: some (.int x) :: l) st o ↔ ji_Ev C 46 16 M (l0 :: some (.int x) :: l) (.int x :: st) o := ev_go (S := (16, M, (l0 :: some (.int x) :: l), (.int x :: st))) rfl rfl rfl
theorem s46_16 : ji_Ev C 46 16 M lv (p1 :: p0 :: .ref a :: st) o ↔ (ji_rcb M 5 (.ref a) = true ∧ ji_ok8 st) ∧ ji_evC (C 48 [.ref a, p0, p1] M) (fun v M' => ji_Ev C 46 19 M' lv (v.toList ++ st) o) := ev_inv (k := 46) rfl cd_5_90 rfl
theorem s46_19 : ji_Ev C 46 19 M lv st o ↔ ji_evL (lv.getD 2 none) ji_isI (fun v => match v with | .int x => 2 < lv.length ∧ ji_Ev C 46 22 M (ji_s1 lv 2 (.int (x + Int32.ofInt 1))) st o | _ => False) := ev_iinc rfl
theorem s46_22 : ji_Ev C 46 22 M lv st o ↔ ji_Ev C 46 2 M lv st o := ev_gt rfl (by decide) rfl
theorem s46_25 : ji_Ev C 46 25 M (some (.ref a) :: l) st o ↔ ji_Ev C 46 26 M (some (.ref a) :: l) (.ref a :: st) o := ev_go (S := (26, M, (some (.ref a) :: l), (.ref a :: st))) rfl rfl rfl
theorem s46_26 : ji_Ev C 46 26 M lv (.int x :: st) o ↔ ji_Ev C 46 27 M lv (.int x :: .int x :: st) o := ev_go (S := (27, M, lv, (.int x :: .int x :: st))) rfl rfl rfl
theorem s46_26r : ji_Ev C 46 26 M lv (.ref a :: st) o ↔ ji_Ev C 46 27 M lv (.ref a :: .ref a :: st) o := ev_go (S := (27, M, lv, (.ref a :: .ref a :: st))) rfl rfl rfl
theorem s46_27 : ji_Ev C 46 27 M lv (.ref a :: st) o ↔ ji_kd M a = some (0, 5) ∧ ji_Ev C 46 30 M lv (.int (ji_gI M a 1) :: st) o := ev_getI (k := 46) rfl fd_5_20 rfl
theorem s46_30 : ji_Ev C 46 30 M (l0 :: some (.int x) :: l) st o ↔ ji_Ev C 46 31 M (l0 :: some (.int x) :: l) (.int x :: st) o := ev_go (S := (31, M, (l0 :: some (.int x) :: l), (.int x :: st))) rfl rfl rfl
theorem s46_31 : ji_Ev C 46 31 M lv (.int y :: .int x :: st) o ↔ ji_Ev C 46 32 M lv (.int (x + y) :: st) o := ev_go (S := (32, M, lv, (.int (x + y) :: st))) rfl rfl rfl
theorem s46_32 : ji_Ev C 46 32 M lv (.int x :: .ref a :: st) o ↔ ji_kd M a = some (0, 5) ∧ ji_Ev C 46 35 (ji_sI M a 1 x) lv st o := ev_putI (k := 46) rfl fd_5_20 rfl (by decide)
theorem s46_35 : ji_Ev C 46 35 M lv [] o ↔ o = (none, M) := ev_vret rfl rfl
theorem s47_0 : ji_Ev C 47 0 M (some (.ref a) :: l) st o ↔ ji_Ev C 47 1 M (some (.ref a) :: l) (.ref a :: st) o := ev_go (S := (1, M, (some (.ref a) :: l), (.ref a :: st))) rfl rfl rfl
theorem s47_1 : ji_Ev C 47 1 M lv (.ref a :: st) o ↔ ji_kd M a = some (0, 2) ∧ ji_Ev C 47 4 M lv (.int (ji_gI M a 3) :: st) o := ev_getI (k := 47) rfl fd_2_28 rfl
theorem s47_4 : ji_Ev C 47 4 M lv [.int x] o ↔ o = (some (.int x), M) := ev_ireti rfl rfl
theorem s48_0 : ji_Ev C 48 0 M (some (.ref a) :: l) st o ↔ ji_Ev C 48 1 M (some (.ref a) :: l) (.ref a :: st) o := ev_go (S := (1, M, (some (.ref a) :: l), (.ref a :: st))) rfl rfl rfl
theorem s48_1 : ji_Ev C 48 1 M lv (.ref a :: st) o ↔ ji_kd M a = some (0, 5) ∧ ji_Ev C 48 4 M lv (.int (ji_gI M a 1) :: st) o := ev_getI (k := 48) rfl fd_5_20 rfl
theorem s48_4 : ji_Ev C 48 4 M (l0 :: l1 :: some (.int x) :: l) st o ↔ ji_Ev C 48 5 M (l0 :: l1 :: some (.int x) :: l) (.int x :: st) o := ev_go (S := (5, M, (l0 :: l1 :: some (.int x) :: l), (.int x :: st))) rfl rfl rfl
theorem s48_5 : ji_Ev C 48 5 M lv (.int y :: .int x :: st) o ↔ ji_Ev C 48 6 M lv (.int (x + y) :: st) o := ev_go (S := (6, M, lv, (.int (x + y) :: st))) rfl rfl rfl
theorem s48_6 : ji_Ev C 48 6 M lv (.int x :: st) o ↔ 3 < lv.length ∧ ji_Ev C 48 7 M (ji_s1 lv 3 (.int x)) st o := ev_stI rfl rfl rfl
theorem s48_7 : ji_Ev C 48 7 M (some (.ref a) :: l) st o ↔ ji_Ev C 48 8 M (some (.ref a) :: l) (.ref a :: st) o := ev_go (S := (8, M, (some (.ref a) :: l), (.ref a :: st))) rfl rfl rfl
theorem s48_8 : ji_Ev C 48 8 M lv (.ref a :: st) o ↔ ji_kd M a = some (0, 5) ∧ ji_Ev C 48 11 M lv (.int (ji_gI M a 1) :: st) o := ev_getI (k := 48) rfl fd_5_20 rfl
theorem s48_11 : ji_Ev C 48 11 M lv (.int x :: st) o ↔ 4 < lv.length ∧ ji_Ev C 48 13 M (ji_s1 lv 4 (.int x)) st o := ev_stI rfl rfl rfl
theorem s48_13 : ji_Ev C 48 13 M (l0 :: l1 :: l2 :: l3 :: some (.int x) :: l) st o ↔ ji_Ev C 48 15 M (l0 :: l1 :: l2 :: l3 :: some (.int x) :: l) (.int x :: st) o := ev_go (S := (15, M, (l0 :: l1 :: l2 :: l3 :: some (.int x) :: l), (.int x :: st))) rfl rfl rfl
theorem s48_15 : ji_Ev C 48 15 M (l0 :: l1 :: l2 :: some (.int x) :: l) st o ↔ ji_Ev C 48 16 M (l0 :: l1 :: l2 :: some (.int x) :: l) (.int x :: st) o := ev_go (S := (16, M, (l0 :: l1 :: l2 :: some (.int x) :: l), (.int x :: st))) rfl rfl rfl
theorem s48_16 : ji_Ev C 48 16 M lv (.int y :: .int x :: st) o ↔ if x < y then ji_Ev C 48 19 M lv st o else ji_Ev C 48 100 M lv st o := ev_brc (c := .ge) rfl (by decide) rfl
theorem s48_19 : ji_Ev C 48 19 M (some (.ref a) :: l) st o ↔ ji_Ev C 48 20 M (some (.ref a) :: l) (.ref a :: st) o := ev_go (S := (20, M, (some (.ref a) :: l), (.ref a :: st))) rfl rfl rfl
theorem s48_20 : ji_Ev C 48 20 M lv (.ref a :: st) o ↔ ji_kd M a = some (0, 5) ∧ ji_Ev C 48 23 M lv (ji_rv (ji_gR M a 0) :: st) o := ev_getR (k := 48) rfl fd_5_14 rfl
theorem s48_23 : ji_Ev C 48 23 M (l0 :: some (.int x) :: l) st o ↔ ji_Ev C 48 24 M (l0 :: some (.int x) :: l) (.int x :: st) o := ev_go (S := (24, M, (l0 :: some (.int x) :: l), (.int x :: st))) rfl rfl rfl
theorem s48_24 : ji_Ev C 48 24 M lv st o ↔ ji_Ev C 48 26 M lv (.int 7 :: st) o := ev_go (S := (26, M, lv, (.int 7 :: st))) rfl rfl rfl
theorem s48_26 : ji_Ev C 48 26 M lv (p1 :: p0 :: .ref a :: st) o ↔ (ji_rcb M 2 (.ref a) = true ∧ ji_ok8 st) ∧ ji_evC (C 49 [.ref a, p0, p1] M) (fun v M' => ji_Ev C 48 29 M' lv (v.toList ++ st) o) := ev_inv (k := 48) rfl cd_5_53 rfl
theorem s48_29 : ji_Ev C 48 29 M (some (.ref a) :: l) st o ↔ ji_Ev C 48 30 M (some (.ref a) :: l) (.ref a :: st) o := ev_go (S := (30, M, (some (.ref a) :: l), (.ref a :: st))) rfl rfl rfl
theorem s48_30 : ji_Ev C 48 30 M (l0 :: some (.int x) :: l) st o ↔ ji_Ev C 48 31 M (l0 :: some (.int x) :: l) (.int x :: st) o := ev_go (S := (31, M, (l0 :: some (.int x) :: l), (.int x :: st))) rfl rfl rfl
theorem s48_31 : ji_Ev C 48 31 M lv (p0 :: .ref a :: st) o ↔ (ji_rcb M 5 (.ref a) = true ∧ ji_ok8 st) ∧ ji_evC (C 50 [.ref a, p0] M) (fun v M' => ji_Ev C 48 34 M' lv (v.toList ++ st) o) := ev_inv (k := 48) rfl cd_5_57 rfl
theorem s48_34 : ji_Ev C 48 34 M lv (p0 :: st) o ↔ ji_ok8 st ∧ ji_evC (C 51 [p0] M) (fun v M' => ji_Ev C 48 37 M' lv (v.toList ++ st) o) := ev_sta (k := 48) (a := [p0]) rfl (Or.inl cd_5_93) rfl
theorem s48_37 : ji_Ev C 48 37 M lv (.int y :: .int x :: st) o ↔ ji_Ev C 48 38 M lv (.int (x + y) :: st) o := ev_go (S := (38, M, lv, (.int (x + y) :: st))) rfl rfl rfl
theorem s48_38 : ji_Ev C 48 38 M lv (.int x :: st) o ↔ 5 < lv.length ∧ ji_Ev C 48 40 M (ji_s1 lv 5 (.int x)) st o := ev_stI rfl rfl rfl
theorem s48_40 : ji_Ev C 48 40 M (l0 :: l1 :: l2 :: l3 :: some (.int x) :: l) st o ↔ ji_Ev C 48 42 M (l0 :: l1 :: l2 :: l3 :: some (.int x) :: l) (.int x :: st) o := ev_go (S := (42, M, (l0 :: l1 :: l2 :: l3 :: some (.int x) :: l), (.int x :: st))) rfl rfl rfl
theorem s48_42 : ji_Ev C 48 42 M lv st o ↔ ji_Ev C 48 43 M lv (.int 1 :: st) o := ev_go (S := (43, M, lv, (.int 1 :: st))) rfl rfl rfl
theorem s48_43 : ji_Ev C 48 43 M lv (.int y :: .int x :: st) o ↔ ji_Ev C 48 44 M lv (.int (x + y) :: st) o := ev_go (S := (44, M, lv, (.int (x + y) :: st))) rfl rfl rfl
theorem s48_44 : ji_Ev C 48 44 M (l0 :: l1 :: l2 :: some (.int x) :: l) st o ↔ ji_Ev C 48 45 M (l0 :: l1 :: l2 :: some (.int x) :: l) (.int x :: st) o := ev_go (S := (45, M, (l0 :: l1 :: l2 :: some (.int x) :: l), (.int x :: st))) rfl rfl rfl
theorem s48_45 : ji_Ev C 48 45 M (l0 :: l1 :: l2 :: l3 :: l4 :: some (.int x) :: l) st o ↔ ji_Ev C 48 47 M (l0 :: l1 :: l2 :: l3 :: l4 :: some (.int x) :: l) (.int x :: st) o := ev_go (S := (47, M, (l0 :: l1 :: l2 :: l3 :: l4 :: some (.int x) :: l), (.int x :: st))) rfl rfl rfl
theorem s48_47 : ji_Ev C 48 47 M lv (.int y :: .int x :: st) o ↔ ji_ok8 st ∧ ji_Ev C 48 50 M lv (.int (if y < x then y else x) :: st) o := ev_min (k := 48) rfl cd_5_96
theorem s48_50 : ji_Ev C 48 50 M lv (.int y :: .int x :: st) o ↔ ji_ok8 st ∧ ji_Ev C 48 53 M lv (.int (if x < y then y else x) :: st) o := ev_max (k := 48) rfl cd_5_101
theorem s48_53 : ji_Ev C 48 53 M lv (.int x :: st) o ↔ 6 < lv.length ∧ ji_Ev C 48 55 M (ji_s1 lv 6 (.int x)) st o := ev_stI rfl rfl rfl
theorem s48_55 : ji_Ev C 48 55 M (some (.ref a) :: l) st o ↔ ji_Ev C 48 56 M (some (.ref a) :: l) (.ref a :: st) o := ev_go (S := (56, M, (some (.ref a) :: l), (.ref a :: st))) rfl rfl rfl
theorem s48_56 : ji_Ev C 48 56 M (l0 :: some (.int x) :: l) st o ↔ ji_Ev C 48 57 M (l0 :: some (.int x) :: l) (.int x :: st) o := ev_go (S := (57, M, (l0 :: some (.int x) :: l), (.int x :: st))) rfl rfl rfl
theorem s48_57 : ji_Ev C 48 57 M (l0 :: l1 :: l2 :: l3 :: l4 :: l5 :: some (.int x) :: l) st o ↔ ji_Ev C 48 59 M (l0 :: l1 :: l2 :: l3 :: l4 :: l5 :: some (.int x) :: l) (.int x :: st) o := ev_go (S := (59, M, (l0 :: l1 :: l2 :: l3 :: l4 :: l5 :: some (.int x) :: l), (.int x :: st))) rfl rfl rfl
theorem s48_59 : ji_Ev C 48 59 M (l0 :: l1 :: l2 :: l3 :: some (.int x) :: l) st o ↔ ji_Ev C 48 61 M (l0 :: l1 :: l2 :: l3 :: some (.int x) :: l) (.int x :: st) o := ev_go (S := (61, M, (l0 :: l1 :: l2 :: l3 :: some (.int x) :: l), (.int x :: st))) rfl rfl rfl
theorem s48_61 : ji_Ev C 48 61 M lv (.int y :: .int x :: st) o ↔ ji_Ev C 48 62 M lv (.int (x - y) :: st) o := ev_go (S := (62, M, lv, (.int (x - y) :: st))) rfl rfl rfl
theorem s48_62 : ji_Ev C 48 62 M lv (p1 :: p0 :: .ref a :: st) o ↔ (ji_rcb M 5 (.ref a) = true ∧ ji_ok8 st) ∧ ji_evC (C 52 [.ref a, p0, p1] M) (fun v M' => ji_Ev C 48 65 M' lv (v.toList ++ st) o) := ev_inv (k := 48) rfl cd_5_104 rfl
theorem s48_65 : ji_Ev C 48 65 M (l0 :: l1 :: l2 :: l3 :: l4 :: l5 :: some (.int x) :: l) st o ↔ ji_Ev C 48 67 M (l0 :: l1 :: l2 :: l3 :: l4 :: l5 :: some (.int x) :: l) (.int x :: st) o := ev_go (S := (67, M, (l0 :: l1 :: l2 :: l3 :: l4 :: l5 :: some (.int x) :: l), (.int x :: st))) rfl rfl rfl
theorem s48_67 : ji_Ev C 48 67 M lv (.int x :: st) o ↔ 4 < lv.length ∧ ji_Ev C 48 69 M (ji_s1 lv 4 (.int x)) st o := ev_stI rfl rfl rfl
theorem s48_69 : ji_Ev C 48 69 M (l0 :: l1 :: l2 :: l3 :: some (.int x) :: l) st o ↔ ji_Ev C 48 71 M (l0 :: l1 :: l2 :: l3 :: some (.int x) :: l) (.int x :: st) o := ev_go (S := (71, M, (l0 :: l1 :: l2 :: l3 :: some (.int x) :: l), (.int x :: st))) rfl rfl rfl
theorem s48_71 : ji_Ev C 48 71 M (l0 :: l1 :: l2 :: l3 :: l4 :: some (.int x) :: l) st o ↔ ji_Ev C 48 73 M (l0 :: l1 :: l2 :: l3 :: l4 :: some (.int x) :: l) (.int x :: st) o := ev_go (S := (73, M, (l0 :: l1 :: l2 :: l3 :: l4 :: some (.int x) :: l), (.int x :: st))) rfl rfl rfl
theorem s48_73 : ji_Ev C 48 73 M lv (.int y :: .int x :: st) o ↔ if x < y then ji_Ev C 48 97 M lv st o else ji_Ev C 48 76 M lv st o := ev_brc (c := .lt) rfl (by decide) rfl
theorem s48_76 : ji_Ev C 48 76 M (some (.ref a) :: l) st o ↔ ji_Ev C 48 77 M (some (.ref a) :: l) (.ref a :: st) o := ev_go (S := (77, M, (some (.ref a) :: l), (.ref a :: st))) rfl rfl rfl
theorem s48_77 : ji_Ev C 48 77 M (l0 :: some (.int x) :: l) st o ↔ ji_Ev C 48 78 M (l0 :: some (.int x) :: l) (.int x :: st) o := ev_go (S := (78, M, (l0 :: some (.int x) :: l), (.int x :: st))) rfl rfl rfl
theorem s48_78 : ji_Ev C 48 78 M (some (.ref a) :: l) st o ↔ ji_Ev C 48 79 M (some (.ref a) :: l) (.ref a :: st) o := ev_go (S := (79, M, (some (.ref a) :: l), (.ref a :: st))) rfl rfl rfl
theorem s48_79 : ji_Ev C 48 79 M (l0 :: some (.int x) :: l) st o ↔ ji_Ev C 48 80 M (l0 :: some (.int x) :: l) (.int x :: st) o := ev_go (S := (80, M, (l0 :: some (.int x) :: l), (.int x :: st))) rfl rfl rfl
theorem s48_80 : ji_Ev C 48 80 M lv (p0 :: .ref a :: st) o ↔ (ji_rcb M 5 (.ref a) = true ∧ ji_ok8 st) ∧ ji_evC (C 50 [.ref a, p0] M) (fun v M' => ji_Ev C 48 83 M' lv (v.toList ++ st) o) := ev_inv (k := 48) rfl cd_5_57 rfl
theorem s48_83 : ji_Ev C 48 83 M lv st o ↔ ji_Ev C 48 84 M lv (.int 1 :: st) o := ev_go (S := (84, M, lv, (.int 1 :: st))) rfl rfl rfl
theorem s48_84 : ji_Ev C 48 84 M lv (.int y :: .int x :: st) o ↔ if x = y then ji_Ev C 48 87 M lv st o else ji_Ev C 48 91 M lv st o := ev_brc (c := .ne) rfl (by decide) rfl
theorem s48_87 : ji_Ev C 48 87 M lv st o ↔ ji_Ev C 48 88 M lv (.int 4 :: st) o := ev_go (S := (88, M, lv, (.int 4 :: st))) rfl rfl rfl
theorem s48_88 : ji_Ev C 48 88 M lv st o ↔ ji_Ev C 48 92 M lv st o := ev_gt rfl (by decide) rfl
theorem s48_91 : ji_Ev C 48 91 M lv st o ↔ ji_Ev C 48 92 M lv (.int 0 :: st) o := ev_go (S := (92, M, lv, (.int 0 :: st))) rfl rfl rfl
theorem s48_92 : ji_Ev C 48 92 M (l0 :: l1 :: l2 :: l3 :: some (.int x) :: l) st o ↔ ji_Ev C 48 94 M (l0 :: l1 :: l2 :: l3 :: some (.int x) :: l) (.int x :: st) o := ev_go (S := (94, M, (l0 :: l1 :: l2 :: l3 :: some (.int x) :: l), (.int x :: st))) rfl rfl rfl
theorem s48_94 : ji_Ev C 48 94 M lv (p2 :: p1 :: p0 :: .ref a :: st) o ↔ (ji_rcb M 5 (.ref a) = true ∧ ji_ok8 st) ∧ ji_evC (C 58 [.ref a, p0, p1, p2] M) (fun v M' => ji_Ev C 48 97 M' lv (v.toList ++ st) o) := ev_inv (k := 48) rfl cd_5_87 rfl
theorem s48_97 : ji_Ev C 48 97 M lv st o ↔ ji_Ev C 48 13 M lv st o := ev_gt rfl (by decide) rfl
theorem s48_100 : ji_Ev C 48 100 M lv [] o ↔ o = (none, M) := ev_vret rfl rfl
theorem s49_0 : ji_Ev C 49 0 M (l0 :: some (.int x) :: l) st o ↔ ji_Ev C 49 1 M (l0 :: some (.int x) :: l) (.int x :: st) o := ev_go (S := (1, M, (l0 :: some (.int x) :: l), (.int x :: st))) rfl rfl rfl
theorem s49_1 : ji_Ev C 49 1 M lv (.int x :: st) o ↔ if x < 0 then ji_Ev C 49 28 M lv st o else ji_Ev C 49 4 M lv st o := ev_brz (c := .lt) rfl (by decide) rfl
theorem s49_4 : ji_Ev C 49 4 M (l0 :: some (.int x) :: l) st o ↔ ji_Ev C 49 5 M (l0 :: some (.int x) :: l) (.int x :: st) o := ev_go (S := (5, M, (l0 :: some (.int x) :: l), (.int x :: st))) rfl rfl rfl
theorem s49_5 : ji_Ev C 49 5 M (some (.ref a) :: l) st o ↔ ji_Ev C 49 6 M (some (.ref a) :: l) (.ref a :: st) o := ev_go (S := (6, M, (some (.ref a) :: l), (.ref a :: st))) rfl rfl rfl
theorem s49_6 : ji_Ev C 49 6 M lv (.ref a :: st) o ↔ ji_kd M a = some (0, 2) ∧ ji_Ev C 49 9 M lv (.int (ji_gI M a 3) :: st) o := ev_getI (k := 49) rfl fd_2_28 rfl
theorem s49_9 : ji_Ev C 49 9 M lv (.int y :: .int x :: st) o ↔ if x < y then ji_Ev C 49 12 M lv st o else ji_Ev C 49 28 M lv st o := ev_brc (c := .ge) rfl (by decide) rfl
theorem s49_12 : ji_Ev C 49 12 M (l0 :: l1 :: some (.int x) :: l) st o ↔ ji_Ev C 49 13 M (l0 :: l1 :: some (.int x) :: l) (.int x :: st) o := ev_go (S := (13, M, (l0 :: l1 :: some (.int x) :: l), (.int x :: st))) rfl rfl rfl
theorem s49_13 : ji_Ev C 49 13 M lv (.int x :: st) o ↔ if x < 0 then ji_Ev C 49 28 M lv st o else ji_Ev C 49 16 M lv st o := ev_brz (c := .lt) rfl (by decide) rfl
theorem s49_16 : ji_Ev C 49 16 M (l0 :: l1 :: some (.int x) :: l) st o ↔ ji_Ev C 49 17 M (l0 :: l1 :: some (.int x) :: l) (.int x :: st) o := ev_go (S := (17, M, (l0 :: l1 :: some (.int x) :: l), (.int x :: st))) rfl rfl rfl
theorem s49_17 : ji_Ev C 49 17 M (some (.ref a) :: l) st o ↔ ji_Ev C 49 18 M (some (.ref a) :: l) (.ref a :: st) o := ev_go (S := (18, M, (some (.ref a) :: l), (.ref a :: st))) rfl rfl rfl
theorem s49_18 : ji_Ev C 49 18 M lv (.ref a :: st) o ↔ ji_kd M a = some (0, 2) ∧ ji_Ev C 49 21 M lv (.int (ji_gI M a 1) :: st) o := ev_getI (k := 49) rfl fd_2_21 rfl
theorem s49_21 : ji_Ev C 49 21 M lv (.int y :: .int x :: st) o ↔ if x < y then ji_Ev C 49 24 M lv st o else ji_Ev C 49 28 M lv st o := ev_brc (c := .ge) rfl (by decide) rfl
theorem s49_24 : ji_Ev C 49 24 M lv st o ↔ ji_Ev C 49 25 M lv (.int 1 :: st) o := ev_go (S := (25, M, lv, (.int 1 :: st))) rfl rfl rfl
theorem s49_25 : ji_Ev C 49 25 M lv st o ↔ ji_Ev C 49 29 M lv st o := ev_gt rfl (by decide) rfl
theorem s49_28 : ji_Ev C 49 28 M lv st o ↔ ji_Ev C 49 29 M lv (.int 0 :: st) o := ev_go (S := (29, M, lv, (.int 0 :: st))) rfl rfl rfl
theorem s49_29 : ji_Ev C 49 29 M lv (.int x :: st) o ↔ 3 < lv.length ∧ ji_Ev C 49 30 M (ji_s1 lv 3 (.int x)) st o := ev_stI rfl rfl rfl
theorem s49_30 : ji_Ev C 49 30 M (l0 :: l1 :: l2 :: some (.int x) :: l) st o ↔ ji_Ev C 49 31 M (l0 :: l1 :: l2 :: some (.int x) :: l) (.int x :: st) o := ev_go (S := (31, M, (l0 :: l1 :: l2 :: some (.int x) :: l), (.int x :: st))) rfl rfl rfl
theorem s49_31 : ji_Ev C 49 31 M lv (.int x :: st) o ↔ if x = 0 then ji_Ev C 49 50 M lv st o else ji_Ev C 49 34 M lv st o := ev_brz (c := .eq) rfl (by decide) rfl
theorem s49_34 : ji_Ev C 49 34 M (some (.ref a) :: l) st o ↔ ji_Ev C 49 35 M (some (.ref a) :: l) (.ref a :: st) o := ev_go (S := (35, M, (some (.ref a) :: l), (.ref a :: st))) rfl rfl rfl
theorem s49_35 : ji_Ev C 49 35 M lv (.ref a :: st) o ↔ ji_kd M a = some (0, 2) ∧ ji_Ev C 49 38 M lv (ji_rv (ji_gR M a 2) :: st) o := ev_getR (k := 49) rfl fd_2_24 rfl
theorem s49_38 : ji_Ev C 49 38 M (l0 :: some (.int x) :: l) st o ↔ ji_Ev C 49 39 M (l0 :: some (.int x) :: l) (.int x :: st) o := ev_go (S := (39, M, (l0 :: some (.int x) :: l), (.int x :: st))) rfl rfl rfl
theorem s49_39 : ji_Ev C 49 39 M (some (.ref a) :: l) st o ↔ ji_Ev C 49 40 M (some (.ref a) :: l) (.ref a :: st) o := ev_go (S := (40, M, (some (.ref a) :: l), (.ref a :: st))) rfl rfl rfl
theorem s49_40 : ji_Ev C 49 40 M lv (.ref a :: st) o ↔ ji_kd M a = some (0, 2) ∧ ji_Ev C 49 43 M lv (.int (ji_gI M a 1) :: st) o := ev_getI (k := 49) rfl fd_2_21 rfl
theorem s49_43 : ji_Ev C 49 43 M lv (.int y :: .int x :: st) o ↔ ji_Ev C 49 44 M lv (.int (x * y) :: st) o := ev_go (S := (44, M, lv, (.int (x * y) :: st))) rfl rfl rfl
theorem s49_44 : ji_Ev C 49 44 M (l0 :: l1 :: some (.int x) :: l) st o ↔ ji_Ev C 49 45 M (l0 :: l1 :: some (.int x) :: l) (.int x :: st) o := ev_go (S := (45, M, (l0 :: l1 :: some (.int x) :: l), (.int x :: st))) rfl rfl rfl
theorem s49_45 : ji_Ev C 49 45 M lv (.int y :: .int x :: st) o ↔ ji_Ev C 49 46 M lv (.int (x + y) :: st) o := ev_go (S := (46, M, lv, (.int (x + y) :: st))) rfl rfl rfl
theorem s49_46 : ji_Ev C 49 46 M lv (.int x :: .ref a :: st) o ↔ ji_evA (ji_kd M a) (fun n => vp_in x n ∧ ji_Ev C 49 47 M lv (.int (ji_gI M a x.toNatClampNeg) :: st) o) := ev_iald rfl
theorem s49_47 : ji_Ev C 49 47 M lv st o ↔ ji_Ev C 49 51 M lv st o := ev_gt rfl (by decide) rfl
theorem s49_50 : ji_Ev C 49 50 M lv st o ↔ ji_Ev C 49 51 M lv (.int 0 :: st) o := ev_go (S := (51, M, lv, (.int 0 :: st))) rfl rfl rfl
theorem s49_51 : ji_Ev C 49 51 M lv [.int x] o ↔ o = (some (.int x), M) := ev_ireti rfl rfl
theorem s50_0 : ji_Ev C 50 0 M (some (.ref a) :: l) st o ↔ ji_Ev C 50 1 M (some (.ref a) :: l) (.ref a :: st) o := ev_go (S := (1, M, (some (.ref a) :: l), (.ref a :: st))) rfl rfl rfl
theorem s50_1 : ji_Ev C 50 1 M lv (.ref a :: st) o ↔ ji_kd M a = some (0, 5) ∧ ji_Ev C 50 4 M lv (ji_rv (ji_gR M a 0) :: st) o := ev_getR (k := 50) rfl fd_5_14 rfl
theorem s50_4 : ji_Ev C 50 4 M (l0 :: some (.int x) :: l) st o ↔ ji_Ev C 50 5 M (l0 :: some (.int x) :: l) (.int x :: st) o := ev_go (S := (5, M, (l0 :: some (.int x) :: l), (.int x :: st))) rfl rfl rfl
theorem s50_5 : ji_Ev C 50 5 M lv st o ↔ ji_Ev C 50 6 M lv (.int 0 :: st) o := ev_go (S := (6, M, lv, (.int 0 :: st))) rfl rfl rfl
theorem s50_6 : ji_Ev C 50 6 M lv (p1 :: p0 :: .ref a :: st) o ↔ (ji_rcb M 2 (.ref a) = true ∧ ji_ok8 st) ∧ ji_evC (C 49 [.ref a, p0, p1] M) (fun v M' => ji_Ev C 50 9 M' lv (v.toList ++ st) o) := ev_inv (k := 50) rfl cd_5_53 rfl
theorem s50_9 : ji_Ev C 50 9 M lv [.int x] o ↔ o = (some (.int x), M) := ev_ireti rfl rfl
theorem s51_0 : ji_Ev C 51 0 M (some (.int x) :: l) st o ↔ ji_Ev C 51 1 M (some (.int x) :: l) (.int x :: st) o := ev_go (S := (1, M, (some (.int x) :: l), (.int x :: st))) rfl rfl rfl
theorem s51_1 : ji_Ev C 51 1 M lv (.int x :: st) o ↔ if x = 1 then ji_Ev C 51 36 M lv st o else if x = 2 then ji_Ev C 51 45 M lv st o else if x = 3 then ji_Ev C 51 39 M lv st o else if x = 4 then ji_Ev C 51 45 M lv st o else if x = 5 then ji_Ev C 51 42 M lv st o else ji_Ev C 51 45 M lv st o := by
  refine (ev_swT rfl (by decide)).trans ?_
  show ji_Ev C 51 ((1 : Int) + (if x = 1 then 35 else if x = 2 then 44 else if x = 3 then 38 else if x = 4 then 44 else if x = 5 then 41 else 44)).toNat M lv st o ↔ _
  by_cases h0 : x = 1
  · rw [if_pos h0, if_pos h0]; exact Iff.rfl
  rw [if_neg h0, if_neg h0]
  by_cases h1 : x = 2
  · rw [if_pos h1, if_pos h1]; exact Iff.rfl
  rw [if_neg h1, if_neg h1]
  by_cases h2 : x = 3
  · rw [if_pos h2, if_pos h2]; exact Iff.rfl
  rw [if_neg h2, if_neg h2]
  by_cases h3 : x = 4
  · rw [if_pos h3, if_pos h3]; exact Iff.rfl
  rw [if_neg h3, if_neg h3]
  by_cases h4 : x = 5
  · rw [if_pos h4, if_pos h4]; exact Iff.rfl
  rw [if_neg h4, if_neg h4]
  exact Iff.rfl
theorem s51_36 : ji_Ev C 51 36 M lv st o ↔ ji_Ev C 51 38 M lv (.int 48 :: st) o := ev_go (S := (38, M, lv, (.int 48 :: st))) rfl rfl rfl
theorem s51_38 : ji_Ev C 51 38 M lv [.int x] o ↔ o = (some (.int x), M) := ev_ireti rfl rfl
theorem s51_39 : ji_Ev C 51 39 M lv st o ↔ ji_Ev C 51 41 M lv (.int 72 :: st) o := ev_go (S := (41, M, lv, (.int 72 :: st))) rfl rfl rfl
theorem s51_41 : ji_Ev C 51 41 M lv [.int x] o ↔ o = (some (.int x), M) := ev_ireti rfl rfl
theorem s51_42 : ji_Ev C 51 42 M lv st o ↔ ji_Ev C 51 44 M lv (.int 96 :: st) o := ev_go (S := (44, M, lv, (.int 96 :: st))) rfl rfl rfl
theorem s51_44 : ji_Ev C 51 44 M lv [.int x] o ↔ o = (some (.int x), M) := ev_ireti rfl rfl
theorem s51_45 : ji_Ev C 51 45 M lv st o ↔ ji_Ev C 51 47 M lv (.int (1000000) :: st) o := ev_go (S := (47, M, lv, (.int (1000000) :: st))) rfl rfl rfl
theorem s51_47 : ji_Ev C 51 47 M lv [.int x] o ↔ o = (some (.int x), M) := ev_ireti rfl rfl
theorem s52_0 : ji_Ev C 52 0 M (some (.ref a) :: l) st o ↔ ji_Ev C 52 1 M (some (.ref a) :: l) (.ref a :: st) o := ev_go (S := (1, M, (some (.ref a) :: l), (.ref a :: st))) rfl rfl rfl
theorem s52_1 : ji_Ev C 52 1 M lv (.ref a :: st) o ↔ ji_kd M a = some (0, 5) ∧ ji_Ev C 52 4 M lv (ji_rv (ji_gR M a 0) :: st) o := ev_getR (k := 52) rfl fd_5_14 rfl
theorem s52_4 : ji_Ev C 52 4 M (l0 :: some (.int x) :: l) st o ↔ ji_Ev C 52 5 M (l0 :: some (.int x) :: l) (.int x :: st) o := ev_go (S := (5, M, (l0 :: some (.int x) :: l), (.int x :: st))) rfl rfl rfl
theorem s52_5 : ji_Ev C 52 5 M lv st o ↔ ji_Ev C 52 6 M lv (.int 0 :: st) o := ev_go (S := (6, M, lv, (.int 0 :: st))) rfl rfl rfl
theorem s52_6 : ji_Ev C 52 6 M lv (p1 :: p0 :: .ref a :: st) o ↔ (ji_rcb M 2 (.ref a) = true ∧ ji_ok8 st) ∧ ji_evC (C 49 [.ref a, p0, p1] M) (fun v M' => ji_Ev C 52 9 M' lv (v.toList ++ st) o) := ev_inv (k := 52) rfl cd_5_53 rfl
theorem s52_9 : ji_Ev C 52 9 M lv (.int x :: st) o ↔ 3 < lv.length ∧ ji_Ev C 52 10 M (ji_s1 lv 3 (.int x)) st o := ev_stI rfl rfl rfl
theorem s52_10 : ji_Ev C 52 10 M (some (.ref a) :: l) st o ↔ ji_Ev C 52 11 M (some (.ref a) :: l) (.ref a :: st) o := ev_go (S := (11, M, (some (.ref a) :: l), (.ref a :: st))) rfl rfl rfl
theorem s52_11 : ji_Ev C 52 11 M lv (.ref a :: st) o ↔ ji_kd M a = some (0, 5) ∧ ji_Ev C 52 14 M lv (ji_rv (ji_gR M a 0) :: st) o := ev_getR (k := 52) rfl fd_5_14 rfl
theorem s52_14 : ji_Ev C 52 14 M (l0 :: some (.int x) :: l) st o ↔ ji_Ev C 52 15 M (l0 :: some (.int x) :: l) (.int x :: st) o := ev_go (S := (15, M, (l0 :: some (.int x) :: l), (.int x :: st))) rfl rfl rfl
theorem s52_15 : ji_Ev C 52 15 M lv st o ↔ ji_Ev C 52 16 M lv (.int 5 :: st) o := ev_go (S := (16, M, lv, (.int 5 :: st))) rfl rfl rfl
theorem s52_16 : ji_Ev C 52 16 M lv (p1 :: p0 :: .ref a :: st) o ↔ (ji_rcb M 2 (.ref a) = true ∧ ji_ok8 st) ∧ ji_evC (C 49 [.ref a, p0, p1] M) (fun v M' => ji_Ev C 52 19 M' lv (v.toList ++ st) o) := ev_inv (k := 52) rfl cd_5_53 rfl
theorem s52_19 : ji_Ev C 52 19 M lv (.int x :: st) o ↔ 4 < lv.length ∧ ji_Ev C 52 21 M (ji_s1 lv 4 (.int x)) st o := ev_stI rfl rfl rfl
theorem s52_21 : ji_Ev C 52 21 M (l0 :: l1 :: l2 :: some (.int x) :: l) st o ↔ ji_Ev C 52 22 M (l0 :: l1 :: l2 :: some (.int x) :: l) (.int x :: st) o := ev_go (S := (22, M, (l0 :: l1 :: l2 :: some (.int x) :: l), (.int x :: st))) rfl rfl rfl
theorem s52_22 : ji_Ev C 52 22 M (some (.ref a) :: l) st o ↔ ji_Ev C 52 23 M (some (.ref a) :: l) (.ref a :: st) o := ev_go (S := (23, M, (some (.ref a) :: l), (.ref a :: st))) rfl rfl rfl
theorem s52_23 : ji_Ev C 52 23 M lv (.ref a :: st) o ↔ ji_kd M a = some (0, 5) ∧ ji_Ev C 52 26 M lv (.int (ji_gI M a 2) :: st) o := ev_getI (k := 52) rfl fd_5_24 rfl
theorem s52_26 : ji_Ev C 52 26 M lv (p1 :: p0 :: st) o ↔ ji_ok8 st ∧ ji_evC (C 53 [p0, p1] M) (fun v M' => ji_Ev C 52 29 M' lv (v.toList ++ st) o) := ev_sta (k := 52) (a := [p1, p0]) rfl (Or.inl cd_5_67) rfl
theorem s52_29 : ji_Ev C 52 29 M lv (.int x :: st) o ↔ 5 < lv.length ∧ ji_Ev C 52 31 M (ji_s1 lv 5 (.int x)) st o := ev_stI rfl rfl rfl
theorem s52_31 : ji_Ev C 52 31 M (l0 :: l1 :: l2 :: l3 :: some (.int x) :: l) st o ↔ ji_Ev C 52 33 M (l0 :: l1 :: l2 :: l3 :: some (.int x) :: l) (.int x :: st) o := ev_go (S := (33, M, (l0 :: l1 :: l2 :: l3 :: some (.int x) :: l), (.int x :: st))) rfl rfl rfl
theorem s52_33 : ji_Ev C 52 33 M (l0 :: l1 :: l2 :: l3 :: l4 :: some (.int x) :: l) st o ↔ ji_Ev C 52 35 M (l0 :: l1 :: l2 :: l3 :: l4 :: some (.int x) :: l) (.int x :: st) o := ev_go (S := (35, M, (l0 :: l1 :: l2 :: l3 :: l4 :: some (.int x) :: l), (.int x :: st))) rfl rfl rfl
theorem s52_35 : ji_Ev C 52 35 M lv (p1 :: p0 :: st) o ↔ ji_ok8 st ∧ ji_evC (C 54 [p0, p1] M) (fun v M' => ji_Ev C 52 38 M' lv (v.toList ++ st) o) := ev_sta (k := 52) (a := [p1, p0]) rfl (Or.inl cd_5_107) rfl
theorem s52_38 : ji_Ev C 52 38 M lv (.int x :: st) o ↔ 6 < lv.length ∧ ji_Ev C 52 40 M (ji_s1 lv 6 (.int x)) st o := ev_stI rfl rfl rfl
theorem s52_40 : ji_Ev C 52 40 M (l0 :: l1 :: l2 :: l3 :: l4 :: l5 :: some (.int x) :: l) st o ↔ ji_Ev C 52 42 M (l0 :: l1 :: l2 :: l3 :: l4 :: l5 :: some (.int x) :: l) (.int x :: st) o := ev_go (S := (42, M, (l0 :: l1 :: l2 :: l3 :: l4 :: l5 :: some (.int x) :: l), (.int x :: st))) rfl rfl rfl
theorem s52_42 : ji_Ev C 52 42 M lv st o ↔ ji_Ev C 52 43 M lv (.int (-1) :: st) o := ev_go (S := (43, M, lv, (.int (-1) :: st))) rfl rfl rfl
theorem s52_43 : ji_Ev C 52 43 M lv (.int y :: .int x :: st) o ↔ if x = y then ji_Ev C 52 46 M lv st o else ji_Ev C 52 50 M lv st o := ev_brc (c := .ne) rfl (by decide) rfl
theorem s52_46 : ji_Ev C 52 46 M lv st o ↔ ji_Ev C 52 47 M lv (.int 0 :: st) o := ev_go (S := (47, M, lv, (.int 0 :: st))) rfl rfl rfl
theorem s52_47 : ji_Ev C 52 47 M lv st o ↔ ji_Ev C 52 64 M lv st o := ev_gt rfl (by decide) rfl
theorem s52_50 : ji_Ev C 52 50 M lv st o ↔ ji_Ev C 52 51 M lv (.int 0 :: st) o := ev_go (S := (51, M, lv, (.int 0 :: st))) rfl rfl rfl
theorem s52_51 : ji_Ev C 52 51 M (l0 :: l1 :: some (.int x) :: l) st o ↔ ji_Ev C 52 52 M (l0 :: l1 :: some (.int x) :: l) (.int x :: st) o := ev_go (S := (52, M, (l0 :: l1 :: some (.int x) :: l), (.int x :: st))) rfl rfl rfl
theorem s52_52 : ji_Ev C 52 52 M lv st o ↔ ji_Ev C 52 53 M lv (.int 0 :: st) o := ev_go (S := (53, M, lv, (.int 0 :: st))) rfl rfl rfl
theorem s52_53 : ji_Ev C 52 53 M (l0 :: l1 :: l2 :: l3 :: l4 :: l5 :: some (.int x) :: l) st o ↔ ji_Ev C 52 55 M (l0 :: l1 :: l2 :: l3 :: l4 :: l5 :: some (.int x) :: l) (.int x :: st) o := ev_go (S := (55, M, (l0 :: l1 :: l2 :: l3 :: l4 :: l5 :: some (.int x) :: l), (.int x :: st))) rfl rfl rfl
theorem s52_55 : ji_Ev C 52 55 M lv st o ↔ ji_Ev C 52 56 M lv (.int 1 :: st) o := ev_go (S := (56, M, lv, (.int 1 :: st))) rfl rfl rfl
theorem s52_56 : ji_Ev C 52 56 M lv (.int y :: .int x :: st) o ↔ ji_Ev C 52 57 M lv (.int (x - y) :: st) o := ev_go (S := (57, M, lv, (.int (x - y) :: st))) rfl rfl rfl
theorem s52_57 : ji_Ev C 52 57 M lv (.int y :: .int x :: st) o ↔ ji_ok8 st ∧ ji_Ev C 52 60 M lv (.int (if x < y then y else x) :: st) o := ev_max (k := 52) rfl cd_5_101
theorem s52_60 : ji_Ev C 52 60 M lv (.int y :: .int x :: st) o ↔ ji_Ev C 52 61 M lv (.int (x - y) :: st) o := ev_go (S := (61, M, lv, (.int (x - y) :: st))) rfl rfl rfl
theorem s52_61 : ji_Ev C 52 61 M lv (.int y :: .int x :: st) o ↔ ji_ok8 st ∧ ji_Ev C 52 64 M lv (.int (if x < y then y else x) :: st) o := ev_max (k := 52) rfl cd_5_101
theorem s52_64 : ji_Ev C 52 64 M lv (.int x :: st) o ↔ 7 < lv.length ∧ ji_Ev C 52 66 M (ji_s1 lv 7 (.int x)) st o := ev_stI rfl rfl rfl
theorem s52_66 : ji_Ev C 52 66 M (some (.ref a) :: l) st o ↔ ji_Ev C 52 67 M (some (.ref a) :: l) (.ref a :: st) o := ev_go (S := (67, M, (some (.ref a) :: l), (.ref a :: st))) rfl rfl rfl
theorem s52_67 : ji_Ev C 52 67 M lv (.ref a :: st) o ↔ ji_kd M a = some (0, 5) ∧ ji_Ev C 52 70 M lv (ji_rv (ji_gR M a 0) :: st) o := ev_getR (k := 52) rfl fd_5_14 rfl
theorem s52_70 : ji_Ev C 52 70 M (l0 :: some (.int x) :: l) st o ↔ ji_Ev C 52 71 M (l0 :: some (.int x) :: l) (.int x :: st) o := ev_go (S := (71, M, (l0 :: some (.int x) :: l), (.int x :: st))) rfl rfl rfl
theorem s52_71 : ji_Ev C 52 71 M lv st o ↔ ji_Ev C 52 73 M lv (.int 6 :: st) o := ev_go (S := (73, M, lv, (.int 6 :: st))) rfl rfl rfl
theorem s52_73 : ji_Ev C 52 73 M lv (p1 :: p0 :: .ref a :: st) o ↔ (ji_rcb M 2 (.ref a) = true ∧ ji_ok8 st) ∧ ji_evC (C 49 [.ref a, p0, p1] M) (fun v M' => ji_Ev C 52 76 M' lv (v.toList ++ st) o) := ev_inv (k := 52) rfl cd_5_53 rfl
theorem s52_76 : ji_Ev C 52 76 M (l0 :: l1 :: l2 :: l3 :: l4 :: l5 :: l6 :: some (.int x) :: l) st o ↔ ji_Ev C 52 78 M (l0 :: l1 :: l2 :: l3 :: l4 :: l5 :: l6 :: some (.int x) :: l) (.int x :: st) o := ev_go (S := (78, M, (l0 :: l1 :: l2 :: l3 :: l4 :: l5 :: l6 :: some (.int x) :: l), (.int x :: st))) rfl rfl rfl
theorem s52_78 : ji_Ev C 52 78 M (l0 :: l1 :: l2 :: some (.int x) :: l) st o ↔ ji_Ev C 52 79 M (l0 :: l1 :: l2 :: some (.int x) :: l) (.int x :: st) o := ev_go (S := (79, M, (l0 :: l1 :: l2 :: some (.int x) :: l), (.int x :: st))) rfl rfl rfl
theorem s52_79 : ji_Ev C 52 79 M lv (p0 :: st) o ↔ ji_ok8 st ∧ ji_evC (C 55 [p0] M) (fun v M' => ji_Ev C 52 82 M' lv (v.toList ++ st) o) := ev_sta (k := 52) (a := [p0]) rfl (Or.inl cd_5_110) rfl
theorem s52_82 : ji_Ev C 52 82 M lv (.int y :: .int x :: st) o ↔ ji_Ev C 52 83 M lv (.int (x * y) :: st) o := ev_go (S := (83, M, lv, (.int (x * y) :: st))) rfl rfl rfl
theorem s52_83 : ji_Ev C 52 83 M lv (.int y :: .int x :: st) o ↔ ji_Ev C 52 84 M lv (.int (x + y) :: st) o := ev_go (S := (84, M, lv, (.int (x + y) :: st))) rfl rfl rfl
theorem s52_84 : ji_Ev C 52 84 M lv (.int x :: st) o ↔ 8 < lv.length ∧ ji_Ev C 52 86 M (ji_s1 lv 8 (.int x)) st o := ev_stI rfl rfl rfl
theorem s52_86 : ji_Ev C 52 86 M (some (.ref a) :: l) st o ↔ ji_Ev C 52 87 M (some (.ref a) :: l) (.ref a :: st) o := ev_go (S := (87, M, (some (.ref a) :: l), (.ref a :: st))) rfl rfl rfl
theorem s52_87 : ji_Ev C 52 87 M lv (.int x :: st) o ↔ ji_Ev C 52 88 M lv (.int x :: .int x :: st) o := ev_go (S := (88, M, lv, (.int x :: .int x :: st))) rfl rfl rfl
theorem s52_87r : ji_Ev C 52 87 M lv (.ref a :: st) o ↔ ji_Ev C 52 88 M lv (.ref a :: .ref a :: st) o := ev_go (S := (88, M, lv, (.ref a :: .ref a :: st))) rfl rfl rfl
theorem s52_88 : ji_Ev C 52 88 M lv (.ref a :: st) o ↔ ji_kd M a = some (0, 5) ∧ ji_Ev C 52 91 M lv (.int (ji_gI M a 5) :: st) o := ev_getI (k := 52) rfl fd_5_33 rfl
theorem s52_91 : ji_Ev C 52 91 M (l0 :: l1 :: some (.int x) :: l) st o ↔ ji_Ev C 52 92 M (l0 :: l1 :: some (.int x) :: l) (.int x :: st) o := ev_go (S := (92, M, (l0 :: l1 :: some (.int x) :: l), (.int x :: st))) rfl rfl rfl
theorem s52_92 : ji_Ev C 52 92 M (l0 :: l1 :: l2 :: some (.int x) :: l) st o ↔ ji_Ev C 52 93 M (l0 :: l1 :: l2 :: some (.int x) :: l) (.int x :: st) o := ev_go (S := (93, M, (l0 :: l1 :: l2 :: some (.int x) :: l), (.int x :: st))) rfl rfl rfl
theorem s52_93 : ji_Ev C 52 93 M (some (.ref a) :: l) st o ↔ ji_Ev C 52 94 M (some (.ref a) :: l) (.ref a :: st) o := ev_go (S := (94, M, (some (.ref a) :: l), (.ref a :: st))) rfl rfl rfl
theorem s52_94 : ji_Ev C 52 94 M lv (.ref a :: st) o ↔ ji_kd M a = some (0, 5) ∧ ji_Ev C 52 97 M lv (ji_rv (ji_gR M a 0) :: st) o := ev_getR (k := 52) rfl fd_5_14 rfl
theorem s52_97 : ji_Ev C 52 97 M (l0 :: some (.int x) :: l) st o ↔ ji_Ev C 52 98 M (l0 :: some (.int x) :: l) (.int x :: st) o := ev_go (S := (98, M, (l0 :: some (.int x) :: l), (.int x :: st))) rfl rfl rfl
theorem s52_98 : ji_Ev C 52 98 M lv st o ↔ ji_Ev C 52 99 M lv (.int 3 :: st) o := ev_go (S := (99, M, lv, (.int 3 :: st))) rfl rfl rfl
theorem s52_99 : ji_Ev C 52 99 M lv (p1 :: p0 :: .ref a :: st) o ↔ (ji_rcb M 2 (.ref a) = true ∧ ji_ok8 st) ∧ ji_evC (C 49 [.ref a, p0, p1] M) (fun v M' => ji_Ev C 52 102 M' lv (v.toList ++ st) o) := ev_inv (k := 52) rfl cd_5_53 rfl
theorem s52_102 : ji_Ev C 52 102 M lv (p1 :: p0 :: st) o ↔ ji_ok8 st ∧ ji_evC (C 56 [p0, p1] M) (fun v M' => ji_Ev C 52 105 M' lv (v.toList ++ st) o) := ev_sta (k := 52) (a := [p1, p0]) rfl (Or.inl cd_5_61) rfl
theorem s52_105 : ji_Ev C 52 105 M lv (.int y :: .int x :: st) o ↔ ji_Ev C 52 106 M lv (.int (x * y) :: st) o := ev_go (S := (106, M, lv, (.int (x * y) :: st))) rfl rfl rfl
theorem s52_106 : ji_Ev C 52 106 M lv (.int y :: .int x :: st) o ↔ ji_Ev C 52 107 M lv (.int (x - y) :: st) o := ev_go (S := (107, M, lv, (.int (x - y) :: st))) rfl rfl rfl
theorem s52_107 : ji_Ev C 52 107 M lv (.int x :: .ref a :: st) o ↔ ji_kd M a = some (0, 5) ∧ ji_Ev C 52 110 (ji_sI M a 5 x) lv st o := ev_putI (k := 52) rfl fd_5_33 rfl (by decide)
theorem s52_110 : ji_Ev C 52 110 M (some (.ref a) :: l) st o ↔ ji_Ev C 52 111 M (some (.ref a) :: l) (.ref a :: st) o := ev_go (S := (111, M, (some (.ref a) :: l), (.ref a :: st))) rfl rfl rfl
theorem s52_111 : ji_Ev C 52 111 M lv (.ref a :: st) o ↔ ji_kd M a = some (0, 5) ∧ ji_Ev C 52 114 M lv (ji_rv (ji_gR M a 0) :: st) o := ev_getR (k := 52) rfl fd_5_14 rfl
theorem s52_114 : ji_Ev C 52 114 M (l0 :: some (.int x) :: l) st o ↔ ji_Ev C 52 115 M (l0 :: some (.int x) :: l) (.int x :: st) o := ev_go (S := (115, M, (l0 :: some (.int x) :: l), (.int x :: st))) rfl rfl rfl
theorem s52_115 : ji_Ev C 52 115 M lv st o ↔ ji_Ev C 52 116 M lv (.int 5 :: st) o := ev_go (S := (116, M, lv, (.int 5 :: st))) rfl rfl rfl
theorem s52_116 : ji_Ev C 52 116 M lv st o ↔ ji_Ev C 52 119 M lv (.int 1000 :: st) o := ev_go (S := (119, M, lv, (.int 1000 :: st))) rfl rfl rfl
theorem s52_119 : ji_Ev C 52 119 M (l0 :: l1 :: l2 :: l3 :: some (.int x) :: l) st o ↔ ji_Ev C 52 121 M (l0 :: l1 :: l2 :: l3 :: some (.int x) :: l) (.int x :: st) o := ev_go (S := (121, M, (l0 :: l1 :: l2 :: l3 :: some (.int x) :: l), (.int x :: st))) rfl rfl rfl
theorem s52_121 : ji_Ev C 52 121 M (l0 :: l1 :: some (.int x) :: l) st o ↔ ji_Ev C 52 122 M (l0 :: l1 :: some (.int x) :: l) (.int x :: st) o := ev_go (S := (122, M, (l0 :: l1 :: some (.int x) :: l), (.int x :: st))) rfl rfl rfl
theorem s52_122 : ji_Ev C 52 122 M (l0 :: l1 :: l2 :: l3 :: l4 :: some (.int x) :: l) st o ↔ ji_Ev C 52 124 M (l0 :: l1 :: l2 :: l3 :: l4 :: some (.int x) :: l) (.int x :: st) o := ev_go (S := (124, M, (l0 :: l1 :: l2 :: l3 :: l4 :: some (.int x) :: l), (.int x :: st))) rfl rfl rfl
theorem s52_124 : ji_Ev C 52 124 M lv (.int y :: .int x :: st) o ↔ ji_Ev C 52 125 M lv (.int (x * y) :: st) o := ev_go (S := (125, M, lv, (.int (x * y) :: st))) rfl rfl rfl
theorem s52_125 : ji_Ev C 52 125 M lv (.int y :: .int x :: st) o ↔ ji_Ev C 52 126 M lv (.int (x + y) :: st) o := ev_go (S := (126, M, lv, (.int (x + y) :: st))) rfl rfl rfl
theorem s52_126 : ji_Ev C 52 126 M lv (.int y :: .int x :: st) o ↔ ji_ok8 st ∧ ji_Ev C 52 129 M lv (.int (if y < x then y else x) :: st) o := ev_min (k := 52) rfl cd_5_96
theorem s52_129 : ji_Ev C 52 129 M lv (p2 :: p1 :: p0 :: .ref a :: st) o ↔ (ji_rcb M 2 (.ref a) = true ∧ ji_ok8 st) ∧ ji_evC (C 57 [.ref a, p0, p1, p2] M) (fun v M' => ji_Ev C 52 132 M' lv (v.toList ++ st) o) := ev_inv (k := 52) rfl cd_5_49 rfl
theorem s52_132 : ji_Ev C 52 132 M (some (.ref a) :: l) st o ↔ ji_Ev C 52 133 M (some (.ref a) :: l) (.ref a :: st) o := ev_go (S := (133, M, (some (.ref a) :: l), (.ref a :: st))) rfl rfl rfl
theorem s52_133 : ji_Ev C 52 133 M lv (.ref a :: st) o ↔ ji_kd M a = some (0, 5) ∧ ji_Ev C 52 136 M lv (ji_rv (ji_gR M a 0) :: st) o := ev_getR (k := 52) rfl fd_5_14 rfl
theorem s52_136 : ji_Ev C 52 136 M (l0 :: some (.int x) :: l) st o ↔ ji_Ev C 52 137 M (l0 :: some (.int x) :: l) (.int x :: st) o := ev_go (S := (137, M, (l0 :: some (.int x) :: l), (.int x :: st))) rfl rfl rfl
theorem s52_137 : ji_Ev C 52 137 M lv st o ↔ ji_Ev C 52 139 M lv (.int 6 :: st) o := ev_go (S := (139, M, lv, (.int 6 :: st))) rfl rfl rfl
theorem s52_139 : ji_Ev C 52 139 M lv st o ↔ ji_Ev C 52 142 M lv (.int 1000 :: st) o := ev_go (S := (142, M, lv, (.int 1000 :: st))) rfl rfl rfl
theorem s52_142 : ji_Ev C 52 142 M (l0 :: l1 :: l2 :: l3 :: l4 :: l5 :: l6 :: l7 :: some (.int x) :: l) st o ↔ ji_Ev C 52 144 M (l0 :: l1 :: l2 :: l3 :: l4 :: l5 :: l6 :: l7 :: some (.int x) :: l) (.int x :: st) o := ev_go (S := (144, M, (l0 :: l1 :: l2 :: l3 :: l4 :: l5 :: l6 :: l7 :: some (.int x) :: l), (.int x :: st))) rfl rfl rfl
theorem s52_144 : ji_Ev C 52 144 M lv (.int y :: .int x :: st) o ↔ ji_ok8 st ∧ ji_Ev C 52 147 M lv (.int (if y < x then y else x) :: st) o := ev_min (k := 52) rfl cd_5_96
theorem s52_147 : ji_Ev C 52 147 M lv (p2 :: p1 :: p0 :: .ref a :: st) o ↔ (ji_rcb M 2 (.ref a) = true ∧ ji_ok8 st) ∧ ji_evC (C 57 [.ref a, p0, p1, p2] M) (fun v M' => ji_Ev C 52 150 M' lv (v.toList ++ st) o) := ev_inv (k := 52) rfl cd_5_49 rfl
theorem s52_150 : ji_Ev C 52 150 M lv [] o ↔ o = (none, M) := ev_vret rfl rfl
theorem s53_0 : ji_Ev C 53 0 M lv st o ↔ ji_Ev C 53 1 M lv (.int 2 :: st) o := ev_go (S := (1, M, lv, (.int 2 :: st))) rfl rfl rfl
theorem s53_1 : ji_Ev C 53 1 M (l0 :: some (.int x) :: l) st o ↔ ji_Ev C 53 2 M (l0 :: some (.int x) :: l) (.int x :: st) o := ev_go (S := (2, M, (l0 :: some (.int x) :: l), (.int x :: st))) rfl rfl rfl
theorem s53_2 : ji_Ev C 53 2 M lv st o ↔ ji_Ev C 53 4 M lv (.int 10 :: st) o := ev_go (S := (4, M, lv, (.int 10 :: st))) rfl rfl rfl
theorem s53_4 : ji_Ev C 53 4 M lv (.int y :: .int x :: st) o ↔ ¬ y = 0 ∧ ji_Ev C 53 5 M lv (.int (x / y) :: st) o := ev_dvI rfl
theorem s53_5 : ji_Ev C 53 5 M lv (.int y :: .int x :: st) o ↔ ji_Ev C 53 6 M lv (.int (x + y) :: st) o := ev_go (S := (6, M, lv, (.int (x + y) :: st))) rfl rfl rfl
theorem s53_6 : ji_Ev C 53 6 M lv (.int x :: st) o ↔ 2 < lv.length ∧ ji_Ev C 53 7 M (ji_s1 lv 2 (.int x)) st o := ev_stI rfl rfl rfl
theorem s53_7 : ji_Ev C 53 7 M (some (.int x) :: l) st o ↔ ji_Ev C 53 8 M (some (.int x) :: l) (.int x :: st) o := ev_go (S := (8, M, (some (.int x) :: l), (.int x :: st))) rfl rfl rfl
theorem s53_8 : ji_Ev C 53 8 M lv (.int x :: st) o ↔ if x = 1 then ji_Ev C 53 40 M lv st o else if x = 2 then ji_Ev C 53 50 M lv st o else if x = 3 then ji_Ev C 53 48 M lv st o else if x = 4 then ji_Ev C 53 42 M lv st o else ji_Ev C 53 50 M lv st o := by
  refine (ev_swT rfl (by decide)).trans ?_
  show ji_Ev C 53 ((8 : Int) + (if x = 1 then 32 else if x = 2 then 42 else if x = 3 then 40 else if x = 4 then 34 else 42)).toNat M lv st o ↔ _
  by_cases h0 : x = 1
  · rw [if_pos h0, if_pos h0]; exact Iff.rfl
  rw [if_neg h0, if_neg h0]
  by_cases h1 : x = 2
  · rw [if_pos h1, if_pos h1]; exact Iff.rfl
  rw [if_neg h1, if_neg h1]
  by_cases h2 : x = 3
  · rw [if_pos h2, if_pos h2]; exact Iff.rfl
  rw [if_neg h2, if_neg h2]
  by_cases h3 : x = 4
  · rw [if_pos h3, if_pos h3]; exact Iff.rfl
  rw [if_neg h3, if_neg h3]
  exact Iff.rfl
theorem s53_40 : ji_Ev C 53 40 M (l0 :: l1 :: some (.int x) :: l) st o ↔ ji_Ev C 53 41 M (l0 :: l1 :: some (.int x) :: l) (.int x :: st) o := ev_go (S := (41, M, (l0 :: l1 :: some (.int x) :: l), (.int x :: st))) rfl rfl rfl
theorem s53_41 : ji_Ev C 53 41 M lv [.int x] o ↔ o = (some (.int x), M) := ev_ireti rfl rfl
theorem s53_42 : ji_Ev C 53 42 M lv st o ↔ ji_Ev C 53 43 M lv (.int 2 :: st) o := ev_go (S := (43, M, lv, (.int 2 :: st))) rfl rfl rfl
theorem s53_43 : ji_Ev C 53 43 M (l0 :: l1 :: some (.int x) :: l) st o ↔ ji_Ev C 53 44 M (l0 :: l1 :: some (.int x) :: l) (.int x :: st) o := ev_go (S := (44, M, (l0 :: l1 :: some (.int x) :: l), (.int x :: st))) rfl rfl rfl
theorem s53_44 : ji_Ev C 53 44 M lv (.int y :: .int x :: st) o ↔ ji_Ev C 53 45 M lv (.int (x * y) :: st) o := ev_go (S := (45, M, lv, (.int (x * y) :: st))) rfl rfl rfl
theorem s53_45 : ji_Ev C 53 45 M lv st o ↔ ji_Ev C 53 46 M lv (.int 5 :: st) o := ev_go (S := (46, M, lv, (.int 5 :: st))) rfl rfl rfl
theorem s53_46 : ji_Ev C 53 46 M lv (.int y :: .int x :: st) o ↔ ji_Ev C 53 47 M lv (.int (x + y) :: st) o := ev_go (S := (47, M, lv, (.int (x + y) :: st))) rfl rfl rfl
theorem s53_47 : ji_Ev C 53 47 M lv [.int x] o ↔ o = (some (.int x), M) := ev_ireti rfl rfl
theorem s53_48 : ji_Ev C 53 48 M lv st o ↔ ji_Ev C 53 49 M lv (.int 1 :: st) o := ev_go (S := (49, M, lv, (.int 1 :: st))) rfl rfl rfl
theorem s53_49 : ji_Ev C 53 49 M lv [.int x] o ↔ o = (some (.int x), M) := ev_ireti rfl rfl
theorem s53_50 : ji_Ev C 53 50 M lv st o ↔ ji_Ev C 53 51 M lv (.int 0 :: st) o := ev_go (S := (51, M, lv, (.int 0 :: st))) rfl rfl rfl
theorem s53_51 : ji_Ev C 53 51 M lv [.int x] o ↔ o = (some (.int x), M) := ev_ireti rfl rfl
theorem s54_0 : ji_Ev C 54 0 M (some (.int x) :: l) st o ↔ ji_Ev C 54 1 M (some (.int x) :: l) (.int x :: st) o := ev_go (S := (1, M, (some (.int x) :: l), (.int x :: st))) rfl rfl rfl
theorem s54_1 : ji_Ev C 54 1 M lv st o ↔ ji_Ev C 54 3 M lv (.int 100 :: st) o := ev_go (S := (3, M, lv, (.int 100 :: st))) rfl rfl rfl
theorem s54_3 : ji_Ev C 54 3 M lv (.int y :: .int x :: st) o ↔ if x < y then ji_Ev C 54 8 M lv st o else ji_Ev C 54 6 M lv st o := ev_brc (c := .lt) rfl (by decide) rfl
theorem s54_6 : ji_Ev C 54 6 M lv st o ↔ ji_Ev C 54 7 M lv (.int 0 :: st) o := ev_go (S := (7, M, lv, (.int 0 :: st))) rfl rfl rfl
theorem s54_7 : ji_Ev C 54 7 M lv [.int x] o ↔ o = (some (.int x), M) := ev_ireti rfl rfl
theorem s54_8 : ji_Ev C 54 8 M (l0 :: some (.int x) :: l) st o ↔ ji_Ev C 54 9 M (l0 :: some (.int x) :: l) (.int x :: st) o := ev_go (S := (9, M, (l0 :: some (.int x) :: l), (.int x :: st))) rfl rfl rfl
theorem s54_9 : ji_Ev C 54 9 M lv (.int x :: st) o ↔ if 0 < x then ji_Ev C 54 16 M lv st o else ji_Ev C 54 12 M lv st o := ev_brz (c := .gt) rfl (by decide) rfl
theorem s54_12 : ji_Ev C 54 12 M lv st o ↔ ji_Ev C 54 13 M lv (.int (-1) :: st) o := ev_go (S := (13, M, lv, (.int (-1) :: st))) rfl rfl rfl
theorem s54_13 : ji_Ev C 54 13 M lv st o ↔ ji_Ev C 54 24 M lv st o := ev_gt rfl (by decide) rfl
theorem s54_16 : ji_Ev C 54 16 M lv st o ↔ ji_Ev C 54 18 M lv (.int 99 :: st) o := ev_go (S := (18, M, lv, (.int 99 :: st))) rfl rfl rfl
theorem s54_18 : ji_Ev C 54 18 M (some (.int x) :: l) st o ↔ ji_Ev C 54 19 M (some (.int x) :: l) (.int x :: st) o := ev_go (S := (19, M, (some (.int x) :: l), (.int x :: st))) rfl rfl rfl
theorem s54_19 : ji_Ev C 54 19 M lv (.int y :: .int x :: st) o ↔ ji_Ev C 54 20 M lv (.int (x - y) :: st) o := ev_go (S := (20, M, lv, (.int (x - y) :: st))) rfl rfl rfl
theorem s54_20 : ji_Ev C 54 20 M (l0 :: some (.int x) :: l) st o ↔ ji_Ev C 54 21 M (l0 :: some (.int x) :: l) (.int x :: st) o := ev_go (S := (21, M, (l0 :: some (.int x) :: l), (.int x :: st))) rfl rfl rfl
theorem s54_21 : ji_Ev C 54 21 M lv (.int y :: .int x :: st) o ↔ ¬ y = 0 ∧ ji_Ev C 54 22 M lv (.int (x / y) :: st) o := ev_dvI rfl
theorem s54_22 : ji_Ev C 54 22 M lv st o ↔ ji_Ev C 54 23 M lv (.int 1 :: st) o := ev_go (S := (23, M, lv, (.int 1 :: st))) rfl rfl rfl
theorem s54_23 : ji_Ev C 54 23 M lv (.int y :: .int x :: st) o ↔ ji_Ev C 54 24 M lv (.int (x + y) :: st) o := ev_go (S := (24, M, lv, (.int (x + y) :: st))) rfl rfl rfl
theorem s54_24 : ji_Ev C 54 24 M lv [.int x] o ↔ o = (some (.int x), M) := ev_ireti rfl rfl
theorem s55_0 : ji_Ev C 55 0 M (some (.int x) :: l) st o ↔ ji_Ev C 55 1 M (some (.int x) :: l) (.int x :: st) o := ev_go (S := (1, M, (some (.int x) :: l), (.int x :: st))) rfl rfl rfl
theorem s55_1 : ji_Ev C 55 1 M lv (.int x :: st) o ↔ if x = 1 then ji_Ev C 55 36 M lv st o else if x = 2 then ji_Ev C 55 43 M lv st o else if x = 3 then ji_Ev C 55 41 M lv st o else if x = 4 then ji_Ev C 55 38 M lv st o else if x = 5 then ji_Ev C 55 41 M lv st o else ji_Ev C 55 43 M lv st o := by
  refine (ev_swT rfl (by decide)).trans ?_
  show ji_Ev C 55 ((1 : Int) + (if x = 1 then 35 else if x = 2 then 42 else if x = 3 then 40 else if x = 4 then 37 else if x = 5 then 40 else 42)).toNat M lv st o ↔ _
  by_cases h0 : x = 1
  · rw [if_pos h0, if_pos h0]; exact Iff.rfl
  rw [if_neg h0, if_neg h0]
  by_cases h1 : x = 2
  · rw [if_pos h1, if_pos h1]; exact Iff.rfl
  rw [if_neg h1, if_neg h1]
  by_cases h2 : x = 3
  · rw [if_pos h2, if_pos h2]; exact Iff.rfl
  rw [if_neg h2, if_neg h2]
  by_cases h3 : x = 4
  · rw [if_pos h3, if_pos h3]; exact Iff.rfl
  rw [if_neg h3, if_neg h3]
  by_cases h4 : x = 5
  · rw [if_pos h4, if_pos h4]; exact Iff.rfl
  rw [if_neg h4, if_neg h4]
  exact Iff.rfl
theorem s55_36 : ji_Ev C 55 36 M lv st o ↔ ji_Ev C 55 37 M lv (.int 3 :: st) o := ev_go (S := (37, M, lv, (.int 3 :: st))) rfl rfl rfl
theorem s55_37 : ji_Ev C 55 37 M lv [.int x] o ↔ o = (some (.int x), M) := ev_ireti rfl rfl
theorem s55_38 : ji_Ev C 55 38 M lv st o ↔ ji_Ev C 55 40 M lv (.int 7 :: st) o := ev_go (S := (40, M, lv, (.int 7 :: st))) rfl rfl rfl
theorem s55_40 : ji_Ev C 55 40 M lv [.int x] o ↔ o = (some (.int x), M) := ev_ireti rfl rfl
theorem s55_41 : ji_Ev C 55 41 M lv st o ↔ ji_Ev C 55 42 M lv (.int 1 :: st) o := ev_go (S := (42, M, lv, (.int 1 :: st))) rfl rfl rfl
theorem s55_42 : ji_Ev C 55 42 M lv [.int x] o ↔ o = (some (.int x), M) := ev_ireti rfl rfl
theorem s55_43 : ji_Ev C 55 43 M lv st o ↔ ji_Ev C 55 44 M lv (.int 0 :: st) o := ev_go (S := (44, M, lv, (.int 0 :: st))) rfl rfl rfl
theorem s55_44 : ji_Ev C 55 44 M lv [.int x] o ↔ o = (some (.int x), M) := ev_ireti rfl rfl
theorem s56_0 : ji_Ev C 56 0 M (some (.int x) :: l) st o ↔ ji_Ev C 56 1 M (some (.int x) :: l) (.int x :: st) o := ev_go (S := (1, M, (some (.int x) :: l), (.int x :: st))) rfl rfl rfl
theorem s56_1 : ji_Ev C 56 1 M lv (.int x :: st) o ↔ if x = 2 then ji_Ev C 56 32 M lv st o else if x = 3 then ji_Ev C 56 39 M lv st o else if x = 4 then ji_Ev C 56 43 M lv st o else if x = 5 then ji_Ev C 56 41 M lv st o else ji_Ev C 56 43 M lv st o := by
  refine (ev_swT rfl (by decide)).trans ?_
  show ji_Ev C 56 ((1 : Int) + (if x = 2 then 31 else if x = 3 then 38 else if x = 4 then 42 else if x = 5 then 40 else 42)).toNat M lv st o ↔ _
  by_cases h0 : x = 2
  · rw [if_pos h0, if_pos h0]; exact Iff.rfl
  rw [if_neg h0, if_neg h0]
  by_cases h1 : x = 3
  · rw [if_pos h1, if_pos h1]; exact Iff.rfl
  rw [if_neg h1, if_neg h1]
  by_cases h2 : x = 4
  · rw [if_pos h2, if_pos h2]; exact Iff.rfl
  rw [if_neg h2, if_neg h2]
  by_cases h3 : x = 5
  · rw [if_pos h3, if_pos h3]; exact Iff.rfl
  rw [if_neg h3, if_neg h3]
  exact Iff.rfl
theorem s56_32 : ji_Ev C 56 32 M (l0 :: some (.int x) :: l) st o ↔ ji_Ev C 56 33 M (l0 :: some (.int x) :: l) (.int x :: st) o := ev_go (S := (33, M, (l0 :: some (.int x) :: l), (.int x :: st))) rfl rfl rfl
theorem s56_33 : ji_Ev C 56 33 M lv st o ↔ ji_Ev C 56 35 M lv (.int 20 :: st) o := ev_go (S := (35, M, lv, (.int 20 :: st))) rfl rfl rfl
theorem s56_35 : ji_Ev C 56 35 M lv (.int y :: .int x :: st) o ↔ ¬ y = 0 ∧ ji_Ev C 56 36 M lv (.int (x / y) :: st) o := ev_dvI rfl
theorem s56_36 : ji_Ev C 56 36 M lv st o ↔ ji_Ev C 56 37 M lv (.int 1 :: st) o := ev_go (S := (37, M, lv, (.int 1 :: st))) rfl rfl rfl
theorem s56_37 : ji_Ev C 56 37 M lv (.int y :: .int x :: st) o ↔ ji_Ev C 56 38 M lv (.int (x + y) :: st) o := ev_go (S := (38, M, lv, (.int (x + y) :: st))) rfl rfl rfl
theorem s56_38 : ji_Ev C 56 38 M lv [.int x] o ↔ o = (some (.int x), M) := ev_ireti rfl rfl
theorem s56_39 : ji_Ev C 56 39 M lv st o ↔ ji_Ev C 56 40 M lv (.int 2 :: st) o := ev_go (S := (40, M, lv, (.int 2 :: st))) rfl rfl rfl
theorem s56_40 : ji_Ev C 56 40 M lv [.int x] o ↔ o = (some (.int x), M) := ev_ireti rfl rfl
theorem s56_41 : ji_Ev C 56 41 M lv st o ↔ ji_Ev C 56 42 M lv (.int 5 :: st) o := ev_go (S := (42, M, lv, (.int 5 :: st))) rfl rfl rfl
theorem s56_42 : ji_Ev C 56 42 M lv [.int x] o ↔ o = (some (.int x), M) := ev_ireti rfl rfl
theorem s56_43 : ji_Ev C 56 43 M lv st o ↔ ji_Ev C 56 44 M lv (.int 0 :: st) o := ev_go (S := (44, M, lv, (.int 0 :: st))) rfl rfl rfl
theorem s56_44 : ji_Ev C 56 44 M lv [.int x] o ↔ o = (some (.int x), M) := ev_ireti rfl rfl
theorem s57_0 : ji_Ev C 57 0 M (l0 :: some (.int x) :: l) st o ↔ ji_Ev C 57 1 M (l0 :: some (.int x) :: l) (.int x :: st) o := ev_go (S := (1, M, (l0 :: some (.int x) :: l), (.int x :: st))) rfl rfl rfl
theorem s57_1 : ji_Ev C 57 1 M lv (.int x :: st) o ↔ if x < 0 then ji_Ev C 57 38 M lv st o else ji_Ev C 57 4 M lv st o := ev_brz (c := .lt) rfl (by decide) rfl
theorem s57_4 : ji_Ev C 57 4 M (l0 :: some (.int x) :: l) st o ↔ ji_Ev C 57 5 M (l0 :: some (.int x) :: l) (.int x :: st) o := ev_go (S := (5, M, (l0 :: some (.int x) :: l), (.int x :: st))) rfl rfl rfl
theorem s57_5 : ji_Ev C 57 5 M (some (.ref a) :: l) st o ↔ ji_Ev C 57 6 M (some (.ref a) :: l) (.ref a :: st) o := ev_go (S := (6, M, (some (.ref a) :: l), (.ref a :: st))) rfl rfl rfl
theorem s57_6 : ji_Ev C 57 6 M lv (.ref a :: st) o ↔ ji_kd M a = some (0, 2) ∧ ji_Ev C 57 9 M lv (.int (ji_gI M a 3) :: st) o := ev_getI (k := 57) rfl fd_2_28 rfl
theorem s57_9 : ji_Ev C 57 9 M lv (.int y :: .int x :: st) o ↔ if x < y then ji_Ev C 57 12 M lv st o else ji_Ev C 57 38 M lv st o := ev_brc (c := .ge) rfl (by decide) rfl
theorem s57_12 : ji_Ev C 57 12 M (l0 :: l1 :: some (.int x) :: l) st o ↔ ji_Ev C 57 13 M (l0 :: l1 :: some (.int x) :: l) (.int x :: st) o := ev_go (S := (13, M, (l0 :: l1 :: some (.int x) :: l), (.int x :: st))) rfl rfl rfl
theorem s57_13 : ji_Ev C 57 13 M lv (.int x :: st) o ↔ if x < 0 then ji_Ev C 57 38 M lv st o else ji_Ev C 57 16 M lv st o := ev_brz (c := .lt) rfl (by decide) rfl
theorem s57_16 : ji_Ev C 57 16 M (l0 :: l1 :: some (.int x) :: l) st o ↔ ji_Ev C 57 17 M (l0 :: l1 :: some (.int x) :: l) (.int x :: st) o := ev_go (S := (17, M, (l0 :: l1 :: some (.int x) :: l), (.int x :: st))) rfl rfl rfl
theorem s57_17 : ji_Ev C 57 17 M (some (.ref a) :: l) st o ↔ ji_Ev C 57 18 M (some (.ref a) :: l) (.ref a :: st) o := ev_go (S := (18, M, (some (.ref a) :: l), (.ref a :: st))) rfl rfl rfl
theorem s57_18 : ji_Ev C 57 18 M lv (.ref a :: st) o ↔ ji_kd M a = some (0, 2) ∧ ji_Ev C 57 21 M lv (.int (ji_gI M a 1) :: st) o := ev_getI (k := 57) rfl fd_2_21 rfl
theorem s57_21 : ji_Ev C 57 21 M lv (.int y :: .int x :: st) o ↔ if x < y then ji_Ev C 57 24 M lv st o else ji_Ev C 57 38 M lv st o := ev_brc (c := .ge) rfl (by decide) rfl
theorem s57_24 : ji_Ev C 57 24 M (some (.ref a) :: l) st o ↔ ji_Ev C 57 25 M (some (.ref a) :: l) (.ref a :: st) o := ev_go (S := (25, M, (some (.ref a) :: l), (.ref a :: st))) rfl rfl rfl
theorem s57_25 : ji_Ev C 57 25 M lv (.ref a :: st) o ↔ ji_kd M a = some (0, 2) ∧ ji_Ev C 57 28 M lv (ji_rv (ji_gR M a 2) :: st) o := ev_getR (k := 57) rfl fd_2_24 rfl
theorem s57_28 : ji_Ev C 57 28 M (l0 :: some (.int x) :: l) st o ↔ ji_Ev C 57 29 M (l0 :: some (.int x) :: l) (.int x :: st) o := ev_go (S := (29, M, (l0 :: some (.int x) :: l), (.int x :: st))) rfl rfl rfl
theorem s57_29 : ji_Ev C 57 29 M (some (.ref a) :: l) st o ↔ ji_Ev C 57 30 M (some (.ref a) :: l) (.ref a :: st) o := ev_go (S := (30, M, (some (.ref a) :: l), (.ref a :: st))) rfl rfl rfl
theorem s57_30 : ji_Ev C 57 30 M lv (.ref a :: st) o ↔ ji_kd M a = some (0, 2) ∧ ji_Ev C 57 33 M lv (.int (ji_gI M a 1) :: st) o := ev_getI (k := 57) rfl fd_2_21 rfl
theorem s57_33 : ji_Ev C 57 33 M lv (.int y :: .int x :: st) o ↔ ji_Ev C 57 34 M lv (.int (x * y) :: st) o := ev_go (S := (34, M, lv, (.int (x * y) :: st))) rfl rfl rfl
theorem s57_34 : ji_Ev C 57 34 M (l0 :: l1 :: some (.int x) :: l) st o ↔ ji_Ev C 57 35 M (l0 :: l1 :: some (.int x) :: l) (.int x :: st) o := ev_go (S := (35, M, (l0 :: l1 :: some (.int x) :: l), (.int x :: st))) rfl rfl rfl
theorem s57_35 : ji_Ev C 57 35 M lv (.int y :: .int x :: st) o ↔ ji_Ev C 57 36 M lv (.int (x + y) :: st) o := ev_go (S := (36, M, lv, (.int (x + y) :: st))) rfl rfl rfl
theorem s57_36 : ji_Ev C 57 36 M (l0 :: l1 :: l2 :: some (.int x) :: l) st o ↔ ji_Ev C 57 37 M (l0 :: l1 :: l2 :: some (.int x) :: l) (.int x :: st) o := ev_go (S := (37, M, (l0 :: l1 :: l2 :: some (.int x) :: l), (.int x :: st))) rfl rfl rfl
theorem s57_37 : ji_Ev C 57 37 M lv (.int y :: .int x :: .ref a :: st) o ↔ ji_evA (ji_kd M a) (fun n => vp_in x n ∧ ji_Ev C 57 38 (ji_sI M a x.toNatClampNeg y) lv st o) := ev_iast rfl
theorem s57_38 : ji_Ev C 57 38 M lv [] o ↔ o = (none, M) := ev_vret rfl rfl
theorem s58_0 : ji_Ev C 58 0 M (some (.ref a) :: l) st o ↔ ji_Ev C 58 1 M (some (.ref a) :: l) (.ref a :: st) o := ev_go (S := (1, M, (some (.ref a) :: l), (.ref a :: st))) rfl rfl rfl
theorem s58_1 : ji_Ev C 58 1 M lv (.ref a :: st) o ↔ ji_kd M a = some (0, 5) ∧ ji_Ev C 58 4 M lv (ji_rv (ji_gR M a 0) :: st) o := ev_getR (k := 58) rfl fd_5_14 rfl
theorem s58_4 : ji_Ev C 58 4 M (l0 :: some (.int x) :: l) st o ↔ ji_Ev C 58 5 M (l0 :: some (.int x) :: l) (.int x :: st) o := ev_go (S := (5, M, (l0 :: some (.int x) :: l), (.int x :: st))) rfl rfl rfl
theorem s58_5 : ji_Ev C 58 5 M lv st o ↔ ji_Ev C 58 6 M lv (.int 0 :: st) o := ev_go (S := (6, M, lv, (.int 0 :: st))) rfl rfl rfl
theorem s58_6 : ji_Ev C 58 6 M (l0 :: l1 :: some (.int x) :: l) st o ↔ ji_Ev C 58 7 M (l0 :: l1 :: some (.int x) :: l) (.int x :: st) o := ev_go (S := (7, M, (l0 :: l1 :: some (.int x) :: l), (.int x :: st))) rfl rfl rfl
theorem s58_7 : ji_Ev C 58 7 M lv (p2 :: p1 :: p0 :: .ref a :: st) o ↔ (ji_rcb M 2 (.ref a) = true ∧ ji_ok8 st) ∧ ji_evC (C 57 [.ref a, p0, p1, p2] M) (fun v M' => ji_Ev C 58 10 M' lv (v.toList ++ st) o) := ev_inv (k := 58) rfl cd_5_49 rfl
theorem s58_10 : ji_Ev C 58 10 M (some (.ref a) :: l) st o ↔ ji_Ev C 58 11 M (some (.ref a) :: l) (.ref a :: st) o := ev_go (S := (11, M, (some (.ref a) :: l), (.ref a :: st))) rfl rfl rfl
theorem s58_11 : ji_Ev C 58 11 M lv (.ref a :: st) o ↔ ji_kd M a = some (0, 5) ∧ ji_Ev C 58 14 M lv (ji_rv (ji_gR M a 0) :: st) o := ev_getR (k := 58) rfl fd_5_14 rfl
theorem s58_14 : ji_Ev C 58 14 M (l0 :: some (.int x) :: l) st o ↔ ji_Ev C 58 15 M (l0 :: some (.int x) :: l) (.int x :: st) o := ev_go (S := (15, M, (l0 :: some (.int x) :: l), (.int x :: st))) rfl rfl rfl
theorem s58_15 : ji_Ev C 58 15 M lv st o ↔ ji_Ev C 58 17 M lv (.int 7 :: st) o := ev_go (S := (17, M, lv, (.int 7 :: st))) rfl rfl rfl
theorem s58_17 : ji_Ev C 58 17 M (l0 :: l1 :: l2 :: some (.int x) :: l) st o ↔ ji_Ev C 58 18 M (l0 :: l1 :: l2 :: some (.int x) :: l) (.int x :: st) o := ev_go (S := (18, M, (l0 :: l1 :: l2 :: some (.int x) :: l), (.int x :: st))) rfl rfl rfl
theorem s58_18 : ji_Ev C 58 18 M lv (p2 :: p1 :: p0 :: .ref a :: st) o ↔ (ji_rcb M 2 (.ref a) = true ∧ ji_ok8 st) ∧ ji_evC (C 57 [.ref a, p0, p1, p2] M) (fun v M' => ji_Ev C 58 21 M' lv (v.toList ++ st) o) := ev_inv (k := 58) rfl cd_5_49 rfl
theorem s58_21 : ji_Ev C 58 21 M lv [] o ↔ o = (none, M) := ev_vret rfl rfl
theorem s59_0 : ji_Ev C 59 0 M (l0 :: some (.int x) :: l) st o ↔ ji_Ev C 59 1 M (l0 :: some (.int x) :: l) (.int x :: st) o := ev_go (S := (1, M, (l0 :: some (.int x) :: l), (.int x :: st))) rfl rfl rfl
theorem s59_1 : ji_Ev C 59 1 M lv (p0 :: st) o ↔ ji_ok8 st ∧ ji_evC (C 60 [p0] M) (fun v M' => ji_Ev C 59 4 M' lv (v.toList ++ st) o) := ev_sta (k := 59) (a := [p0]) rfl (Or.inl cd_8_107) rfl
theorem s59_4 : ji_Ev C 59 4 M lv (.int x :: st) o ↔ if x = 0 then ji_Ev C 59 18 M lv st o else ji_Ev C 59 7 M lv st o := ev_brz (c := .eq) rfl (by decide) rfl
theorem s59_7 : ji_Ev C 59 7 M (l0 :: l1 :: some (.int x) :: l) st o ↔ ji_Ev C 59 8 M (l0 :: l1 :: some (.int x) :: l) (.int x :: st) o := ev_go (S := (8, M, (l0 :: l1 :: some (.int x) :: l), (.int x :: st))) rfl rfl rfl
theorem s59_8 : ji_Ev C 59 8 M lv st o ↔ ji_Ev C 59 9 M lv (.int 0 :: st) o := ev_go (S := (9, M, lv, (.int 0 :: st))) rfl rfl rfl
theorem s59_9 : ji_Ev C 59 9 M lv st o ↔ ji_Ev C 59 12 M lv (.int 999 :: st) o := ev_go (S := (12, M, lv, (.int 999 :: st))) rfl rfl rfl
theorem s59_12 : ji_Ev C 59 12 M lv (p2 :: p1 :: p0 :: st) o ↔ ji_ok8 st ∧ ji_evC (C 43 [p0, p1, p2] M) (fun v M' => ji_Ev C 59 15 M' lv (v.toList ++ st) o) := ev_sta (k := 59) (a := [p2, p1, p0]) rfl (Or.inl cd_8_89) rfl
theorem s59_15 : ji_Ev C 59 15 M lv (.int x :: st) o ↔ if x = 0 then ji_Ev C 59 18 M lv st o else ji_Ev C 59 21 M lv st o := ev_brz (c := .ne) rfl (by decide) rfl
theorem s59_18 : ji_Ev C 59 18 M lv st o ↔ ji_Ev C 59 20 M lv (.int (-2) :: st) o := ev_go (S := (20, M, lv, (.int (-2) :: st))) rfl rfl rfl
theorem s59_20 : ji_Ev C 59 20 M lv [.int x] o ↔ o = (some (.int x), M) := ev_ireti rfl rfl
theorem s59_21 : ji_Ev C 59 21 M (some (.ref a) :: l) st o ↔ ji_Ev C 59 22 M (some (.ref a) :: l) (.ref a :: st) o := ev_go (S := (22, M, (some (.ref a) :: l), (.ref a :: st))) rfl rfl rfl
theorem s59_22 : ji_Ev C 59 22 M lv (.ref a :: st) o ↔ ji_kd M a = some (0, 8) ∧ ji_Ev C 59 25 M lv (ji_rv (ji_gR M a 0) :: st) o := ev_getR (k := 59) rfl fd_8_10 rfl
theorem s59_25 : ji_Ev C 59 25 M lv (.ref a :: st) o ↔ ji_kd M a = some (0, 5) ∧ ji_Ev C 59 28 M lv (ji_rv (ji_gR M a 0) :: st) o := ev_getR (k := 59) rfl fd_8_111 rfl
theorem s59_28 : ji_Ev C 59 28 M lv (.ref a :: st) o ↔ (ji_rcb M 2 (.ref a) = true ∧ ji_ok8 st) ∧ ji_evC (C 61 [.ref a] M) (fun v M' => ji_Ev C 59 31 M' lv (v.toList ++ st) o) := ev_inv (k := 59) rfl cd_8_114 rfl
theorem s59_31 : ji_Ev C 59 31 M lv (.int x :: st) o ↔ if x = 0 then ji_Ev C 59 39 M lv st o else ji_Ev C 59 34 M lv st o := ev_brz (c := .eq) rfl (by decide) rfl
theorem s59_34 : ji_Ev C 59 34 M lv st o ↔ ji_Ev C 59 36 M lv (.int (-4) :: st) o := ev_go (S := (36, M, lv, (.int (-4) :: st))) rfl rfl rfl
theorem s59_36 : ji_Ev C 59 36 M lv st o ↔ ji_Ev C 59 48 M lv st o := ev_gt rfl (by decide) rfl
theorem s59_39 : ji_Ev C 59 39 M (some (.ref a) :: l) st o ↔ ji_Ev C 59 40 M (some (.ref a) :: l) (.ref a :: st) o := ev_go (S := (40, M, (some (.ref a) :: l), (.ref a :: st))) rfl rfl rfl
theorem s59_40 : ji_Ev C 59 40 M lv (.ref a :: st) o ↔ ji_kd M a = some (0, 8) ∧ ji_Ev C 59 43 M lv (ji_rv (ji_gR M a 0) :: st) o := ev_getR (k := 59) rfl fd_8_10 rfl
theorem s59_43 : ji_Ev C 59 43 M (l0 :: some (.int x) :: l) st o ↔ ji_Ev C 59 44 M (l0 :: some (.int x) :: l) (.int x :: st) o := ev_go (S := (44, M, (l0 :: some (.int x) :: l), (.int x :: st))) rfl rfl rfl
theorem s59_44 : ji_Ev C 59 44 M (l0 :: l1 :: some (.int x) :: l) st o ↔ ji_Ev C 59 45 M (l0 :: l1 :: some (.int x) :: l) (.int x :: st) o := ev_go (S := (45, M, (l0 :: l1 :: some (.int x) :: l), (.int x :: st))) rfl rfl rfl
theorem s59_45 : ji_Ev C 59 45 M lv (p1 :: p0 :: .ref a :: st) o ↔ (ji_rcb M 5 (.ref a) = true ∧ ji_ok8 st) ∧ ji_evC (C 62 [.ref a, p0, p1] M) (fun v M' => ji_Ev C 59 48 M' lv (v.toList ++ st) o) := ev_inv (k := 59) rfl cd_8_118 rfl
theorem s59_48 : ji_Ev C 59 48 M lv [.int x] o ↔ o = (some (.int x), M) := ev_ireti rfl rfl
theorem s60_0 : ji_Ev C 60 0 M (some (.int x) :: l) st o ↔ ji_Ev C 60 1 M (some (.int x) :: l) (.int x :: st) o := ev_go (S := (1, M, (some (.int x) :: l), (.int x :: st))) rfl rfl rfl
theorem s60_1 : ji_Ev C 60 1 M lv st o ↔ ji_Ev C 60 2 M lv (.int 0 :: st) o := ev_go (S := (2, M, lv, (.int 0 :: st))) rfl rfl rfl
theorem s60_2 : ji_Ev C 60 2 M lv st o ↔ ji_Ev C 60 5 M lv (.int 3999 :: st) o := ev_go (S := (5, M, lv, (.int 3999 :: st))) rfl rfl rfl
theorem s60_5 : ji_Ev C 60 5 M lv (p2 :: p1 :: p0 :: st) o ↔ ji_ok8 st ∧ ji_evC (C 43 [p0, p1, p2] M) (fun v M' => ji_Ev C 60 8 M' lv (v.toList ++ st) o) := ev_sta (k := 60) (a := [p2, p1, p0]) rfl (Or.inr cd_5_36) rfl
theorem s60_8 : ji_Ev C 60 8 M lv (.int x :: st) o ↔ if x = 0 then ji_Ev C 60 34 M lv st o else ji_Ev C 60 11 M lv st o := ev_brz (c := .eq) rfl (by decide) rfl
theorem s60_11 : ji_Ev C 60 11 M (some (.int x) :: l) st o ↔ ji_Ev C 60 12 M (some (.int x) :: l) (.int x :: st) o := ev_go (S := (12, M, (some (.int x) :: l), (.int x :: st))) rfl rfl rfl
theorem s60_12 : ji_Ev C 60 12 M lv st o ↔ ji_Ev C 60 14 M lv (.int 100 :: st) o := ev_go (S := (14, M, lv, (.int 100 :: st))) rfl rfl rfl
theorem s60_14 : ji_Ev C 60 14 M lv (.int y :: .int x :: st) o ↔ ¬ y = 0 ∧ ji_Ev C 60 15 M lv (.int (x / y) :: st) o := ev_dvI rfl
theorem s60_15 : ji_Ev C 60 15 M lv st o ↔ ji_Ev C 60 17 M lv (.int 10 :: st) o := ev_go (S := (17, M, lv, (.int 10 :: st))) rfl rfl rfl
theorem s60_17 : ji_Ev C 60 17 M lv (.int y :: .int x :: st) o ↔ ¬ y = 0 ∧ ji_Ev C 60 18 M lv (.int (x - x / y * y) :: st) o := ev_dvR rfl
theorem s60_18 : ji_Ev C 60 18 M lv st o ↔ ji_Ev C 60 19 M lv (.int 3 :: st) o := ev_go (S := (19, M, lv, (.int 3 :: st))) rfl rfl rfl
theorem s60_19 : ji_Ev C 60 19 M lv (.int y :: .int x :: st) o ↔ if y < x then ji_Ev C 60 34 M lv st o else ji_Ev C 60 22 M lv st o := ev_brc (c := .gt) rfl (by decide) rfl
theorem s60_22 : ji_Ev C 60 22 M (some (.int x) :: l) st o ↔ ji_Ev C 60 23 M (some (.int x) :: l) (.int x :: st) o := ev_go (S := (23, M, (some (.int x) :: l), (.int x :: st))) rfl rfl rfl
theorem s60_23 : ji_Ev C 60 23 M lv st o ↔ ji_Ev C 60 25 M lv (.int 100 :: st) o := ev_go (S := (25, M, lv, (.int 100 :: st))) rfl rfl rfl
theorem s60_25 : ji_Ev C 60 25 M lv (.int y :: .int x :: st) o ↔ ¬ y = 0 ∧ ji_Ev C 60 26 M lv (.int (x - x / y * y) :: st) o := ev_dvR rfl
theorem s60_26 : ji_Ev C 60 26 M lv st o ↔ ji_Ev C 60 27 M lv (.int 1 :: st) o := ev_go (S := (27, M, lv, (.int 1 :: st))) rfl rfl rfl
theorem s60_27 : ji_Ev C 60 27 M lv (.int y :: .int x :: st) o ↔ if x < y then ji_Ev C 60 34 M lv st o else ji_Ev C 60 30 M lv st o := ev_brc (c := .lt) rfl (by decide) rfl
theorem s60_30 : ji_Ev C 60 30 M lv st o ↔ ji_Ev C 60 31 M lv (.int 1 :: st) o := ev_go (S := (31, M, lv, (.int 1 :: st))) rfl rfl rfl
theorem s60_31 : ji_Ev C 60 31 M lv st o ↔ ji_Ev C 60 35 M lv st o := ev_gt rfl (by decide) rfl
theorem s60_34 : ji_Ev C 60 34 M lv st o ↔ ji_Ev C 60 35 M lv (.int 0 :: st) o := ev_go (S := (35, M, lv, (.int 0 :: st))) rfl rfl rfl
theorem s60_35 : ji_Ev C 60 35 M lv [.int x] o ↔ narrow .boolean (.int x) = .int x ∧ o = (some (.int x), M) := ev_iretb rfl rfl
theorem s61_0 : ji_Ev C 61 0 M (some (.ref a) :: l) st o ↔ ji_Ev C 61 1 M (some (.ref a) :: l) (.ref a :: st) o := ev_go (S := (1, M, (some (.ref a) :: l), (.ref a :: st))) rfl rfl rfl
theorem s61_1 : ji_Ev C 61 1 M lv (.ref a :: st) o ↔ ji_kd M a = some (0, 2) ∧ ji_Ev C 61 4 M lv (.int (ji_gI M a 3) :: st) o := ev_getI (k := 61) rfl fd_2_28 rfl
theorem s61_4 : ji_Ev C 61 4 M (some (.ref a) :: l) st o ↔ ji_Ev C 61 5 M (some (.ref a) :: l) (.ref a :: st) o := ev_go (S := (5, M, (some (.ref a) :: l), (.ref a :: st))) rfl rfl rfl
theorem s61_5 : ji_Ev C 61 5 M lv (.ref a :: st) o ↔ ji_kd M a = some (0, 2) ∧ ji_Ev C 61 8 M lv (.int (ji_gI M a 0) :: st) o := ev_getI (k := 61) rfl fd_2_15 rfl
theorem s61_8 : ji_Ev C 61 8 M lv (.int y :: .int x :: st) o ↔ if x < y then ji_Ev C 61 15 M lv st o else ji_Ev C 61 11 M lv st o := ev_brc (c := .lt) rfl (by decide) rfl
theorem s61_11 : ji_Ev C 61 11 M lv st o ↔ ji_Ev C 61 12 M lv (.int 1 :: st) o := ev_go (S := (12, M, lv, (.int 1 :: st))) rfl rfl rfl
theorem s61_12 : ji_Ev C 61 12 M lv st o ↔ ji_Ev C 61 16 M lv st o := ev_gt rfl (by decide) rfl
theorem s61_15 : ji_Ev C 61 15 M lv st o ↔ ji_Ev C 61 16 M lv (.int 0 :: st) o := ev_go (S := (16, M, lv, (.int 0 :: st))) rfl rfl rfl
theorem s61_16 : ji_Ev C 61 16 M lv [.int x] o ↔ narrow .boolean (.int x) = .int x ∧ o = (some (.int x), M) := ev_iretb rfl rfl
theorem s62_0 : ji_Ev C 62 0 M (some (.ref a) :: l) st o ↔ ji_Ev C 62 1 M (some (.ref a) :: l) (.ref a :: st) o := ev_go (S := (1, M, (some (.ref a) :: l), (.ref a :: st))) rfl rfl rfl
theorem s62_1 : ji_Ev C 62 1 M lv (.ref a :: st) o ↔ ji_kd M a = some (0, 5) ∧ ji_Ev C 62 4 M lv (ji_rv (ji_gR M a 0) :: st) o := ev_getR (k := 62) rfl fd_5_14 rfl
theorem s62_4 : ji_Ev C 62 4 M lv st o ↔ ji_Ev C 62 5 M lv (.int 1 :: st) o := ev_go (S := (5, M, lv, (.int 1 :: st))) rfl rfl rfl
theorem s62_5 : ji_Ev C 62 5 M (l0 :: some (.int x) :: l) st o ↔ ji_Ev C 62 6 M (l0 :: some (.int x) :: l) (.int x :: st) o := ev_go (S := (6, M, (l0 :: some (.int x) :: l), (.int x :: st))) rfl rfl rfl
theorem s62_6 : ji_Ev C 62 6 M lv st o ↔ ji_Ev C 62 9 M lv (.int 1000 :: st) o := ev_go (S := (9, M, lv, (.int 1000 :: st))) rfl rfl rfl
theorem s62_9 : ji_Ev C 62 9 M lv (.int y :: .int x :: st) o ↔ ¬ y = 0 ∧ ji_Ev C 62 10 M lv (.int (x / y) :: st) o := ev_dvI rfl
theorem s62_10 : ji_Ev C 62 10 M (l0 :: some (.int x) :: l) st o ↔ ji_Ev C 62 11 M (l0 :: some (.int x) :: l) (.int x :: st) o := ev_go (S := (11, M, (l0 :: some (.int x) :: l), (.int x :: st))) rfl rfl rfl
theorem s62_11 : ji_Ev C 62 11 M lv st o ↔ ji_Ev C 62 13 M lv (.int 100 :: st) o := ev_go (S := (13, M, lv, (.int 100 :: st))) rfl rfl rfl
theorem s62_13 : ji_Ev C 62 13 M lv (.int y :: .int x :: st) o ↔ ¬ y = 0 ∧ ji_Ev C 62 14 M lv (.int (x / y) :: st) o := ev_dvI rfl
theorem s62_14 : ji_Ev C 62 14 M lv st o ↔ ji_Ev C 62 16 M lv (.int 10 :: st) o := ev_go (S := (16, M, lv, (.int 10 :: st))) rfl rfl rfl
theorem s62_16 : ji_Ev C 62 16 M lv (.int y :: .int x :: st) o ↔ ¬ y = 0 ∧ ji_Ev C 62 17 M lv (.int (x - x / y * y) :: st) o := ev_dvR rfl
theorem s62_17 : ji_Ev C 62 17 M (l0 :: some (.int x) :: l) st o ↔ ji_Ev C 62 18 M (l0 :: some (.int x) :: l) (.int x :: st) o := ev_go (S := (18, M, (l0 :: some (.int x) :: l), (.int x :: st))) rfl rfl rfl
theorem s62_18 : ji_Ev C 62 18 M lv st o ↔ ji_Ev C 62 20 M lv (.int 100 :: st) o := ev_go (S := (20, M, lv, (.int 100 :: st))) rfl rfl rfl
theorem s62_20 : ji_Ev C 62 20 M lv (.int y :: .int x :: st) o ↔ ¬ y = 0 ∧ ji_Ev C 62 21 M lv (.int (x - x / y * y) :: st) o := ev_dvR rfl
theorem s62_21 : ji_Ev C 62 21 M lv (p3 :: p2 :: p1 :: p0 :: .ref a :: st) o ↔ (ji_rcb M 2 (.ref a) = true ∧ ji_ok8 st) ∧ ji_evC (C 63 [.ref a, p0, p1, p2, p3] M) (fun v M' => ji_Ev C 62 24 M' lv (v.toList ++ st) o) := ev_inv (k := 62) rfl cd_5_45 rfl
theorem s62_24 : ji_Ev C 62 24 M lv (.int x :: st) o ↔ 3 < lv.length ∧ ji_Ev C 62 25 M (ji_s1 lv 3 (.int x)) st o := ev_stI rfl rfl rfl
theorem s62_25 : ji_Ev C 62 25 M (some (.ref a) :: l) st o ↔ ji_Ev C 62 26 M (some (.ref a) :: l) (.ref a :: st) o := ev_go (S := (26, M, (some (.ref a) :: l), (.ref a :: st))) rfl rfl rfl
theorem s62_26 : ji_Ev C 62 26 M lv (.ref a :: st) o ↔ ji_kd M a = some (0, 5) ∧ ji_Ev C 62 29 M lv (ji_rv (ji_gR M a 0) :: st) o := ev_getR (k := 62) rfl fd_5_14 rfl
theorem s62_29 : ji_Ev C 62 29 M (l0 :: l1 :: l2 :: some (.int x) :: l) st o ↔ ji_Ev C 62 30 M (l0 :: l1 :: l2 :: some (.int x) :: l) (.int x :: st) o := ev_go (S := (30, M, (l0 :: l1 :: l2 :: some (.int x) :: l), (.int x :: st))) rfl rfl rfl
theorem s62_30 : ji_Ev C 62 30 M lv st o ↔ ji_Ev C 62 31 M lv (.int 4 :: st) o := ev_go (S := (31, M, lv, (.int 4 :: st))) rfl rfl rfl
theorem s62_31 : ji_Ev C 62 31 M (l0 :: l1 :: some (.int x) :: l) st o ↔ ji_Ev C 62 32 M (l0 :: l1 :: some (.int x) :: l) (.int x :: st) o := ev_go (S := (32, M, (l0 :: l1 :: some (.int x) :: l), (.int x :: st))) rfl rfl rfl
theorem s62_32 : ji_Ev C 62 32 M lv (p2 :: p1 :: p0 :: .ref a :: st) o ↔ (ji_rcb M 2 (.ref a) = true ∧ ji_ok8 st) ∧ ji_evC (C 57 [.ref a, p0, p1, p2] M) (fun v M' => ji_Ev C 62 35 M' lv (v.toList ++ st) o) := ev_inv (k := 62) rfl cd_5_49 rfl
theorem s62_35 : ji_Ev C 62 35 M (some (.ref a) :: l) st o ↔ ji_Ev C 62 36 M (some (.ref a) :: l) (.ref a :: st) o := ev_go (S := (36, M, (some (.ref a) :: l), (.ref a :: st))) rfl rfl rfl
theorem s62_36 : ji_Ev C 62 36 M lv (.ref a :: st) o ↔ ji_kd M a = some (0, 5) ∧ ji_Ev C 62 39 M lv (ji_rv (ji_gR M a 0) :: st) o := ev_getR (k := 62) rfl fd_5_14 rfl
theorem s62_39 : ji_Ev C 62 39 M (l0 :: l1 :: l2 :: some (.int x) :: l) st o ↔ ji_Ev C 62 40 M (l0 :: l1 :: l2 :: some (.int x) :: l) (.int x :: st) o := ev_go (S := (40, M, (l0 :: l1 :: l2 :: some (.int x) :: l), (.int x :: st))) rfl rfl rfl
theorem s62_40 : ji_Ev C 62 40 M lv st o ↔ ji_Ev C 62 41 M lv (.int 5 :: st) o := ev_go (S := (41, M, lv, (.int 5 :: st))) rfl rfl rfl
theorem s62_41 : ji_Ev C 62 41 M lv st o ↔ ji_Ev C 62 42 M lv (.int 0 :: st) o := ev_go (S := (42, M, lv, (.int 0 :: st))) rfl rfl rfl
theorem s62_42 : ji_Ev C 62 42 M lv (p2 :: p1 :: p0 :: .ref a :: st) o ↔ (ji_rcb M 2 (.ref a) = true ∧ ji_ok8 st) ∧ ji_evC (C 57 [.ref a, p0, p1, p2] M) (fun v M' => ji_Ev C 62 45 M' lv (v.toList ++ st) o) := ev_inv (k := 62) rfl cd_5_49 rfl
theorem s62_45 : ji_Ev C 62 45 M (some (.ref a) :: l) st o ↔ ji_Ev C 62 46 M (some (.ref a) :: l) (.ref a :: st) o := ev_go (S := (46, M, (some (.ref a) :: l), (.ref a :: st))) rfl rfl rfl
theorem s62_46 : ji_Ev C 62 46 M lv (.ref a :: st) o ↔ ji_kd M a = some (0, 5) ∧ ji_Ev C 62 49 M lv (ji_rv (ji_gR M a 0) :: st) o := ev_getR (k := 62) rfl fd_5_14 rfl
theorem s62_49 : ji_Ev C 62 49 M (l0 :: l1 :: l2 :: some (.int x) :: l) st o ↔ ji_Ev C 62 50 M (l0 :: l1 :: l2 :: some (.int x) :: l) (.int x :: st) o := ev_go (S := (50, M, (l0 :: l1 :: l2 :: some (.int x) :: l), (.int x :: st))) rfl rfl rfl
theorem s62_50 : ji_Ev C 62 50 M lv st o ↔ ji_Ev C 62 52 M lv (.int 6 :: st) o := ev_go (S := (52, M, lv, (.int 6 :: st))) rfl rfl rfl
theorem s62_52 : ji_Ev C 62 52 M lv st o ↔ ji_Ev C 62 53 M lv (.int 0 :: st) o := ev_go (S := (53, M, lv, (.int 0 :: st))) rfl rfl rfl
theorem s62_53 : ji_Ev C 62 53 M lv (p2 :: p1 :: p0 :: .ref a :: st) o ↔ (ji_rcb M 2 (.ref a) = true ∧ ji_ok8 st) ∧ ji_evC (C 57 [.ref a, p0, p1, p2] M) (fun v M' => ji_Ev C 62 56 M' lv (v.toList ++ st) o) := ev_inv (k := 62) rfl cd_5_49 rfl
theorem s62_56 : ji_Ev C 62 56 M (some (.ref a) :: l) st o ↔ ji_Ev C 62 57 M (some (.ref a) :: l) (.ref a :: st) o := ev_go (S := (57, M, (some (.ref a) :: l), (.ref a :: st))) rfl rfl rfl
theorem s62_57 : ji_Ev C 62 57 M lv (.ref a :: st) o ↔ ji_kd M a = some (0, 5) ∧ ji_Ev C 62 60 M lv (ji_rv (ji_gR M a 0) :: st) o := ev_getR (k := 62) rfl fd_5_14 rfl
theorem s62_60 : ji_Ev C 62 60 M (l0 :: l1 :: l2 :: some (.int x) :: l) st o ↔ ji_Ev C 62 61 M (l0 :: l1 :: l2 :: some (.int x) :: l) (.int x :: st) o := ev_go (S := (61, M, (l0 :: l1 :: l2 :: some (.int x) :: l), (.int x :: st))) rfl rfl rfl
theorem s62_61 : ji_Ev C 62 61 M lv st o ↔ ji_Ev C 62 63 M lv (.int 7 :: st) o := ev_go (S := (63, M, lv, (.int 7 :: st))) rfl rfl rfl
theorem s62_63 : ji_Ev C 62 63 M (some (.ref a) :: l) st o ↔ ji_Ev C 62 64 M (some (.ref a) :: l) (.ref a :: st) o := ev_go (S := (64, M, (some (.ref a) :: l), (.ref a :: st))) rfl rfl rfl
theorem s62_64 : ji_Ev C 62 64 M lv (.ref a :: st) o ↔ ji_kd M a = some (0, 5) ∧ ji_Ev C 62 67 M lv (.int (ji_gI M a 1) :: st) o := ev_getI (k := 62) rfl fd_5_20 rfl
theorem s62_67 : ji_Ev C 62 67 M lv (p2 :: p1 :: p0 :: .ref a :: st) o ↔ (ji_rcb M 2 (.ref a) = true ∧ ji_ok8 st) ∧ ji_evC (C 57 [.ref a, p0, p1, p2] M) (fun v M' => ji_Ev C 62 70 M' lv (v.toList ++ st) o) := ev_inv (k := 62) rfl cd_5_49 rfl
theorem s62_70 : ji_Ev C 62 70 M (l0 :: l1 :: l2 :: some (.int x) :: l) st o ↔ ji_Ev C 62 71 M (l0 :: l1 :: l2 :: some (.int x) :: l) (.int x :: st) o := ev_go (S := (71, M, (l0 :: l1 :: l2 :: some (.int x) :: l), (.int x :: st))) rfl rfl rfl
theorem s62_71 : ji_Ev C 62 71 M lv [.int x] o ↔ o = (some (.int x), M) := ev_ireti rfl rfl
theorem s63_0 : ji_Ev C 63 0 M (some (.ref a) :: l) st o ↔ ji_Ev C 63 1 M (some (.ref a) :: l) (.ref a :: st) o := ev_go (S := (1, M, (some (.ref a) :: l), (.ref a :: st))) rfl rfl rfl
theorem s63_1 : ji_Ev C 63 1 M lv (.ref a :: st) o ↔ (ji_rcb M 2 (.ref a) = true ∧ ji_ok8 st) ∧ ji_evC (C 61 [.ref a] M) (fun v M' => ji_Ev C 63 4 M' lv (v.toList ++ st) o) := ev_inv (k := 63) rfl cd_2_31 rfl
theorem s63_4 : ji_Ev C 63 4 M lv (.int x :: st) o ↔ if x = 0 then ji_Ev C 63 9 M lv st o else ji_Ev C 63 7 M lv st o := ev_brz (c := .eq) rfl (by decide) rfl
theorem s63_7 : ji_Ev C 63 7 M lv st o ↔ ji_Ev C 63 8 M lv (.int (-1) :: st) o := ev_go (S := (8, M, lv, (.int (-1) :: st))) rfl rfl rfl
theorem s63_8 : ji_Ev C 63 8 M lv [.int x] o ↔ o = (some (.int x), M) := ev_ireti rfl rfl
theorem s63_9 : ji_Ev C 63 9 M (some (.ref a) :: l) st o ↔ ji_Ev C 63 10 M (some (.ref a) :: l) (.ref a :: st) o := ev_go (S := (10, M, (some (.ref a) :: l), (.ref a :: st))) rfl rfl rfl
theorem s63_10 : ji_Ev C 63 10 M lv (.int x :: st) o ↔ ji_Ev C 63 11 M lv (.int x :: .int x :: st) o := ev_go (S := (11, M, lv, (.int x :: .int x :: st))) rfl rfl rfl
theorem s63_10r : ji_Ev C 63 10 M lv (.ref a :: st) o ↔ ji_Ev C 63 11 M lv (.ref a :: .ref a :: st) o := ev_go (S := (11, M, lv, (.ref a :: .ref a :: st))) rfl rfl rfl
theorem s63_11 : ji_Ev C 63 11 M lv (.ref a :: st) o ↔ ji_kd M a = some (0, 2) ∧ ji_Ev C 63 14 M lv (.int (ji_gI M a 3) :: st) o := ev_getI (k := 63) rfl fd_2_28 rfl
theorem s63_14 : ji_Ev C 63 14 M lv st o ↔ ji_Ev C 63 15 M lv (.int 1 :: st) o := ev_go (S := (15, M, lv, (.int 1 :: st))) rfl rfl rfl
theorem s63_15 : ji_Ev C 63 15 M lv (.int y :: .int x :: st) o ↔ ji_Ev C 63 16 M lv (.int (x + y) :: st) o := ev_go (S := (16, M, lv, (.int (x + y) :: st))) rfl rfl rfl
theorem s63_16 : ji_Ev C 63 16 M lv (.int x :: .ref a :: st) o ↔ ji_kd M a = some (0, 2) ∧ ji_Ev C 63 19 (ji_sI M a 3 x) lv st o := ev_putI (k := 63) rfl fd_2_28 rfl (by decide)
theorem s63_19 : ji_Ev C 63 19 M (some (.ref a) :: l) st o ↔ ji_Ev C 63 20 M (some (.ref a) :: l) (.ref a :: st) o := ev_go (S := (20, M, (some (.ref a) :: l), (.ref a :: st))) rfl rfl rfl
theorem s63_20 : ji_Ev C 63 20 M (some (.ref a) :: l) st o ↔ ji_Ev C 63 21 M (some (.ref a) :: l) (.ref a :: st) o := ev_go (S := (21, M, (some (.ref a) :: l), (.ref a :: st))) rfl rfl rfl
theorem s63_21 : ji_Ev C 63 21 M lv (.ref a :: st) o ↔ ji_kd M a = some (0, 2) ∧ ji_Ev C 63 24 M lv (.int (ji_gI M a 3) :: st) o := ev_getI (k := 63) rfl fd_2_28 rfl
theorem s63_24 : ji_Ev C 63 24 M lv st o ↔ ji_Ev C 63 25 M lv (.int 1 :: st) o := ev_go (S := (25, M, lv, (.int 1 :: st))) rfl rfl rfl
theorem s63_25 : ji_Ev C 63 25 M lv (.int y :: .int x :: st) o ↔ ji_Ev C 63 26 M lv (.int (x - y) :: st) o := ev_go (S := (26, M, lv, (.int (x - y) :: st))) rfl rfl rfl
theorem s63_26 : ji_Ev C 63 26 M lv st o ↔ ji_Ev C 63 27 M lv (.int 0 :: st) o := ev_go (S := (27, M, lv, (.int 0 :: st))) rfl rfl rfl
theorem s63_27 : ji_Ev C 63 27 M (l0 :: some (.int x) :: l) st o ↔ ji_Ev C 63 28 M (l0 :: some (.int x) :: l) (.int x :: st) o := ev_go (S := (28, M, (l0 :: some (.int x) :: l), (.int x :: st))) rfl rfl rfl
theorem s63_28 : ji_Ev C 63 28 M lv (p2 :: p1 :: p0 :: .ref a :: st) o ↔ (ji_rcb M 2 (.ref a) = true ∧ ji_ok8 st) ∧ ji_evC (C 57 [.ref a, p0, p1, p2] M) (fun v M' => ji_Ev C 63 31 M' lv (v.toList ++ st) o) := ev_inv (k := 63) rfl cd_2_35 rfl
theorem s63_31 : ji_Ev C 63 31 M (some (.ref a) :: l) st o ↔ ji_Ev C 63 32 M (some (.ref a) :: l) (.ref a :: st) o := ev_go (S := (32, M, (some (.ref a) :: l), (.ref a :: st))) rfl rfl rfl
theorem s63_32 : ji_Ev C 63 32 M (some (.ref a) :: l) st o ↔ ji_Ev C 63 33 M (some (.ref a) :: l) (.ref a :: st) o := ev_go (S := (33, M, (some (.ref a) :: l), (.ref a :: st))) rfl rfl rfl
theorem s63_33 : ji_Ev C 63 33 M lv (.ref a :: st) o ↔ ji_kd M a = some (0, 2) ∧ ji_Ev C 63 36 M lv (.int (ji_gI M a 3) :: st) o := ev_getI (k := 63) rfl fd_2_28 rfl
theorem s63_36 : ji_Ev C 63 36 M lv st o ↔ ji_Ev C 63 37 M lv (.int 1 :: st) o := ev_go (S := (37, M, lv, (.int 1 :: st))) rfl rfl rfl
theorem s63_37 : ji_Ev C 63 37 M lv (.int y :: .int x :: st) o ↔ ji_Ev C 63 38 M lv (.int (x - y) :: st) o := ev_go (S := (38, M, lv, (.int (x - y) :: st))) rfl rfl rfl
theorem s63_38 : ji_Ev C 63 38 M lv st o ↔ ji_Ev C 63 39 M lv (.int 1 :: st) o := ev_go (S := (39, M, lv, (.int 1 :: st))) rfl rfl rfl
theorem s63_39 : ji_Ev C 63 39 M (l0 :: l1 :: some (.int x) :: l) st o ↔ ji_Ev C 63 40 M (l0 :: l1 :: some (.int x) :: l) (.int x :: st) o := ev_go (S := (40, M, (l0 :: l1 :: some (.int x) :: l), (.int x :: st))) rfl rfl rfl
theorem s63_40 : ji_Ev C 63 40 M lv (p2 :: p1 :: p0 :: .ref a :: st) o ↔ (ji_rcb M 2 (.ref a) = true ∧ ji_ok8 st) ∧ ji_evC (C 57 [.ref a, p0, p1, p2] M) (fun v M' => ji_Ev C 63 43 M' lv (v.toList ++ st) o) := ev_inv (k := 63) rfl cd_2_35 rfl
theorem s63_43 : ji_Ev C 63 43 M (some (.ref a) :: l) st o ↔ ji_Ev C 63 44 M (some (.ref a) :: l) (.ref a :: st) o := ev_go (S := (44, M, (some (.ref a) :: l), (.ref a :: st))) rfl rfl rfl
theorem s63_44 : ji_Ev C 63 44 M (some (.ref a) :: l) st o ↔ ji_Ev C 63 45 M (some (.ref a) :: l) (.ref a :: st) o := ev_go (S := (45, M, (some (.ref a) :: l), (.ref a :: st))) rfl rfl rfl
theorem s63_45 : ji_Ev C 63 45 M lv (.ref a :: st) o ↔ ji_kd M a = some (0, 2) ∧ ji_Ev C 63 48 M lv (.int (ji_gI M a 3) :: st) o := ev_getI (k := 63) rfl fd_2_28 rfl
theorem s63_48 : ji_Ev C 63 48 M lv st o ↔ ji_Ev C 63 49 M lv (.int 1 :: st) o := ev_go (S := (49, M, lv, (.int 1 :: st))) rfl rfl rfl
theorem s63_49 : ji_Ev C 63 49 M lv (.int y :: .int x :: st) o ↔ ji_Ev C 63 50 M lv (.int (x - y) :: st) o := ev_go (S := (50, M, lv, (.int (x - y) :: st))) rfl rfl rfl
theorem s63_50 : ji_Ev C 63 50 M lv st o ↔ ji_Ev C 63 51 M lv (.int 2 :: st) o := ev_go (S := (51, M, lv, (.int 2 :: st))) rfl rfl rfl
theorem s63_51 : ji_Ev C 63 51 M (l0 :: l1 :: l2 :: some (.int x) :: l) st o ↔ ji_Ev C 63 52 M (l0 :: l1 :: l2 :: some (.int x) :: l) (.int x :: st) o := ev_go (S := (52, M, (l0 :: l1 :: l2 :: some (.int x) :: l), (.int x :: st))) rfl rfl rfl
theorem s63_52 : ji_Ev C 63 52 M lv (p2 :: p1 :: p0 :: .ref a :: st) o ↔ (ji_rcb M 2 (.ref a) = true ∧ ji_ok8 st) ∧ ji_evC (C 57 [.ref a, p0, p1, p2] M) (fun v M' => ji_Ev C 63 55 M' lv (v.toList ++ st) o) := ev_inv (k := 63) rfl cd_2_35 rfl
theorem s63_55 : ji_Ev C 63 55 M (some (.ref a) :: l) st o ↔ ji_Ev C 63 56 M (some (.ref a) :: l) (.ref a :: st) o := ev_go (S := (56, M, (some (.ref a) :: l), (.ref a :: st))) rfl rfl rfl
theorem s63_56 : ji_Ev C 63 56 M (some (.ref a) :: l) st o ↔ ji_Ev C 63 57 M (some (.ref a) :: l) (.ref a :: st) o := ev_go (S := (57, M, (some (.ref a) :: l), (.ref a :: st))) rfl rfl rfl
theorem s63_57 : ji_Ev C 63 57 M lv (.ref a :: st) o ↔ ji_kd M a = some (0, 2) ∧ ji_Ev C 63 60 M lv (.int (ji_gI M a 3) :: st) o := ev_getI (k := 63) rfl fd_2_28 rfl
theorem s63_60 : ji_Ev C 63 60 M lv st o ↔ ji_Ev C 63 61 M lv (.int 1 :: st) o := ev_go (S := (61, M, lv, (.int 1 :: st))) rfl rfl rfl
theorem s63_61 : ji_Ev C 63 61 M lv (.int y :: .int x :: st) o ↔ ji_Ev C 63 62 M lv (.int (x - y) :: st) o := ev_go (S := (62, M, lv, (.int (x - y) :: st))) rfl rfl rfl
theorem s63_62 : ji_Ev C 63 62 M lv st o ↔ ji_Ev C 63 63 M lv (.int 3 :: st) o := ev_go (S := (63, M, lv, (.int 3 :: st))) rfl rfl rfl
theorem s63_63 : ji_Ev C 63 63 M (l0 :: l1 :: l2 :: l3 :: some (.int x) :: l) st o ↔ ji_Ev C 63 65 M (l0 :: l1 :: l2 :: l3 :: some (.int x) :: l) (.int x :: st) o := ev_go (S := (65, M, (l0 :: l1 :: l2 :: l3 :: some (.int x) :: l), (.int x :: st))) rfl rfl rfl
theorem s63_65 : ji_Ev C 63 65 M lv (p2 :: p1 :: p0 :: .ref a :: st) o ↔ (ji_rcb M 2 (.ref a) = true ∧ ji_ok8 st) ∧ ji_evC (C 57 [.ref a, p0, p1, p2] M) (fun v M' => ji_Ev C 63 68 M' lv (v.toList ++ st) o) := ev_inv (k := 63) rfl cd_2_35 rfl
theorem s63_68 : ji_Ev C 63 68 M (some (.ref a) :: l) st o ↔ ji_Ev C 63 69 M (some (.ref a) :: l) (.ref a :: st) o := ev_go (S := (69, M, (some (.ref a) :: l), (.ref a :: st))) rfl rfl rfl
theorem s63_69 : ji_Ev C 63 69 M lv (.ref a :: st) o ↔ ji_kd M a = some (0, 2) ∧ ji_Ev C 63 72 M lv (.int (ji_gI M a 3) :: st) o := ev_getI (k := 63) rfl fd_2_28 rfl
theorem s63_72 : ji_Ev C 63 72 M lv st o ↔ ji_Ev C 63 73 M lv (.int 1 :: st) o := ev_go (S := (73, M, lv, (.int 1 :: st))) rfl rfl rfl
theorem s63_73 : ji_Ev C 63 73 M lv (.int y :: .int x :: st) o ↔ ji_Ev C 63 74 M lv (.int (x - y) :: st) o := ev_go (S := (74, M, lv, (.int (x - y) :: st))) rfl rfl rfl
theorem s63_74 : ji_Ev C 63 74 M lv [.int x] o ↔ o = (some (.int x), M) := ev_ireti rfl rfl
theorem s64_0 : ji_Ev C 64 0 M (some (.ref a) :: l) st o ↔ ji_Ev C 64 1 M (some (.ref a) :: l) (.ref a :: st) o := ev_go (S := (1, M, (some (.ref a) :: l), (.ref a :: st))) rfl rfl rfl
theorem s64_1 : ji_Ev C 64 1 M lv (.ref a :: st) o ↔ ji_kd M a = some (0, 8) ∧ ji_Ev C 64 4 M lv (ji_rv (ji_gR M a 0) :: st) o := ev_getR (k := 64) rfl fd_8_10 rfl
theorem s64_4 : ji_Ev C 64 4 M lv (.ref a :: st) o ↔ ji_kd M a = some (0, 5) ∧ ji_Ev C 64 7 M lv (ji_rv (ji_gR M a 0) :: st) o := ev_getR (k := 64) rfl fd_8_111 rfl
theorem s64_7 : ji_Ev C 64 7 M (l0 :: some (.int x) :: l) st o ↔ ji_Ev C 64 8 M (l0 :: some (.int x) :: l) (.int x :: st) o := ev_go (S := (8, M, (l0 :: some (.int x) :: l), (.int x :: st))) rfl rfl rfl
theorem s64_8 : ji_Ev C 64 8 M lv (p0 :: .ref a :: st) o ↔ (ji_rcb M 2 (.ref a) = true ∧ ji_ok8 st) ∧ ji_evC (C 65 [.ref a, p0] M) (fun v M' => ji_Ev C 64 11 M' lv (v.toList ++ st) o) := ev_inv (k := 64) rfl cd_8_121 rfl
theorem s64_11 : ji_Ev C 64 11 M lv (.int x :: st) o ↔ if x = 0 then ji_Ev C 64 24 M lv st o else ji_Ev C 64 14 M lv st o := ev_brz (c := .eq) rfl (by decide) rfl
theorem s64_14 : ji_Ev C 64 14 M (l0 :: l1 :: some (.int x) :: l) st o ↔ ji_Ev C 64 15 M (l0 :: l1 :: some (.int x) :: l) (.int x :: st) o := ev_go (S := (15, M, (l0 :: l1 :: some (.int x) :: l), (.int x :: st))) rfl rfl rfl
theorem s64_15 : ji_Ev C 64 15 M lv st o ↔ ji_Ev C 64 16 M lv (.int 0 :: st) o := ev_go (S := (16, M, lv, (.int 0 :: st))) rfl rfl rfl
theorem s64_16 : ji_Ev C 64 16 M lv st o ↔ ji_Ev C 64 18 M lv (.int 11 :: st) o := ev_go (S := (18, M, lv, (.int 11 :: st))) rfl rfl rfl
theorem s64_18 : ji_Ev C 64 18 M lv (p2 :: p1 :: p0 :: st) o ↔ ji_ok8 st ∧ ji_evC (C 43 [p0, p1, p2] M) (fun v M' => ji_Ev C 64 21 M' lv (v.toList ++ st) o) := ev_sta (k := 64) (a := [p2, p1, p0]) rfl (Or.inl cd_8_89) rfl
theorem s64_21 : ji_Ev C 64 21 M lv (.int x :: st) o ↔ if x = 0 then ji_Ev C 64 24 M lv st o else ji_Ev C 64 27 M lv st o := ev_brz (c := .ne) rfl (by decide) rfl
theorem s64_24 : ji_Ev C 64 24 M lv st o ↔ ji_Ev C 64 26 M lv (.int (-2) :: st) o := ev_go (S := (26, M, lv, (.int (-2) :: st))) rfl rfl rfl
theorem s64_26 : ji_Ev C 64 26 M lv [.int x] o ↔ o = (some (.int x), M) := ev_ireti rfl rfl
theorem s64_27 : ji_Ev C 64 27 M (l0 :: l1 :: some (.int x) :: l) st o ↔ ji_Ev C 64 28 M (l0 :: l1 :: some (.int x) :: l) (.int x :: st) o := ev_go (S := (28, M, (l0 :: l1 :: some (.int x) :: l), (.int x :: st))) rfl rfl rfl
theorem s64_28 : ji_Ev C 64 28 M lv (.int x :: st) o ↔ if x = 8 then ji_Ev C 64 60 M lv st o else if x = 9 then ji_Ev C 64 69 M lv st o else if x = 10 then ji_Ev C 64 78 M lv st o else if x = 11 then ji_Ev C 64 87 M lv st o else ji_Ev C 64 99 M lv st o := by
  refine (ev_swT rfl (by decide)).trans ?_
  show ji_Ev C 64 ((28 : Int) + (if x = 8 then 32 else if x = 9 then 41 else if x = 10 then 50 else if x = 11 then 59 else 71)).toNat M lv st o ↔ _
  by_cases h0 : x = 8
  · rw [if_pos h0, if_pos h0]; exact Iff.rfl
  rw [if_neg h0, if_neg h0]
  by_cases h1 : x = 9
  · rw [if_pos h1, if_pos h1]; exact Iff.rfl
  rw [if_neg h1, if_neg h1]
  by_cases h2 : x = 10
  · rw [if_pos h2, if_pos h2]; exact Iff.rfl
  rw [if_neg h2, if_neg h2]
  by_cases h3 : x = 11
  · rw [if_pos h3, if_pos h3]; exact Iff.rfl
  rw [if_neg h3, if_neg h3]
  exact Iff.rfl
theorem s64_60 : ji_Ev C 64 60 M (some (.ref a) :: l) st o ↔ ji_Ev C 64 61 M (some (.ref a) :: l) (.ref a :: st) o := ev_go (S := (61, M, (some (.ref a) :: l), (.ref a :: st))) rfl rfl rfl
theorem s64_61 : ji_Ev C 64 61 M lv (.ref a :: st) o ↔ ji_kd M a = some (0, 8) ∧ ji_Ev C 64 64 M lv (ji_rv (ji_gR M a 0) :: st) o := ev_getR (k := 64) rfl fd_8_10 rfl
theorem s64_64 : ji_Ev C 64 64 M (l0 :: some (.int x) :: l) st o ↔ ji_Ev C 64 65 M (l0 :: some (.int x) :: l) (.int x :: st) o := ev_go (S := (65, M, (l0 :: some (.int x) :: l), (.int x :: st))) rfl rfl rfl
theorem s64_65 : ji_Ev C 64 65 M lv (p0 :: .ref a :: st) o ↔ (ji_rcb M 5 (.ref a) = true ∧ ji_ok8 st) ∧ ji_evC (C 66 [.ref a, p0] M) (fun v M' => ji_Ev C 64 68 M' lv (v.toList ++ st) o) := ev_inv (k := 64) rfl cd_8_124 rfl
theorem s64_68 : ji_Ev C 64 68 M lv [.int x] o ↔ o = (some (.int x), M) := ev_ireti rfl rfl
theorem s64_69 : ji_Ev C 64 69 M (some (.ref a) :: l) st o ↔ ji_Ev C 64 70 M (some (.ref a) :: l) (.ref a :: st) o := ev_go (S := (70, M, (some (.ref a) :: l), (.ref a :: st))) rfl rfl rfl
theorem s64_70 : ji_Ev C 64 70 M lv (.ref a :: st) o ↔ ji_kd M a = some (0, 8) ∧ ji_Ev C 64 73 M lv (ji_rv (ji_gR M a 0) :: st) o := ev_getR (k := 64) rfl fd_8_10 rfl
theorem s64_73 : ji_Ev C 64 73 M (l0 :: some (.int x) :: l) st o ↔ ji_Ev C 64 74 M (l0 :: some (.int x) :: l) (.int x :: st) o := ev_go (S := (74, M, (l0 :: some (.int x) :: l), (.int x :: st))) rfl rfl rfl
theorem s64_74 : ji_Ev C 64 74 M lv (p0 :: .ref a :: st) o ↔ (ji_rcb M 5 (.ref a) = true ∧ ji_ok8 st) ∧ ji_evC (C 67 [.ref a, p0] M) (fun v M' => ji_Ev C 64 77 M' lv (v.toList ++ st) o) := ev_inv (k := 64) rfl cd_8_128 rfl
theorem s64_77 : ji_Ev C 64 77 M lv [.int x] o ↔ o = (some (.int x), M) := ev_ireti rfl rfl
theorem s64_78 : ji_Ev C 64 78 M (some (.ref a) :: l) st o ↔ ji_Ev C 64 79 M (some (.ref a) :: l) (.ref a :: st) o := ev_go (S := (79, M, (some (.ref a) :: l), (.ref a :: st))) rfl rfl rfl
theorem s64_79 : ji_Ev C 64 79 M lv (.ref a :: st) o ↔ ji_kd M a = some (0, 8) ∧ ji_Ev C 64 82 M lv (ji_rv (ji_gR M a 0) :: st) o := ev_getR (k := 64) rfl fd_8_10 rfl
theorem s64_82 : ji_Ev C 64 82 M (l0 :: some (.int x) :: l) st o ↔ ji_Ev C 64 83 M (l0 :: some (.int x) :: l) (.int x :: st) o := ev_go (S := (83, M, (l0 :: some (.int x) :: l), (.int x :: st))) rfl rfl rfl
theorem s64_83 : ji_Ev C 64 83 M lv (p0 :: .ref a :: st) o ↔ (ji_rcb M 5 (.ref a) = true ∧ ji_ok8 st) ∧ ji_evC (C 69 [.ref a, p0] M) (fun v M' => ji_Ev C 64 86 M' lv (v.toList ++ st) o) := ev_inv (k := 64) rfl cd_8_131 rfl
theorem s64_86 : ji_Ev C 64 86 M lv [.int x] o ↔ o = (some (.int x), M) := ev_ireti rfl rfl
theorem s64_87 : ji_Ev C 64 87 M (some (.ref a) :: l) st o ↔ ji_Ev C 64 88 M (some (.ref a) :: l) (.ref a :: st) o := ev_go (S := (88, M, (some (.ref a) :: l), (.ref a :: st))) rfl rfl rfl
theorem s64_88 : ji_Ev C 64 88 M lv (.ref a :: st) o ↔ ji_kd M a = some (0, 8) ∧ ji_Ev C 64 91 M lv (ji_rv (ji_gR M a 0) :: st) o := ev_getR (k := 64) rfl fd_8_10 rfl
theorem s64_91 : ji_Ev C 64 91 M (l0 :: some (.int x) :: l) st o ↔ ji_Ev C 64 92 M (l0 :: some (.int x) :: l) (.int x :: st) o := ev_go (S := (92, M, (l0 :: some (.int x) :: l), (.int x :: st))) rfl rfl rfl
theorem s64_92 : ji_Ev C 64 92 M lv (p0 :: .ref a :: st) o ↔ (ji_rcb M 5 (.ref a) = true ∧ ji_ok8 st) ∧ ji_evC (C 50 [.ref a, p0] M) (fun v M' => ji_Ev C 64 95 M' lv (v.toList ++ st) o) := ev_inv (k := 64) rfl cd_8_134 rfl
theorem s64_95 : ji_Ev C 64 95 M lv (p0 :: st) o ↔ ji_ok8 st ∧ ji_evC (C 55 [p0] M) (fun v M' => ji_Ev C 64 98 M' lv (v.toList ++ st) o) := ev_sta (k := 64) (a := [p0]) rfl (Or.inl cd_8_137) rfl
theorem s64_98 : ji_Ev C 64 98 M lv [.int x] o ↔ o = (some (.int x), M) := ev_ireti rfl rfl
theorem s64_99 : ji_Ev C 64 99 M (some (.ref a) :: l) st o ↔ ji_Ev C 64 100 M (some (.ref a) :: l) (.ref a :: st) o := ev_go (S := (100, M, (some (.ref a) :: l), (.ref a :: st))) rfl rfl rfl
theorem s64_100 : ji_Ev C 64 100 M lv (.ref a :: st) o ↔ ji_kd M a = some (0, 8) ∧ ji_Ev C 64 103 M lv (ji_rv (ji_gR M a 0) :: st) o := ev_getR (k := 64) rfl fd_8_10 rfl
theorem s64_103 : ji_Ev C 64 103 M lv (.ref a :: st) o ↔ ji_kd M a = some (0, 5) ∧ ji_Ev C 64 106 M lv (ji_rv (ji_gR M a 0) :: st) o := ev_getR (k := 64) rfl fd_8_111 rfl
theorem s64_106 : ji_Ev C 64 106 M (l0 :: some (.int x) :: l) st o ↔ ji_Ev C 64 107 M (l0 :: some (.int x) :: l) (.int x :: st) o := ev_go (S := (107, M, (l0 :: some (.int x) :: l), (.int x :: st))) rfl rfl rfl
theorem s64_107 : ji_Ev C 64 107 M (l0 :: l1 :: some (.int x) :: l) st o ↔ ji_Ev C 64 108 M (l0 :: l1 :: some (.int x) :: l) (.int x :: st) o := ev_go (S := (108, M, (l0 :: l1 :: some (.int x) :: l), (.int x :: st))) rfl rfl rfl
theorem s64_108 : ji_Ev C 64 108 M lv (p1 :: p0 :: .ref a :: st) o ↔ (ji_rcb M 2 (.ref a) = true ∧ ji_ok8 st) ∧ ji_evC (C 49 [.ref a, p0, p1] M) (fun v M' => ji_Ev C 64 111 M' lv (v.toList ++ st) o) := ev_inv (k := 64) rfl cd_8_140 rfl
theorem s64_111 : ji_Ev C 64 111 M lv [.int x] o ↔ o = (some (.int x), M) := ev_ireti rfl rfl
theorem s65_0 : ji_Ev C 65 0 M (l0 :: some (.int x) :: l) st o ↔ ji_Ev C 65 1 M (l0 :: some (.int x) :: l) (.int x :: st) o := ev_go (S := (1, M, (l0 :: some (.int x) :: l), (.int x :: st))) rfl rfl rfl
theorem s65_1 : ji_Ev C 65 1 M lv (.int x :: st) o ↔ if x < 0 then ji_Ev C 65 16 M lv st o else ji_Ev C 65 4 M lv st o := ev_brz (c := .lt) rfl (by decide) rfl
theorem s65_4 : ji_Ev C 65 4 M (l0 :: some (.int x) :: l) st o ↔ ji_Ev C 65 5 M (l0 :: some (.int x) :: l) (.int x :: st) o := ev_go (S := (5, M, (l0 :: some (.int x) :: l), (.int x :: st))) rfl rfl rfl
theorem s65_5 : ji_Ev C 65 5 M (some (.ref a) :: l) st o ↔ ji_Ev C 65 6 M (some (.ref a) :: l) (.ref a :: st) o := ev_go (S := (6, M, (some (.ref a) :: l), (.ref a :: st))) rfl rfl rfl
theorem s65_6 : ji_Ev C 65 6 M lv (.ref a :: st) o ↔ ji_kd M a = some (0, 2) ∧ ji_Ev C 65 9 M lv (.int (ji_gI M a 3) :: st) o := ev_getI (k := 65) rfl fd_2_28 rfl
theorem s65_9 : ji_Ev C 65 9 M lv (.int y :: .int x :: st) o ↔ if x < y then ji_Ev C 65 12 M lv st o else ji_Ev C 65 16 M lv st o := ev_brc (c := .ge) rfl (by decide) rfl
theorem s65_12 : ji_Ev C 65 12 M lv st o ↔ ji_Ev C 65 13 M lv (.int 1 :: st) o := ev_go (S := (13, M, lv, (.int 1 :: st))) rfl rfl rfl
theorem s65_13 : ji_Ev C 65 13 M lv st o ↔ ji_Ev C 65 17 M lv st o := ev_gt rfl (by decide) rfl
theorem s65_16 : ji_Ev C 65 16 M lv st o ↔ ji_Ev C 65 17 M lv (.int 0 :: st) o := ev_go (S := (17, M, lv, (.int 0 :: st))) rfl rfl rfl
theorem s65_17 : ji_Ev C 65 17 M lv [.int x] o ↔ narrow .boolean (.int x) = .int x ∧ o = (some (.int x), M) := ev_iretb rfl rfl
theorem s66_0 : ji_Ev C 66 0 M (some (.ref a) :: l) st o ↔ ji_Ev C 66 1 M (some (.ref a) :: l) (.ref a :: st) o := ev_go (S := (1, M, (some (.ref a) :: l), (.ref a :: st))) rfl rfl rfl
theorem s66_1 : ji_Ev C 66 1 M (l0 :: some (.int x) :: l) st o ↔ ji_Ev C 66 2 M (l0 :: some (.int x) :: l) (.int x :: st) o := ev_go (S := (2, M, (l0 :: some (.int x) :: l), (.int x :: st))) rfl rfl rfl
theorem s66_2 : ji_Ev C 66 2 M lv (p0 :: .ref a :: st) o ↔ (ji_rcb M 5 (.ref a) = true ∧ ji_ok8 st) ∧ ji_evC (C 50 [.ref a, p0] M) (fun v M' => ji_Ev C 66 5 M' lv (v.toList ++ st) o) := ev_inv (k := 66) rfl cd_5_57 rfl
theorem s66_5 : ji_Ev C 66 5 M (some (.ref a) :: l) st o ↔ ji_Ev C 66 6 M (some (.ref a) :: l) (.ref a :: st) o := ev_go (S := (6, M, (some (.ref a) :: l), (.ref a :: st))) rfl rfl rfl
theorem s66_6 : ji_Ev C 66 6 M lv (.ref a :: st) o ↔ ji_kd M a = some (0, 5) ∧ ji_Ev C 66 9 M lv (ji_rv (ji_gR M a 0) :: st) o := ev_getR (k := 66) rfl fd_5_14 rfl
theorem s66_9 : ji_Ev C 66 9 M (l0 :: some (.int x) :: l) st o ↔ ji_Ev C 66 10 M (l0 :: some (.int x) :: l) (.int x :: st) o := ev_go (S := (10, M, (l0 :: some (.int x) :: l), (.int x :: st))) rfl rfl rfl
theorem s66_10 : ji_Ev C 66 10 M lv st o ↔ ji_Ev C 66 11 M lv (.int 3 :: st) o := ev_go (S := (11, M, lv, (.int 3 :: st))) rfl rfl rfl
theorem s66_11 : ji_Ev C 66 11 M lv (p1 :: p0 :: .ref a :: st) o ↔ (ji_rcb M 2 (.ref a) = true ∧ ji_ok8 st) ∧ ji_evC (C 49 [.ref a, p0, p1] M) (fun v M' => ji_Ev C 66 14 M' lv (v.toList ++ st) o) := ev_inv (k := 66) rfl cd_5_53 rfl
theorem s66_14 : ji_Ev C 66 14 M lv (p1 :: p0 :: st) o ↔ ji_ok8 st ∧ ji_evC (C 56 [p0, p1] M) (fun v M' => ji_Ev C 66 17 M' lv (v.toList ++ st) o) := ev_sta (k := 66) (a := [p1, p0]) rfl (Or.inl cd_5_61) rfl
theorem s66_17 : ji_Ev C 66 17 M lv [.int x] o ↔ o = (some (.int x), M) := ev_ireti rfl rfl
theorem s67_0 : ji_Ev C 67 0 M (some (.ref a) :: l) st o ↔ ji_Ev C 67 1 M (some (.ref a) :: l) (.ref a :: st) o := ev_go (S := (1, M, (some (.ref a) :: l), (.ref a :: st))) rfl rfl rfl
theorem s67_1 : ji_Ev C 67 1 M (l0 :: some (.int x) :: l) st o ↔ ji_Ev C 67 2 M (l0 :: some (.int x) :: l) (.int x :: st) o := ev_go (S := (2, M, (l0 :: some (.int x) :: l), (.int x :: st))) rfl rfl rfl
theorem s67_2 : ji_Ev C 67 2 M lv (p0 :: .ref a :: st) o ↔ (ji_rcb M 5 (.ref a) = true ∧ ji_ok8 st) ∧ ji_evC (C 50 [.ref a, p0] M) (fun v M' => ji_Ev C 67 5 M' lv (v.toList ++ st) o) := ev_inv (k := 67) rfl cd_5_57 rfl
theorem s67_5 : ji_Ev C 67 5 M (some (.ref a) :: l) st o ↔ ji_Ev C 67 6 M (some (.ref a) :: l) (.ref a :: st) o := ev_go (S := (6, M, (some (.ref a) :: l), (.ref a :: st))) rfl rfl rfl
theorem s67_6 : ji_Ev C 67 6 M lv (.ref a :: st) o ↔ ji_kd M a = some (0, 5) ∧ ji_Ev C 67 9 M lv (ji_rv (ji_gR M a 0) :: st) o := ev_getR (k := 67) rfl fd_5_14 rfl
theorem s67_9 : ji_Ev C 67 9 M (l0 :: some (.int x) :: l) st o ↔ ji_Ev C 67 10 M (l0 :: some (.int x) :: l) (.int x :: st) o := ev_go (S := (10, M, (l0 :: some (.int x) :: l), (.int x :: st))) rfl rfl rfl
theorem s67_10 : ji_Ev C 67 10 M lv st o ↔ ji_Ev C 67 11 M lv (.int 3 :: st) o := ev_go (S := (11, M, lv, (.int 3 :: st))) rfl rfl rfl
theorem s67_11 : ji_Ev C 67 11 M lv (p1 :: p0 :: .ref a :: st) o ↔ (ji_rcb M 2 (.ref a) = true ∧ ji_ok8 st) ∧ ji_evC (C 49 [.ref a, p0, p1] M) (fun v M' => ji_Ev C 67 14 M' lv (v.toList ++ st) o) := ev_inv (k := 67) rfl cd_5_53 rfl
theorem s67_14 : ji_Ev C 67 14 M lv (p1 :: p0 :: st) o ↔ ji_ok8 st ∧ ji_evC (C 68 [p0, p1] M) (fun v M' => ji_Ev C 67 17 M' lv (v.toList ++ st) o) := ev_sta (k := 67) (a := [p1, p0]) rfl (Or.inl cd_5_64) rfl
theorem s67_17 : ji_Ev C 67 17 M lv [.int x] o ↔ o = (some (.int x), M) := ev_ireti rfl rfl
theorem s68_0 : ji_Ev C 68 0 M (some (.int x) :: l) st o ↔ ji_Ev C 68 1 M (some (.int x) :: l) (.int x :: st) o := ev_go (S := (1, M, (some (.int x) :: l), (.int x :: st))) rfl rfl rfl
theorem s68_1 : ji_Ev C 68 1 M lv (.int x :: st) o ↔ if x = 1 then ji_Ev C 68 36 M lv st o else if x = 2 then ji_Ev C 68 36 M lv st o else if x = 3 then ji_Ev C 68 38 M lv st o else if x = 4 then ji_Ev C 68 42 M lv st o else if x = 5 then ji_Ev C 68 38 M lv st o else ji_Ev C 68 48 M lv st o := by
  refine (ev_swT rfl (by decide)).trans ?_
  show ji_Ev C 68 ((1 : Int) + (if x = 1 then 35 else if x = 2 then 35 else if x = 3 then 37 else if x = 4 then 41 else if x = 5 then 37 else 47)).toNat M lv st o ↔ _
  by_cases h0 : x = 1
  · rw [if_pos h0, if_pos h0]; exact Iff.rfl
  rw [if_neg h0, if_neg h0]
  by_cases h1 : x = 2
  · rw [if_pos h1, if_pos h1]; exact Iff.rfl
  rw [if_neg h1, if_neg h1]
  by_cases h2 : x = 3
  · rw [if_pos h2, if_pos h2]; exact Iff.rfl
  rw [if_neg h2, if_neg h2]
  by_cases h3 : x = 4
  · rw [if_pos h3, if_pos h3]; exact Iff.rfl
  rw [if_neg h3, if_neg h3]
  by_cases h4 : x = 5
  · rw [if_pos h4, if_pos h4]; exact Iff.rfl
  rw [if_neg h4, if_neg h4]
  exact Iff.rfl
theorem s68_36 : ji_Ev C 68 36 M (l0 :: some (.int x) :: l) st o ↔ ji_Ev C 68 37 M (l0 :: some (.int x) :: l) (.int x :: st) o := ev_go (S := (37, M, (l0 :: some (.int x) :: l), (.int x :: st))) rfl rfl rfl
theorem s68_37 : ji_Ev C 68 37 M lv [.int x] o ↔ o = (some (.int x), M) := ev_ireti rfl rfl
theorem s68_38 : ji_Ev C 68 38 M lv st o ↔ ji_Ev C 68 39 M lv (.int 2 :: st) o := ev_go (S := (39, M, lv, (.int 2 :: st))) rfl rfl rfl
theorem s68_39 : ji_Ev C 68 39 M (l0 :: some (.int x) :: l) st o ↔ ji_Ev C 68 40 M (l0 :: some (.int x) :: l) (.int x :: st) o := ev_go (S := (40, M, (l0 :: some (.int x) :: l), (.int x :: st))) rfl rfl rfl
theorem s68_40 : ji_Ev C 68 40 M lv (.int y :: .int x :: st) o ↔ ji_Ev C 68 41 M lv (.int (x * y) :: st) o := ev_go (S := (41, M, lv, (.int (x * y) :: st))) rfl rfl rfl
theorem s68_41 : ji_Ev C 68 41 M lv [.int x] o ↔ o = (some (.int x), M) := ev_ireti rfl rfl
theorem s68_42 : ji_Ev C 68 42 M (l0 :: some (.int x) :: l) st o ↔ ji_Ev C 68 43 M (l0 :: some (.int x) :: l) (.int x :: st) o := ev_go (S := (43, M, (l0 :: some (.int x) :: l), (.int x :: st))) rfl rfl rfl
theorem s68_43 : ji_Ev C 68 43 M lv st o ↔ ji_Ev C 68 44 M lv (.int 2 :: st) o := ev_go (S := (44, M, lv, (.int 2 :: st))) rfl rfl rfl
theorem s68_44 : ji_Ev C 68 44 M lv (.int y :: .int x :: st) o ↔ ¬ y = 0 ∧ ji_Ev C 68 45 M lv (.int (x / y) :: st) o := ev_dvI rfl
theorem s68_45 : ji_Ev C 68 45 M lv st o ↔ ji_Ev C 68 46 M lv (.int 1 :: st) o := ev_go (S := (46, M, lv, (.int 1 :: st))) rfl rfl rfl
theorem s68_46 : ji_Ev C 68 46 M lv (.int y :: .int x :: st) o ↔ ji_Ev C 68 47 M lv (.int (x + y) :: st) o := ev_go (S := (47, M, lv, (.int (x + y) :: st))) rfl rfl rfl
theorem s68_47 : ji_Ev C 68 47 M lv [.int x] o ↔ o = (some (.int x), M) := ev_ireti rfl rfl
theorem s68_48 : ji_Ev C 68 48 M lv st o ↔ ji_Ev C 68 49 M lv (.int 0 :: st) o := ev_go (S := (49, M, lv, (.int 0 :: st))) rfl rfl rfl
theorem s68_49 : ji_Ev C 68 49 M lv [.int x] o ↔ o = (some (.int x), M) := ev_ireti rfl rfl
theorem s69_0 : ji_Ev C 69 0 M (some (.ref a) :: l) st o ↔ ji_Ev C 69 1 M (some (.ref a) :: l) (.ref a :: st) o := ev_go (S := (1, M, (some (.ref a) :: l), (.ref a :: st))) rfl rfl rfl
theorem s69_1 : ji_Ev C 69 1 M (l0 :: some (.int x) :: l) st o ↔ ji_Ev C 69 2 M (l0 :: some (.int x) :: l) (.int x :: st) o := ev_go (S := (2, M, (l0 :: some (.int x) :: l), (.int x :: st))) rfl rfl rfl
theorem s69_2 : ji_Ev C 69 2 M lv (p0 :: .ref a :: st) o ↔ (ji_rcb M 5 (.ref a) = true ∧ ji_ok8 st) ∧ ji_evC (C 50 [.ref a, p0] M) (fun v M' => ji_Ev C 69 5 M' lv (v.toList ++ st) o) := ev_inv (k := 69) rfl cd_5_57 rfl
theorem s69_5 : ji_Ev C 69 5 M (some (.ref a) :: l) st o ↔ ji_Ev C 69 6 M (some (.ref a) :: l) (.ref a :: st) o := ev_go (S := (6, M, (some (.ref a) :: l), (.ref a :: st))) rfl rfl rfl
theorem s69_6 : ji_Ev C 69 6 M lv (.ref a :: st) o ↔ ji_kd M a = some (0, 5) ∧ ji_Ev C 69 9 M lv (.int (ji_gI M a 2) :: st) o := ev_getI (k := 69) rfl fd_5_24 rfl
theorem s69_9 : ji_Ev C 69 9 M lv (p1 :: p0 :: st) o ↔ ji_ok8 st ∧ ji_evC (C 53 [p0, p1] M) (fun v M' => ji_Ev C 69 12 M' lv (v.toList ++ st) o) := ev_sta (k := 69) (a := [p1, p0]) rfl (Or.inl cd_5_67) rfl
theorem s69_12 : ji_Ev C 69 12 M lv [.int x] o ↔ o = (some (.int x), M) := ev_ireti rfl rfl
theorem s70_0 : ji_Ev C 70 0 M (some (.ref a) :: l) st o ↔ ji_Ev C 70 1 M (some (.ref a) :: l) (.ref a :: st) o := ev_go (S := (1, M, (some (.ref a) :: l), (.ref a :: st))) rfl rfl rfl
theorem s70_1 : ji_Ev C 70 1 M lv (.ref a :: st) o ↔ ji_kd M a = some (0, 8) ∧ ji_Ev C 70 4 M lv (ji_rv (ji_gR M a 0) :: st) o := ev_getR (k := 70) rfl fd_8_10 rfl
theorem s70_4 : ji_Ev C 70 4 M lv (.ref a :: st) o ↔ ji_kd M a = some (0, 5) ∧ ji_Ev C 70 7 M lv (ji_rv (ji_gR M a 0) :: st) o := ev_getR (k := 70) rfl fd_8_111 rfl
theorem s70_7 : ji_Ev C 70 7 M (l0 :: some (.int x) :: l) st o ↔ ji_Ev C 70 8 M (l0 :: some (.int x) :: l) (.int x :: st) o := ev_go (S := (8, M, (l0 :: some (.int x) :: l), (.int x :: st))) rfl rfl rfl
theorem s70_8 : ji_Ev C 70 8 M lv (p0 :: .ref a :: st) o ↔ (ji_rcb M 2 (.ref a) = true ∧ ji_ok8 st) ∧ ji_evC (C 65 [.ref a, p0] M) (fun v M' => ji_Ev C 70 11 M' lv (v.toList ++ st) o) := ev_inv (k := 70) rfl cd_8_121 rfl
theorem s70_11 : ji_Ev C 70 11 M lv (.int x :: st) o ↔ if x = 0 then ji_Ev C 70 21 M lv st o else ji_Ev C 70 14 M lv st o := ev_brz (c := .eq) rfl (by decide) rfl
theorem s70_14 : ji_Ev C 70 14 M (l0 :: l1 :: some (.int x) :: l) st o ↔ ji_Ev C 70 15 M (l0 :: l1 :: some (.int x) :: l) (.int x :: st) o := ev_go (S := (15, M, (l0 :: l1 :: some (.int x) :: l), (.int x :: st))) rfl rfl rfl
theorem s70_15 : ji_Ev C 70 15 M lv (p0 :: st) o ↔ ji_ok8 st ∧ ji_evC (C 71 [p0] M) (fun v M' => ji_Ev C 70 18 M' lv (v.toList ++ st) o) := ev_sta (k := 70) (a := [p0]) rfl (Or.inl cd_8_143) rfl
theorem s70_18 : ji_Ev C 70 18 M lv (.int x :: st) o ↔ if x = 0 then ji_Ev C 70 21 M lv st o else ji_Ev C 70 24 M lv st o := ev_brz (c := .ne) rfl (by decide) rfl
theorem s70_21 : ji_Ev C 70 21 M lv st o ↔ ji_Ev C 70 23 M lv (.int (-2) :: st) o := ev_go (S := (23, M, lv, (.int (-2) :: st))) rfl rfl rfl
theorem s70_23 : ji_Ev C 70 23 M lv [.int x] o ↔ o = (some (.int x), M) := ev_ireti rfl rfl
theorem s70_24 : ji_Ev C 70 24 M (some (.ref a) :: l) st o ↔ ji_Ev C 70 25 M (some (.ref a) :: l) (.ref a :: st) o := ev_go (S := (25, M, (some (.ref a) :: l), (.ref a :: st))) rfl rfl rfl
theorem s70_25 : ji_Ev C 70 25 M lv (.ref a :: st) o ↔ ji_kd M a = some (0, 8) ∧ ji_Ev C 70 28 M lv (ji_rv (ji_gR M a 0) :: st) o := ev_getR (k := 70) rfl fd_8_10 rfl
theorem s70_28 : ji_Ev C 70 28 M (l0 :: some (.int x) :: l) st o ↔ ji_Ev C 70 29 M (l0 :: some (.int x) :: l) (.int x :: st) o := ev_go (S := (29, M, (l0 :: some (.int x) :: l), (.int x :: st))) rfl rfl rfl
theorem s70_29 : ji_Ev C 70 29 M lv (p0 :: .ref a :: st) o ↔ (ji_rcb M 5 (.ref a) = true ∧ ji_ok8 st) ∧ ji_evC (C 50 [.ref a, p0] M) (fun v M' => ji_Ev C 70 32 M' lv (v.toList ++ st) o) := ev_inv (k := 70) rfl cd_8_134 rfl
theorem s70_32 : ji_Ev C 70 32 M lv (.int x :: st) o ↔ 3 < lv.length ∧ ji_Ev C 70 33 M (ji_s1 lv 3 (.int x)) st o := ev_stI rfl rfl rfl
theorem s70_33 : ji_Ev C 70 33 M (l0 :: l1 :: l2 :: some (.int x) :: l) st o ↔ ji_Ev C 70 34 M (l0 :: l1 :: l2 :: some (.int x) :: l) (.int x :: st) o := ev_go (S := (34, M, (l0 :: l1 :: l2 :: some (.int x) :: l), (.int x :: st))) rfl rfl rfl
theorem s70_34 : ji_Ev C 70 34 M (l0 :: l1 :: some (.int x) :: l) st o ↔ ji_Ev C 70 35 M (l0 :: l1 :: some (.int x) :: l) (.int x :: st) o := ev_go (S := (35, M, (l0 :: l1 :: some (.int x) :: l), (.int x :: st))) rfl rfl rfl
theorem s70_35 : ji_Ev C 70 35 M lv (p1 :: p0 :: st) o ↔ ji_ok8 st ∧ ji_evC (C 72 [p0, p1] M) (fun v M' => ji_Ev C 70 38 M' lv (v.toList ++ st) o) := ev_sta (k := 70) (a := [p1, p0]) rfl (Or.inl cd_8_146) rfl
theorem s70_38 : ji_Ev C 70 38 M lv (.int x :: st) o ↔ if x = 0 then ji_Ev C 70 54 M lv st o else ji_Ev C 70 41 M lv st o := ev_brz (c := .eq) rfl (by decide) rfl
theorem s70_41 : ji_Ev C 70 41 M (l0 :: l1 :: some (.int x) :: l) st o ↔ ji_Ev C 70 42 M (l0 :: l1 :: some (.int x) :: l) (.int x :: st) o := ev_go (S := (42, M, (l0 :: l1 :: some (.int x) :: l), (.int x :: st))) rfl rfl rfl
theorem s70_42 : ji_Ev C 70 42 M lv st o ↔ ji_Ev C 70 43 M lv (.int 5 :: st) o := ev_go (S := (43, M, lv, (.int 5 :: st))) rfl rfl rfl
theorem s70_43 : ji_Ev C 70 43 M lv (.int y :: .int x :: st) o ↔ if x = y then ji_Ev C 70 46 M lv st o else ji_Ev C 70 57 M lv st o := ev_brc (c := .ne) rfl (by decide) rfl
theorem s70_46 : ji_Ev C 70 46 M (some (.ref a) :: l) st o ↔ ji_Ev C 70 47 M (some (.ref a) :: l) (.ref a :: st) o := ev_go (S := (47, M, (some (.ref a) :: l), (.ref a :: st))) rfl rfl rfl
theorem s70_47 : ji_Ev C 70 47 M (l0 :: some (.int x) :: l) st o ↔ ji_Ev C 70 48 M (l0 :: some (.int x) :: l) (.int x :: st) o := ev_go (S := (48, M, (l0 :: some (.int x) :: l), (.int x :: st))) rfl rfl rfl
theorem s70_48 : ji_Ev C 70 48 M lv (p0 :: .ref a :: st) o ↔ (ji_rcb M 8 (.ref a) = true ∧ ji_ok8 st) ∧ ji_evC (C 73 [.ref a, p0] M) (fun v M' => ji_Ev C 70 51 M' lv (v.toList ++ st) o) := ev_inv (k := 70) rfl cd_8_150 rfl
theorem s70_51 : ji_Ev C 70 51 M lv (.int x :: st) o ↔ if x = 0 then ji_Ev C 70 54 M lv st o else ji_Ev C 70 57 M lv st o := ev_brz (c := .ne) rfl (by decide) rfl
theorem s70_54 : ji_Ev C 70 54 M lv st o ↔ ji_Ev C 70 56 M lv (.int (-3) :: st) o := ev_go (S := (56, M, lv, (.int (-3) :: st))) rfl rfl rfl
theorem s70_56 : ji_Ev C 70 56 M lv [.int x] o ↔ o = (some (.int x), M) := ev_ireti rfl rfl
theorem s70_57 : ji_Ev C 70 57 M (some (.ref a) :: l) st o ↔ ji_Ev C 70 58 M (some (.ref a) :: l) (.ref a :: st) o := ev_go (S := (58, M, (some (.ref a) :: l), (.ref a :: st))) rfl rfl rfl
theorem s70_58 : ji_Ev C 70 58 M lv (.ref a :: st) o ↔ ji_kd M a = some (0, 8) ∧ ji_Ev C 70 61 M lv (ji_rv (ji_gR M a 0) :: st) o := ev_getR (k := 70) rfl fd_8_10 rfl
theorem s70_61 : ji_Ev C 70 61 M (l0 :: some (.int x) :: l) st o ↔ ji_Ev C 70 62 M (l0 :: some (.int x) :: l) (.int x :: st) o := ev_go (S := (62, M, (l0 :: some (.int x) :: l), (.int x :: st))) rfl rfl rfl
theorem s70_62 : ji_Ev C 70 62 M (l0 :: l1 :: some (.int x) :: l) st o ↔ ji_Ev C 70 63 M (l0 :: l1 :: some (.int x) :: l) (.int x :: st) o := ev_go (S := (63, M, (l0 :: l1 :: some (.int x) :: l), (.int x :: st))) rfl rfl rfl
theorem s70_63 : ji_Ev C 70 63 M lv (p1 :: p0 :: .ref a :: st) o ↔ (ji_rcb M 5 (.ref a) = true ∧ ji_ok8 st) ∧ ji_evC (C 81 [.ref a, p0, p1] M) (fun v M' => ji_Ev C 70 66 M' lv (v.toList ++ st) o) := ev_inv (k := 70) rfl cd_8_153 rfl
theorem s70_66 : ji_Ev C 70 66 M lv (.int x :: st) o ↔ if x = 0 then ji_Ev C 70 69 M lv st o else ji_Ev C 70 72 M lv st o := ev_brz (c := .ne) rfl (by decide) rfl
theorem s70_69 : ji_Ev C 70 69 M lv st o ↔ ji_Ev C 70 71 M lv (.int (-4) :: st) o := ev_go (S := (71, M, lv, (.int (-4) :: st))) rfl rfl rfl
theorem s70_71 : ji_Ev C 70 71 M lv [.int x] o ↔ o = (some (.int x), M) := ev_ireti rfl rfl
theorem s70_72 : ji_Ev C 70 72 M (some (.ref a) :: l) st o ↔ ji_Ev C 70 73 M (some (.ref a) :: l) (.ref a :: st) o := ev_go (S := (73, M, (some (.ref a) :: l), (.ref a :: st))) rfl rfl rfl
theorem s70_73 : ji_Ev C 70 73 M lv (.ref a :: st) o ↔ ji_kd M a = some (0, 8) ∧ ji_Ev C 70 76 M lv (ji_rv (ji_gR M a 0) :: st) o := ev_getR (k := 70) rfl fd_8_10 rfl
theorem s70_76 : ji_Ev C 70 76 M (l0 :: some (.int x) :: l) st o ↔ ji_Ev C 70 77 M (l0 :: some (.int x) :: l) (.int x :: st) o := ev_go (S := (77, M, (l0 :: some (.int x) :: l), (.int x :: st))) rfl rfl rfl
theorem s70_77 : ji_Ev C 70 77 M (l0 :: l1 :: some (.int x) :: l) st o ↔ ji_Ev C 70 78 M (l0 :: l1 :: some (.int x) :: l) (.int x :: st) o := ev_go (S := (78, M, (l0 :: l1 :: some (.int x) :: l), (.int x :: st))) rfl rfl rfl
theorem s70_78 : ji_Ev C 70 78 M (some (.ref a) :: l) st o ↔ ji_Ev C 70 79 M (some (.ref a) :: l) (.ref a :: st) o := ev_go (S := (79, M, (some (.ref a) :: l), (.ref a :: st))) rfl rfl rfl
theorem s70_79 : ji_Ev C 70 79 M lv (.ref a :: st) o ↔ ji_kd M a = some (0, 8) ∧ ji_Ev C 70 82 M lv (ji_rv (ji_gR M a 0) :: st) o := ev_getR (k := 70) rfl fd_8_10 rfl
theorem s70_82 : ji_Ev C 70 82 M lv (.ref a :: st) o ↔ ji_kd M a = some (0, 5) ∧ ji_Ev C 70 85 M lv (.int (ji_gI M a 1) :: st) o := ev_getI (k := 70) rfl fd_8_99 rfl
theorem s70_85 : ji_Ev C 70 85 M lv (p2 :: p1 :: p0 :: .ref a :: st) o ↔ (ji_rcb M 5 (.ref a) = true ∧ ji_ok8 st) ∧ ji_evC (C 58 [.ref a, p0, p1, p2] M) (fun v M' => ji_Ev C 70 88 M' lv (v.toList ++ st) o) := ev_inv (k := 70) rfl cd_8_156 rfl
theorem s70_88 : ji_Ev C 70 88 M (l0 :: l1 :: l2 :: some (.int x) :: l) st o ↔ ji_Ev C 70 89 M (l0 :: l1 :: l2 :: some (.int x) :: l) (.int x :: st) o := ev_go (S := (89, M, (l0 :: l1 :: l2 :: some (.int x) :: l), (.int x :: st))) rfl rfl rfl
theorem s70_89 : ji_Ev C 70 89 M lv [.int x] o ↔ o = (some (.int x), M) := ev_ireti rfl rfl
theorem s71_0 : ji_Ev C 71 0 M (some (.int x) :: l) st o ↔ ji_Ev C 71 1 M (some (.int x) :: l) (.int x :: st) o := ev_go (S := (1, M, (some (.int x) :: l), (.int x :: st))) rfl rfl rfl
theorem s71_1 : ji_Ev C 71 1 M lv st o ↔ ji_Ev C 71 2 M lv (.int 0 :: st) o := ev_go (S := (2, M, lv, (.int 0 :: st))) rfl rfl rfl
theorem s71_2 : ji_Ev C 71 2 M lv st o ↔ ji_Ev C 71 3 M lv (.int 5 :: st) o := ev_go (S := (3, M, lv, (.int 5 :: st))) rfl rfl rfl
theorem s71_3 : ji_Ev C 71 3 M lv (p2 :: p1 :: p0 :: st) o ↔ ji_ok8 st ∧ ji_evC (C 43 [p0, p1, p2] M) (fun v M' => ji_Ev C 71 6 M' lv (v.toList ++ st) o) := ev_sta (k := 71) (a := [p2, p1, p0]) rfl (Or.inr cd_5_36) rfl
theorem s71_6 : ji_Ev C 71 6 M lv [.int x] o ↔ narrow .boolean (.int x) = .int x ∧ o = (some (.int x), M) := ev_iretb rfl rfl
theorem s72_0 : ji_Ev C 72 0 M (l0 :: some (.int x) :: l) st o ↔ ji_Ev C 72 1 M (l0 :: some (.int x) :: l) (.int x :: st) o := ev_go (S := (1, M, (l0 :: some (.int x) :: l), (.int x :: st))) rfl rfl rfl
theorem s72_1 : ji_Ev C 72 1 M lv (.int x :: st) o ↔ if x = 1 then ji_Ev C 72 36 M lv st o else if x = 2 then ji_Ev C 72 47 M lv st o else if x = 3 then ji_Ev C 72 63 M lv st o else if x = 4 then ji_Ev C 72 95 M lv st o else if x = 5 then ji_Ev C 72 84 M lv st o else ji_Ev C 72 95 M lv st o := by
  refine (ev_swT rfl (by decide)).trans ?_
  show ji_Ev C 72 ((1 : Int) + (if x = 1 then 35 else if x = 2 then 46 else if x = 3 then 62 else if x = 4 then 94 else if x = 5 then 83 else 94)).toNat M lv st o ↔ _
  by_cases h0 : x = 1
  · rw [if_pos h0, if_pos h0]; exact Iff.rfl
  rw [if_neg h0, if_neg h0]
  by_cases h1 : x = 2
  · rw [if_pos h1, if_pos h1]; exact Iff.rfl
  rw [if_neg h1, if_neg h1]
  by_cases h2 : x = 3
  · rw [if_pos h2, if_pos h2]; exact Iff.rfl
  rw [if_neg h2, if_neg h2]
  by_cases h3 : x = 4
  · rw [if_pos h3, if_pos h3]; exact Iff.rfl
  rw [if_neg h3, if_neg h3]
  by_cases h4 : x = 5
  · rw [if_pos h4, if_pos h4]; exact Iff.rfl
  rw [if_neg h4, if_neg h4]
  exact Iff.rfl
theorem s72_36 : ji_Ev C 72 36 M (some (.int x) :: l) st o ↔ ji_Ev C 72 37 M (some (.int x) :: l) (.int x :: st) o := ev_go (S := (37, M, (some (.int x) :: l), (.int x :: st))) rfl rfl rfl
theorem s72_37 : ji_Ev C 72 37 M lv st o ↔ ji_Ev C 72 38 M lv (.int 2 :: st) o := ev_go (S := (38, M, lv, (.int 2 :: st))) rfl rfl rfl
theorem s72_38 : ji_Ev C 72 38 M lv (.int y :: .int x :: st) o ↔ if x = y then ji_Ev C 72 41 M lv st o else ji_Ev C 72 45 M lv st o := ev_brc (c := .ne) rfl (by decide) rfl
theorem s72_41 : ji_Ev C 72 41 M lv st o ↔ ji_Ev C 72 42 M lv (.int 1 :: st) o := ev_go (S := (42, M, lv, (.int 1 :: st))) rfl rfl rfl
theorem s72_42 : ji_Ev C 72 42 M lv st o ↔ ji_Ev C 72 46 M lv st o := ev_gt rfl (by decide) rfl
theorem s72_45 : ji_Ev C 72 45 M lv st o ↔ ji_Ev C 72 46 M lv (.int 0 :: st) o := ev_go (S := (46, M, lv, (.int 0 :: st))) rfl rfl rfl
theorem s72_46 : ji_Ev C 72 46 M lv [.int x] o ↔ narrow .boolean (.int x) = .int x ∧ o = (some (.int x), M) := ev_iretb rfl rfl
theorem s72_47 : ji_Ev C 72 47 M (some (.int x) :: l) st o ↔ ji_Ev C 72 48 M (some (.int x) :: l) (.int x :: st) o := ev_go (S := (48, M, (some (.int x) :: l), (.int x :: st))) rfl rfl rfl
theorem s72_48 : ji_Ev C 72 48 M lv st o ↔ ji_Ev C 72 49 M lv (.int 1 :: st) o := ev_go (S := (49, M, lv, (.int 1 :: st))) rfl rfl rfl
theorem s72_49 : ji_Ev C 72 49 M lv (.int y :: .int x :: st) o ↔ if x = y then ji_Ev C 72 57 M lv st o else ji_Ev C 72 52 M lv st o := ev_brc (c := .eq) rfl (by decide) rfl
theorem s72_52 : ji_Ev C 72 52 M (some (.int x) :: l) st o ↔ ji_Ev C 72 53 M (some (.int x) :: l) (.int x :: st) o := ev_go (S := (53, M, (some (.int x) :: l), (.int x :: st))) rfl rfl rfl
theorem s72_53 : ji_Ev C 72 53 M lv st o ↔ ji_Ev C 72 54 M lv (.int 4 :: st) o := ev_go (S := (54, M, lv, (.int 4 :: st))) rfl rfl rfl
theorem s72_54 : ji_Ev C 72 54 M lv (.int y :: .int x :: st) o ↔ if x = y then ji_Ev C 72 57 M lv st o else ji_Ev C 72 61 M lv st o := ev_brc (c := .ne) rfl (by decide) rfl
theorem s72_57 : ji_Ev C 72 57 M lv st o ↔ ji_Ev C 72 58 M lv (.int 1 :: st) o := ev_go (S := (58, M, lv, (.int 1 :: st))) rfl rfl rfl
theorem s72_58 : ji_Ev C 72 58 M lv st o ↔ ji_Ev C 72 62 M lv st o := ev_gt rfl (by decide) rfl
theorem s72_61 : ji_Ev C 72 61 M lv st o ↔ ji_Ev C 72 62 M lv (.int 0 :: st) o := ev_go (S := (62, M, lv, (.int 0 :: st))) rfl rfl rfl
theorem s72_62 : ji_Ev C 72 62 M lv [.int x] o ↔ narrow .boolean (.int x) = .int x ∧ o = (some (.int x), M) := ev_iretb rfl rfl
theorem s72_63 : ji_Ev C 72 63 M (some (.int x) :: l) st o ↔ ji_Ev C 72 64 M (some (.int x) :: l) (.int x :: st) o := ev_go (S := (64, M, (some (.int x) :: l), (.int x :: st))) rfl rfl rfl
theorem s72_64 : ji_Ev C 72 64 M lv st o ↔ ji_Ev C 72 65 M lv (.int 1 :: st) o := ev_go (S := (65, M, lv, (.int 1 :: st))) rfl rfl rfl
theorem s72_65 : ji_Ev C 72 65 M lv (.int y :: .int x :: st) o ↔ if x = y then ji_Ev C 72 78 M lv st o else ji_Ev C 72 68 M lv st o := ev_brc (c := .eq) rfl (by decide) rfl
theorem s72_68 : ji_Ev C 72 68 M (some (.int x) :: l) st o ↔ ji_Ev C 72 69 M (some (.int x) :: l) (.int x :: st) o := ev_go (S := (69, M, (some (.int x) :: l), (.int x :: st))) rfl rfl rfl
theorem s72_69 : ji_Ev C 72 69 M lv st o ↔ ji_Ev C 72 70 M lv (.int 2 :: st) o := ev_go (S := (70, M, lv, (.int 2 :: st))) rfl rfl rfl
theorem s72_70 : ji_Ev C 72 70 M lv (.int y :: .int x :: st) o ↔ if x = y then ji_Ev C 72 78 M lv st o else ji_Ev C 72 73 M lv st o := ev_brc (c := .eq) rfl (by decide) rfl
theorem s72_73 : ji_Ev C 72 73 M (some (.int x) :: l) st o ↔ ji_Ev C 72 74 M (some (.int x) :: l) (.int x :: st) o := ev_go (S := (74, M, (some (.int x) :: l), (.int x :: st))) rfl rfl rfl
theorem s72_74 : ji_Ev C 72 74 M lv st o ↔ ji_Ev C 72 75 M lv (.int 4 :: st) o := ev_go (S := (75, M, lv, (.int 4 :: st))) rfl rfl rfl
theorem s72_75 : ji_Ev C 72 75 M lv (.int y :: .int x :: st) o ↔ if x = y then ji_Ev C 72 78 M lv st o else ji_Ev C 72 82 M lv st o := ev_brc (c := .ne) rfl (by decide) rfl
theorem s72_78 : ji_Ev C 72 78 M lv st o ↔ ji_Ev C 72 79 M lv (.int 1 :: st) o := ev_go (S := (79, M, lv, (.int 1 :: st))) rfl rfl rfl
theorem s72_79 : ji_Ev C 72 79 M lv st o ↔ ji_Ev C 72 83 M lv st o := ev_gt rfl (by decide) rfl
theorem s72_82 : ji_Ev C 72 82 M lv st o ↔ ji_Ev C 72 83 M lv (.int 0 :: st) o := ev_go (S := (83, M, lv, (.int 0 :: st))) rfl rfl rfl
theorem s72_83 : ji_Ev C 72 83 M lv [.int x] o ↔ narrow .boolean (.int x) = .int x ∧ o = (some (.int x), M) := ev_iretb rfl rfl
theorem s72_84 : ji_Ev C 72 84 M (some (.int x) :: l) st o ↔ ji_Ev C 72 85 M (some (.int x) :: l) (.int x :: st) o := ev_go (S := (85, M, (some (.int x) :: l), (.int x :: st))) rfl rfl rfl
theorem s72_85 : ji_Ev C 72 85 M lv st o ↔ ji_Ev C 72 86 M lv (.int 3 :: st) o := ev_go (S := (86, M, lv, (.int 3 :: st))) rfl rfl rfl
theorem s72_86 : ji_Ev C 72 86 M lv (.int y :: .int x :: st) o ↔ if x = y then ji_Ev C 72 89 M lv st o else ji_Ev C 72 93 M lv st o := ev_brc (c := .ne) rfl (by decide) rfl
theorem s72_89 : ji_Ev C 72 89 M lv st o ↔ ji_Ev C 72 90 M lv (.int 1 :: st) o := ev_go (S := (90, M, lv, (.int 1 :: st))) rfl rfl rfl
theorem s72_90 : ji_Ev C 72 90 M lv st o ↔ ji_Ev C 72 94 M lv st o := ev_gt rfl (by decide) rfl
theorem s72_93 : ji_Ev C 72 93 M lv st o ↔ ji_Ev C 72 94 M lv (.int 0 :: st) o := ev_go (S := (94, M, lv, (.int 0 :: st))) rfl rfl rfl
theorem s72_94 : ji_Ev C 72 94 M lv [.int x] o ↔ narrow .boolean (.int x) = .int x ∧ o = (some (.int x), M) := ev_iretb rfl rfl
theorem s72_95 : ji_Ev C 72 95 M lv st o ↔ ji_Ev C 72 96 M lv (.int 0 :: st) o := ev_go (S := (96, M, lv, (.int 0 :: st))) rfl rfl rfl
theorem s72_96 : ji_Ev C 72 96 M lv [.int x] o ↔ narrow .boolean (.int x) = .int x ∧ o = (some (.int x), M) := ev_iretb rfl rfl
theorem s73_0 : ji_Ev C 73 0 M (some (.ref a) :: l) st o ↔ ji_Ev C 73 1 M (some (.ref a) :: l) (.ref a :: st) o := ev_go (S := (1, M, (some (.ref a) :: l), (.ref a :: st))) rfl rfl rfl
theorem s73_1 : ji_Ev C 73 1 M lv (.ref a :: st) o ↔ ji_kd M a = some (0, 8) ∧ ji_Ev C 73 4 M lv (ji_rv (ji_gR M a 1) :: st) o := ev_getR (k := 73) rfl fd_8_19 rfl
theorem s73_4 : ji_Ev C 73 4 M (some (.ref a) :: l) st o ↔ ji_Ev C 73 5 M (some (.ref a) :: l) (.ref a :: st) o := ev_go (S := (5, M, (some (.ref a) :: l), (.ref a :: st))) rfl rfl rfl
theorem s73_5 : ji_Ev C 73 5 M lv (.ref a :: st) o ↔ ji_kd M a = some (0, 8) ∧ ji_Ev C 73 8 M lv (ji_rv (ji_gR M a 0) :: st) o := ev_getR (k := 73) rfl fd_8_10 rfl
theorem s73_8 : ji_Ev C 73 8 M (l0 :: some (.int x) :: l) st o ↔ ji_Ev C 73 9 M (l0 :: some (.int x) :: l) (.int x :: st) o := ev_go (S := (9, M, (l0 :: some (.int x) :: l), (.int x :: st))) rfl rfl rfl
theorem s73_9 : ji_Ev C 73 9 M lv st o ↔ ji_Ev C 73 10 M lv (.int 1 :: st) o := ev_go (S := (10, M, lv, (.int 1 :: st))) rfl rfl rfl
theorem s73_10 : ji_Ev C 73 10 M lv (p2 :: p1 :: p0 :: .ref a :: st) o ↔ (ji_rcb M 3 (.ref a) = true ∧ ji_ok8 st) ∧ ji_evC (C 74 [.ref a, p0, p1, p2] M) (fun v M' => ji_Ev C 73 13 M' lv (v.toList ++ st) o) := ev_inv (k := 73) rfl cd_8_191 rfl
theorem s73_13 : ji_Ev C 73 13 M lv (.int x :: st) o ↔ if x = 0 then ji_Ev C 73 58 M lv st o else ji_Ev C 73 16 M lv st o := ev_brz (c := .eq) rfl (by decide) rfl
theorem s73_16 : ji_Ev C 73 16 M (some (.ref a) :: l) st o ↔ ji_Ev C 73 17 M (some (.ref a) :: l) (.ref a :: st) o := ev_go (S := (17, M, (some (.ref a) :: l), (.ref a :: st))) rfl rfl rfl
theorem s73_17 : ji_Ev C 73 17 M (some (.ref a) :: l) st o ↔ ji_Ev C 73 18 M (some (.ref a) :: l) (.ref a :: st) o := ev_go (S := (18, M, (some (.ref a) :: l), (.ref a :: st))) rfl rfl rfl
theorem s73_18 : ji_Ev C 73 18 M lv (.ref a :: st) o ↔ ji_kd M a = some (0, 8) ∧ ji_Ev C 73 21 M lv (ji_rv (ji_gR M a 0) :: st) o := ev_getR (k := 73) rfl fd_8_10 rfl
theorem s73_21 : ji_Ev C 73 21 M lv (.ref a :: st) o ↔ ji_kd M a = some (0, 5) ∧ ji_Ev C 73 24 M lv (ji_rv (ji_gR M a 0) :: st) o := ev_getR (k := 73) rfl fd_8_111 rfl
theorem s73_24 : ji_Ev C 73 24 M (l0 :: some (.int x) :: l) st o ↔ ji_Ev C 73 25 M (l0 :: some (.int x) :: l) (.int x :: st) o := ev_go (S := (25, M, (l0 :: some (.int x) :: l), (.int x :: st))) rfl rfl rfl
theorem s73_25 : ji_Ev C 73 25 M lv st o ↔ ji_Ev C 73 26 M lv (.int 2 :: st) o := ev_go (S := (26, M, lv, (.int 2 :: st))) rfl rfl rfl
theorem s73_26 : ji_Ev C 73 26 M lv (p1 :: p0 :: .ref a :: st) o ↔ (ji_rcb M 2 (.ref a) = true ∧ ji_ok8 st) ∧ ji_evC (C 49 [.ref a, p0, p1] M) (fun v M' => ji_Ev C 73 29 M' lv (v.toList ++ st) o) := ev_inv (k := 73) rfl cd_8_140 rfl
theorem s73_29 : ji_Ev C 73 29 M (some (.ref a) :: l) st o ↔ ji_Ev C 73 30 M (some (.ref a) :: l) (.ref a :: st) o := ev_go (S := (30, M, (some (.ref a) :: l), (.ref a :: st))) rfl rfl rfl
theorem s73_30 : ji_Ev C 73 30 M lv (.ref a :: st) o ↔ ji_kd M a = some (0, 8) ∧ ji_Ev C 73 33 M lv (ji_rv (ji_gR M a 0) :: st) o := ev_getR (k := 73) rfl fd_8_10 rfl
theorem s73_33 : ji_Ev C 73 33 M lv (.ref a :: st) o ↔ ji_kd M a = some (0, 5) ∧ ji_Ev C 73 36 M lv (ji_rv (ji_gR M a 0) :: st) o := ev_getR (k := 73) rfl fd_8_111 rfl
theorem s73_36 : ji_Ev C 73 36 M (l0 :: some (.int x) :: l) st o ↔ ji_Ev C 73 37 M (l0 :: some (.int x) :: l) (.int x :: st) o := ev_go (S := (37, M, (l0 :: some (.int x) :: l), (.int x :: st))) rfl rfl rfl
theorem s73_37 : ji_Ev C 73 37 M lv st o ↔ ji_Ev C 73 38 M lv (.int 1 :: st) o := ev_go (S := (38, M, lv, (.int 1 :: st))) rfl rfl rfl
theorem s73_38 : ji_Ev C 73 38 M lv (p1 :: p0 :: .ref a :: st) o ↔ (ji_rcb M 2 (.ref a) = true ∧ ji_ok8 st) ∧ ji_evC (C 49 [.ref a, p0, p1] M) (fun v M' => ji_Ev C 73 41 M' lv (v.toList ++ st) o) := ev_inv (k := 73) rfl cd_8_140 rfl
theorem s73_41 : ji_Ev C 73 41 M (some (.ref a) :: l) st o ↔ ji_Ev C 73 42 M (some (.ref a) :: l) (.ref a :: st) o := ev_go (S := (42, M, (some (.ref a) :: l), (.ref a :: st))) rfl rfl rfl
theorem s73_42 : ji_Ev C 73 42 M lv (.ref a :: st) o ↔ ji_kd M a = some (0, 8) ∧ ji_Ev C 73 45 M lv (ji_rv (ji_gR M a 0) :: st) o := ev_getR (k := 73) rfl fd_8_10 rfl
theorem s73_45 : ji_Ev C 73 45 M lv (.ref a :: st) o ↔ ji_kd M a = some (0, 5) ∧ ji_Ev C 73 48 M lv (.int (ji_gI M a 1) :: st) o := ev_getI (k := 73) rfl fd_8_99 rfl
theorem s73_48 : ji_Ev C 73 48 M lv (p2 :: p1 :: p0 :: .ref a :: st) o ↔ (ji_rcb M 8 (.ref a) = true ∧ ji_ok8 st) ∧ ji_evC (C 80 [.ref a, p0, p1, p2] M) (fun v M' => ji_Ev C 73 51 M' lv (v.toList ++ st) o) := ev_inv (k := 73) rfl cd_8_199 rfl
theorem s73_51 : ji_Ev C 73 51 M lv (.int x :: st) o ↔ if x = 0 then ji_Ev C 73 54 M lv st o else ji_Ev C 73 58 M lv st o := ev_brz (c := .ne) rfl (by decide) rfl
theorem s73_54 : ji_Ev C 73 54 M lv st o ↔ ji_Ev C 73 55 M lv (.int 1 :: st) o := ev_go (S := (55, M, lv, (.int 1 :: st))) rfl rfl rfl
theorem s73_55 : ji_Ev C 73 55 M lv st o ↔ ji_Ev C 73 59 M lv st o := ev_gt rfl (by decide) rfl
theorem s73_58 : ji_Ev C 73 58 M lv st o ↔ ji_Ev C 73 59 M lv (.int 0 :: st) o := ev_go (S := (59, M, lv, (.int 0 :: st))) rfl rfl rfl
theorem s73_59 : ji_Ev C 73 59 M lv [.int x] o ↔ narrow .boolean (.int x) = .int x ∧ o = (some (.int x), M) := ev_iretb rfl rfl
theorem s74_0 : ji_Ev C 74 0 M (some (.ref a) :: l) st o ↔ ji_Ev C 74 1 M (some (.ref a) :: l) (.ref a :: st) o := ev_go (S := (1, M, (some (.ref a) :: l), (.ref a :: st))) rfl rfl rfl
theorem s74_1 : ji_Ev C 74 1 M (some (.ref a) :: l) st o ↔ ji_Ev C 74 2 M (some (.ref a) :: l) (.ref a :: st) o := ev_go (S := (2, M, (some (.ref a) :: l), (.ref a :: st))) rfl rfl rfl
theorem s74_2 : ji_Ev C 74 2 M lv (.ref a :: st) o ↔ ji_kd M a = some (0, 3) ∧ ji_Ev C 74 5 M lv (.int (ji_gI M a 7) :: st) o := ev_getI (k := 74) rfl fd_3_57 rfl
theorem s74_5 : ji_Ev C 74 5 M lv (p0 :: .ref a :: st) o ↔ (ji_rcb M 3 (.ref a) = true ∧ ji_ok8 st) ∧ ji_evC (C 75 [.ref a, p0] M) (fun v M' => ji_Ev C 74 8 M' lv (v.toList ++ st) o) := ev_inv (k := 74) rfl cd_3_60 rfl
theorem s74_8 : ji_Ev C 74 8 M lv (.int x :: st) o ↔ if x = 0 then ji_Ev C 74 20 M lv st o else ji_Ev C 74 11 M lv st o := ev_brz (c := .eq) rfl (by decide) rfl
theorem s74_11 : ji_Ev C 74 11 M (l0 :: l1 :: l2 :: some (.int x) :: l) st o ↔ ji_Ev C 74 12 M (l0 :: l1 :: l2 :: some (.int x) :: l) (.int x :: st) o := ev_go (S := (12, M, (l0 :: l1 :: l2 :: some (.int x) :: l), (.int x :: st))) rfl rfl rfl
theorem s74_12 : ji_Ev C 74 12 M lv st o ↔ ji_Ev C 74 13 M lv (.int 0 :: st) o := ev_go (S := (13, M, lv, (.int 0 :: st))) rfl rfl rfl
theorem s74_13 : ji_Ev C 74 13 M lv st o ↔ ji_Ev C 74 14 M lv (.int 2 :: st) o := ev_go (S := (14, M, lv, (.int 2 :: st))) rfl rfl rfl
theorem s74_14 : ji_Ev C 74 14 M lv (p2 :: p1 :: p0 :: st) o ↔ ji_ok8 st ∧ ji_evC (C 43 [p0, p1, p2] M) (fun v M' => ji_Ev C 74 17 M' lv (v.toList ++ st) o) := ev_sta (k := 74) (a := [p2, p1, p0]) rfl (Or.inr cd_3_64) rfl
theorem s74_17 : ji_Ev C 74 17 M lv (.int x :: st) o ↔ if x = 0 then ji_Ev C 74 20 M lv st o else ji_Ev C 74 22 M lv st o := ev_brz (c := .ne) rfl (by decide) rfl
theorem s74_20 : ji_Ev C 74 20 M lv st o ↔ ji_Ev C 74 21 M lv (.int 0 :: st) o := ev_go (S := (21, M, lv, (.int 0 :: st))) rfl rfl rfl
theorem s74_21 : ji_Ev C 74 21 M lv [.int x] o ↔ o = (some (.int x), M) := ev_ireti rfl rfl
theorem s74_22 : ji_Ev C 74 22 M (some (.ref a) :: l) st o ↔ ji_Ev C 74 23 M (some (.ref a) :: l) (.ref a :: st) o := ev_go (S := (23, M, (some (.ref a) :: l), (.ref a :: st))) rfl rfl rfl
theorem s74_23 : ji_Ev C 74 23 M lv (.ref a :: st) o ↔ ji_kd M a = some (0, 3) ∧ ji_Ev C 74 26 M lv (ji_rv (ji_gR M a 1) :: st) o := ev_getR (k := 74) rfl fd_3_20 rfl
theorem s74_26 : ji_Ev C 74 26 M (some (.ref a) :: l) st o ↔ ji_Ev C 74 27 M (some (.ref a) :: l) (.ref a :: st) o := ev_go (S := (27, M, (some (.ref a) :: l), (.ref a :: st))) rfl rfl rfl
theorem s74_27 : ji_Ev C 74 27 M lv (.ref a :: st) o ↔ ji_kd M a = some (0, 3) ∧ ji_Ev C 74 30 M lv (.int (ji_gI M a 7) :: st) o := ev_getI (k := 74) rfl fd_3_57 rfl
theorem s74_30 : ji_Ev C 74 30 M lv (.int x :: .ref a :: st) o ↔ ji_evQ (ji_kd M a) (fun n => vp_in x n ∧ ji_Ev C 74 31 M lv (ji_rv (ji_gR M a x.toNatClampNeg) :: st) o) := ev_aald rfl
theorem s74_31 : ji_Ev C 74 31 M lv (.ref a :: st) o ↔ 4 < lv.length ∧ ji_Ev C 74 33 M (ji_s1 lv 4 (.ref a)) st o := ev_stA rfl rfl rfl
theorem s74_33 : ji_Ev C 74 33 M (l0 :: l1 :: l2 :: l3 :: some (.ref a) :: l) st o ↔ ji_Ev C 74 35 M (l0 :: l1 :: l2 :: l3 :: some (.ref a) :: l) (.ref a :: st) o := ev_go (S := (35, M, (l0 :: l1 :: l2 :: l3 :: some (.ref a) :: l), (.ref a :: st))) rfl rfl rfl
theorem s74_35 : ji_Ev C 74 35 M lv (.ref a :: st) o ↔ ji_evN (ji_kd M a) (fun n => ji_Ev C 74 36 M lv (.int (Int32.ofNat n) :: st) o) := ev_alen rfl
theorem s74_36 : ji_Ev C 74 36 M (some (.ref a) :: l) st o ↔ ji_Ev C 74 37 M (some (.ref a) :: l) (.ref a :: st) o := ev_go (S := (37, M, (some (.ref a) :: l), (.ref a :: st))) rfl rfl rfl
theorem s74_37 : ji_Ev C 74 37 M lv (.ref a :: st) o ↔ ji_kd M a = some (0, 3) ∧ ji_Ev C 74 40 M lv (ji_rv (ji_gR M a 2) :: st) o := ev_getR (k := 74) rfl fd_3_23 rfl
theorem s74_40 : ji_Ev C 74 40 M (some (.ref a) :: l) st o ↔ ji_Ev C 74 41 M (some (.ref a) :: l) (.ref a :: st) o := ev_go (S := (41, M, (some (.ref a) :: l), (.ref a :: st))) rfl rfl rfl
theorem s74_41 : ji_Ev C 74 41 M lv (.ref a :: st) o ↔ ji_kd M a = some (0, 3) ∧ ji_Ev C 74 44 M lv (.int (ji_gI M a 7) :: st) o := ev_getI (k := 74) rfl fd_3_57 rfl
theorem s74_44 : ji_Ev C 74 44 M lv (.int x :: .ref a :: st) o ↔ ji_evQ (ji_kd M a) (fun n => vp_in x n ∧ ji_Ev C 74 45 M lv (ji_rv (ji_gR M a x.toNatClampNeg) :: st) o) := ev_aald rfl
theorem s74_45 : ji_Ev C 74 45 M (l0 :: l1 :: l2 :: some (.int x) :: l) st o ↔ ji_Ev C 74 46 M (l0 :: l1 :: l2 :: some (.int x) :: l) (.int x :: st) o := ev_go (S := (46, M, (l0 :: l1 :: l2 :: some (.int x) :: l), (.int x :: st))) rfl rfl rfl
theorem s74_46 : ji_Ev C 74 46 M lv (.int x :: .ref a :: st) o ↔ ji_evA (ji_kd M a) (fun n => vp_in x n ∧ ji_Ev C 74 47 M lv (.int (ji_gI M a x.toNatClampNeg) :: st) o) := ev_iald rfl
theorem s74_47 : ji_Ev C 74 47 M lv (.int y :: .int x :: st) o ↔ ji_ok8 st ∧ ji_Ev C 74 50 M lv (.int (if y < x then y else x) :: st) o := ev_min (k := 74) rfl cd_3_68
theorem s74_50 : ji_Ev C 74 50 M lv (.int x :: st) o ↔ 5 < lv.length ∧ ji_Ev C 74 52 M (ji_s1 lv 5 (.int x)) st o := ev_stI rfl rfl rfl
theorem s74_52 : ji_Ev C 74 52 M (some (.ref a) :: l) st o ↔ ji_Ev C 74 53 M (some (.ref a) :: l) (.ref a :: st) o := ev_go (S := (53, M, (some (.ref a) :: l), (.ref a :: st))) rfl rfl rfl
theorem s74_53 : ji_Ev C 74 53 M lv st o ↔ ji_Ev C 74 54 M lv (.int 0 :: st) o := ev_go (S := (54, M, lv, (.int 0 :: st))) rfl rfl rfl
theorem s74_54 : ji_Ev C 74 54 M lv (.int x :: .ref a :: st) o ↔ ji_kd M a = some (0, 3) ∧ ji_Ev C 74 57 (ji_sI M a 5 x) lv st o := ev_putI (k := 74) rfl fd_3_74 rfl (by decide)
theorem s74_57 : ji_Ev C 74 57 M (l0 :: l1 :: l2 :: some (.int x) :: l) st o ↔ ji_Ev C 74 58 M (l0 :: l1 :: l2 :: some (.int x) :: l) (.int x :: st) o := ev_go (S := (58, M, (l0 :: l1 :: l2 :: some (.int x) :: l), (.int x :: st))) rfl rfl rfl
theorem s74_58 : ji_Ev C 74 58 M lv (.int x :: st) o ↔ if x = 0 then ji_Ev C 74 61 M lv st o else ji_Ev C 74 65 M lv st o := ev_brz (c := .ne) rfl (by decide) rfl
theorem s74_61 : ji_Ev C 74 61 M lv st o ↔ ji_Ev C 74 62 M lv (.int 0 :: st) o := ev_go (S := (62, M, lv, (.int 0 :: st))) rfl rfl rfl
theorem s74_62 : ji_Ev C 74 62 M lv st o ↔ ji_Ev C 74 82 M lv st o := ev_gt rfl (by decide) rfl
theorem s74_65 : ji_Ev C 74 65 M lv st o ↔ ji_Ev C 74 66 M lv (.int 0 :: st) o := ev_go (S := (66, M, lv, (.int 0 :: st))) rfl rfl rfl
theorem s74_66 : ji_Ev C 74 66 M (some (.ref a) :: l) st o ↔ ji_Ev C 74 67 M (some (.ref a) :: l) (.ref a :: st) o := ev_go (S := (67, M, (some (.ref a) :: l), (.ref a :: st))) rfl rfl rfl
theorem s74_67 : ji_Ev C 74 67 M lv (.ref a :: st) o ↔ ji_kd M a = some (0, 3) ∧ ji_Ev C 74 70 M lv (ji_rv (ji_gR M a 2) :: st) o := ev_getR (k := 74) rfl fd_3_23 rfl
theorem s74_70 : ji_Ev C 74 70 M (some (.ref a) :: l) st o ↔ ji_Ev C 74 71 M (some (.ref a) :: l) (.ref a :: st) o := ev_go (S := (71, M, (some (.ref a) :: l), (.ref a :: st))) rfl rfl rfl
theorem s74_71 : ji_Ev C 74 71 M lv (.ref a :: st) o ↔ ji_kd M a = some (0, 3) ∧ ji_Ev C 74 74 M lv (.int (ji_gI M a 7) :: st) o := ev_getI (k := 74) rfl fd_3_57 rfl
theorem s74_74 : ji_Ev C 74 74 M lv (.int x :: .ref a :: st) o ↔ ji_evQ (ji_kd M a) (fun n => vp_in x n ∧ ji_Ev C 74 75 M lv (ji_rv (ji_gR M a x.toNatClampNeg) :: st) o) := ev_aald rfl
theorem s74_75 : ji_Ev C 74 75 M (l0 :: l1 :: l2 :: some (.int x) :: l) st o ↔ ji_Ev C 74 76 M (l0 :: l1 :: l2 :: some (.int x) :: l) (.int x :: st) o := ev_go (S := (76, M, (l0 :: l1 :: l2 :: some (.int x) :: l), (.int x :: st))) rfl rfl rfl
theorem s74_76 : ji_Ev C 74 76 M lv st o ↔ ji_Ev C 74 77 M lv (.int 1 :: st) o := ev_go (S := (77, M, lv, (.int 1 :: st))) rfl rfl rfl
theorem s74_77 : ji_Ev C 74 77 M lv (.int y :: .int x :: st) o ↔ ji_Ev C 74 78 M lv (.int (x - y) :: st) o := ev_go (S := (78, M, lv, (.int (x - y) :: st))) rfl rfl rfl
theorem s74_78 : ji_Ev C 74 78 M lv (.int x :: .ref a :: st) o ↔ ji_evA (ji_kd M a) (fun n => vp_in x n ∧ ji_Ev C 74 79 M lv (.int (ji_gI M a x.toNatClampNeg) :: st) o) := ev_iald rfl
theorem s74_79 : ji_Ev C 74 79 M lv (.int y :: .int x :: st) o ↔ ji_ok8 st ∧ ji_Ev C 74 82 M lv (.int (if x < y then y else x) :: st) o := ev_max (k := 74) rfl cd_3_77
theorem s74_82 : ji_Ev C 74 82 M lv (.int x :: st) o ↔ 6 < lv.length ∧ ji_Ev C 74 84 M (ji_s1 lv 6 (.int x)) st o := ev_stI rfl rfl rfl
theorem s74_84 : ji_Ev C 74 84 M (l0 :: l1 :: l2 :: l3 :: l4 :: l5 :: some (.int x) :: l) st o ↔ ji_Ev C 74 86 M (l0 :: l1 :: l2 :: l3 :: l4 :: l5 :: some (.int x) :: l) (.int x :: st) o := ev_go (S := (86, M, (l0 :: l1 :: l2 :: l3 :: l4 :: l5 :: some (.int x) :: l), (.int x :: st))) rfl rfl rfl
theorem s74_86 : ji_Ev C 74 86 M (l0 :: l1 :: l2 :: l3 :: l4 :: some (.int x) :: l) st o ↔ ji_Ev C 74 88 M (l0 :: l1 :: l2 :: l3 :: l4 :: some (.int x) :: l) (.int x :: st) o := ev_go (S := (88, M, (l0 :: l1 :: l2 :: l3 :: l4 :: some (.int x) :: l), (.int x :: st))) rfl rfl rfl
theorem s74_88 : ji_Ev C 74 88 M lv (.int y :: .int x :: st) o ↔ if x < y then ji_Ev C 74 91 M lv st o else ji_Ev C 74 207 M lv st o := ev_brc (c := .ge) rfl (by decide) rfl
theorem s74_91 : ji_Ev C 74 91 M (l0 :: l1 :: l2 :: l3 :: some (.ref a) :: l) st o ↔ ji_Ev C 74 93 M (l0 :: l1 :: l2 :: l3 :: some (.ref a) :: l) (.ref a :: st) o := ev_go (S := (93, M, (l0 :: l1 :: l2 :: l3 :: some (.ref a) :: l), (.ref a :: st))) rfl rfl rfl
theorem s74_93 : ji_Ev C 74 93 M (l0 :: l1 :: l2 :: l3 :: l4 :: l5 :: some (.int x) :: l) st o ↔ ji_Ev C 74 95 M (l0 :: l1 :: l2 :: l3 :: l4 :: l5 :: some (.int x) :: l) (.int x :: st) o := ev_go (S := (95, M, (l0 :: l1 :: l2 :: l3 :: l4 :: l5 :: some (.int x) :: l), (.int x :: st))) rfl rfl rfl
theorem s74_95 : ji_Ev C 74 95 M lv (.int x :: .ref a :: st) o ↔ ji_evA (ji_kd M a) (fun n => vp_in x n ∧ ji_Ev C 74 96 M lv (.int (ji_gI M a x.toNatClampNeg) :: st) o) := ev_iald rfl
theorem s74_96 : ji_Ev C 74 96 M lv (.int x :: st) o ↔ 7 < lv.length ∧ ji_Ev C 74 98 M (ji_s1 lv 7 (.int x)) st o := ev_stI rfl rfl rfl
theorem s74_98 : ji_Ev C 74 98 M (l0 :: l1 :: l2 :: l3 :: l4 :: l5 :: l6 :: some (.int x) :: l) st o ↔ ji_Ev C 74 100 M (l0 :: l1 :: l2 :: l3 :: l4 :: l5 :: l6 :: some (.int x) :: l) (.int x :: st) o := ev_go (S := (100, M, (l0 :: l1 :: l2 :: l3 :: l4 :: l5 :: l6 :: some (.int x) :: l), (.int x :: st))) rfl rfl rfl
theorem s74_100 : ji_Ev C 74 100 M lv (.int x :: st) o ↔ if x < 0 then ji_Ev C 74 112 M lv st o else ji_Ev C 74 103 M lv st o := ev_brz (c := .lt) rfl (by decide) rfl
theorem s74_103 : ji_Ev C 74 103 M (some (.ref a) :: l) st o ↔ ji_Ev C 74 104 M (some (.ref a) :: l) (.ref a :: st) o := ev_go (S := (104, M, (some (.ref a) :: l), (.ref a :: st))) rfl rfl rfl
theorem s74_104 : ji_Ev C 74 104 M (l0 :: l1 :: l2 :: l3 :: l4 :: l5 :: l6 :: some (.int x) :: l) st o ↔ ji_Ev C 74 106 M (l0 :: l1 :: l2 :: l3 :: l4 :: l5 :: l6 :: some (.int x) :: l) (.int x :: st) o := ev_go (S := (106, M, (l0 :: l1 :: l2 :: l3 :: l4 :: l5 :: l6 :: some (.int x) :: l), (.int x :: st))) rfl rfl rfl
theorem s74_106 : ji_Ev C 74 106 M lv (p0 :: .ref a :: st) o ↔ (ji_rcb M 3 (.ref a) = true ∧ ji_ok8 st) ∧ ji_evC (C 76 [.ref a, p0] M) (fun v M' => ji_Ev C 74 109 M' lv (v.toList ++ st) o) := ev_inv (k := 74) rfl cd_3_80 rfl
theorem s74_109 : ji_Ev C 74 109 M lv st o ↔ ji_Ev C 74 201 M lv st o := ev_gt rfl (by decide) rfl
theorem s74_112 : ji_Ev C 74 112 M (l0 :: l1 :: l2 :: l3 :: l4 :: l5 :: l6 :: some (.int x) :: l) st o ↔ ji_Ev C 74 114 M (l0 :: l1 :: l2 :: l3 :: l4 :: l5 :: l6 :: some (.int x) :: l) (.int x :: st) o := ev_go (S := (114, M, (l0 :: l1 :: l2 :: l3 :: l4 :: l5 :: l6 :: some (.int x) :: l), (.int x :: st))) rfl rfl rfl
theorem s74_114 : ji_Ev C 74 114 M lv st o ↔ ji_Ev C 74 116 M lv (.int (-11) :: st) o := ev_go (S := (116, M, lv, (.int (-11) :: st))) rfl rfl rfl
theorem s74_116 : ji_Ev C 74 116 M lv (.int y :: .int x :: st) o ↔ if y < x then ji_Ev C 74 119 M lv st o else ji_Ev C 74 135 M lv st o := ev_brc (c := .le) rfl (by decide) rfl
theorem s74_119 : ji_Ev C 74 119 M (some (.ref a) :: l) st o ↔ ji_Ev C 74 120 M (some (.ref a) :: l) (.ref a :: st) o := ev_go (S := (120, M, (some (.ref a) :: l), (.ref a :: st))) rfl rfl rfl
theorem s74_120 : ji_Ev C 74 120 M (l0 :: some (.ref a) :: l) st o ↔ ji_Ev C 74 121 M (l0 :: some (.ref a) :: l) (.ref a :: st) o := ev_go (S := (121, M, (l0 :: some (.ref a) :: l), (.ref a :: st))) rfl rfl rfl
theorem s74_121 : ji_Ev C 74 121 M (l0 :: l1 :: some (.int x) :: l) st o ↔ ji_Ev C 74 122 M (l0 :: l1 :: some (.int x) :: l) (.int x :: st) o := ev_go (S := (122, M, (l0 :: l1 :: some (.int x) :: l), (.int x :: st))) rfl rfl rfl
theorem s74_122 : ji_Ev C 74 122 M lv st o ↔ ji_Ev C 74 123 M lv (.int (-1) :: st) o := ev_go (S := (123, M, lv, (.int (-1) :: st))) rfl rfl rfl
theorem s74_123 : ji_Ev C 74 123 M (l0 :: l1 :: l2 :: l3 :: l4 :: l5 :: l6 :: some (.int x) :: l) st o ↔ ji_Ev C 74 125 M (l0 :: l1 :: l2 :: l3 :: l4 :: l5 :: l6 :: some (.int x) :: l) (.int x :: st) o := ev_go (S := (125, M, (l0 :: l1 :: l2 :: l3 :: l4 :: l5 :: l6 :: some (.int x) :: l), (.int x :: st))) rfl rfl rfl
theorem s74_125 : ji_Ev C 74 125 M lv (.int y :: .int x :: st) o ↔ ji_Ev C 74 126 M lv (.int (x - y) :: st) o := ev_go (S := (126, M, lv, (.int (x - y) :: st))) rfl rfl rfl
theorem s74_126 : ji_Ev C 74 126 M lv (p1 :: p0 :: .ref a :: st) o ↔ (ji_rcb M 5 (.ref a) = true ∧ ji_ok8 st) ∧ ji_evC (C 77 [.ref a, p0, p1] M) (fun v M' => ji_Ev C 74 129 M' lv (v.toList ++ st) o) := ev_inv (k := 74) rfl cd_3_83 rfl
theorem s74_129 : ji_Ev C 74 129 M lv (p0 :: .ref a :: st) o ↔ (ji_rcb M 3 (.ref a) = true ∧ ji_ok8 st) ∧ ji_evC (C 76 [.ref a, p0] M) (fun v M' => ji_Ev C 74 132 M' lv (v.toList ++ st) o) := ev_inv (k := 74) rfl cd_3_80 rfl
theorem s74_132 : ji_Ev C 74 132 M lv st o ↔ ji_Ev C 74 201 M lv st o := ev_gt rfl (by decide) rfl
theorem s74_135 : ji_Ev C 74 135 M (l0 :: l1 :: l2 :: l3 :: l4 :: l5 :: l6 :: some (.int x) :: l) st o ↔ ji_Ev C 74 137 M (l0 :: l1 :: l2 :: l3 :: l4 :: l5 :: l6 :: some (.int x) :: l) (.int x :: st) o := ev_go (S := (137, M, (l0 :: l1 :: l2 :: l3 :: l4 :: l5 :: l6 :: some (.int x) :: l), (.int x :: st))) rfl rfl rfl
theorem s74_137 : ji_Ev C 74 137 M lv st o ↔ ji_Ev C 74 139 M lv (.int (-13) :: st) o := ev_go (S := (139, M, lv, (.int (-13) :: st))) rfl rfl rfl
theorem s74_139 : ji_Ev C 74 139 M lv (.int y :: .int x :: st) o ↔ if x = y then ji_Ev C 74 142 M lv st o else ji_Ev C 74 161 M lv st o := ev_brc (c := .ne) rfl (by decide) rfl
theorem s74_142 : ji_Ev C 74 142 M (some (.ref a) :: l) st o ↔ ji_Ev C 74 143 M (some (.ref a) :: l) (.ref a :: st) o := ev_go (S := (143, M, (some (.ref a) :: l), (.ref a :: st))) rfl rfl rfl
theorem s74_143 : ji_Ev C 74 143 M (some (.ref a) :: l) st o ↔ ji_Ev C 74 144 M (some (.ref a) :: l) (.ref a :: st) o := ev_go (S := (144, M, (some (.ref a) :: l), (.ref a :: st))) rfl rfl rfl
theorem s74_144 : ji_Ev C 74 144 M lv (.ref a :: st) o ↔ (ji_rcb M 3 (.ref a) = true ∧ ji_ok8 st) ∧ ji_evC (C 78 [.ref a] M) (fun v M' => ji_Ev C 74 147 M' lv (v.toList ++ st) o) := ev_inv (k := 74) rfl cd_3_88 rfl
theorem s74_147 : ji_Ev C 74 147 M lv (.int x :: st) o ↔ if x = 0 then ji_Ev C 74 150 M lv st o else ji_Ev C 74 154 M lv st o := ev_brz (c := .ne) rfl (by decide) rfl
theorem s74_150 : ji_Ev C 74 150 M lv st o ↔ ji_Ev C 74 151 M lv (.int 1 :: st) o := ev_go (S := (151, M, lv, (.int 1 :: st))) rfl rfl rfl
theorem s74_151 : ji_Ev C 74 151 M lv st o ↔ ji_Ev C 74 155 M lv st o := ev_gt rfl (by decide) rfl
theorem s74_154 : ji_Ev C 74 154 M lv st o ↔ ji_Ev C 74 155 M lv (.int 0 :: st) o := ev_go (S := (155, M, lv, (.int 0 :: st))) rfl rfl rfl
theorem s74_155 : ji_Ev C 74 155 M lv (p0 :: .ref a :: st) o ↔ (ji_rcb M 3 (.ref a) = true ∧ ji_ok8 st) ∧ ji_evC (C 76 [.ref a, p0] M) (fun v M' => ji_Ev C 74 158 M' lv (v.toList ++ st) o) := ev_inv (k := 74) rfl cd_3_80 rfl
theorem s74_158 : ji_Ev C 74 158 M lv st o ↔ ji_Ev C 74 201 M lv st o := ev_gt rfl (by decide) rfl
theorem s74_161 : ji_Ev C 74 161 M (l0 :: l1 :: l2 :: l3 :: l4 :: l5 :: l6 :: some (.int x) :: l) st o ↔ ji_Ev C 74 163 M (l0 :: l1 :: l2 :: l3 :: l4 :: l5 :: l6 :: some (.int x) :: l) (.int x :: st) o := ev_go (S := (163, M, (l0 :: l1 :: l2 :: l3 :: l4 :: l5 :: l6 :: some (.int x) :: l), (.int x :: st))) rfl rfl rfl
theorem s74_163 : ji_Ev C 74 163 M lv st o ↔ ji_Ev C 74 165 M lv (.int (-14) :: st) o := ev_go (S := (165, M, lv, (.int (-14) :: st))) rfl rfl rfl
theorem s74_165 : ji_Ev C 74 165 M lv (.int y :: .int x :: st) o ↔ if x = y then ji_Ev C 74 168 M lv st o else ji_Ev C 74 180 M lv st o := ev_brc (c := .ne) rfl (by decide) rfl
theorem s74_168 : ji_Ev C 74 168 M (some (.ref a) :: l) st o ↔ ji_Ev C 74 169 M (some (.ref a) :: l) (.ref a :: st) o := ev_go (S := (169, M, (some (.ref a) :: l), (.ref a :: st))) rfl rfl rfl
theorem s74_169 : ji_Ev C 74 169 M (some (.ref a) :: l) st o ↔ ji_Ev C 74 170 M (some (.ref a) :: l) (.ref a :: st) o := ev_go (S := (170, M, (some (.ref a) :: l), (.ref a :: st))) rfl rfl rfl
theorem s74_170 : ji_Ev C 74 170 M lv (.ref a :: st) o ↔ (ji_rcb M 3 (.ref a) = true ∧ ji_ok8 st) ∧ ji_evC (C 78 [.ref a] M) (fun v M' => ji_Ev C 74 173 M' lv (v.toList ++ st) o) := ev_inv (k := 74) rfl cd_3_88 rfl
theorem s74_173 : ji_Ev C 74 173 M lv (.int x :: st) o ↔ ji_Ev C 74 174 M lv (.int (-x) :: st) o := ev_go (S := (174, M, lv, (.int (-x) :: st))) rfl rfl rfl
theorem s74_174 : ji_Ev C 74 174 M lv (p0 :: .ref a :: st) o ↔ (ji_rcb M 3 (.ref a) = true ∧ ji_ok8 st) ∧ ji_evC (C 76 [.ref a, p0] M) (fun v M' => ji_Ev C 74 177 M' lv (v.toList ++ st) o) := ev_inv (k := 74) rfl cd_3_80 rfl
theorem s74_177 : ji_Ev C 74 177 M lv st o ↔ ji_Ev C 74 201 M lv st o := ev_gt rfl (by decide) rfl
theorem s74_180 : ji_Ev C 74 180 M (some (.ref a) :: l) st o ↔ ji_Ev C 74 181 M (some (.ref a) :: l) (.ref a :: st) o := ev_go (S := (181, M, (some (.ref a) :: l), (.ref a :: st))) rfl rfl rfl
theorem s74_181 : ji_Ev C 74 181 M lv (.ref a :: st) o ↔ (ji_rcb M 3 (.ref a) = true ∧ ji_ok8 st) ∧ ji_evC (C 78 [.ref a] M) (fun v M' => ji_Ev C 74 184 M' lv (v.toList ++ st) o) := ev_inv (k := 74) rfl cd_3_88 rfl
theorem s74_184 : ji_Ev C 74 184 M lv (.int x :: st) o ↔ 8 < lv.length ∧ ji_Ev C 74 186 M (ji_s1 lv 8 (.int x)) st o := ev_stI rfl rfl rfl
theorem s74_186 : ji_Ev C 74 186 M (some (.ref a) :: l) st o ↔ ji_Ev C 74 187 M (some (.ref a) :: l) (.ref a :: st) o := ev_go (S := (187, M, (some (.ref a) :: l), (.ref a :: st))) rfl rfl rfl
theorem s74_187 : ji_Ev C 74 187 M (l0 :: l1 :: l2 :: l3 :: l4 :: l5 :: l6 :: some (.int x) :: l) st o ↔ ji_Ev C 74 189 M (l0 :: l1 :: l2 :: l3 :: l4 :: l5 :: l6 :: some (.int x) :: l) (.int x :: st) o := ev_go (S := (189, M, (l0 :: l1 :: l2 :: l3 :: l4 :: l5 :: l6 :: some (.int x) :: l), (.int x :: st))) rfl rfl rfl
theorem s74_189 : ji_Ev C 74 189 M (some (.ref a) :: l) st o ↔ ji_Ev C 74 190 M (some (.ref a) :: l) (.ref a :: st) o := ev_go (S := (190, M, (some (.ref a) :: l), (.ref a :: st))) rfl rfl rfl
theorem s74_190 : ji_Ev C 74 190 M lv (.ref a :: st) o ↔ (ji_rcb M 3 (.ref a) = true ∧ ji_ok8 st) ∧ ji_evC (C 78 [.ref a] M) (fun v M' => ji_Ev C 74 193 M' lv (v.toList ++ st) o) := ev_inv (k := 74) rfl cd_3_88 rfl
theorem s74_193 : ji_Ev C 74 193 M (l0 :: l1 :: l2 :: l3 :: l4 :: l5 :: l6 :: l7 :: some (.int x) :: l) st o ↔ ji_Ev C 74 195 M (l0 :: l1 :: l2 :: l3 :: l4 :: l5 :: l6 :: l7 :: some (.int x) :: l) (.int x :: st) o := ev_go (S := (195, M, (l0 :: l1 :: l2 :: l3 :: l4 :: l5 :: l6 :: l7 :: some (.int x) :: l), (.int x :: st))) rfl rfl rfl
theorem s74_195 : ji_Ev C 74 195 M lv (p2 :: p1 :: p0 :: st) o ↔ ji_ok8 st ∧ ji_evC (C 79 [p0, p1, p2] M) (fun v M' => ji_Ev C 74 198 M' lv (v.toList ++ st) o) := ev_sta (k := 74) (a := [p2, p1, p0]) rfl (Or.inl cd_3_91) rfl
theorem s74_198 : ji_Ev C 74 198 M lv (p0 :: .ref a :: st) o ↔ (ji_rcb M 3 (.ref a) = true ∧ ji_ok8 st) ∧ ji_evC (C 76 [.ref a, p0] M) (fun v M' => ji_Ev C 74 201 M' lv (v.toList ++ st) o) := ev_inv (k := 74) rfl cd_3_80 rfl
theorem s74_201 : ji_Ev C 74 201 M lv st o ↔ ji_evL (lv.getD 6 none) ji_isI (fun v => match v with | .int x => 6 < lv.length ∧ ji_Ev C 74 204 M (ji_s1 lv 6 (.int (x + Int32.ofInt 1))) st o | _ => False) := ev_iinc rfl
theorem s74_204 : ji_Ev C 74 204 M lv st o ↔ ji_Ev C 74 84 M lv st o := ev_gt rfl (by decide) rfl
theorem s74_207 : ji_Ev C 74 207 M (some (.ref a) :: l) st o ↔ ji_Ev C 74 208 M (some (.ref a) :: l) (.ref a :: st) o := ev_go (S := (208, M, (some (.ref a) :: l), (.ref a :: st))) rfl rfl rfl
theorem s74_208 : ji_Ev C 74 208 M lv (.ref a :: st) o ↔ (ji_rcb M 3 (.ref a) = true ∧ ji_ok8 st) ∧ ji_evC (C 78 [.ref a] M) (fun v M' => ji_Ev C 74 211 M' lv (v.toList ++ st) o) := ev_inv (k := 74) rfl cd_3_88 rfl
theorem s74_211 : ji_Ev C 74 211 M lv [.int x] o ↔ o = (some (.int x), M) := ev_ireti rfl rfl
theorem s75_0 : ji_Ev C 75 0 M (l0 :: some (.int x) :: l) st o ↔ ji_Ev C 75 1 M (l0 :: some (.int x) :: l) (.int x :: st) o := ev_go (S := (1, M, (l0 :: some (.int x) :: l), (.int x :: st))) rfl rfl rfl
theorem s75_1 : ji_Ev C 75 1 M lv (.int x :: st) o ↔ if x < 0 then ji_Ev C 75 16 M lv st o else ji_Ev C 75 4 M lv st o := ev_brz (c := .lt) rfl (by decide) rfl
theorem s75_4 : ji_Ev C 75 4 M (l0 :: some (.int x) :: l) st o ↔ ji_Ev C 75 5 M (l0 :: some (.int x) :: l) (.int x :: st) o := ev_go (S := (5, M, (l0 :: some (.int x) :: l), (.int x :: st))) rfl rfl rfl
theorem s75_5 : ji_Ev C 75 5 M (some (.ref a) :: l) st o ↔ ji_Ev C 75 6 M (some (.ref a) :: l) (.ref a :: st) o := ev_go (S := (6, M, (some (.ref a) :: l), (.ref a :: st))) rfl rfl rfl
theorem s75_6 : ji_Ev C 75 6 M lv (.ref a :: st) o ↔ ji_kd M a = some (0, 3) ∧ ji_Ev C 75 9 M lv (.int (ji_gI M a 6) :: st) o := ev_getI (k := 75) rfl fd_3_49 rfl
theorem s75_9 : ji_Ev C 75 9 M lv (.int y :: .int x :: st) o ↔ if x < y then ji_Ev C 75 12 M lv st o else ji_Ev C 75 16 M lv st o := ev_brc (c := .ge) rfl (by decide) rfl
theorem s75_12 : ji_Ev C 75 12 M lv st o ↔ ji_Ev C 75 13 M lv (.int 1 :: st) o := ev_go (S := (13, M, lv, (.int 1 :: st))) rfl rfl rfl
theorem s75_13 : ji_Ev C 75 13 M lv st o ↔ ji_Ev C 75 17 M lv st o := ev_gt rfl (by decide) rfl
theorem s75_16 : ji_Ev C 75 16 M lv st o ↔ ji_Ev C 75 17 M lv (.int 0 :: st) o := ev_go (S := (17, M, lv, (.int 0 :: st))) rfl rfl rfl
theorem s75_17 : ji_Ev C 75 17 M lv [.int x] o ↔ narrow .boolean (.int x) = .int x ∧ o = (some (.int x), M) := ev_iretb rfl rfl
theorem s76_0 : ji_Ev C 76 0 M (some (.ref a) :: l) st o ↔ ji_Ev C 76 1 M (some (.ref a) :: l) (.ref a :: st) o := ev_go (S := (1, M, (some (.ref a) :: l), (.ref a :: st))) rfl rfl rfl
theorem s76_1 : ji_Ev C 76 1 M lv (.ref a :: st) o ↔ ji_kd M a = some (0, 3) ∧ ji_Ev C 76 4 M lv (.int (ji_gI M a 5) :: st) o := ev_getI (k := 76) rfl fd_3_74 rfl
theorem s76_4 : ji_Ev C 76 4 M (some (.ref a) :: l) st o ↔ ji_Ev C 76 5 M (some (.ref a) :: l) (.ref a :: st) o := ev_go (S := (5, M, (some (.ref a) :: l), (.ref a :: st))) rfl rfl rfl
theorem s76_5 : ji_Ev C 76 5 M lv (.ref a :: st) o ↔ ji_kd M a = some (0, 3) ∧ ji_Ev C 76 8 M lv (ji_rv (ji_gR M a 3) :: st) o := ev_getR (k := 76) rfl fd_3_26 rfl
theorem s76_8 : ji_Ev C 76 8 M lv (.ref a :: st) o ↔ ji_evN (ji_kd M a) (fun n => ji_Ev C 76 9 M lv (.int (Int32.ofNat n) :: st) o) := ev_alen rfl
theorem s76_9 : ji_Ev C 76 9 M lv (.int y :: .int x :: st) o ↔ if x < y then ji_Ev C 76 12 M lv st o else ji_Ev C 76 32 M lv st o := ev_brc (c := .ge) rfl (by decide) rfl
theorem s76_12 : ji_Ev C 76 12 M (some (.ref a) :: l) st o ↔ ji_Ev C 76 13 M (some (.ref a) :: l) (.ref a :: st) o := ev_go (S := (13, M, (some (.ref a) :: l), (.ref a :: st))) rfl rfl rfl
theorem s76_13 : ji_Ev C 76 13 M lv (.ref a :: st) o ↔ ji_kd M a = some (0, 3) ∧ ji_Ev C 76 16 M lv (ji_rv (ji_gR M a 3) :: st) o := ev_getR (k := 76) rfl fd_3_26 rfl
theorem s76_16 : ji_Ev C 76 16 M (some (.ref a) :: l) st o ↔ ji_Ev C 76 17 M (some (.ref a) :: l) (.ref a :: st) o := ev_go (S := (17, M, (some (.ref a) :: l), (.ref a :: st))) rfl rfl rfl
theorem s76_17 : ji_Ev C 76 17 M lv (.ref a :: st) o ↔ ji_kd M a = some (0, 3) ∧ ji_Ev C 76 20 M lv (.int (ji_gI M a 5) :: st) o := ev_getI (k := 76) rfl fd_3_74 rfl
theorem s76_20 : ji_Ev C 76 20 M (l0 :: some (.int x) :: l) st o ↔ ji_Ev C 76 21 M (l0 :: some (.int x) :: l) (.int x :: st) o := ev_go (S := (21, M, (l0 :: some (.int x) :: l), (.int x :: st))) rfl rfl rfl
theorem s76_21 : ji_Ev C 76 21 M lv (.int y :: .int x :: .ref a :: st) o ↔ ji_evA (ji_kd M a) (fun n => vp_in x n ∧ ji_Ev C 76 22 (ji_sI M a x.toNatClampNeg y) lv st o) := ev_iast rfl
theorem s76_22 : ji_Ev C 76 22 M (some (.ref a) :: l) st o ↔ ji_Ev C 76 23 M (some (.ref a) :: l) (.ref a :: st) o := ev_go (S := (23, M, (some (.ref a) :: l), (.ref a :: st))) rfl rfl rfl
theorem s76_23 : ji_Ev C 76 23 M lv (.int x :: st) o ↔ ji_Ev C 76 24 M lv (.int x :: .int x :: st) o := ev_go (S := (24, M, lv, (.int x :: .int x :: st))) rfl rfl rfl
theorem s76_23r : ji_Ev C 76 23 M lv (.ref a :: st) o ↔ ji_Ev C 76 24 M lv (.ref a :: .ref a :: st) o := ev_go (S := (24, M, lv, (.ref a :: .ref a :: st))) rfl rfl rfl
theorem s76_24 : ji_Ev C 76 24 M lv (.ref a :: st) o ↔ ji_kd M a = some (0, 3) ∧ ji_Ev C 76 27 M lv (.int (ji_gI M a 5) :: st) o := ev_getI (k := 76) rfl fd_3_74 rfl
theorem s76_27 : ji_Ev C 76 27 M lv st o ↔ ji_Ev C 76 28 M lv (.int 1 :: st) o := ev_go (S := (28, M, lv, (.int 1 :: st))) rfl rfl rfl
theorem s76_28 : ji_Ev C 76 28 M lv (.int y :: .int x :: st) o ↔ ji_Ev C 76 29 M lv (.int (x + y) :: st) o := ev_go (S := (29, M, lv, (.int (x + y) :: st))) rfl rfl rfl
theorem s76_29 : ji_Ev C 76 29 M lv (.int x :: .ref a :: st) o ↔ ji_kd M a = some (0, 3) ∧ ji_Ev C 76 32 (ji_sI M a 5 x) lv st o := ev_putI (k := 76) rfl fd_3_74 rfl (by decide)
theorem s76_32 : ji_Ev C 76 32 M lv [] o ↔ o = (none, M) := ev_vret rfl rfl
theorem s77_0 : ji_Ev C 77 0 M (l0 :: l1 :: some (.int x) :: l) st o ↔ ji_Ev C 77 1 M (l0 :: l1 :: some (.int x) :: l) (.int x :: st) o := ev_go (S := (1, M, (l0 :: l1 :: some (.int x) :: l), (.int x :: st))) rfl rfl rfl
theorem s77_1 : ji_Ev C 77 1 M lv (.int x :: st) o ↔ if x = 0 then ji_Ev C 77 36 M lv st o else if x = 1 then ji_Ev C 77 46 M lv st o else if x = 2 then ji_Ev C 77 56 M lv st o else if x = 3 then ji_Ev C 77 66 M lv st o else if x = 4 then ji_Ev C 77 76 M lv st o else ji_Ev C 77 92 M lv st o := by
  refine (ev_swT rfl (by decide)).trans ?_
  show ji_Ev C 77 ((1 : Int) + (if x = 0 then 35 else if x = 1 then 45 else if x = 2 then 55 else if x = 3 then 65 else if x = 4 then 75 else 91)).toNat M lv st o ↔ _
  by_cases h0 : x = 0
  · rw [if_pos h0, if_pos h0]; exact Iff.rfl
  rw [if_neg h0, if_neg h0]
  by_cases h1 : x = 1
  · rw [if_pos h1, if_pos h1]; exact Iff.rfl
  rw [if_neg h1, if_neg h1]
  by_cases h2 : x = 2
  · rw [if_pos h2, if_pos h2]; exact Iff.rfl
  rw [if_neg h2, if_neg h2]
  by_cases h3 : x = 3
  · rw [if_pos h3, if_pos h3]; exact Iff.rfl
  rw [if_neg h3, if_neg h3]
  by_cases h4 : x = 4
  · rw [if_pos h4, if_pos h4]; exact Iff.rfl
  rw [if_neg h4, if_neg h4]
  exact Iff.rfl
theorem s77_36 : ji_Ev C 77 36 M (some (.ref a) :: l) st o ↔ ji_Ev C 77 37 M (some (.ref a) :: l) (.ref a :: st) o := ev_go (S := (37, M, (some (.ref a) :: l), (.ref a :: st))) rfl rfl rfl
theorem s77_37 : ji_Ev C 77 37 M lv (.ref a :: st) o ↔ ji_kd M a = some (0, 5) ∧ ji_Ev C 77 40 M lv (ji_rv (ji_gR M a 0) :: st) o := ev_getR (k := 77) rfl fd_5_14 rfl
theorem s77_40 : ji_Ev C 77 40 M (l0 :: some (.int x) :: l) st o ↔ ji_Ev C 77 41 M (l0 :: some (.int x) :: l) (.int x :: st) o := ev_go (S := (41, M, (l0 :: some (.int x) :: l), (.int x :: st))) rfl rfl rfl
theorem s77_41 : ji_Ev C 77 41 M lv st o ↔ ji_Ev C 77 42 M lv (.int 5 :: st) o := ev_go (S := (42, M, lv, (.int 5 :: st))) rfl rfl rfl
theorem s77_42 : ji_Ev C 77 42 M lv (p1 :: p0 :: .ref a :: st) o ↔ (ji_rcb M 2 (.ref a) = true ∧ ji_ok8 st) ∧ ji_evC (C 49 [.ref a, p0, p1] M) (fun v M' => ji_Ev C 77 45 M' lv (v.toList ++ st) o) := ev_inv (k := 77) rfl cd_5_53 rfl
theorem s77_45 : ji_Ev C 77 45 M lv [.int x] o ↔ o = (some (.int x), M) := ev_ireti rfl rfl
theorem s77_46 : ji_Ev C 77 46 M (some (.ref a) :: l) st o ↔ ji_Ev C 77 47 M (some (.ref a) :: l) (.ref a :: st) o := ev_go (S := (47, M, (some (.ref a) :: l), (.ref a :: st))) rfl rfl rfl
theorem s77_47 : ji_Ev C 77 47 M lv (.ref a :: st) o ↔ ji_kd M a = some (0, 5) ∧ ji_Ev C 77 50 M lv (ji_rv (ji_gR M a 0) :: st) o := ev_getR (k := 77) rfl fd_5_14 rfl
theorem s77_50 : ji_Ev C 77 50 M (l0 :: some (.int x) :: l) st o ↔ ji_Ev C 77 51 M (l0 :: some (.int x) :: l) (.int x :: st) o := ev_go (S := (51, M, (l0 :: some (.int x) :: l), (.int x :: st))) rfl rfl rfl
theorem s77_51 : ji_Ev C 77 51 M lv st o ↔ ji_Ev C 77 52 M lv (.int 2 :: st) o := ev_go (S := (52, M, lv, (.int 2 :: st))) rfl rfl rfl
theorem s77_52 : ji_Ev C 77 52 M lv (p1 :: p0 :: .ref a :: st) o ↔ (ji_rcb M 2 (.ref a) = true ∧ ji_ok8 st) ∧ ji_evC (C 49 [.ref a, p0, p1] M) (fun v M' => ji_Ev C 77 55 M' lv (v.toList ++ st) o) := ev_inv (k := 77) rfl cd_5_53 rfl
theorem s77_55 : ji_Ev C 77 55 M lv [.int x] o ↔ o = (some (.int x), M) := ev_ireti rfl rfl
theorem s77_56 : ji_Ev C 77 56 M (some (.ref a) :: l) st o ↔ ji_Ev C 77 57 M (some (.ref a) :: l) (.ref a :: st) o := ev_go (S := (57, M, (some (.ref a) :: l), (.ref a :: st))) rfl rfl rfl
theorem s77_57 : ji_Ev C 77 57 M lv (.ref a :: st) o ↔ ji_kd M a = some (0, 5) ∧ ji_Ev C 77 60 M lv (ji_rv (ji_gR M a 0) :: st) o := ev_getR (k := 77) rfl fd_5_14 rfl
theorem s77_60 : ji_Ev C 77 60 M (l0 :: some (.int x) :: l) st o ↔ ji_Ev C 77 61 M (l0 :: some (.int x) :: l) (.int x :: st) o := ev_go (S := (61, M, (l0 :: some (.int x) :: l), (.int x :: st))) rfl rfl rfl
theorem s77_61 : ji_Ev C 77 61 M lv st o ↔ ji_Ev C 77 62 M lv (.int 1 :: st) o := ev_go (S := (62, M, lv, (.int 1 :: st))) rfl rfl rfl
theorem s77_62 : ji_Ev C 77 62 M lv (p1 :: p0 :: .ref a :: st) o ↔ (ji_rcb M 2 (.ref a) = true ∧ ji_ok8 st) ∧ ji_evC (C 49 [.ref a, p0, p1] M) (fun v M' => ji_Ev C 77 65 M' lv (v.toList ++ st) o) := ev_inv (k := 77) rfl cd_5_53 rfl
theorem s77_65 : ji_Ev C 77 65 M lv [.int x] o ↔ o = (some (.int x), M) := ev_ireti rfl rfl
theorem s77_66 : ji_Ev C 77 66 M (some (.ref a) :: l) st o ↔ ji_Ev C 77 67 M (some (.ref a) :: l) (.ref a :: st) o := ev_go (S := (67, M, (some (.ref a) :: l), (.ref a :: st))) rfl rfl rfl
theorem s77_67 : ji_Ev C 77 67 M lv (.ref a :: st) o ↔ ji_kd M a = some (0, 5) ∧ ji_Ev C 77 70 M lv (ji_rv (ji_gR M a 0) :: st) o := ev_getR (k := 77) rfl fd_5_14 rfl
theorem s77_70 : ji_Ev C 77 70 M (l0 :: some (.int x) :: l) st o ↔ ji_Ev C 77 71 M (l0 :: some (.int x) :: l) (.int x :: st) o := ev_go (S := (71, M, (l0 :: some (.int x) :: l), (.int x :: st))) rfl rfl rfl
theorem s77_71 : ji_Ev C 77 71 M lv st o ↔ ji_Ev C 77 72 M lv (.int 4 :: st) o := ev_go (S := (72, M, lv, (.int 4 :: st))) rfl rfl rfl
theorem s77_72 : ji_Ev C 77 72 M lv (p1 :: p0 :: .ref a :: st) o ↔ (ji_rcb M 2 (.ref a) = true ∧ ji_ok8 st) ∧ ji_evC (C 49 [.ref a, p0, p1] M) (fun v M' => ji_Ev C 77 75 M' lv (v.toList ++ st) o) := ev_inv (k := 77) rfl cd_5_53 rfl
theorem s77_75 : ji_Ev C 77 75 M lv [.int x] o ↔ o = (some (.int x), M) := ev_ireti rfl rfl
theorem s77_76 : ji_Ev C 77 76 M (some (.ref a) :: l) st o ↔ ji_Ev C 77 77 M (some (.ref a) :: l) (.ref a :: st) o := ev_go (S := (77, M, (some (.ref a) :: l), (.ref a :: st))) rfl rfl rfl
theorem s77_77 : ji_Ev C 77 77 M lv (.ref a :: st) o ↔ ji_kd M a = some (0, 5) ∧ ji_Ev C 77 80 M lv (.int (ji_gI M a 1) :: st) o := ev_getI (k := 77) rfl fd_5_20 rfl
theorem s77_80 : ji_Ev C 77 80 M (some (.ref a) :: l) st o ↔ ji_Ev C 77 81 M (some (.ref a) :: l) (.ref a :: st) o := ev_go (S := (81, M, (some (.ref a) :: l), (.ref a :: st))) rfl rfl rfl
theorem s77_81 : ji_Ev C 77 81 M lv (.ref a :: st) o ↔ ji_kd M a = some (0, 5) ∧ ji_Ev C 77 84 M lv (ji_rv (ji_gR M a 0) :: st) o := ev_getR (k := 77) rfl fd_5_14 rfl
theorem s77_84 : ji_Ev C 77 84 M (l0 :: some (.int x) :: l) st o ↔ ji_Ev C 77 85 M (l0 :: some (.int x) :: l) (.int x :: st) o := ev_go (S := (85, M, (l0 :: some (.int x) :: l), (.int x :: st))) rfl rfl rfl
theorem s77_85 : ji_Ev C 77 85 M lv st o ↔ ji_Ev C 77 87 M lv (.int 7 :: st) o := ev_go (S := (87, M, lv, (.int 7 :: st))) rfl rfl rfl
theorem s77_87 : ji_Ev C 77 87 M lv (p1 :: p0 :: .ref a :: st) o ↔ (ji_rcb M 2 (.ref a) = true ∧ ji_ok8 st) ∧ ji_evC (C 49 [.ref a, p0, p1] M) (fun v M' => ji_Ev C 77 90 M' lv (v.toList ++ st) o) := ev_inv (k := 77) rfl cd_5_53 rfl
theorem s77_90 : ji_Ev C 77 90 M lv (.int y :: .int x :: st) o ↔ ji_Ev C 77 91 M lv (.int (x - y) :: st) o := ev_go (S := (91, M, lv, (.int (x - y) :: st))) rfl rfl rfl
theorem s77_91 : ji_Ev C 77 91 M lv [.int x] o ↔ o = (some (.int x), M) := ev_ireti rfl rfl
theorem s77_92 : ji_Ev C 77 92 M (some (.ref a) :: l) st o ↔ ji_Ev C 77 93 M (some (.ref a) :: l) (.ref a :: st) o := ev_go (S := (93, M, (some (.ref a) :: l), (.ref a :: st))) rfl rfl rfl
theorem s77_93 : ji_Ev C 77 93 M lv (.ref a :: st) o ↔ ji_kd M a = some (0, 5) ∧ ji_Ev C 77 96 M lv (ji_rv (ji_gR M a 0) :: st) o := ev_getR (k := 77) rfl fd_5_14 rfl
theorem s77_96 : ji_Ev C 77 96 M (l0 :: some (.int x) :: l) st o ↔ ji_Ev C 77 97 M (l0 :: some (.int x) :: l) (.int x :: st) o := ev_go (S := (97, M, (l0 :: some (.int x) :: l), (.int x :: st))) rfl rfl rfl
theorem s77_97 : ji_Ev C 77 97 M lv st o ↔ ji_Ev C 77 98 M lv (.int 3 :: st) o := ev_go (S := (98, M, lv, (.int 3 :: st))) rfl rfl rfl
theorem s77_98 : ji_Ev C 77 98 M lv (p1 :: p0 :: .ref a :: st) o ↔ (ji_rcb M 2 (.ref a) = true ∧ ji_ok8 st) ∧ ji_evC (C 49 [.ref a, p0, p1] M) (fun v M' => ji_Ev C 77 101 M' lv (v.toList ++ st) o) := ev_inv (k := 77) rfl cd_5_53 rfl
theorem s77_101 : ji_Ev C 77 101 M lv [.int x] o ↔ o = (some (.int x), M) := ev_ireti rfl rfl
theorem s78_0 : ji_Ev C 78 0 M (some (.ref a) :: l) st o ↔ ji_Ev C 78 1 M (some (.ref a) :: l) (.ref a :: st) o := ev_go (S := (1, M, (some (.ref a) :: l), (.ref a :: st))) rfl rfl rfl
theorem s78_1 : ji_Ev C 78 1 M lv (.ref a :: st) o ↔ ji_kd M a = some (0, 3) ∧ ji_Ev C 78 4 M lv (.int (ji_gI M a 5) :: st) o := ev_getI (k := 78) rfl fd_3_74 rfl
theorem s78_4 : ji_Ev C 78 4 M lv (.int x :: st) o ↔ if 0 < x then ji_Ev C 78 9 M lv st o else ji_Ev C 78 7 M lv st o := ev_brz (c := .gt) rfl (by decide) rfl
theorem s78_7 : ji_Ev C 78 7 M lv st o ↔ ji_Ev C 78 8 M lv (.int 0 :: st) o := ev_go (S := (8, M, lv, (.int 0 :: st))) rfl rfl rfl
theorem s78_8 : ji_Ev C 78 8 M lv [.int x] o ↔ o = (some (.int x), M) := ev_ireti rfl rfl
theorem s78_9 : ji_Ev C 78 9 M (some (.ref a) :: l) st o ↔ ji_Ev C 78 10 M (some (.ref a) :: l) (.ref a :: st) o := ev_go (S := (10, M, (some (.ref a) :: l), (.ref a :: st))) rfl rfl rfl
theorem s78_10 : ji_Ev C 78 10 M lv (.int x :: st) o ↔ ji_Ev C 78 11 M lv (.int x :: .int x :: st) o := ev_go (S := (11, M, lv, (.int x :: .int x :: st))) rfl rfl rfl
theorem s78_10r : ji_Ev C 78 10 M lv (.ref a :: st) o ↔ ji_Ev C 78 11 M lv (.ref a :: .ref a :: st) o := ev_go (S := (11, M, lv, (.ref a :: .ref a :: st))) rfl rfl rfl
theorem s78_11 : ji_Ev C 78 11 M lv (.ref a :: st) o ↔ ji_kd M a = some (0, 3) ∧ ji_Ev C 78 14 M lv (.int (ji_gI M a 5) :: st) o := ev_getI (k := 78) rfl fd_3_74 rfl
theorem s78_14 : ji_Ev C 78 14 M lv st o ↔ ji_Ev C 78 15 M lv (.int 1 :: st) o := ev_go (S := (15, M, lv, (.int 1 :: st))) rfl rfl rfl
theorem s78_15 : ji_Ev C 78 15 M lv (.int y :: .int x :: st) o ↔ ji_Ev C 78 16 M lv (.int (x - y) :: st) o := ev_go (S := (16, M, lv, (.int (x - y) :: st))) rfl rfl rfl
theorem s78_16 : ji_Ev C 78 16 M lv (.int x :: .ref a :: st) o ↔ ji_kd M a = some (0, 3) ∧ ji_Ev C 78 19 (ji_sI M a 5 x) lv st o := ev_putI (k := 78) rfl fd_3_74 rfl (by decide)
theorem s78_19 : ji_Ev C 78 19 M (some (.ref a) :: l) st o ↔ ji_Ev C 78 20 M (some (.ref a) :: l) (.ref a :: st) o := ev_go (S := (20, M, (some (.ref a) :: l), (.ref a :: st))) rfl rfl rfl
theorem s78_20 : ji_Ev C 78 20 M lv (.ref a :: st) o ↔ ji_kd M a = some (0, 3) ∧ ji_Ev C 78 23 M lv (ji_rv (ji_gR M a 3) :: st) o := ev_getR (k := 78) rfl fd_3_26 rfl
theorem s78_23 : ji_Ev C 78 23 M (some (.ref a) :: l) st o ↔ ji_Ev C 78 24 M (some (.ref a) :: l) (.ref a :: st) o := ev_go (S := (24, M, (some (.ref a) :: l), (.ref a :: st))) rfl rfl rfl
theorem s78_24 : ji_Ev C 78 24 M lv (.ref a :: st) o ↔ ji_kd M a = some (0, 3) ∧ ji_Ev C 78 27 M lv (.int (ji_gI M a 5) :: st) o := ev_getI (k := 78) rfl fd_3_74 rfl
theorem s78_27 : ji_Ev C 78 27 M lv (.int x :: .ref a :: st) o ↔ ji_evA (ji_kd M a) (fun n => vp_in x n ∧ ji_Ev C 78 28 M lv (.int (ji_gI M a x.toNatClampNeg) :: st) o) := ev_iald rfl
theorem s78_28 : ji_Ev C 78 28 M lv [.int x] o ↔ o = (some (.int x), M) := ev_ireti rfl rfl
theorem s79_0 : ji_Ev C 79 0 M (some (.int x) :: l) st o ↔ ji_Ev C 79 1 M (some (.int x) :: l) (.int x :: st) o := ev_go (S := (1, M, (some (.int x) :: l), (.int x :: st))) rfl rfl rfl
theorem s79_1 : ji_Ev C 79 1 M lv (.int x :: st) o ↔ if x = (-18) then ji_Ev C 79 88 M lv st o else if x = (-17) then ji_Ev C 79 84 M lv st o else if x = (-16) then ji_Ev C 79 80 M lv st o else if x = (-15) then ji_Ev C 79 76 M lv st o else if x = (-14) then ji_Ev C 79 99 M lv st o else if x = (-13) then ji_Ev C 79 99 M lv st o else if x = (-12) then ji_Ev C 79 62 M lv st o else if x = (-11) then ji_Ev C 79 48 M lv st o else ji_Ev C 79 99 M lv st o := by
  refine (ev_swT rfl (by decide)).trans ?_
  show ji_Ev C 79 ((1 : Int) + (if x = (-18) then 87 else if x = (-17) then 83 else if x = (-16) then 79 else if x = (-15) then 75 else if x = (-14) then 98 else if x = (-13) then 98 else if x = (-12) then 61 else if x = (-11) then 47 else 98)).toNat M lv st o ↔ _
  by_cases h0 : x = (-18)
  · rw [if_pos h0, if_pos h0]; exact Iff.rfl
  rw [if_neg h0, if_neg h0]
  by_cases h1 : x = (-17)
  · rw [if_pos h1, if_pos h1]; exact Iff.rfl
  rw [if_neg h1, if_neg h1]
  by_cases h2 : x = (-16)
  · rw [if_pos h2, if_pos h2]; exact Iff.rfl
  rw [if_neg h2, if_neg h2]
  by_cases h3 : x = (-15)
  · rw [if_pos h3, if_pos h3]; exact Iff.rfl
  rw [if_neg h3, if_neg h3]
  by_cases h4 : x = (-14)
  · rw [if_pos h4, if_pos h4]; exact Iff.rfl
  rw [if_neg h4, if_neg h4]
  by_cases h5 : x = (-13)
  · rw [if_pos h5, if_pos h5]; exact Iff.rfl
  rw [if_neg h5, if_neg h5]
  by_cases h6 : x = (-12)
  · rw [if_pos h6, if_pos h6]; exact Iff.rfl
  rw [if_neg h6, if_neg h6]
  by_cases h7 : x = (-11)
  · rw [if_pos h7, if_pos h7]; exact Iff.rfl
  rw [if_neg h7, if_neg h7]
  exact Iff.rfl
theorem s79_48 : ji_Ev C 79 48 M (l0 :: some (.int x) :: l) st o ↔ ji_Ev C 79 49 M (l0 :: some (.int x) :: l) (.int x :: st) o := ev_go (S := (49, M, (l0 :: some (.int x) :: l), (.int x :: st))) rfl rfl rfl
theorem s79_49 : ji_Ev C 79 49 M lv (.int x :: st) o ↔ if x = 0 then ji_Ev C 79 52 M lv st o else ji_Ev C 79 56 M lv st o := ev_brz (c := .ne) rfl (by decide) rfl
theorem s79_52 : ji_Ev C 79 52 M (l0 :: l1 :: some (.int x) :: l) st o ↔ ji_Ev C 79 53 M (l0 :: l1 :: some (.int x) :: l) (.int x :: st) o := ev_go (S := (53, M, (l0 :: l1 :: some (.int x) :: l), (.int x :: st))) rfl rfl rfl
theorem s79_53 : ji_Ev C 79 53 M lv (.int x :: st) o ↔ if x = 0 then ji_Ev C 79 60 M lv st o else ji_Ev C 79 56 M lv st o := ev_brz (c := .eq) rfl (by decide) rfl
theorem s79_56 : ji_Ev C 79 56 M lv st o ↔ ji_Ev C 79 57 M lv (.int 1 :: st) o := ev_go (S := (57, M, lv, (.int 1 :: st))) rfl rfl rfl
theorem s79_57 : ji_Ev C 79 57 M lv st o ↔ ji_Ev C 79 61 M lv st o := ev_gt rfl (by decide) rfl
theorem s79_60 : ji_Ev C 79 60 M lv st o ↔ ji_Ev C 79 61 M lv (.int 0 :: st) o := ev_go (S := (61, M, lv, (.int 0 :: st))) rfl rfl rfl
theorem s79_61 : ji_Ev C 79 61 M lv [.int x] o ↔ o = (some (.int x), M) := ev_ireti rfl rfl
theorem s79_62 : ji_Ev C 79 62 M (l0 :: some (.int x) :: l) st o ↔ ji_Ev C 79 63 M (l0 :: some (.int x) :: l) (.int x :: st) o := ev_go (S := (63, M, (l0 :: some (.int x) :: l), (.int x :: st))) rfl rfl rfl
theorem s79_63 : ji_Ev C 79 63 M lv (.int x :: st) o ↔ if x = 0 then ji_Ev C 79 74 M lv st o else ji_Ev C 79 66 M lv st o := ev_brz (c := .eq) rfl (by decide) rfl
theorem s79_66 : ji_Ev C 79 66 M (l0 :: l1 :: some (.int x) :: l) st o ↔ ji_Ev C 79 67 M (l0 :: l1 :: some (.int x) :: l) (.int x :: st) o := ev_go (S := (67, M, (l0 :: l1 :: some (.int x) :: l), (.int x :: st))) rfl rfl rfl
theorem s79_67 : ji_Ev C 79 67 M lv (.int x :: st) o ↔ if x = 0 then ji_Ev C 79 74 M lv st o else ji_Ev C 79 70 M lv st o := ev_brz (c := .eq) rfl (by decide) rfl
theorem s79_70 : ji_Ev C 79 70 M lv st o ↔ ji_Ev C 79 71 M lv (.int 1 :: st) o := ev_go (S := (71, M, lv, (.int 1 :: st))) rfl rfl rfl
theorem s79_71 : ji_Ev C 79 71 M lv st o ↔ ji_Ev C 79 75 M lv st o := ev_gt rfl (by decide) rfl
theorem s79_74 : ji_Ev C 79 74 M lv st o ↔ ji_Ev C 79 75 M lv (.int 0 :: st) o := ev_go (S := (75, M, lv, (.int 0 :: st))) rfl rfl rfl
theorem s79_75 : ji_Ev C 79 75 M lv [.int x] o ↔ o = (some (.int x), M) := ev_ireti rfl rfl
theorem s79_76 : ji_Ev C 79 76 M (l0 :: some (.int x) :: l) st o ↔ ji_Ev C 79 77 M (l0 :: some (.int x) :: l) (.int x :: st) o := ev_go (S := (77, M, (l0 :: some (.int x) :: l), (.int x :: st))) rfl rfl rfl
theorem s79_77 : ji_Ev C 79 77 M (l0 :: l1 :: some (.int x) :: l) st o ↔ ji_Ev C 79 78 M (l0 :: l1 :: some (.int x) :: l) (.int x :: st) o := ev_go (S := (78, M, (l0 :: l1 :: some (.int x) :: l), (.int x :: st))) rfl rfl rfl
theorem s79_78 : ji_Ev C 79 78 M lv (.int y :: .int x :: st) o ↔ ji_Ev C 79 79 M lv (.int (x + y) :: st) o := ev_go (S := (79, M, lv, (.int (x + y) :: st))) rfl rfl rfl
theorem s79_79 : ji_Ev C 79 79 M lv [.int x] o ↔ o = (some (.int x), M) := ev_ireti rfl rfl
theorem s79_80 : ji_Ev C 79 80 M (l0 :: some (.int x) :: l) st o ↔ ji_Ev C 79 81 M (l0 :: some (.int x) :: l) (.int x :: st) o := ev_go (S := (81, M, (l0 :: some (.int x) :: l), (.int x :: st))) rfl rfl rfl
theorem s79_81 : ji_Ev C 79 81 M (l0 :: l1 :: some (.int x) :: l) st o ↔ ji_Ev C 79 82 M (l0 :: l1 :: some (.int x) :: l) (.int x :: st) o := ev_go (S := (82, M, (l0 :: l1 :: some (.int x) :: l), (.int x :: st))) rfl rfl rfl
theorem s79_82 : ji_Ev C 79 82 M lv (.int y :: .int x :: st) o ↔ ji_Ev C 79 83 M lv (.int (x - y) :: st) o := ev_go (S := (83, M, lv, (.int (x - y) :: st))) rfl rfl rfl
theorem s79_83 : ji_Ev C 79 83 M lv [.int x] o ↔ o = (some (.int x), M) := ev_ireti rfl rfl
theorem s79_84 : ji_Ev C 79 84 M (l0 :: some (.int x) :: l) st o ↔ ji_Ev C 79 85 M (l0 :: some (.int x) :: l) (.int x :: st) o := ev_go (S := (85, M, (l0 :: some (.int x) :: l), (.int x :: st))) rfl rfl rfl
theorem s79_85 : ji_Ev C 79 85 M (l0 :: l1 :: some (.int x) :: l) st o ↔ ji_Ev C 79 86 M (l0 :: l1 :: some (.int x) :: l) (.int x :: st) o := ev_go (S := (86, M, (l0 :: l1 :: some (.int x) :: l), (.int x :: st))) rfl rfl rfl
theorem s79_86 : ji_Ev C 79 86 M lv (.int y :: .int x :: st) o ↔ ji_Ev C 79 87 M lv (.int (x * y) :: st) o := ev_go (S := (87, M, lv, (.int (x * y) :: st))) rfl rfl rfl
theorem s79_87 : ji_Ev C 79 87 M lv [.int x] o ↔ o = (some (.int x), M) := ev_ireti rfl rfl
theorem s79_88 : ji_Ev C 79 88 M (l0 :: some (.int x) :: l) st o ↔ ji_Ev C 79 89 M (l0 :: some (.int x) :: l) (.int x :: st) o := ev_go (S := (89, M, (l0 :: some (.int x) :: l), (.int x :: st))) rfl rfl rfl
theorem s79_89 : ji_Ev C 79 89 M (l0 :: l1 :: some (.int x) :: l) st o ↔ ji_Ev C 79 90 M (l0 :: l1 :: some (.int x) :: l) (.int x :: st) o := ev_go (S := (90, M, (l0 :: l1 :: some (.int x) :: l), (.int x :: st))) rfl rfl rfl
theorem s79_90 : ji_Ev C 79 90 M lv (.int y :: .int x :: st) o ↔ if x < y then ji_Ev C 79 93 M lv st o else ji_Ev C 79 97 M lv st o := ev_brc (c := .ge) rfl (by decide) rfl
theorem s79_93 : ji_Ev C 79 93 M lv st o ↔ ji_Ev C 79 94 M lv (.int 1 :: st) o := ev_go (S := (94, M, lv, (.int 1 :: st))) rfl rfl rfl
theorem s79_94 : ji_Ev C 79 94 M lv st o ↔ ji_Ev C 79 98 M lv st o := ev_gt rfl (by decide) rfl
theorem s79_97 : ji_Ev C 79 97 M lv st o ↔ ji_Ev C 79 98 M lv (.int 0 :: st) o := ev_go (S := (98, M, lv, (.int 0 :: st))) rfl rfl rfl
theorem s79_98 : ji_Ev C 79 98 M lv [.int x] o ↔ o = (some (.int x), M) := ev_ireti rfl rfl
theorem s79_99 : ji_Ev C 79 99 M (l0 :: some (.int x) :: l) st o ↔ ji_Ev C 79 100 M (l0 :: some (.int x) :: l) (.int x :: st) o := ev_go (S := (100, M, (l0 :: some (.int x) :: l), (.int x :: st))) rfl rfl rfl
theorem s79_100 : ji_Ev C 79 100 M (l0 :: l1 :: some (.int x) :: l) st o ↔ ji_Ev C 79 101 M (l0 :: l1 :: some (.int x) :: l) (.int x :: st) o := ev_go (S := (101, M, (l0 :: l1 :: some (.int x) :: l), (.int x :: st))) rfl rfl rfl
theorem s79_101 : ji_Ev C 79 101 M lv (.int y :: .int x :: st) o ↔ if x = y then ji_Ev C 79 104 M lv st o else ji_Ev C 79 108 M lv st o := ev_brc (c := .ne) rfl (by decide) rfl
theorem s79_104 : ji_Ev C 79 104 M lv st o ↔ ji_Ev C 79 105 M lv (.int 1 :: st) o := ev_go (S := (105, M, lv, (.int 1 :: st))) rfl rfl rfl
theorem s79_105 : ji_Ev C 79 105 M lv st o ↔ ji_Ev C 79 109 M lv st o := ev_gt rfl (by decide) rfl
theorem s79_108 : ji_Ev C 79 108 M lv st o ↔ ji_Ev C 79 109 M lv (.int 0 :: st) o := ev_go (S := (109, M, lv, (.int 0 :: st))) rfl rfl rfl
theorem s79_109 : ji_Ev C 79 109 M lv [.int x] o ↔ o = (some (.int x), M) := ev_ireti rfl rfl
theorem s80_0 : ji_Ev C 80 0 M (some (.ref a) :: l) st o ↔ ji_Ev C 80 1 M (some (.ref a) :: l) (.ref a :: st) o := ev_go (S := (1, M, (some (.ref a) :: l), (.ref a :: st))) rfl rfl rfl
theorem s80_1 : ji_Ev C 80 1 M lv (.ref a :: st) o ↔ ji_kd M a = some (0, 8) ∧ ji_Ev C 80 4 M lv (ji_rv (ji_gR M a 2) :: st) o := ev_getR (k := 80) rfl fd_8_28 rfl
theorem s80_4 : ji_Ev C 80 4 M lv (.ref a :: st) o ↔ (ji_rcb M 2 (.ref a) = true ∧ ji_ok8 st) ∧ ji_evC (C 47 [.ref a] M) (fun v M' => ji_Ev C 80 7 M' lv (v.toList ++ st) o) := ev_inv (k := 80) rfl cd_8_202 rfl
theorem s80_7 : ji_Ev C 80 7 M lv st o ↔ ji_Ev C 80 8 M lv (.int 1 :: st) o := ev_go (S := (8, M, lv, (.int 1 :: st))) rfl rfl rfl
theorem s80_8 : ji_Ev C 80 8 M lv (.int y :: .int x :: st) o ↔ ji_Ev C 80 9 M lv (.int (x - y) :: st) o := ev_go (S := (9, M, lv, (.int (x - y) :: st))) rfl rfl rfl
theorem s80_9 : ji_Ev C 80 9 M lv (.int x :: st) o ↔ 4 < lv.length ∧ ji_Ev C 80 11 M (ji_s1 lv 4 (.int x)) st o := ev_stI rfl rfl rfl
theorem s80_11 : ji_Ev C 80 11 M (l0 :: l1 :: l2 :: l3 :: some (.int x) :: l) st o ↔ ji_Ev C 80 13 M (l0 :: l1 :: l2 :: l3 :: some (.int x) :: l) (.int x :: st) o := ev_go (S := (13, M, (l0 :: l1 :: l2 :: l3 :: some (.int x) :: l), (.int x :: st))) rfl rfl rfl
theorem s80_13 : ji_Ev C 80 13 M lv (.int x :: st) o ↔ if x < 0 then ji_Ev C 80 84 M lv st o else ji_Ev C 80 16 M lv st o := ev_brz (c := .lt) rfl (by decide) rfl
theorem s80_16 : ji_Ev C 80 16 M (some (.ref a) :: l) st o ↔ ji_Ev C 80 17 M (some (.ref a) :: l) (.ref a :: st) o := ev_go (S := (17, M, (some (.ref a) :: l), (.ref a :: st))) rfl rfl rfl
theorem s80_17 : ji_Ev C 80 17 M lv (.ref a :: st) o ↔ ji_kd M a = some (0, 8) ∧ ji_Ev C 80 20 M lv (ji_rv (ji_gR M a 2) :: st) o := ev_getR (k := 80) rfl fd_8_28 rfl
theorem s80_20 : ji_Ev C 80 20 M (l0 :: l1 :: l2 :: l3 :: some (.int x) :: l) st o ↔ ji_Ev C 80 22 M (l0 :: l1 :: l2 :: l3 :: some (.int x) :: l) (.int x :: st) o := ev_go (S := (22, M, (l0 :: l1 :: l2 :: l3 :: some (.int x) :: l), (.int x :: st))) rfl rfl rfl
theorem s80_22 : ji_Ev C 80 22 M lv st o ↔ ji_Ev C 80 23 M lv (.int 0 :: st) o := ev_go (S := (23, M, lv, (.int 0 :: st))) rfl rfl rfl
theorem s80_23 : ji_Ev C 80 23 M lv (p1 :: p0 :: .ref a :: st) o ↔ (ji_rcb M 2 (.ref a) = true ∧ ji_ok8 st) ∧ ji_evC (C 49 [.ref a, p0, p1] M) (fun v M' => ji_Ev C 80 26 M' lv (v.toList ++ st) o) := ev_inv (k := 80) rfl cd_8_140 rfl
theorem s80_26 : ji_Ev C 80 26 M (l0 :: some (.int x) :: l) st o ↔ ji_Ev C 80 27 M (l0 :: some (.int x) :: l) (.int x :: st) o := ev_go (S := (27, M, (l0 :: some (.int x) :: l), (.int x :: st))) rfl rfl rfl
theorem s80_27 : ji_Ev C 80 27 M lv (.int y :: .int x :: st) o ↔ if x = y then ji_Ev C 80 30 M lv st o else ji_Ev C 80 78 M lv st o := ev_brc (c := .ne) rfl (by decide) rfl
theorem s80_30 : ji_Ev C 80 30 M (some (.ref a) :: l) st o ↔ ji_Ev C 80 31 M (some (.ref a) :: l) (.ref a :: st) o := ev_go (S := (31, M, (some (.ref a) :: l), (.ref a :: st))) rfl rfl rfl
theorem s80_31 : ji_Ev C 80 31 M lv (.ref a :: st) o ↔ ji_kd M a = some (0, 8) ∧ ji_Ev C 80 34 M lv (ji_rv (ji_gR M a 2) :: st) o := ev_getR (k := 80) rfl fd_8_28 rfl
theorem s80_34 : ji_Ev C 80 34 M (l0 :: l1 :: l2 :: l3 :: some (.int x) :: l) st o ↔ ji_Ev C 80 36 M (l0 :: l1 :: l2 :: l3 :: some (.int x) :: l) (.int x :: st) o := ev_go (S := (36, M, (l0 :: l1 :: l2 :: l3 :: some (.int x) :: l), (.int x :: st))) rfl rfl rfl
theorem s80_36 : ji_Ev C 80 36 M lv st o ↔ ji_Ev C 80 37 M lv (.int 1 :: st) o := ev_go (S := (37, M, lv, (.int 1 :: st))) rfl rfl rfl
theorem s80_37 : ji_Ev C 80 37 M lv (p1 :: p0 :: .ref a :: st) o ↔ (ji_rcb M 2 (.ref a) = true ∧ ji_ok8 st) ∧ ji_evC (C 49 [.ref a, p0, p1] M) (fun v M' => ji_Ev C 80 40 M' lv (v.toList ++ st) o) := ev_inv (k := 80) rfl cd_8_140 rfl
theorem s80_40 : ji_Ev C 80 40 M (l0 :: l1 :: some (.int x) :: l) st o ↔ ji_Ev C 80 41 M (l0 :: l1 :: some (.int x) :: l) (.int x :: st) o := ev_go (S := (41, M, (l0 :: l1 :: some (.int x) :: l), (.int x :: st))) rfl rfl rfl
theorem s80_41 : ji_Ev C 80 41 M lv (.int y :: .int x :: st) o ↔ if x = y then ji_Ev C 80 44 M lv st o else ji_Ev C 80 78 M lv st o := ev_brc (c := .ne) rfl (by decide) rfl
theorem s80_44 : ji_Ev C 80 44 M (some (.ref a) :: l) st o ↔ ji_Ev C 80 45 M (some (.ref a) :: l) (.ref a :: st) o := ev_go (S := (45, M, (some (.ref a) :: l), (.ref a :: st))) rfl rfl rfl
theorem s80_45 : ji_Ev C 80 45 M lv (.ref a :: st) o ↔ ji_kd M a = some (0, 8) ∧ ji_Ev C 80 48 M lv (ji_rv (ji_gR M a 2) :: st) o := ev_getR (k := 80) rfl fd_8_28 rfl
theorem s80_48 : ji_Ev C 80 48 M (l0 :: l1 :: l2 :: l3 :: some (.int x) :: l) st o ↔ ji_Ev C 80 50 M (l0 :: l1 :: l2 :: l3 :: some (.int x) :: l) (.int x :: st) o := ev_go (S := (50, M, (l0 :: l1 :: l2 :: l3 :: some (.int x) :: l), (.int x :: st))) rfl rfl rfl
theorem s80_50 : ji_Ev C 80 50 M lv st o ↔ ji_Ev C 80 51 M lv (.int 3 :: st) o := ev_go (S := (51, M, lv, (.int 3 :: st))) rfl rfl rfl
theorem s80_51 : ji_Ev C 80 51 M lv (p1 :: p0 :: .ref a :: st) o ↔ (ji_rcb M 2 (.ref a) = true ∧ ji_ok8 st) ∧ ji_evC (C 49 [.ref a, p0, p1] M) (fun v M' => ji_Ev C 80 54 M' lv (v.toList ++ st) o) := ev_inv (k := 80) rfl cd_8_140 rfl
theorem s80_54 : ji_Ev C 80 54 M (l0 :: l1 :: l2 :: some (.int x) :: l) st o ↔ ji_Ev C 80 55 M (l0 :: l1 :: l2 :: some (.int x) :: l) (.int x :: st) o := ev_go (S := (55, M, (l0 :: l1 :: l2 :: some (.int x) :: l), (.int x :: st))) rfl rfl rfl
theorem s80_55 : ji_Ev C 80 55 M lv (.int y :: .int x :: st) o ↔ if y < x then ji_Ev C 80 78 M lv st o else ji_Ev C 80 58 M lv st o := ev_brc (c := .gt) rfl (by decide) rfl
theorem s80_58 : ji_Ev C 80 58 M (some (.ref a) :: l) st o ↔ ji_Ev C 80 59 M (some (.ref a) :: l) (.ref a :: st) o := ev_go (S := (59, M, (some (.ref a) :: l), (.ref a :: st))) rfl rfl rfl
theorem s80_59 : ji_Ev C 80 59 M lv (.ref a :: st) o ↔ ji_kd M a = some (0, 8) ∧ ji_Ev C 80 62 M lv (ji_rv (ji_gR M a 2) :: st) o := ev_getR (k := 80) rfl fd_8_28 rfl
theorem s80_62 : ji_Ev C 80 62 M (l0 :: l1 :: l2 :: l3 :: some (.int x) :: l) st o ↔ ji_Ev C 80 64 M (l0 :: l1 :: l2 :: l3 :: some (.int x) :: l) (.int x :: st) o := ev_go (S := (64, M, (l0 :: l1 :: l2 :: l3 :: some (.int x) :: l), (.int x :: st))) rfl rfl rfl
theorem s80_64 : ji_Ev C 80 64 M lv st o ↔ ji_Ev C 80 65 M lv (.int 2 :: st) o := ev_go (S := (65, M, lv, (.int 2 :: st))) rfl rfl rfl
theorem s80_65 : ji_Ev C 80 65 M lv (p1 :: p0 :: .ref a :: st) o ↔ (ji_rcb M 2 (.ref a) = true ∧ ji_ok8 st) ∧ ji_evC (C 49 [.ref a, p0, p1] M) (fun v M' => ji_Ev C 80 68 M' lv (v.toList ++ st) o) := ev_inv (k := 80) rfl cd_8_140 rfl
theorem s80_68 : ji_Ev C 80 68 M lv st o ↔ ji_Ev C 80 69 M lv (.int 1 :: st) o := ev_go (S := (69, M, lv, (.int 1 :: st))) rfl rfl rfl
theorem s80_69 : ji_Ev C 80 69 M lv (.int y :: .int x :: st) o ↔ if x = y then ji_Ev C 80 72 M lv st o else ji_Ev C 80 76 M lv st o := ev_brc (c := .ne) rfl (by decide) rfl
theorem s80_72 : ji_Ev C 80 72 M lv st o ↔ ji_Ev C 80 73 M lv (.int 1 :: st) o := ev_go (S := (73, M, lv, (.int 1 :: st))) rfl rfl rfl
theorem s80_73 : ji_Ev C 80 73 M lv st o ↔ ji_Ev C 80 77 M lv st o := ev_gt rfl (by decide) rfl
theorem s80_76 : ji_Ev C 80 76 M lv st o ↔ ji_Ev C 80 77 M lv (.int 0 :: st) o := ev_go (S := (77, M, lv, (.int 0 :: st))) rfl rfl rfl
theorem s80_77 : ji_Ev C 80 77 M lv [.int x] o ↔ narrow .boolean (.int x) = .int x ∧ o = (some (.int x), M) := ev_iretb rfl rfl
theorem s80_78 : ji_Ev C 80 78 M lv st o ↔ ji_evL (lv.getD 4 none) ji_isI (fun v => match v with | .int x => 4 < lv.length ∧ ji_Ev C 80 81 M (ji_s1 lv 4 (.int (x + Int32.ofInt (-1)))) st o | _ => False) := ev_iinc rfl
theorem s80_81 : ji_Ev C 80 81 M lv st o ↔ ji_Ev C 80 11 M lv st o := ev_gt rfl (by decide) rfl
theorem s80_84 : ji_Ev C 80 84 M lv st o ↔ ji_Ev C 80 85 M lv (.int 0 :: st) o := ev_go (S := (85, M, lv, (.int 0 :: st))) rfl rfl rfl
theorem s80_85 : ji_Ev C 80 85 M lv [.int x] o ↔ narrow .boolean (.int x) = .int x ∧ o = (some (.int x), M) := ev_iretb rfl rfl
theorem s81_0 : ji_Ev C 81 0 M (l0 :: l1 :: some (.int x) :: l) st o ↔ ji_Ev C 81 1 M (l0 :: l1 :: some (.int x) :: l) (.int x :: st) o := ev_go (S := (1, M, (l0 :: l1 :: some (.int x) :: l), (.int x :: st))) rfl rfl rfl
theorem s81_1 : ji_Ev C 81 1 M (some (.ref a) :: l) st o ↔ ji_Ev C 81 2 M (some (.ref a) :: l) (.ref a :: st) o := ev_go (S := (2, M, (some (.ref a) :: l), (.ref a :: st))) rfl rfl rfl
theorem s81_2 : ji_Ev C 81 2 M lv (.ref a :: st) o ↔ ji_kd M a = some (0, 5) ∧ ji_Ev C 81 5 M lv (ji_rv (ji_gR M a 0) :: st) o := ev_getR (k := 81) rfl fd_5_14 rfl
theorem s81_5 : ji_Ev C 81 5 M (l0 :: some (.int x) :: l) st o ↔ ji_Ev C 81 6 M (l0 :: some (.int x) :: l) (.int x :: st) o := ev_go (S := (6, M, (l0 :: some (.int x) :: l), (.int x :: st))) rfl rfl rfl
theorem s81_6 : ji_Ev C 81 6 M lv st o ↔ ji_Ev C 81 7 M lv (.int 3 :: st) o := ev_go (S := (7, M, lv, (.int 3 :: st))) rfl rfl rfl
theorem s81_7 : ji_Ev C 81 7 M lv (p1 :: p0 :: .ref a :: st) o ↔ (ji_rcb M 2 (.ref a) = true ∧ ji_ok8 st) ∧ ji_evC (C 49 [.ref a, p0, p1] M) (fun v M' => ji_Ev C 81 10 M' lv (v.toList ++ st) o) := ev_inv (k := 81) rfl cd_5_53 rfl
theorem s81_10 : ji_Ev C 81 10 M lv (p1 :: p0 :: st) o ↔ ji_ok8 st ∧ ji_evC (C 68 [p0, p1] M) (fun v M' => ji_Ev C 81 13 M' lv (v.toList ++ st) o) := ev_sta (k := 81) (a := [p1, p0]) rfl (Or.inl cd_5_64) rfl
theorem s81_13 : ji_Ev C 81 13 M lv (.int x :: st) o ↔ 3 < lv.length ∧ ji_Ev C 81 14 M (ji_s1 lv 3 (.int x)) st o := ev_stI rfl rfl rfl
theorem s81_14 : ji_Ev C 81 14 M (l0 :: l1 :: some (.int x) :: l) st o ↔ ji_Ev C 81 15 M (l0 :: l1 :: some (.int x) :: l) (.int x :: st) o := ev_go (S := (15, M, (l0 :: l1 :: some (.int x) :: l), (.int x :: st))) rfl rfl rfl
theorem s81_15 : ji_Ev C 81 15 M lv st o ↔ ji_Ev C 81 16 M lv (.int 2 :: st) o := ev_go (S := (16, M, lv, (.int 2 :: st))) rfl rfl rfl
theorem s81_16 : ji_Ev C 81 16 M lv (.int y :: .int x :: st) o ↔ if x = y then ji_Ev C 81 19 M lv st o else ji_Ev C 81 40 M lv st o := ev_brc (c := .ne) rfl (by decide) rfl
theorem s81_19 : ji_Ev C 81 19 M (some (.ref a) :: l) st o ↔ ji_Ev C 81 20 M (some (.ref a) :: l) (.ref a :: st) o := ev_go (S := (20, M, (some (.ref a) :: l), (.ref a :: st))) rfl rfl rfl
theorem s81_20 : ji_Ev C 81 20 M lv st o ↔ ji_Ev C 81 21 M lv (.int 2 :: st) o := ev_go (S := (21, M, lv, (.int 2 :: st))) rfl rfl rfl
theorem s81_21 : ji_Ev C 81 21 M (l0 :: some (.int x) :: l) st o ↔ ji_Ev C 81 22 M (l0 :: some (.int x) :: l) (.int x :: st) o := ev_go (S := (22, M, (l0 :: some (.int x) :: l), (.int x :: st))) rfl rfl rfl
theorem s81_22 : ji_Ev C 81 22 M lv (p1 :: p0 :: .ref a :: st) o ↔ (ji_rcb M 5 (.ref a) = true ∧ ji_ok8 st) ∧ ji_evC (C 82 [.ref a, p0, p1] M) (fun v M' => ji_Ev C 81 25 M' lv (v.toList ++ st) o) := ev_inv (k := 81) rfl cd_5_78 rfl
theorem s81_25 : ji_Ev C 81 25 M (l0 :: l1 :: l2 :: some (.int x) :: l) st o ↔ ji_Ev C 81 26 M (l0 :: l1 :: l2 :: some (.int x) :: l) (.int x :: st) o := ev_go (S := (26, M, (l0 :: l1 :: l2 :: some (.int x) :: l), (.int x :: st))) rfl rfl rfl
theorem s81_26 : ji_Ev C 81 26 M lv (.int y :: .int x :: st) o ↔ ji_Ev C 81 27 M lv (.int (x + y) :: st) o := ev_go (S := (27, M, lv, (.int (x + y) :: st))) rfl rfl rfl
theorem s81_27 : ji_Ev C 81 27 M (some (.ref a) :: l) st o ↔ ji_Ev C 81 28 M (some (.ref a) :: l) (.ref a :: st) o := ev_go (S := (28, M, (some (.ref a) :: l), (.ref a :: st))) rfl rfl rfl
theorem s81_28 : ji_Ev C 81 28 M lv (.ref a :: st) o ↔ ji_kd M a = some (0, 5) ∧ ji_Ev C 81 31 M lv (.int (ji_gI M a 3) :: st) o := ev_getI (k := 81) rfl fd_5_27 rfl
theorem s81_31 : ji_Ev C 81 31 M lv (.int y :: .int x :: st) o ↔ if y < x then ji_Ev C 81 38 M lv st o else ji_Ev C 81 34 M lv st o := ev_brc (c := .gt) rfl (by decide) rfl
theorem s81_34 : ji_Ev C 81 34 M lv st o ↔ ji_Ev C 81 35 M lv (.int 1 :: st) o := ev_go (S := (35, M, lv, (.int 1 :: st))) rfl rfl rfl
theorem s81_35 : ji_Ev C 81 35 M lv st o ↔ ji_Ev C 81 39 M lv st o := ev_gt rfl (by decide) rfl
theorem s81_38 : ji_Ev C 81 38 M lv st o ↔ ji_Ev C 81 39 M lv (.int 0 :: st) o := ev_go (S := (39, M, lv, (.int 0 :: st))) rfl rfl rfl
theorem s81_39 : ji_Ev C 81 39 M lv [.int x] o ↔ narrow .boolean (.int x) = .int x ∧ o = (some (.int x), M) := ev_iretb rfl rfl
theorem s81_40 : ji_Ev C 81 40 M (l0 :: l1 :: some (.int x) :: l) st o ↔ ji_Ev C 81 41 M (l0 :: l1 :: some (.int x) :: l) (.int x :: st) o := ev_go (S := (41, M, (l0 :: l1 :: some (.int x) :: l), (.int x :: st))) rfl rfl rfl
theorem s81_41 : ji_Ev C 81 41 M lv st o ↔ ji_Ev C 81 42 M lv (.int 3 :: st) o := ev_go (S := (42, M, lv, (.int 3 :: st))) rfl rfl rfl
theorem s81_42 : ji_Ev C 81 42 M lv (p1 :: p0 :: st) o ↔ ji_ok8 st ∧ ji_evC (C 83 [p0, p1] M) (fun v M' => ji_Ev C 81 45 M' lv (v.toList ++ st) o) := ev_sta (k := 81) (a := [p1, p0]) rfl (Or.inl cd_5_74) rfl
theorem s81_45 : ji_Ev C 81 45 M lv (.int x :: st) o ↔ if x = 0 then ji_Ev C 81 63 M lv st o else ji_Ev C 81 48 M lv st o := ev_brz (c := .eq) rfl (by decide) rfl
theorem s81_48 : ji_Ev C 81 48 M (some (.ref a) :: l) st o ↔ ji_Ev C 81 49 M (some (.ref a) :: l) (.ref a :: st) o := ev_go (S := (49, M, (some (.ref a) :: l), (.ref a :: st))) rfl rfl rfl
theorem s81_49 : ji_Ev C 81 49 M lv st o ↔ ji_Ev C 81 50 M lv (.int 3 :: st) o := ev_go (S := (50, M, lv, (.int 3 :: st))) rfl rfl rfl
theorem s81_50 : ji_Ev C 81 50 M (l0 :: some (.int x) :: l) st o ↔ ji_Ev C 81 51 M (l0 :: some (.int x) :: l) (.int x :: st) o := ev_go (S := (51, M, (l0 :: some (.int x) :: l), (.int x :: st))) rfl rfl rfl
theorem s81_51 : ji_Ev C 81 51 M lv (p1 :: p0 :: .ref a :: st) o ↔ (ji_rcb M 5 (.ref a) = true ∧ ji_ok8 st) ∧ ji_evC (C 82 [.ref a, p0, p1] M) (fun v M' => ji_Ev C 81 54 M' lv (v.toList ++ st) o) := ev_inv (k := 81) rfl cd_5_78 rfl
theorem s81_54 : ji_Ev C 81 54 M (l0 :: l1 :: l2 :: some (.int x) :: l) st o ↔ ji_Ev C 81 55 M (l0 :: l1 :: l2 :: some (.int x) :: l) (.int x :: st) o := ev_go (S := (55, M, (l0 :: l1 :: l2 :: some (.int x) :: l), (.int x :: st))) rfl rfl rfl
theorem s81_55 : ji_Ev C 81 55 M lv (.int y :: .int x :: st) o ↔ ji_Ev C 81 56 M lv (.int (x + y) :: st) o := ev_go (S := (56, M, lv, (.int (x + y) :: st))) rfl rfl rfl
theorem s81_56 : ji_Ev C 81 56 M (some (.ref a) :: l) st o ↔ ji_Ev C 81 57 M (some (.ref a) :: l) (.ref a :: st) o := ev_go (S := (57, M, (some (.ref a) :: l), (.ref a :: st))) rfl rfl rfl
theorem s81_57 : ji_Ev C 81 57 M lv (.ref a :: st) o ↔ ji_kd M a = some (0, 5) ∧ ji_Ev C 81 60 M lv (.int (ji_gI M a 4) :: st) o := ev_getI (k := 81) rfl fd_5_30 rfl
theorem s81_60 : ji_Ev C 81 60 M lv (.int y :: .int x :: st) o ↔ if y < x then ji_Ev C 81 67 M lv st o else ji_Ev C 81 63 M lv st o := ev_brc (c := .gt) rfl (by decide) rfl
theorem s81_63 : ji_Ev C 81 63 M lv st o ↔ ji_Ev C 81 64 M lv (.int 1 :: st) o := ev_go (S := (64, M, lv, (.int 1 :: st))) rfl rfl rfl
theorem s81_64 : ji_Ev C 81 64 M lv st o ↔ ji_Ev C 81 68 M lv st o := ev_gt rfl (by decide) rfl
theorem s81_67 : ji_Ev C 81 67 M lv st o ↔ ji_Ev C 81 68 M lv (.int 0 :: st) o := ev_go (S := (68, M, lv, (.int 0 :: st))) rfl rfl rfl
theorem s81_68 : ji_Ev C 81 68 M lv [.int x] o ↔ narrow .boolean (.int x) = .int x ∧ o = (some (.int x), M) := ev_iretb rfl rfl
theorem s82_0 : ji_Ev C 82 0 M lv st o ↔ ji_Ev C 82 1 M lv (.int 0 :: st) o := ev_go (S := (1, M, lv, (.int 0 :: st))) rfl rfl rfl
theorem s82_1 : ji_Ev C 82 1 M lv (.int x :: st) o ↔ 3 < lv.length ∧ ji_Ev C 82 2 M (ji_s1 lv 3 (.int x)) st o := ev_stI rfl rfl rfl
theorem s82_2 : ji_Ev C 82 2 M lv st o ↔ ji_Ev C 82 3 M lv (.int 0 :: st) o := ev_go (S := (3, M, lv, (.int 0 :: st))) rfl rfl rfl
theorem s82_3 : ji_Ev C 82 3 M lv (.int x :: st) o ↔ 4 < lv.length ∧ ji_Ev C 82 5 M (ji_s1 lv 4 (.int x)) st o := ev_stI rfl rfl rfl
theorem s82_5 : ji_Ev C 82 5 M (l0 :: l1 :: l2 :: l3 :: some (.int x) :: l) st o ↔ ji_Ev C 82 7 M (l0 :: l1 :: l2 :: l3 :: some (.int x) :: l) (.int x :: st) o := ev_go (S := (7, M, (l0 :: l1 :: l2 :: l3 :: some (.int x) :: l), (.int x :: st))) rfl rfl rfl
theorem s82_7 : ji_Ev C 82 7 M (some (.ref a) :: l) st o ↔ ji_Ev C 82 8 M (some (.ref a) :: l) (.ref a :: st) o := ev_go (S := (8, M, (some (.ref a) :: l), (.ref a :: st))) rfl rfl rfl
theorem s82_8 : ji_Ev C 82 8 M lv (.ref a :: st) o ↔ ji_kd M a = some (0, 5) ∧ ji_Ev C 82 11 M lv (ji_rv (ji_gR M a 0) :: st) o := ev_getR (k := 82) rfl fd_5_14 rfl
theorem s82_11 : ji_Ev C 82 11 M lv (.ref a :: st) o ↔ (ji_rcb M 2 (.ref a) = true ∧ ji_ok8 st) ∧ ji_evC (C 47 [.ref a] M) (fun v M' => ji_Ev C 82 14 M' lv (v.toList ++ st) o) := ev_inv (k := 82) rfl cd_5_70 rfl
theorem s82_14 : ji_Ev C 82 14 M lv (.int y :: .int x :: st) o ↔ if x < y then ji_Ev C 82 17 M lv st o else ji_Ev C 82 68 M lv st o := ev_brc (c := .ge) rfl (by decide) rfl
theorem s82_17 : ji_Ev C 82 17 M (some (.ref a) :: l) st o ↔ ji_Ev C 82 18 M (some (.ref a) :: l) (.ref a :: st) o := ev_go (S := (18, M, (some (.ref a) :: l), (.ref a :: st))) rfl rfl rfl
theorem s82_18 : ji_Ev C 82 18 M lv (.ref a :: st) o ↔ ji_kd M a = some (0, 5) ∧ ji_Ev C 82 21 M lv (ji_rv (ji_gR M a 0) :: st) o := ev_getR (k := 82) rfl fd_5_14 rfl
theorem s82_21 : ji_Ev C 82 21 M (l0 :: l1 :: l2 :: l3 :: some (.int x) :: l) st o ↔ ji_Ev C 82 23 M (l0 :: l1 :: l2 :: l3 :: some (.int x) :: l) (.int x :: st) o := ev_go (S := (23, M, (l0 :: l1 :: l2 :: l3 :: some (.int x) :: l), (.int x :: st))) rfl rfl rfl
theorem s82_23 : ji_Ev C 82 23 M lv st o ↔ ji_Ev C 82 24 M lv (.int 0 :: st) o := ev_go (S := (24, M, lv, (.int 0 :: st))) rfl rfl rfl
theorem s82_24 : ji_Ev C 82 24 M lv (p1 :: p0 :: .ref a :: st) o ↔ (ji_rcb M 2 (.ref a) = true ∧ ji_ok8 st) ∧ ji_evC (C 49 [.ref a, p0, p1] M) (fun v M' => ji_Ev C 82 27 M' lv (v.toList ++ st) o) := ev_inv (k := 82) rfl cd_5_53 rfl
theorem s82_27 : ji_Ev C 82 27 M lv (.int x :: st) o ↔ 5 < lv.length ∧ ji_Ev C 82 29 M (ji_s1 lv 5 (.int x)) st o := ev_stI rfl rfl rfl
theorem s82_29 : ji_Ev C 82 29 M (l0 :: l1 :: l2 :: l3 :: some (.int x) :: l) st o ↔ ji_Ev C 82 31 M (l0 :: l1 :: l2 :: l3 :: some (.int x) :: l) (.int x :: st) o := ev_go (S := (31, M, (l0 :: l1 :: l2 :: l3 :: some (.int x) :: l), (.int x :: st))) rfl rfl rfl
theorem s82_31 : ji_Ev C 82 31 M (l0 :: l1 :: some (.int x) :: l) st o ↔ ji_Ev C 82 32 M (l0 :: l1 :: some (.int x) :: l) (.int x :: st) o := ev_go (S := (32, M, (l0 :: l1 :: some (.int x) :: l), (.int x :: st))) rfl rfl rfl
theorem s82_32 : ji_Ev C 82 32 M lv (.int y :: .int x :: st) o ↔ if x = y then ji_Ev C 82 62 M lv st o else ji_Ev C 82 35 M lv st o := ev_brc (c := .eq) rfl (by decide) rfl
theorem s82_35 : ji_Ev C 82 35 M (l0 :: l1 :: l2 :: l3 :: l4 :: some (.int x) :: l) st o ↔ ji_Ev C 82 37 M (l0 :: l1 :: l2 :: l3 :: l4 :: some (.int x) :: l) (.int x :: st) o := ev_go (S := (37, M, (l0 :: l1 :: l2 :: l3 :: l4 :: some (.int x) :: l), (.int x :: st))) rfl rfl rfl
theorem s82_37 : ji_Ev C 82 37 M (l0 :: some (.int x) :: l) st o ↔ ji_Ev C 82 38 M (l0 :: some (.int x) :: l) (.int x :: st) o := ev_go (S := (38, M, (l0 :: some (.int x) :: l), (.int x :: st))) rfl rfl rfl
theorem s82_38 : ji_Ev C 82 38 M lv (p1 :: p0 :: st) o ↔ ji_ok8 st ∧ ji_evC (C 83 [p0, p1] M) (fun v M' => ji_Ev C 82 41 M' lv (v.toList ++ st) o) := ev_sta (k := 82) (a := [p1, p0]) rfl (Or.inl cd_5_74) rfl
theorem s82_41 : ji_Ev C 82 41 M lv (.int x :: st) o ↔ if x = 0 then ji_Ev C 82 62 M lv st o else ji_Ev C 82 44 M lv st o := ev_brz (c := .eq) rfl (by decide) rfl
theorem s82_44 : ji_Ev C 82 44 M (l0 :: l1 :: l2 :: some (.int x) :: l) st o ↔ ji_Ev C 82 45 M (l0 :: l1 :: l2 :: some (.int x) :: l) (.int x :: st) o := ev_go (S := (45, M, (l0 :: l1 :: l2 :: some (.int x) :: l), (.int x :: st))) rfl rfl rfl
theorem s82_45 : ji_Ev C 82 45 M (l0 :: l1 :: l2 :: l3 :: l4 :: some (.int x) :: l) st o ↔ ji_Ev C 82 47 M (l0 :: l1 :: l2 :: l3 :: l4 :: some (.int x) :: l) (.int x :: st) o := ev_go (S := (47, M, (l0 :: l1 :: l2 :: l3 :: l4 :: some (.int x) :: l), (.int x :: st))) rfl rfl rfl
theorem s82_47 : ji_Ev C 82 47 M (some (.ref a) :: l) st o ↔ ji_Ev C 82 48 M (some (.ref a) :: l) (.ref a :: st) o := ev_go (S := (48, M, (some (.ref a) :: l), (.ref a :: st))) rfl rfl rfl
theorem s82_48 : ji_Ev C 82 48 M lv (.ref a :: st) o ↔ ji_kd M a = some (0, 5) ∧ ji_Ev C 82 51 M lv (ji_rv (ji_gR M a 0) :: st) o := ev_getR (k := 82) rfl fd_5_14 rfl
theorem s82_51 : ji_Ev C 82 51 M (l0 :: l1 :: l2 :: l3 :: some (.int x) :: l) st o ↔ ji_Ev C 82 53 M (l0 :: l1 :: l2 :: l3 :: some (.int x) :: l) (.int x :: st) o := ev_go (S := (53, M, (l0 :: l1 :: l2 :: l3 :: some (.int x) :: l), (.int x :: st))) rfl rfl rfl
theorem s82_53 : ji_Ev C 82 53 M lv st o ↔ ji_Ev C 82 54 M lv (.int 3 :: st) o := ev_go (S := (54, M, lv, (.int 3 :: st))) rfl rfl rfl
theorem s82_54 : ji_Ev C 82 54 M lv (p1 :: p0 :: .ref a :: st) o ↔ (ji_rcb M 2 (.ref a) = true ∧ ji_ok8 st) ∧ ji_evC (C 49 [.ref a, p0, p1] M) (fun v M' => ji_Ev C 82 57 M' lv (v.toList ++ st) o) := ev_inv (k := 82) rfl cd_5_53 rfl
theorem s82_57 : ji_Ev C 82 57 M lv (p1 :: p0 :: st) o ↔ ji_ok8 st ∧ ji_evC (C 68 [p0, p1] M) (fun v M' => ji_Ev C 82 60 M' lv (v.toList ++ st) o) := ev_sta (k := 82) (a := [p1, p0]) rfl (Or.inl cd_5_64) rfl
theorem s82_60 : ji_Ev C 82 60 M lv (.int y :: .int x :: st) o ↔ ji_Ev C 82 61 M lv (.int (x + y) :: st) o := ev_go (S := (61, M, lv, (.int (x + y) :: st))) rfl rfl rfl
theorem s82_61 : ji_Ev C 82 61 M lv (.int x :: st) o ↔ 3 < lv.length ∧ ji_Ev C 82 62 M (ji_s1 lv 3 (.int x)) st o := ev_stI rfl rfl rfl
theorem s82_62 : ji_Ev C 82 62 M lv st o ↔ ji_evL (lv.getD 4 none) ji_isI (fun v => match v with | .int x => 4 < lv.length ∧ ji_Ev C 82 65 M (ji_s1 lv 4 (.int (x + Int32.ofInt 1))) st o | _ => False) := ev_iinc rfl
theorem s82_65 : ji_Ev C 82 65 M lv st o ↔ ji_Ev C 82 5 M lv st o := ev_gt rfl (by decide) rfl
theorem s82_68 : ji_Ev C 82 68 M (l0 :: l1 :: l2 :: some (.int x) :: l) st o ↔ ji_Ev C 82 69 M (l0 :: l1 :: l2 :: some (.int x) :: l) (.int x :: st) o := ev_go (S := (69, M, (l0 :: l1 :: l2 :: some (.int x) :: l), (.int x :: st))) rfl rfl rfl
theorem s82_69 : ji_Ev C 82 69 M lv [.int x] o ↔ o = (some (.int x), M) := ev_ireti rfl rfl
theorem s83_0 : ji_Ev C 83 0 M (some (.int x) :: l) st o ↔ ji_Ev C 83 1 M (some (.int x) :: l) (.int x :: st) o := ev_go (S := (1, M, (some (.int x) :: l), (.int x :: st))) rfl rfl rfl
theorem s83_1 : ji_Ev C 83 1 M lv (.int x :: st) o ↔ 2 < lv.length ∧ ji_Ev C 83 2 M (ji_s1 lv 2 (.int x)) st o := ev_stI rfl rfl rfl
theorem s83_2 : ji_Ev C 83 2 M lv st o ↔ ji_Ev C 83 3 M lv (.int 0 :: st) o := ev_go (S := (3, M, lv, (.int 0 :: st))) rfl rfl rfl
theorem s83_3 : ji_Ev C 83 3 M lv (.int x :: st) o ↔ 3 < lv.length ∧ ji_Ev C 83 4 M (ji_s1 lv 3 (.int x)) st o := ev_stI rfl rfl rfl
theorem s83_4 : ji_Ev C 83 4 M (l0 :: l1 :: l2 :: some (.int x) :: l) st o ↔ ji_Ev C 83 5 M (l0 :: l1 :: l2 :: some (.int x) :: l) (.int x :: st) o := ev_go (S := (5, M, (l0 :: l1 :: l2 :: some (.int x) :: l), (.int x :: st))) rfl rfl rfl
theorem s83_5 : ji_Ev C 83 5 M lv st o ↔ ji_Ev C 83 8 M lv (.retAddr 0 :: st) o := ev_go (S := (8, M, lv, (.retAddr 0 :: st))) rfl rfl rfl
theorem s83_8 : ji_Ev C 83 8 M lv (.ref a :: st) o ↔ ji_evN (ji_kd M a) (fun n => ji_Ev C 83 9 M lv (.int (Int32.ofNat n) :: st) o) := ev_alen rfl
theorem s83_8x : ji_Ev C 83 8 M lv (.retAddr 0 :: st) o ↔ ji_Ev C 83 9 M lv (.int 6 :: st) o := ev_go (S := (9, M, lv, (.int 6 :: st))) rfl rfl rfl
theorem s83_9 : ji_Ev C 83 9 M lv (.int y :: .int x :: st) o ↔ if x < y then ji_Ev C 83 12 M lv st o else ji_Ev C 83 43 M lv st o := ev_brc (c := .ge) rfl (by decide) rfl
theorem s83_12 : ji_Ev C 83 12 M (l0 :: l1 :: some (.int x) :: l) st o ↔ ji_Ev C 83 13 M (l0 :: l1 :: some (.int x) :: l) (.int x :: st) o := ev_go (S := (13, M, (l0 :: l1 :: some (.int x) :: l), (.int x :: st))) rfl rfl rfl
theorem s83_13 : ji_Ev C 83 13 M lv (.int x :: st) o ↔ if x < 0 then ji_Ev C 83 43 M lv st o else ji_Ev C 83 16 M lv st o := ev_brz (c := .lt) rfl (by decide) rfl
theorem s83_16 : ji_Ev C 83 16 M (l0 :: l1 :: some (.int x) :: l) st o ↔ ji_Ev C 83 17 M (l0 :: l1 :: some (.int x) :: l) (.int x :: st) o := ev_go (S := (17, M, (l0 :: l1 :: some (.int x) :: l), (.int x :: st))) rfl rfl rfl
theorem s83_17 : ji_Ev C 83 17 M lv st o ↔ ji_Ev C 83 20 M lv (.retAddr 0 :: st) o := ev_go (S := (20, M, lv, (.retAddr 0 :: st))) rfl rfl rfl
theorem s83_20 : ji_Ev C 83 20 M lv (.ref a :: st) o ↔ ji_evN (ji_kd M a) (fun n => ji_Ev C 83 21 M lv (.int (Int32.ofNat n) :: st) o) := ev_alen rfl
theorem s83_20x : ji_Ev C 83 20 M lv (.retAddr 0 :: st) o ↔ ji_Ev C 83 21 M lv (.int 6 :: st) o := ev_go (S := (21, M, lv, (.int 6 :: st))) rfl rfl rfl
theorem s83_21 : ji_Ev C 83 21 M lv (.int y :: .int x :: st) o ↔ if x < y then ji_Ev C 83 24 M lv st o else ji_Ev C 83 43 M lv st o := ev_brc (c := .ge) rfl (by decide) rfl
theorem s83_24 : ji_Ev C 83 24 M (l0 :: l1 :: some (.int x) :: l) st o ↔ ji_Ev C 83 25 M (l0 :: l1 :: some (.int x) :: l) (.int x :: st) o := ev_go (S := (25, M, (l0 :: l1 :: some (.int x) :: l), (.int x :: st))) rfl rfl rfl
theorem s83_25 : ji_Ev C 83 25 M (l0 :: some (.int x) :: l) st o ↔ ji_Ev C 83 26 M (l0 :: some (.int x) :: l) (.int x :: st) o := ev_go (S := (26, M, (l0 :: some (.int x) :: l), (.int x :: st))) rfl rfl rfl
theorem s83_26 : ji_Ev C 83 26 M lv (.int y :: .int x :: st) o ↔ if x = y then ji_Ev C 83 29 M lv st o else ji_Ev C 83 31 M lv st o := ev_brc (c := .ne) rfl (by decide) rfl
theorem s83_29 : ji_Ev C 83 29 M lv st o ↔ ji_Ev C 83 30 M lv (.int 1 :: st) o := ev_go (S := (30, M, lv, (.int 1 :: st))) rfl rfl rfl
theorem s83_30 : ji_Ev C 83 30 M lv [.int x] o ↔ narrow .boolean (.int x) = .int x ∧ o = (some (.int x), M) := ev_iretb rfl rfl
theorem s83_31 : ji_Ev C 83 31 M lv st o ↔ ji_Ev C 83 34 M lv (.retAddr 0 :: st) o := ev_go (S := (34, M, lv, (.retAddr 0 :: st))) rfl rfl rfl
theorem s83_34 : ji_Ev C 83 34 M (l0 :: l1 :: some (.int x) :: l) st o ↔ ji_Ev C 83 35 M (l0 :: l1 :: some (.int x) :: l) (.int x :: st) o := ev_go (S := (35, M, (l0 :: l1 :: some (.int x) :: l), (.int x :: st))) rfl rfl rfl
theorem s83_35 : ji_Ev C 83 35 M lv (.int x :: .ref a :: st) o ↔ ji_evA (ji_kd M a) (fun n => vp_in x n ∧ ji_Ev C 83 36 M lv (.int (ji_gI M a x.toNatClampNeg) :: st) o) := ev_iald rfl
theorem s83_35x : ji_Ev C 83 35 M lv (.int x :: .retAddr 0 :: st) o ↔ vp_in x 6 ∧ ji_Ev C 83 36 M lv (.int (([-1, 0, 0, 0, 1, 3] : List Int32).getD x.toNatClampNeg 0) :: st) o := ev_ialdX (l := [-1, 0, 0, 0, 1, 3]) rfl rfl
theorem s83_36 : ji_Ev C 83 36 M lv (.int x :: st) o ↔ 2 < lv.length ∧ ji_Ev C 83 37 M (ji_s1 lv 2 (.int x)) st o := ev_stI rfl rfl rfl
theorem s83_37 : ji_Ev C 83 37 M lv st o ↔ ji_evL (lv.getD 3 none) ji_isI (fun v => match v with | .int x => 3 < lv.length ∧ ji_Ev C 83 40 M (ji_s1 lv 3 (.int (x + Int32.ofInt 1))) st o | _ => False) := ev_iinc rfl
theorem s83_40 : ji_Ev C 83 40 M lv st o ↔ ji_Ev C 83 4 M lv st o := ev_gt rfl (by decide) rfl
theorem s83_43 : ji_Ev C 83 43 M lv st o ↔ ji_Ev C 83 44 M lv (.int 0 :: st) o := ev_go (S := (44, M, lv, (.int 0 :: st))) rfl rfl rfl
theorem s83_44 : ji_Ev C 83 44 M lv [.int x] o ↔ narrow .boolean (.int x) = .int x ∧ o = (some (.int x), M) := ev_iretb rfl rfl
theorem s84_0 : ji_Ev C 84 0 M (some (.ref a) :: l) st o ↔ ji_Ev C 84 1 M (some (.ref a) :: l) (.ref a :: st) o := ev_go (S := (1, M, (some (.ref a) :: l), (.ref a :: st))) rfl rfl rfl
theorem s84_1 : ji_Ev C 84 1 M lv (.ref a :: st) o ↔ ji_kd M a = some (0, 8) ∧ ji_Ev C 84 4 M lv (ji_rv (ji_gR M a 0) :: st) o := ev_getR (k := 84) rfl fd_8_10 rfl
theorem s84_4 : ji_Ev C 84 4 M lv (.ref a :: st) o ↔ ji_kd M a = some (0, 5) ∧ ji_Ev C 84 7 M lv (ji_rv (ji_gR M a 0) :: st) o := ev_getR (k := 84) rfl fd_8_111 rfl
theorem s84_7 : ji_Ev C 84 7 M (l0 :: some (.int x) :: l) st o ↔ ji_Ev C 84 8 M (l0 :: some (.int x) :: l) (.int x :: st) o := ev_go (S := (8, M, (l0 :: some (.int x) :: l), (.int x :: st))) rfl rfl rfl
theorem s84_8 : ji_Ev C 84 8 M lv (p0 :: .ref a :: st) o ↔ (ji_rcb M 2 (.ref a) = true ∧ ji_ok8 st) ∧ ji_evC (C 65 [.ref a, p0] M) (fun v M' => ji_Ev C 84 11 M' lv (v.toList ++ st) o) := ev_inv (k := 84) rfl cd_8_121 rfl
theorem s84_11 : ji_Ev C 84 11 M lv (.int x :: st) o ↔ if x = 0 then ji_Ev C 84 14 M lv st o else ji_Ev C 84 17 M lv st o := ev_brz (c := .ne) rfl (by decide) rfl
theorem s84_14 : ji_Ev C 84 14 M lv st o ↔ ji_Ev C 84 16 M lv (.int (-2) :: st) o := ev_go (S := (16, M, lv, (.int (-2) :: st))) rfl rfl rfl
theorem s84_16 : ji_Ev C 84 16 M lv [.int x] o ↔ o = (some (.int x), M) := ev_ireti rfl rfl
theorem s84_17 : ji_Ev C 84 17 M (some (.ref a) :: l) st o ↔ ji_Ev C 84 18 M (some (.ref a) :: l) (.ref a :: st) o := ev_go (S := (18, M, (some (.ref a) :: l), (.ref a :: st))) rfl rfl rfl
theorem s84_18 : ji_Ev C 84 18 M lv (.ref a :: st) o ↔ ji_kd M a = some (0, 8) ∧ ji_Ev C 84 21 M lv (ji_rv (ji_gR M a 0) :: st) o := ev_getR (k := 84) rfl fd_8_10 rfl
theorem s84_21 : ji_Ev C 84 21 M lv (.ref a :: st) o ↔ ji_kd M a = some (0, 5) ∧ ji_Ev C 84 24 M lv (ji_rv (ji_gR M a 0) :: st) o := ev_getR (k := 84) rfl fd_8_111 rfl
theorem s84_24 : ji_Ev C 84 24 M (l0 :: some (.int x) :: l) st o ↔ ji_Ev C 84 25 M (l0 :: some (.int x) :: l) (.int x :: st) o := ev_go (S := (25, M, (l0 :: some (.int x) :: l), (.int x :: st))) rfl rfl rfl
theorem s84_25 : ji_Ev C 84 25 M lv st o ↔ ji_Ev C 84 26 M lv (.int 5 :: st) o := ev_go (S := (26, M, lv, (.int 5 :: st))) rfl rfl rfl
theorem s84_26 : ji_Ev C 84 26 M lv (p1 :: p0 :: .ref a :: st) o ↔ (ji_rcb M 2 (.ref a) = true ∧ ji_ok8 st) ∧ ji_evC (C 49 [.ref a, p0, p1] M) (fun v M' => ji_Ev C 84 29 M' lv (v.toList ++ st) o) := ev_inv (k := 84) rfl cd_8_140 rfl
theorem s84_29 : ji_Ev C 84 29 M (some (.ref a) :: l) st o ↔ ji_Ev C 84 30 M (some (.ref a) :: l) (.ref a :: st) o := ev_go (S := (30, M, (some (.ref a) :: l), (.ref a :: st))) rfl rfl rfl
theorem s84_30 : ji_Ev C 84 30 M lv (.ref a :: st) o ↔ ji_kd M a = some (0, 8) ∧ ji_Ev C 84 33 M lv (ji_rv (ji_gR M a 0) :: st) o := ev_getR (k := 84) rfl fd_8_10 rfl
theorem s84_33 : ji_Ev C 84 33 M (l0 :: some (.int x) :: l) st o ↔ ji_Ev C 84 34 M (l0 :: some (.int x) :: l) (.int x :: st) o := ev_go (S := (34, M, (l0 :: some (.int x) :: l), (.int x :: st))) rfl rfl rfl
theorem s84_34 : ji_Ev C 84 34 M lv (p0 :: .ref a :: st) o ↔ (ji_rcb M 5 (.ref a) = true ∧ ji_ok8 st) ∧ ji_evC (C 69 [.ref a, p0] M) (fun v M' => ji_Ev C 84 37 M' lv (v.toList ++ st) o) := ev_inv (k := 84) rfl cd_8_131 rfl
theorem s84_37 : ji_Ev C 84 37 M lv (p1 :: p0 :: st) o ↔ ji_ok8 st ∧ ji_evC (C 54 [p0, p1] M) (fun v M' => ji_Ev C 84 40 M' lv (v.toList ++ st) o) := ev_sta (k := 84) (a := [p1, p0]) rfl (Or.inl cd_8_160) rfl
theorem s84_40 : ji_Ev C 84 40 M lv [.int x] o ↔ o = (some (.int x), M) := ev_ireti rfl rfl
theorem s85_0 : ji_Ev C 85 0 M (some (.ref a) :: l) st o ↔ ji_Ev C 85 1 M (some (.ref a) :: l) (.ref a :: st) o := ev_go (S := (1, M, (some (.ref a) :: l), (.ref a :: st))) rfl rfl rfl
theorem s85_1 : ji_Ev C 85 1 M lv (.ref a :: st) o ↔ ji_kd M a = some (0, 8) ∧ ji_Ev C 85 4 M lv (ji_rv (ji_gR M a 1) :: st) o := ev_getR (k := 85) rfl fd_8_19 rfl
theorem s85_4 : ji_Ev C 85 4 M (some (.ref a) :: l) st o ↔ ji_Ev C 85 5 M (some (.ref a) :: l) (.ref a :: st) o := ev_go (S := (5, M, (some (.ref a) :: l), (.ref a :: st))) rfl rfl rfl
theorem s85_5 : ji_Ev C 85 5 M lv (.ref a :: st) o ↔ ji_kd M a = some (0, 8) ∧ ji_Ev C 85 8 M lv (ji_rv (ji_gR M a 0) :: st) o := ev_getR (k := 85) rfl fd_8_10 rfl
theorem s85_8 : ji_Ev C 85 8 M (l0 :: some (.int x) :: l) st o ↔ ji_Ev C 85 9 M (l0 :: some (.int x) :: l) (.int x :: st) o := ev_go (S := (9, M, (l0 :: some (.int x) :: l), (.int x :: st))) rfl rfl rfl
theorem s85_9 : ji_Ev C 85 9 M lv (p1 :: p0 :: .ref a :: st) o ↔ (ji_rcb M 3 (.ref a) = true ∧ ji_ok8 st) ∧ ji_evC (C 86 [.ref a, p0, p1] M) (fun v M' => ji_Ev C 85 12 M' lv (v.toList ++ st) o) := ev_inv (k := 85) rfl cd_8_163 rfl
theorem s85_12 : ji_Ev C 85 12 M lv [.int x] o ↔ o = (some (.int x), M) := ev_ireti rfl rfl
theorem s86_0 : ji_Ev C 86 0 M (some (.ref a) :: l) st o ↔ ji_Ev C 86 1 M (some (.ref a) :: l) (.ref a :: st) o := ev_go (S := (1, M, (some (.ref a) :: l), (.ref a :: st))) rfl rfl rfl
theorem s86_1 : ji_Ev C 86 1 M lv (.ref a :: st) o ↔ ji_kd M a = some (0, 3) ∧ ji_Ev C 86 4 M lv (ji_rv (ji_gR M a 4) :: st) o := ev_getR (k := 86) rfl fd_3_30 rfl
theorem s86_4 : ji_Ev C 86 4 M lv (.ref a :: st) o ↔ ji_evN (ji_kd M a) (fun n => ji_Ev C 86 5 M lv (.int (Int32.ofNat n) :: st) o) := ev_alen rfl
theorem s86_5 : ji_Ev C 86 5 M (l0 :: some (.ref a) :: l) st o ↔ ji_Ev C 86 6 M (l0 :: some (.ref a) :: l) (.ref a :: st) o := ev_go (S := (6, M, (l0 :: some (.ref a) :: l), (.ref a :: st))) rfl rfl rfl
theorem s86_6 : ji_Ev C 86 6 M lv (.ref a :: st) o ↔ ji_kd M a = some (0, 5) ∧ ji_Ev C 86 9 M lv (ji_rv (ji_gR M a 0) :: st) o := ev_getR (k := 86) rfl fd_3_99 rfl
theorem s86_9 : ji_Ev C 86 9 M lv (.ref a :: st) o ↔ (ji_rcb M 2 (.ref a) = true ∧ ji_ok8 st) ∧ ji_evC (C 47 [.ref a] M) (fun v M' => ji_Ev C 86 12 M' lv (v.toList ++ st) o) := ev_inv (k := 86) rfl cd_3_114 rfl
theorem s86_12 : ji_Ev C 86 12 M lv (.int y :: .int x :: st) o ↔ ji_ok8 st ∧ ji_Ev C 86 15 M lv (.int (if y < x then y else x) :: st) o := ev_min (k := 86) rfl cd_3_68
theorem s86_15 : ji_Ev C 86 15 M lv (.int x :: st) o ↔ 3 < lv.length ∧ ji_Ev C 86 16 M (ji_s1 lv 3 (.int x)) st o := ev_stI rfl rfl rfl
theorem s86_16 : ji_Ev C 86 16 M lv st o ↔ ji_Ev C 86 17 M lv (.int 0 :: st) o := ev_go (S := (17, M, lv, (.int 0 :: st))) rfl rfl rfl
theorem s86_17 : ji_Ev C 86 17 M lv (.int x :: st) o ↔ 4 < lv.length ∧ ji_Ev C 86 19 M (ji_s1 lv 4 (.int x)) st o := ev_stI rfl rfl rfl
theorem s86_19 : ji_Ev C 86 19 M (l0 :: l1 :: l2 :: l3 :: some (.int x) :: l) st o ↔ ji_Ev C 86 21 M (l0 :: l1 :: l2 :: l3 :: some (.int x) :: l) (.int x :: st) o := ev_go (S := (21, M, (l0 :: l1 :: l2 :: l3 :: some (.int x) :: l), (.int x :: st))) rfl rfl rfl
theorem s86_21 : ji_Ev C 86 21 M (l0 :: l1 :: l2 :: some (.int x) :: l) st o ↔ ji_Ev C 86 22 M (l0 :: l1 :: l2 :: some (.int x) :: l) (.int x :: st) o := ev_go (S := (22, M, (l0 :: l1 :: l2 :: some (.int x) :: l), (.int x :: st))) rfl rfl rfl
theorem s86_22 : ji_Ev C 86 22 M lv (.int y :: .int x :: st) o ↔ if x < y then ji_Ev C 86 25 M lv st o else ji_Ev C 86 46 M lv st o := ev_brc (c := .ge) rfl (by decide) rfl
theorem s86_25 : ji_Ev C 86 25 M (some (.ref a) :: l) st o ↔ ji_Ev C 86 26 M (some (.ref a) :: l) (.ref a :: st) o := ev_go (S := (26, M, (some (.ref a) :: l), (.ref a :: st))) rfl rfl rfl
theorem s86_26 : ji_Ev C 86 26 M lv (.ref a :: st) o ↔ ji_kd M a = some (0, 3) ∧ ji_Ev C 86 29 M lv (ji_rv (ji_gR M a 4) :: st) o := ev_getR (k := 86) rfl fd_3_30 rfl
theorem s86_29 : ji_Ev C 86 29 M (l0 :: l1 :: l2 :: l3 :: some (.int x) :: l) st o ↔ ji_Ev C 86 31 M (l0 :: l1 :: l2 :: l3 :: some (.int x) :: l) (.int x :: st) o := ev_go (S := (31, M, (l0 :: l1 :: l2 :: l3 :: some (.int x) :: l), (.int x :: st))) rfl rfl rfl
theorem s86_31 : ji_Ev C 86 31 M (some (.ref a) :: l) st o ↔ ji_Ev C 86 32 M (some (.ref a) :: l) (.ref a :: st) o := ev_go (S := (32, M, (some (.ref a) :: l), (.ref a :: st))) rfl rfl rfl
theorem s86_32 : ji_Ev C 86 32 M (l0 :: some (.ref a) :: l) st o ↔ ji_Ev C 86 33 M (l0 :: some (.ref a) :: l) (.ref a :: st) o := ev_go (S := (33, M, (l0 :: some (.ref a) :: l), (.ref a :: st))) rfl rfl rfl
theorem s86_33 : ji_Ev C 86 33 M (l0 :: l1 :: l2 :: l3 :: some (.int x) :: l) st o ↔ ji_Ev C 86 35 M (l0 :: l1 :: l2 :: l3 :: some (.int x) :: l) (.int x :: st) o := ev_go (S := (35, M, (l0 :: l1 :: l2 :: l3 :: some (.int x) :: l), (.int x :: st))) rfl rfl rfl
theorem s86_35 : ji_Ev C 86 35 M lv st o ↔ ji_Ev C 86 36 M lv (.int 0 :: st) o := ev_go (S := (36, M, lv, (.int 0 :: st))) rfl rfl rfl
theorem s86_36 : ji_Ev C 86 36 M lv (p2 :: p1 :: p0 :: .ref a :: st) o ↔ (ji_rcb M 3 (.ref a) = true ∧ ji_ok8 st) ∧ ji_evC (C 74 [.ref a, p0, p1, p2] M) (fun v M' => ji_Ev C 86 39 M' lv (v.toList ++ st) o) := ev_inv (k := 86) rfl cd_3_95 rfl
theorem s86_39 : ji_Ev C 86 39 M lv (.int y :: .int x :: .ref a :: st) o ↔ ji_evA (ji_kd M a) (fun n => vp_in x n ∧ ji_Ev C 86 40 (ji_sI M a x.toNatClampNeg y) lv st o) := ev_iast rfl
theorem s86_40 : ji_Ev C 86 40 M lv st o ↔ ji_evL (lv.getD 4 none) ji_isI (fun v => match v with | .int x => 4 < lv.length ∧ ji_Ev C 86 43 M (ji_s1 lv 4 (.int (x + Int32.ofInt 1))) st o | _ => False) := ev_iinc rfl
theorem s86_43 : ji_Ev C 86 43 M lv st o ↔ ji_Ev C 86 19 M lv st o := ev_gt rfl (by decide) rfl
theorem s86_46 : ji_Ev C 86 46 M lv st o ↔ ji_Ev C 86 47 M lv (.int 0 :: st) o := ev_go (S := (47, M, lv, (.int 0 :: st))) rfl rfl rfl
theorem s86_47 : ji_Ev C 86 47 M lv (.int x :: st) o ↔ 4 < lv.length ∧ ji_Ev C 86 49 M (ji_s1 lv 4 (.int x)) st o := ev_stI rfl rfl rfl
theorem s86_49 : ji_Ev C 86 49 M (l0 :: l1 :: l2 :: l3 :: some (.int x) :: l) st o ↔ ji_Ev C 86 51 M (l0 :: l1 :: l2 :: l3 :: some (.int x) :: l) (.int x :: st) o := ev_go (S := (51, M, (l0 :: l1 :: l2 :: l3 :: some (.int x) :: l), (.int x :: st))) rfl rfl rfl
theorem s86_51 : ji_Ev C 86 51 M (l0 :: l1 :: l2 :: some (.int x) :: l) st o ↔ ji_Ev C 86 52 M (l0 :: l1 :: l2 :: some (.int x) :: l) (.int x :: st) o := ev_go (S := (52, M, (l0 :: l1 :: l2 :: some (.int x) :: l), (.int x :: st))) rfl rfl rfl
theorem s86_52 : ji_Ev C 86 52 M lv (.int y :: .int x :: st) o ↔ if x < y then ji_Ev C 86 55 M lv st o else ji_Ev C 86 85 M lv st o := ev_brc (c := .ge) rfl (by decide) rfl
theorem s86_55 : ji_Ev C 86 55 M (l0 :: some (.ref a) :: l) st o ↔ ji_Ev C 86 56 M (l0 :: some (.ref a) :: l) (.ref a :: st) o := ev_go (S := (56, M, (l0 :: some (.ref a) :: l), (.ref a :: st))) rfl rfl rfl
theorem s86_56 : ji_Ev C 86 56 M (l0 :: l1 :: l2 :: l3 :: some (.int x) :: l) st o ↔ ji_Ev C 86 58 M (l0 :: l1 :: l2 :: l3 :: some (.int x) :: l) (.int x :: st) o := ev_go (S := (58, M, (l0 :: l1 :: l2 :: l3 :: some (.int x) :: l), (.int x :: st))) rfl rfl rfl
theorem s86_58 : ji_Ev C 86 58 M lv (p0 :: .ref a :: st) o ↔ (ji_rcb M 5 (.ref a) = true ∧ ji_ok8 st) ∧ ji_evC (C 50 [.ref a, p0] M) (fun v M' => ji_Ev C 86 61 M' lv (v.toList ++ st) o) := ev_inv (k := 86) rfl cd_3_117 rfl
theorem s86_61 : ji_Ev C 86 61 M lv (.int x :: st) o ↔ if x = 0 then ji_Ev C 86 79 M lv st o else ji_Ev C 86 64 M lv st o := ev_brz (c := .eq) rfl (by decide) rfl
theorem s86_64 : ji_Ev C 86 64 M (some (.ref a) :: l) st o ↔ ji_Ev C 86 65 M (some (.ref a) :: l) (.ref a :: st) o := ev_go (S := (65, M, (some (.ref a) :: l), (.ref a :: st))) rfl rfl rfl
theorem s86_65 : ji_Ev C 86 65 M (l0 :: some (.ref a) :: l) st o ↔ ji_Ev C 86 66 M (l0 :: some (.ref a) :: l) (.ref a :: st) o := ev_go (S := (66, M, (l0 :: some (.ref a) :: l), (.ref a :: st))) rfl rfl rfl
theorem s86_66 : ji_Ev C 86 66 M (l0 :: l1 :: l2 :: l3 :: some (.int x) :: l) st o ↔ ji_Ev C 86 68 M (l0 :: l1 :: l2 :: l3 :: some (.int x) :: l) (.int x :: st) o := ev_go (S := (68, M, (l0 :: l1 :: l2 :: l3 :: some (.int x) :: l), (.int x :: st))) rfl rfl rfl
theorem s86_68 : ji_Ev C 86 68 M (l0 :: l1 :: l2 :: some (.int x) :: l) st o ↔ ji_Ev C 86 69 M (l0 :: l1 :: l2 :: some (.int x) :: l) (.int x :: st) o := ev_go (S := (69, M, (l0 :: l1 :: l2 :: some (.int x) :: l), (.int x :: st))) rfl rfl rfl
theorem s86_69 : ji_Ev C 86 69 M lv (p2 :: p1 :: p0 :: .ref a :: st) o ↔ (ji_rcb M 3 (.ref a) = true ∧ ji_ok8 st) ∧ ji_evC (C 87 [.ref a, p0, p1, p2] M) (fun v M' => ji_Ev C 86 72 M' lv (v.toList ++ st) o) := ev_inv (k := 86) rfl cd_3_121 rfl
theorem s86_72 : ji_Ev C 86 72 M (l0 :: l1 :: some (.int x) :: l) st o ↔ ji_Ev C 86 73 M (l0 :: l1 :: some (.int x) :: l) (.int x :: st) o := ev_go (S := (73, M, (l0 :: l1 :: some (.int x) :: l), (.int x :: st))) rfl rfl rfl
theorem s86_73 : ji_Ev C 86 73 M lv (.int y :: .int x :: st) o ↔ if x = y then ji_Ev C 86 76 M lv st o else ji_Ev C 86 79 M lv st o := ev_brc (c := .ne) rfl (by decide) rfl
theorem s86_76 : ji_Ev C 86 76 M (l0 :: l1 :: l2 :: l3 :: some (.int x) :: l) st o ↔ ji_Ev C 86 78 M (l0 :: l1 :: l2 :: l3 :: some (.int x) :: l) (.int x :: st) o := ev_go (S := (78, M, (l0 :: l1 :: l2 :: l3 :: some (.int x) :: l), (.int x :: st))) rfl rfl rfl
theorem s86_78 : ji_Ev C 86 78 M lv [.int x] o ↔ o = (some (.int x), M) := ev_ireti rfl rfl
theorem s86_79 : ji_Ev C 86 79 M lv st o ↔ ji_evL (lv.getD 4 none) ji_isI (fun v => match v with | .int x => 4 < lv.length ∧ ji_Ev C 86 82 M (ji_s1 lv 4 (.int (x + Int32.ofInt 1))) st o | _ => False) := ev_iinc rfl
theorem s86_82 : ji_Ev C 86 82 M lv st o ↔ ji_Ev C 86 49 M lv st o := ev_gt rfl (by decide) rfl
theorem s86_85 : ji_Ev C 86 85 M lv st o ↔ ji_Ev C 86 86 M lv (.int (-1) :: st) o := ev_go (S := (86, M, lv, (.int (-1) :: st))) rfl rfl rfl
theorem s86_86 : ji_Ev C 86 86 M lv [.int x] o ↔ o = (some (.int x), M) := ev_ireti rfl rfl
theorem s87_0 : ji_Ev C 87 0 M lv st o ↔ ji_Ev C 87 1 M lv (.int 0 :: st) o := ev_go (S := (1, M, lv, (.int 0 :: st))) rfl rfl rfl
theorem s87_1 : ji_Ev C 87 1 M lv (.int x :: st) o ↔ 4 < lv.length ∧ ji_Ev C 87 3 M (ji_s1 lv 4 (.int x)) st o := ev_stI rfl rfl rfl
theorem s87_3 : ji_Ev C 87 3 M lv st o ↔ ji_Ev C 87 4 M lv (.int 0 :: st) o := ev_go (S := (4, M, lv, (.int 0 :: st))) rfl rfl rfl
theorem s87_4 : ji_Ev C 87 4 M lv (.int x :: st) o ↔ 5 < lv.length ∧ ji_Ev C 87 6 M (ji_s1 lv 5 (.int x)) st o := ev_stI rfl rfl rfl
theorem s87_6 : ji_Ev C 87 6 M (l0 :: l1 :: l2 :: l3 :: l4 :: some (.int x) :: l) st o ↔ ji_Ev C 87 8 M (l0 :: l1 :: l2 :: l3 :: l4 :: some (.int x) :: l) (.int x :: st) o := ev_go (S := (8, M, (l0 :: l1 :: l2 :: l3 :: l4 :: some (.int x) :: l), (.int x :: st))) rfl rfl rfl
theorem s87_8 : ji_Ev C 87 8 M (l0 :: l1 :: l2 :: some (.int x) :: l) st o ↔ ji_Ev C 87 9 M (l0 :: l1 :: l2 :: some (.int x) :: l) (.int x :: st) o := ev_go (S := (9, M, (l0 :: l1 :: l2 :: some (.int x) :: l), (.int x :: st))) rfl rfl rfl
theorem s87_9 : ji_Ev C 87 9 M lv (.int y :: .int x :: st) o ↔ if x < y then ji_Ev C 87 12 M lv st o else ji_Ev C 87 87 M lv st o := ev_brc (c := .ge) rfl (by decide) rfl
theorem s87_12 : ji_Ev C 87 12 M (some (.ref a) :: l) st o ↔ ji_Ev C 87 13 M (some (.ref a) :: l) (.ref a :: st) o := ev_go (S := (13, M, (some (.ref a) :: l), (.ref a :: st))) rfl rfl rfl
theorem s87_13 : ji_Ev C 87 13 M lv (.ref a :: st) o ↔ ji_kd M a = some (0, 3) ∧ ji_Ev C 87 16 M lv (ji_rv (ji_gR M a 4) :: st) o := ev_getR (k := 87) rfl fd_3_30 rfl
theorem s87_16 : ji_Ev C 87 16 M (l0 :: l1 :: l2 :: l3 :: l4 :: some (.int x) :: l) st o ↔ ji_Ev C 87 18 M (l0 :: l1 :: l2 :: l3 :: l4 :: some (.int x) :: l) (.int x :: st) o := ev_go (S := (18, M, (l0 :: l1 :: l2 :: l3 :: l4 :: some (.int x) :: l), (.int x :: st))) rfl rfl rfl
theorem s87_18 : ji_Ev C 87 18 M lv (.int x :: .ref a :: st) o ↔ ji_evA (ji_kd M a) (fun n => vp_in x n ∧ ji_Ev C 87 19 M lv (.int (ji_gI M a x.toNatClampNeg) :: st) o) := ev_iald rfl
theorem s87_19 : ji_Ev C 87 19 M (some (.ref a) :: l) st o ↔ ji_Ev C 87 20 M (some (.ref a) :: l) (.ref a :: st) o := ev_go (S := (20, M, (some (.ref a) :: l), (.ref a :: st))) rfl rfl rfl
theorem s87_20 : ji_Ev C 87 20 M lv (.ref a :: st) o ↔ ji_kd M a = some (0, 3) ∧ ji_Ev C 87 23 M lv (ji_rv (ji_gR M a 4) :: st) o := ev_getR (k := 87) rfl fd_3_30 rfl
theorem s87_23 : ji_Ev C 87 23 M (l0 :: l1 :: some (.int x) :: l) st o ↔ ji_Ev C 87 24 M (l0 :: l1 :: some (.int x) :: l) (.int x :: st) o := ev_go (S := (24, M, (l0 :: l1 :: some (.int x) :: l), (.int x :: st))) rfl rfl rfl
theorem s87_24 : ji_Ev C 87 24 M lv (.int x :: .ref a :: st) o ↔ ji_evA (ji_kd M a) (fun n => vp_in x n ∧ ji_Ev C 87 25 M lv (.int (ji_gI M a x.toNatClampNeg) :: st) o) := ev_iald rfl
theorem s87_25 : ji_Ev C 87 25 M lv (.int y :: .int x :: st) o ↔ if y < x then ji_Ev C 87 50 M lv st o else ji_Ev C 87 28 M lv st o := ev_brc (c := .gt) rfl (by decide) rfl
theorem s87_28 : ji_Ev C 87 28 M (some (.ref a) :: l) st o ↔ ji_Ev C 87 29 M (some (.ref a) :: l) (.ref a :: st) o := ev_go (S := (29, M, (some (.ref a) :: l), (.ref a :: st))) rfl rfl rfl
theorem s87_29 : ji_Ev C 87 29 M lv (.ref a :: st) o ↔ ji_kd M a = some (0, 3) ∧ ji_Ev C 87 32 M lv (ji_rv (ji_gR M a 4) :: st) o := ev_getR (k := 87) rfl fd_3_30 rfl
theorem s87_32 : ji_Ev C 87 32 M (l0 :: l1 :: l2 :: l3 :: l4 :: some (.int x) :: l) st o ↔ ji_Ev C 87 34 M (l0 :: l1 :: l2 :: l3 :: l4 :: some (.int x) :: l) (.int x :: st) o := ev_go (S := (34, M, (l0 :: l1 :: l2 :: l3 :: l4 :: some (.int x) :: l), (.int x :: st))) rfl rfl rfl
theorem s87_34 : ji_Ev C 87 34 M lv (.int x :: .ref a :: st) o ↔ ji_evA (ji_kd M a) (fun n => vp_in x n ∧ ji_Ev C 87 35 M lv (.int (ji_gI M a x.toNatClampNeg) :: st) o) := ev_iald rfl
theorem s87_35 : ji_Ev C 87 35 M (some (.ref a) :: l) st o ↔ ji_Ev C 87 36 M (some (.ref a) :: l) (.ref a :: st) o := ev_go (S := (36, M, (some (.ref a) :: l), (.ref a :: st))) rfl rfl rfl
theorem s87_36 : ji_Ev C 87 36 M lv (.ref a :: st) o ↔ ji_kd M a = some (0, 3) ∧ ji_Ev C 87 39 M lv (ji_rv (ji_gR M a 4) :: st) o := ev_getR (k := 87) rfl fd_3_30 rfl
theorem s87_39 : ji_Ev C 87 39 M (l0 :: l1 :: some (.int x) :: l) st o ↔ ji_Ev C 87 40 M (l0 :: l1 :: some (.int x) :: l) (.int x :: st) o := ev_go (S := (40, M, (l0 :: l1 :: some (.int x) :: l), (.int x :: st))) rfl rfl rfl
theorem s87_40 : ji_Ev C 87 40 M lv (.int x :: .ref a :: st) o ↔ ji_evA (ji_kd M a) (fun n => vp_in x n ∧ ji_Ev C 87 41 M lv (.int (ji_gI M a x.toNatClampNeg) :: st) o) := ev_iald rfl
theorem s87_41 : ji_Ev C 87 41 M lv (.int y :: .int x :: st) o ↔ if x = y then ji_Ev C 87 44 M lv st o else ji_Ev C 87 54 M lv st o := ev_brc (c := .ne) rfl (by decide) rfl
theorem s87_44 : ji_Ev C 87 44 M (l0 :: l1 :: l2 :: l3 :: l4 :: some (.int x) :: l) st o ↔ ji_Ev C 87 46 M (l0 :: l1 :: l2 :: l3 :: l4 :: some (.int x) :: l) (.int x :: st) o := ev_go (S := (46, M, (l0 :: l1 :: l2 :: l3 :: l4 :: some (.int x) :: l), (.int x :: st))) rfl rfl rfl
theorem s87_46 : ji_Ev C 87 46 M (l0 :: l1 :: some (.int x) :: l) st o ↔ ji_Ev C 87 47 M (l0 :: l1 :: some (.int x) :: l) (.int x :: st) o := ev_go (S := (47, M, (l0 :: l1 :: some (.int x) :: l), (.int x :: st))) rfl rfl rfl
theorem s87_47 : ji_Ev C 87 47 M lv (.int y :: .int x :: st) o ↔ if x < y then ji_Ev C 87 50 M lv st o else ji_Ev C 87 54 M lv st o := ev_brc (c := .ge) rfl (by decide) rfl
theorem s87_50 : ji_Ev C 87 50 M lv st o ↔ ji_Ev C 87 51 M lv (.int 1 :: st) o := ev_go (S := (51, M, lv, (.int 1 :: st))) rfl rfl rfl
theorem s87_51 : ji_Ev C 87 51 M lv st o ↔ ji_Ev C 87 55 M lv st o := ev_gt rfl (by decide) rfl
theorem s87_54 : ji_Ev C 87 54 M lv st o ↔ ji_Ev C 87 55 M lv (.int 0 :: st) o := ev_go (S := (55, M, lv, (.int 0 :: st))) rfl rfl rfl
theorem s87_55 : ji_Ev C 87 55 M lv (.int x :: st) o ↔ 6 < lv.length ∧ ji_Ev C 87 57 M (ji_s1 lv 6 (.int x)) st o := ev_stI rfl rfl rfl
theorem s87_57 : ji_Ev C 87 57 M (l0 :: l1 :: l2 :: l3 :: some (.int x) :: l) st o ↔ ji_Ev C 87 59 M (l0 :: l1 :: l2 :: l3 :: some (.int x) :: l) (.int x :: st) o := ev_go (S := (59, M, (l0 :: l1 :: l2 :: l3 :: some (.int x) :: l), (.int x :: st))) rfl rfl rfl
theorem s87_59 : ji_Ev C 87 59 M (l0 :: l1 :: l2 :: l3 :: l4 :: l5 :: some (.int x) :: l) st o ↔ ji_Ev C 87 61 M (l0 :: l1 :: l2 :: l3 :: l4 :: l5 :: some (.int x) :: l) (.int x :: st) o := ev_go (S := (61, M, (l0 :: l1 :: l2 :: l3 :: l4 :: l5 :: some (.int x) :: l), (.int x :: st))) rfl rfl rfl
theorem s87_61 : ji_Ev C 87 61 M lv (.int x :: st) o ↔ if x = 0 then ji_Ev C 87 77 M lv st o else ji_Ev C 87 64 M lv st o := ev_brz (c := .eq) rfl (by decide) rfl
theorem s87_64 : ji_Ev C 87 64 M (l0 :: some (.ref a) :: l) st o ↔ ji_Ev C 87 65 M (l0 :: some (.ref a) :: l) (.ref a :: st) o := ev_go (S := (65, M, (l0 :: some (.ref a) :: l), (.ref a :: st))) rfl rfl rfl
theorem s87_65 : ji_Ev C 87 65 M (l0 :: l1 :: l2 :: l3 :: l4 :: some (.int x) :: l) st o ↔ ji_Ev C 87 67 M (l0 :: l1 :: l2 :: l3 :: l4 :: some (.int x) :: l) (.int x :: st) o := ev_go (S := (67, M, (l0 :: l1 :: l2 :: l3 :: l4 :: some (.int x) :: l), (.int x :: st))) rfl rfl rfl
theorem s87_67 : ji_Ev C 87 67 M lv (p0 :: .ref a :: st) o ↔ (ji_rcb M 5 (.ref a) = true ∧ ji_ok8 st) ∧ ji_evC (C 50 [.ref a, p0] M) (fun v M' => ji_Ev C 87 70 M' lv (v.toList ++ st) o) := ev_inv (k := 87) rfl cd_3_117 rfl
theorem s87_70 : ji_Ev C 87 70 M lv (.int x :: st) o ↔ if x = 0 then ji_Ev C 87 77 M lv st o else ji_Ev C 87 73 M lv st o := ev_brz (c := .eq) rfl (by decide) rfl
theorem s87_73 : ji_Ev C 87 73 M lv st o ↔ ji_Ev C 87 74 M lv (.int 1 :: st) o := ev_go (S := (74, M, lv, (.int 1 :: st))) rfl rfl rfl
theorem s87_74 : ji_Ev C 87 74 M lv st o ↔ ji_Ev C 87 78 M lv st o := ev_gt rfl (by decide) rfl
theorem s87_77 : ji_Ev C 87 77 M lv st o ↔ ji_Ev C 87 78 M lv (.int 0 :: st) o := ev_go (S := (78, M, lv, (.int 0 :: st))) rfl rfl rfl
theorem s87_78 : ji_Ev C 87 78 M lv (.int y :: .int x :: st) o ↔ ji_Ev C 87 79 M lv (.int (x + y) :: st) o := ev_go (S := (79, M, lv, (.int (x + y) :: st))) rfl rfl rfl
theorem s87_79 : ji_Ev C 87 79 M lv (.int x :: st) o ↔ 4 < lv.length ∧ ji_Ev C 87 81 M (ji_s1 lv 4 (.int x)) st o := ev_stI rfl rfl rfl
theorem s87_81 : ji_Ev C 87 81 M lv st o ↔ ji_evL (lv.getD 5 none) ji_isI (fun v => match v with | .int x => 5 < lv.length ∧ ji_Ev C 87 84 M (ji_s1 lv 5 (.int (x + Int32.ofInt 1))) st o | _ => False) := ev_iinc rfl
theorem s87_84 : ji_Ev C 87 84 M lv st o ↔ ji_Ev C 87 6 M lv st o := ev_gt rfl (by decide) rfl
theorem s87_87 : ji_Ev C 87 87 M (l0 :: l1 :: l2 :: l3 :: some (.int x) :: l) st o ↔ ji_Ev C 87 89 M (l0 :: l1 :: l2 :: l3 :: some (.int x) :: l) (.int x :: st) o := ev_go (S := (89, M, (l0 :: l1 :: l2 :: l3 :: some (.int x) :: l), (.int x :: st))) rfl rfl rfl
theorem s87_89 : ji_Ev C 87 89 M lv [.int x] o ↔ o = (some (.int x), M) := ev_ireti rfl rfl
theorem s88_0 : ji_Ev C 88 0 M (l0 :: some (.int x) :: l) st o ↔ ji_Ev C 88 1 M (l0 :: some (.int x) :: l) (.int x :: st) o := ev_go (S := (1, M, (l0 :: some (.int x) :: l), (.int x :: st))) rfl rfl rfl
theorem s88_1 : ji_Ev C 88 1 M lv st o ↔ ji_Ev C 88 2 M lv (.int (-1) :: st) o := ev_go (S := (2, M, lv, (.int (-1) :: st))) rfl rfl rfl
theorem s88_2 : ji_Ev C 88 2 M lv (.int y :: .int x :: st) o ↔ if x = y then ji_Ev C 88 5 M lv st o else ji_Ev C 88 17 M lv st o := ev_brc (c := .ne) rfl (by decide) rfl
theorem s88_5 : ji_Ev C 88 5 M (some (.ref a) :: l) st o ↔ ji_Ev C 88 6 M (some (.ref a) :: l) (.ref a :: st) o := ev_go (S := (6, M, (some (.ref a) :: l), (.ref a :: st))) rfl rfl rfl
theorem s88_6 : ji_Ev C 88 6 M lv (.ref a :: st) o ↔ ji_kd M a = some (0, 8) ∧ ji_Ev C 88 9 M lv (ji_rv (ji_gR M a 1) :: st) o := ev_getR (k := 88) rfl fd_8_19 rfl
theorem s88_9 : ji_Ev C 88 9 M (some (.ref a) :: l) st o ↔ ji_Ev C 88 10 M (some (.ref a) :: l) (.ref a :: st) o := ev_go (S := (10, M, (some (.ref a) :: l), (.ref a :: st))) rfl rfl rfl
theorem s88_10 : ji_Ev C 88 10 M lv (.ref a :: st) o ↔ ji_kd M a = some (0, 8) ∧ ji_Ev C 88 13 M lv (ji_rv (ji_gR M a 0) :: st) o := ev_getR (k := 88) rfl fd_8_10 rfl
theorem s88_13 : ji_Ev C 88 13 M lv (p0 :: .ref a :: st) o ↔ (ji_rcb M 3 (.ref a) = true ∧ ji_ok8 st) ∧ ji_evC (C 89 [.ref a, p0] M) (fun v M' => ji_Ev C 88 16 M' lv (v.toList ++ st) o) := ev_inv (k := 88) rfl cd_8_167 rfl
theorem s88_16 : ji_Ev C 88 16 M lv [.long u] o ↔ o = (some (.long u), M) := ev_lret rfl rfl
theorem s88_17 : ji_Ev C 88 17 M (some (.ref a) :: l) st o ↔ ji_Ev C 88 18 M (some (.ref a) :: l) (.ref a :: st) o := ev_go (S := (18, M, (some (.ref a) :: l), (.ref a :: st))) rfl rfl rfl
theorem s88_18 : ji_Ev C 88 18 M lv (.ref a :: st) o ↔ ji_kd M a = some (0, 8) ∧ ji_Ev C 88 21 M lv (ji_rv (ji_gR M a 0) :: st) o := ev_getR (k := 88) rfl fd_8_10 rfl
theorem s88_21 : ji_Ev C 88 21 M lv (.ref a :: st) o ↔ ji_kd M a = some (0, 5) ∧ ji_Ev C 88 24 M lv (ji_rv (ji_gR M a 0) :: st) o := ev_getR (k := 88) rfl fd_8_111 rfl
theorem s88_24 : ji_Ev C 88 24 M (l0 :: some (.int x) :: l) st o ↔ ji_Ev C 88 25 M (l0 :: some (.int x) :: l) (.int x :: st) o := ev_go (S := (25, M, (l0 :: some (.int x) :: l), (.int x :: st))) rfl rfl rfl
theorem s88_25 : ji_Ev C 88 25 M lv (p0 :: .ref a :: st) o ↔ (ji_rcb M 2 (.ref a) = true ∧ ji_ok8 st) ∧ ji_evC (C 65 [.ref a, p0] M) (fun v M' => ji_Ev C 88 28 M' lv (v.toList ++ st) o) := ev_inv (k := 88) rfl cd_8_121 rfl
theorem s88_28 : ji_Ev C 88 28 M lv (.int x :: st) o ↔ if x = 0 then ji_Ev C 88 46 M lv st o else ji_Ev C 88 31 M lv st o := ev_brz (c := .eq) rfl (by decide) rfl
theorem s88_31 : ji_Ev C 88 31 M (some (.ref a) :: l) st o ↔ ji_Ev C 88 32 M (some (.ref a) :: l) (.ref a :: st) o := ev_go (S := (32, M, (some (.ref a) :: l), (.ref a :: st))) rfl rfl rfl
theorem s88_32 : ji_Ev C 88 32 M lv (.ref a :: st) o ↔ ji_kd M a = some (0, 8) ∧ ji_Ev C 88 35 M lv (ji_rv (ji_gR M a 1) :: st) o := ev_getR (k := 88) rfl fd_8_19 rfl
theorem s88_35 : ji_Ev C 88 35 M (some (.ref a) :: l) st o ↔ ji_Ev C 88 36 M (some (.ref a) :: l) (.ref a :: st) o := ev_go (S := (36, M, (some (.ref a) :: l), (.ref a :: st))) rfl rfl rfl
theorem s88_36 : ji_Ev C 88 36 M lv (.ref a :: st) o ↔ ji_kd M a = some (0, 8) ∧ ji_Ev C 88 39 M lv (ji_rv (ji_gR M a 0) :: st) o := ev_getR (k := 88) rfl fd_8_10 rfl
theorem s88_39 : ji_Ev C 88 39 M (l0 :: some (.int x) :: l) st o ↔ ji_Ev C 88 40 M (l0 :: some (.int x) :: l) (.int x :: st) o := ev_go (S := (40, M, (l0 :: some (.int x) :: l), (.int x :: st))) rfl rfl rfl
theorem s88_40 : ji_Ev C 88 40 M lv (p1 :: p0 :: .ref a :: st) o ↔ (ji_rcb M 3 (.ref a) = true ∧ ji_ok8 st) ∧ ji_evC (C 91 [.ref a, p0, p1] M) (fun v M' => ji_Ev C 88 43 M' lv (v.toList ++ st) o) := ev_inv (k := 88) rfl cd_8_171 rfl
theorem s88_43 : ji_Ev C 88 43 M lv st o ↔ ji_Ev C 88 49 M lv st o := ev_gt rfl (by decide) rfl
theorem s88_46 : ji_Ev C 88 46 M lv st o ↔ ji_Ev C 88 49 M lv (.long (-4611686018427387904) :: st) o := ev_go (S := (49, M, lv, (.long (-4611686018427387904) :: st))) rfl rfl rfl
theorem s88_49 : ji_Ev C 88 49 M lv [.long u] o ↔ o = (some (.long u), M) := ev_lret rfl rfl
theorem s89_0 : ji_Ev C 89 0 M lv st o ↔ ji_Ev C 89 1 M lv (.long 0 :: st) o := ev_go (S := (1, M, lv, (.long 0 :: st))) rfl rfl rfl
theorem s89_1 : ji_Ev C 89 1 M lv (.long u :: st) o ↔ 3 < lv.length ∧ ji_Ev C 89 2 M (ji_s2 lv 2 (.long u)) st o := ev_stL rfl rfl rfl
theorem s89_2 : ji_Ev C 89 2 M lv st o ↔ ji_Ev C 89 3 M lv (.int 0 :: st) o := ev_go (S := (3, M, lv, (.int 0 :: st))) rfl rfl rfl
theorem s89_3 : ji_Ev C 89 3 M lv (.int x :: st) o ↔ 4 < lv.length ∧ ji_Ev C 89 5 M (ji_s1 lv 4 (.int x)) st o := ev_stI rfl rfl rfl
theorem s89_5 : ji_Ev C 89 5 M (l0 :: l1 :: l2 :: l3 :: some (.int x) :: l) st o ↔ ji_Ev C 89 7 M (l0 :: l1 :: l2 :: l3 :: some (.int x) :: l) (.int x :: st) o := ev_go (S := (7, M, (l0 :: l1 :: l2 :: l3 :: some (.int x) :: l), (.int x :: st))) rfl rfl rfl
theorem s89_7 : ji_Ev C 89 7 M (l0 :: some (.ref a) :: l) st o ↔ ji_Ev C 89 8 M (l0 :: some (.ref a) :: l) (.ref a :: st) o := ev_go (S := (8, M, (l0 :: some (.ref a) :: l), (.ref a :: st))) rfl rfl rfl
theorem s89_8 : ji_Ev C 89 8 M lv (.ref a :: st) o ↔ ji_kd M a = some (0, 5) ∧ ji_Ev C 89 11 M lv (ji_rv (ji_gR M a 0) :: st) o := ev_getR (k := 89) rfl fd_3_99 rfl
theorem s89_11 : ji_Ev C 89 11 M lv (.ref a :: st) o ↔ (ji_rcb M 2 (.ref a) = true ∧ ji_ok8 st) ∧ ji_evC (C 47 [.ref a] M) (fun v M' => ji_Ev C 89 14 M' lv (v.toList ++ st) o) := ev_inv (k := 89) rfl cd_3_114 rfl
theorem s89_14 : ji_Ev C 89 14 M lv (.int y :: .int x :: st) o ↔ if x < y then ji_Ev C 89 17 M lv st o else ji_Ev C 89 48 M lv st o := ev_brc (c := .ge) rfl (by decide) rfl
theorem s89_17 : ji_Ev C 89 17 M (l0 :: l1 :: some (.long u) :: l) st o ↔ ji_Ev C 89 18 M (l0 :: l1 :: some (.long u) :: l) (.long u :: st) o := ev_go (S := (18, M, (l0 :: l1 :: some (.long u) :: l), (.long u :: st))) rfl rfl rfl
theorem s89_18 : ji_Ev C 89 18 M (some (.ref a) :: l) st o ↔ ji_Ev C 89 19 M (some (.ref a) :: l) (.ref a :: st) o := ev_go (S := (19, M, (some (.ref a) :: l), (.ref a :: st))) rfl rfl rfl
theorem s89_19 : ji_Ev C 89 19 M (l0 :: some (.ref a) :: l) st o ↔ ji_Ev C 89 20 M (l0 :: some (.ref a) :: l) (.ref a :: st) o := ev_go (S := (20, M, (l0 :: some (.ref a) :: l), (.ref a :: st))) rfl rfl rfl
theorem s89_20 : ji_Ev C 89 20 M (l0 :: l1 :: l2 :: l3 :: some (.int x) :: l) st o ↔ ji_Ev C 89 22 M (l0 :: l1 :: l2 :: l3 :: some (.int x) :: l) (.int x :: st) o := ev_go (S := (22, M, (l0 :: l1 :: l2 :: l3 :: some (.int x) :: l), (.int x :: st))) rfl rfl rfl
theorem s89_22 : ji_Ev C 89 22 M lv st o ↔ ji_Ev C 89 23 M lv (.int 2 :: st) o := ev_go (S := (23, M, lv, (.int 2 :: st))) rfl rfl rfl
theorem s89_23 : ji_Ev C 89 23 M lv (p2 :: p1 :: p0 :: .ref a :: st) o ↔ (ji_rcb M 3 (.ref a) = true ∧ ji_ok8 st) ∧ ji_evC (C 74 [.ref a, p0, p1, p2] M) (fun v M' => ji_Ev C 89 26 M' lv (v.toList ++ st) o) := ev_inv (k := 89) rfl cd_3_95 rfl
theorem s89_26 : ji_Ev C 89 26 M (l0 :: some (.ref a) :: l) st o ↔ ji_Ev C 89 27 M (l0 :: some (.ref a) :: l) (.ref a :: st) o := ev_go (S := (27, M, (l0 :: some (.ref a) :: l), (.ref a :: st))) rfl rfl rfl
theorem s89_27 : ji_Ev C 89 27 M lv (.ref a :: st) o ↔ ji_kd M a = some (0, 5) ∧ ji_Ev C 89 30 M lv (ji_rv (ji_gR M a 0) :: st) o := ev_getR (k := 89) rfl fd_3_99 rfl
theorem s89_30 : ji_Ev C 89 30 M (l0 :: l1 :: l2 :: l3 :: some (.int x) :: l) st o ↔ ji_Ev C 89 32 M (l0 :: l1 :: l2 :: l3 :: some (.int x) :: l) (.int x :: st) o := ev_go (S := (32, M, (l0 :: l1 :: l2 :: l3 :: some (.int x) :: l), (.int x :: st))) rfl rfl rfl
theorem s89_32 : ji_Ev C 89 32 M lv st o ↔ ji_Ev C 89 34 M lv (.int 6 :: st) o := ev_go (S := (34, M, lv, (.int 6 :: st))) rfl rfl rfl
theorem s89_34 : ji_Ev C 89 34 M lv (p1 :: p0 :: .ref a :: st) o ↔ (ji_rcb M 2 (.ref a) = true ∧ ji_ok8 st) ∧ ji_evC (C 49 [.ref a, p0, p1] M) (fun v M' => ji_Ev C 89 37 M' lv (v.toList ++ st) o) := ev_inv (k := 89) rfl cd_3_103 rfl
theorem s89_37 : ji_Ev C 89 37 M lv (p1 :: p0 :: st) o ↔ ji_ok8 st ∧ ji_evC (C 90 [p0, p1] M) (fun v M' => ji_Ev C 89 40 M' lv (v.toList ++ st) o) := ev_sta (k := 89) (a := [p1, p0]) rfl (Or.inl cd_3_108) rfl
theorem s89_40 : ji_Ev C 89 40 M lv (.long v :: .long u :: st) o ↔ ji_Ev C 89 41 M lv (.long (u + v) :: st) o := ev_go (S := (41, M, lv, (.long (u + v) :: st))) rfl rfl rfl
theorem s89_41 : ji_Ev C 89 41 M lv (.long u :: st) o ↔ 3 < lv.length ∧ ji_Ev C 89 42 M (ji_s2 lv 2 (.long u)) st o := ev_stL rfl rfl rfl
theorem s89_42 : ji_Ev C 89 42 M lv st o ↔ ji_evL (lv.getD 4 none) ji_isI (fun v => match v with | .int x => 4 < lv.length ∧ ji_Ev C 89 45 M (ji_s1 lv 4 (.int (x + Int32.ofInt 1))) st o | _ => False) := ev_iinc rfl
theorem s89_45 : ji_Ev C 89 45 M lv st o ↔ ji_Ev C 89 5 M lv st o := ev_gt rfl (by decide) rfl
theorem s89_48 : ji_Ev C 89 48 M (l0 :: l1 :: some (.long u) :: l) st o ↔ ji_Ev C 89 49 M (l0 :: l1 :: some (.long u) :: l) (.long u :: st) o := ev_go (S := (49, M, (l0 :: l1 :: some (.long u) :: l), (.long u :: st))) rfl rfl rfl
theorem s89_49 : ji_Ev C 89 49 M lv [.long u] o ↔ o = (some (.long u), M) := ev_lret rfl rfl
theorem s90_0 : ji_Ev C 90 0 M lv st o ↔ ji_Ev C 90 1 M lv (.int 0 :: st) o := ev_go (S := (1, M, lv, (.int 0 :: st))) rfl rfl rfl
theorem s90_1 : ji_Ev C 90 1 M (some (.int x) :: l) st o ↔ ji_Ev C 90 2 M (some (.int x) :: l) (.int x :: st) o := ev_go (S := (2, M, (some (.int x) :: l), (.int x :: st))) rfl rfl rfl
theorem s90_2 : ji_Ev C 90 2 M lv (.int y :: .int x :: st) o ↔ ji_ok8 st ∧ ji_Ev C 90 5 M lv (.int (if x < y then y else x) :: st) o := ev_max (k := 90) rfl cd_3_77
theorem s90_5 : ji_Ev C 90 5 M lv (.int x :: st) o ↔ ji_Ev C 90 6 M lv (.long x.toInt64 :: st) o := ev_go (S := (6, M, lv, (.long x.toInt64 :: st))) rfl rfl rfl
theorem s90_6 : ji_Ev C 90 6 M (l0 :: some (.int x) :: l) st o ↔ ji_Ev C 90 7 M (l0 :: some (.int x) :: l) (.int x :: st) o := ev_go (S := (7, M, (l0 :: some (.int x) :: l), (.int x :: st))) rfl rfl rfl
theorem s90_7 : ji_Ev C 90 7 M lv (.int x :: st) o ↔ ji_Ev C 90 8 M lv (.long x.toInt64 :: st) o := ev_go (S := (8, M, lv, (.long x.toInt64 :: st))) rfl rfl rfl
theorem s90_8 : ji_Ev C 90 8 M lv (.long v :: .long u :: st) o ↔ ji_Ev C 90 9 M lv (.long (u * v) :: st) o := ev_go (S := (9, M, lv, (.long (u * v) :: st))) rfl rfl rfl
theorem s90_9 : ji_Ev C 90 9 M lv st o ↔ ji_Ev C 90 12 M lv (.long (100) :: st) o := ev_go (S := (12, M, lv, (.long (100) :: st))) rfl rfl rfl
theorem s90_12 : ji_Ev C 90 12 M lv (.long v :: .long u :: st) o ↔ ¬ v = 0 ∧ ji_Ev C 90 13 M lv (.long (u / v) :: st) o := ev_dvL rfl
theorem s90_13 : ji_Ev C 90 13 M lv [.long u] o ↔ o = (some (.long u), M) := ev_lret rfl rfl
theorem s91_0 : ji_Ev C 91 0 M (some (.ref a) :: l) st o ↔ ji_Ev C 91 1 M (some (.ref a) :: l) (.ref a :: st) o := ev_go (S := (1, M, (some (.ref a) :: l), (.ref a :: st))) rfl rfl rfl
theorem s91_1 : ji_Ev C 91 1 M (l0 :: some (.ref a) :: l) st o ↔ ji_Ev C 91 2 M (l0 :: some (.ref a) :: l) (.ref a :: st) o := ev_go (S := (2, M, (l0 :: some (.ref a) :: l), (.ref a :: st))) rfl rfl rfl
theorem s91_2 : ji_Ev C 91 2 M (l0 :: l1 :: some (.int x) :: l) st o ↔ ji_Ev C 91 3 M (l0 :: l1 :: some (.int x) :: l) (.int x :: st) o := ev_go (S := (3, M, (l0 :: l1 :: some (.int x) :: l), (.int x :: st))) rfl rfl rfl
theorem s91_3 : ji_Ev C 91 3 M lv st o ↔ ji_Ev C 91 4 M lv (.int 2 :: st) o := ev_go (S := (4, M, lv, (.int 2 :: st))) rfl rfl rfl
theorem s91_4 : ji_Ev C 91 4 M lv (p2 :: p1 :: p0 :: .ref a :: st) o ↔ (ji_rcb M 3 (.ref a) = true ∧ ji_ok8 st) ∧ ji_evC (C 74 [.ref a, p0, p1, p2] M) (fun v M' => ji_Ev C 91 7 M' lv (v.toList ++ st) o) := ev_inv (k := 91) rfl cd_3_95 rfl
theorem s91_7 : ji_Ev C 91 7 M (l0 :: some (.ref a) :: l) st o ↔ ji_Ev C 91 8 M (l0 :: some (.ref a) :: l) (.ref a :: st) o := ev_go (S := (8, M, (l0 :: some (.ref a) :: l), (.ref a :: st))) rfl rfl rfl
theorem s91_8 : ji_Ev C 91 8 M lv (.ref a :: st) o ↔ ji_kd M a = some (0, 5) ∧ ji_Ev C 91 11 M lv (ji_rv (ji_gR M a 0) :: st) o := ev_getR (k := 91) rfl fd_3_99 rfl
theorem s91_11 : ji_Ev C 91 11 M (l0 :: l1 :: some (.int x) :: l) st o ↔ ji_Ev C 91 12 M (l0 :: l1 :: some (.int x) :: l) (.int x :: st) o := ev_go (S := (12, M, (l0 :: l1 :: some (.int x) :: l), (.int x :: st))) rfl rfl rfl
theorem s91_12 : ji_Ev C 91 12 M lv st o ↔ ji_Ev C 91 14 M lv (.int 6 :: st) o := ev_go (S := (14, M, lv, (.int 6 :: st))) rfl rfl rfl
theorem s91_14 : ji_Ev C 91 14 M lv (p1 :: p0 :: .ref a :: st) o ↔ (ji_rcb M 2 (.ref a) = true ∧ ji_ok8 st) ∧ ji_evC (C 49 [.ref a, p0, p1] M) (fun v M' => ji_Ev C 91 17 M' lv (v.toList ++ st) o) := ev_inv (k := 91) rfl cd_3_103 rfl
theorem s91_17 : ji_Ev C 91 17 M lv (p1 :: p0 :: st) o ↔ ji_ok8 st ∧ ji_evC (C 90 [p0, p1] M) (fun v M' => ji_Ev C 91 20 M' lv (v.toList ++ st) o) := ev_sta (k := 91) (a := [p1, p0]) rfl (Or.inl cd_3_108) rfl
theorem s91_20 : ji_Ev C 91 20 M lv [.long u] o ↔ o = (some (.long u), M) := ev_lret rfl rfl
theorem s92_0 : ji_Ev C 92 0 M (l0 :: some (.int x) :: l) st o ↔ ji_Ev C 92 1 M (l0 :: some (.int x) :: l) (.int x :: st) o := ev_go (S := (1, M, (l0 :: some (.int x) :: l), (.int x :: st))) rfl rfl rfl
theorem s92_1 : ji_Ev C 92 1 M lv st o ↔ ji_Ev C 92 2 M lv (.int 1 :: st) o := ev_go (S := (2, M, lv, (.int 1 :: st))) rfl rfl rfl
theorem s92_2 : ji_Ev C 92 2 M lv st o ↔ ji_Ev C 92 4 M lv (.int 8 :: st) o := ev_go (S := (4, M, lv, (.int 8 :: st))) rfl rfl rfl
theorem s92_4 : ji_Ev C 92 4 M lv (p2 :: p1 :: p0 :: st) o ↔ ji_ok8 st ∧ ji_evC (C 43 [p0, p1, p2] M) (fun v M' => ji_Ev C 92 7 M' lv (v.toList ++ st) o) := ev_sta (k := 92) (a := [p2, p1, p0]) rfl (Or.inl cd_8_89) rfl
theorem s92_7 : ji_Ev C 92 7 M lv (.int x :: st) o ↔ if x = 0 then ji_Ev C 92 10 M lv st o else ji_Ev C 92 13 M lv st o := ev_brz (c := .ne) rfl (by decide) rfl
theorem s92_10 : ji_Ev C 92 10 M lv st o ↔ ji_Ev C 92 12 M lv (.int (-2) :: st) o := ev_go (S := (12, M, lv, (.int (-2) :: st))) rfl rfl rfl
theorem s92_12 : ji_Ev C 92 12 M lv [.int x] o ↔ o = (some (.int x), M) := ev_ireti rfl rfl
theorem s92_13 : ji_Ev C 92 13 M (some (.ref a) :: l) st o ↔ ji_Ev C 92 14 M (some (.ref a) :: l) (.ref a :: st) o := ev_go (S := (14, M, (some (.ref a) :: l), (.ref a :: st))) rfl rfl rfl
theorem s92_14 : ji_Ev C 92 14 M lv (.ref a :: st) o ↔ ji_kd M a = some (0, 8) ∧ ji_Ev C 92 17 M lv (ji_rv (ji_gR M a 1) :: st) o := ev_getR (k := 92) rfl fd_8_19 rfl
theorem s92_17 : ji_Ev C 92 17 M lv (.ref a :: st) o ↔ ji_kd M a = some (0, 3) ∧ ji_Ev C 92 20 M lv (ji_rv (ji_gR M a 0) :: st) o := ev_getR (k := 92) rfl fd_8_175 rfl
theorem s92_20 : ji_Ev C 92 20 M (l0 :: some (.int x) :: l) st o ↔ ji_Ev C 92 21 M (l0 :: some (.int x) :: l) (.int x :: st) o := ev_go (S := (21, M, (l0 :: some (.int x) :: l), (.int x :: st))) rfl rfl rfl
theorem s92_21 : ji_Ev C 92 21 M (l0 :: l1 :: some (.long u) :: l) st o ↔ ji_Ev C 92 22 M (l0 :: l1 :: some (.long u) :: l) (.long u :: st) o := ev_go (S := (22, M, (l0 :: l1 :: some (.long u) :: l), (.long u :: st))) rfl rfl rfl
theorem s92_22 : ji_Ev C 92 22 M lv (p1 :: p0 :: .ref a :: st) o ↔ (ji_rcb M 6 (.ref a) = true ∧ ji_ok8 st) ∧ ji_evC (C 93 [.ref a, p0, p1] M) (fun v M' => ji_Ev C 92 25 M' lv (v.toList ++ st) o) := ev_inv (k := 92) rfl cd_8_179 rfl
theorem s92_25 : ji_Ev C 92 25 M lv [.int x] o ↔ o = (some (.int x), M) := ev_ireti rfl rfl
theorem s93_0 : ji_Ev C 93 0 M (some (.ref a) :: l) st o ↔ ji_Ev C 93 1 M (some (.ref a) :: l) (.ref a :: st) o := ev_go (S := (1, M, (some (.ref a) :: l), (.ref a :: st))) rfl rfl rfl
theorem s93_1 : ji_Ev C 93 1 M lv (.ref a :: st) o ↔ ji_kd M a = some (0, 6) ∧ ji_Ev C 93 4 M lv (.int (ji_gI M a 1) :: st) o := ev_getI (k := 93) rfl fd_6_18 rfl
theorem s93_4 : ji_Ev C 93 4 M (l0 :: some (.int x) :: l) st o ↔ ji_Ev C 93 5 M (l0 :: some (.int x) :: l) (.int x :: st) o := ev_go (S := (5, M, (l0 :: some (.int x) :: l), (.int x :: st))) rfl rfl rfl
theorem s93_5 : ji_Ev C 93 5 M lv (.int y :: .int x :: st) o ↔ ji_Ev C 93 6 M lv (.int (x + y) :: st) o := ev_go (S := (6, M, lv, (.int (x + y) :: st))) rfl rfl rfl
theorem s93_6 : ji_Ev C 93 6 M lv st o ↔ ji_Ev C 93 9 M lv (.int 160 :: st) o := ev_go (S := (9, M, lv, (.int 160 :: st))) rfl rfl rfl
theorem s93_9 : ji_Ev C 93 9 M lv (.int y :: .int x :: st) o ↔ if y < x then ji_Ev C 93 12 M lv st o else ji_Ev C 93 15 M lv st o := ev_brc (c := .le) rfl (by decide) rfl
theorem s93_12 : ji_Ev C 93 12 M lv st o ↔ ji_Ev C 93 14 M lv (.int (-4) :: st) o := ev_go (S := (14, M, lv, (.int (-4) :: st))) rfl rfl rfl
theorem s93_14 : ji_Ev C 93 14 M lv [.int x] o ↔ o = (some (.int x), M) := ev_ireti rfl rfl
theorem s93_15 : ji_Ev C 93 15 M lv st o ↔ ji_Ev C 93 16 M lv (.int 0 :: st) o := ev_go (S := (16, M, lv, (.int 0 :: st))) rfl rfl rfl
theorem s93_16 : ji_Ev C 93 16 M lv (.int x :: st) o ↔ 4 < lv.length ∧ ji_Ev C 93 18 M (ji_s1 lv 4 (.int x)) st o := ev_stI rfl rfl rfl
theorem s93_18 : ji_Ev C 93 18 M (l0 :: l1 :: l2 :: l3 :: some (.int x) :: l) st o ↔ ji_Ev C 93 20 M (l0 :: l1 :: l2 :: l3 :: some (.int x) :: l) (.int x :: st) o := ev_go (S := (20, M, (l0 :: l1 :: l2 :: l3 :: some (.int x) :: l), (.int x :: st))) rfl rfl rfl
theorem s93_20 : ji_Ev C 93 20 M (l0 :: some (.int x) :: l) st o ↔ ji_Ev C 93 21 M (l0 :: some (.int x) :: l) (.int x :: st) o := ev_go (S := (21, M, (l0 :: some (.int x) :: l), (.int x :: st))) rfl rfl rfl
theorem s93_21 : ji_Ev C 93 21 M lv (.int y :: .int x :: st) o ↔ if x < y then ji_Ev C 93 24 M lv st o else ji_Ev C 93 46 M lv st o := ev_brc (c := .ge) rfl (by decide) rfl
theorem s93_24 : ji_Ev C 93 24 M (some (.ref a) :: l) st o ↔ ji_Ev C 93 25 M (some (.ref a) :: l) (.ref a :: st) o := ev_go (S := (25, M, (some (.ref a) :: l), (.ref a :: st))) rfl rfl rfl
theorem s93_25 : ji_Ev C 93 25 M (l0 :: l1 :: some (.long u) :: l) st o ↔ ji_Ev C 93 26 M (l0 :: l1 :: some (.long u) :: l) (.long u :: st) o := ev_go (S := (26, M, (l0 :: l1 :: some (.long u) :: l), (.long u :: st))) rfl rfl rfl
theorem s93_26 : ji_Ev C 93 26 M lv st o ↔ ji_Ev C 93 28 M lv (.int 8 :: st) o := ev_go (S := (28, M, lv, (.int 8 :: st))) rfl rfl rfl
theorem s93_28 : ji_Ev C 93 28 M (l0 :: l1 :: l2 :: l3 :: some (.int x) :: l) st o ↔ ji_Ev C 93 30 M (l0 :: l1 :: l2 :: l3 :: some (.int x) :: l) (.int x :: st) o := ev_go (S := (30, M, (l0 :: l1 :: l2 :: l3 :: some (.int x) :: l), (.int x :: st))) rfl rfl rfl
theorem s93_30 : ji_Ev C 93 30 M lv (.int y :: .int x :: st) o ↔ ji_Ev C 93 31 M lv (.int (x * y) :: st) o := ev_go (S := (31, M, lv, (.int (x * y) :: st))) rfl rfl rfl
theorem s93_31 : ji_Ev C 93 31 M lv (.int y :: .long u :: st) o ↔ ji_Ev C 93 32 M lv (.long ((u.toUInt64 >>> (y.toInt64.toUInt64 &&& Int64.toUInt64 63)).toInt64) :: st) o := ev_go (S := (32, M, lv, (.long ((u.toUInt64 >>> (y.toInt64.toUInt64 &&& Int64.toUInt64 63)).toInt64) :: st))) rfl rfl rfl
theorem s93_32 : ji_Ev C 93 32 M lv st o ↔ ji_Ev C 93 35 M lv (.long (255) :: st) o := ev_go (S := (35, M, lv, (.long (255) :: st))) rfl rfl rfl
theorem s93_35 : ji_Ev C 93 35 M lv (.long v :: .long u :: st) o ↔ ji_Ev C 93 36 M lv (.long (u &&& v) :: st) o := ev_go (S := (36, M, lv, (.long (u &&& v) :: st))) rfl rfl rfl
theorem s93_36 : ji_Ev C 93 36 M lv (.long u :: st) o ↔ ji_Ev C 93 37 M lv (.int u.toInt32 :: st) o := ev_go (S := (37, M, lv, (.int u.toInt32 :: st))) rfl rfl rfl
theorem s93_37 : ji_Ev C 93 37 M lv (p0 :: .ref a :: st) o ↔ (ji_rcb M 6 (.ref a) = true ∧ ji_ok8 st) ∧ ji_evC (C 17 [.ref a, p0] M) (fun v M' => ji_Ev C 93 40 M' lv (v.toList ++ st) o) := ev_inv (k := 93) rfl cd_6_24 rfl
theorem s93_40 : ji_Ev C 93 40 M lv st o ↔ ji_evL (lv.getD 4 none) ji_isI (fun v => match v with | .int x => 4 < lv.length ∧ ji_Ev C 93 43 M (ji_s1 lv 4 (.int (x + Int32.ofInt 1))) st o | _ => False) := ev_iinc rfl
theorem s93_43 : ji_Ev C 93 43 M lv st o ↔ ji_Ev C 93 18 M lv st o := ev_gt rfl (by decide) rfl
theorem s93_46 : ji_Ev C 93 46 M (some (.ref a) :: l) st o ↔ ji_Ev C 93 47 M (some (.ref a) :: l) (.ref a :: st) o := ev_go (S := (47, M, (some (.ref a) :: l), (.ref a :: st))) rfl rfl rfl
theorem s93_47 : ji_Ev C 93 47 M lv (.ref a :: st) o ↔ ji_kd M a = some (0, 6) ∧ ji_Ev C 93 50 M lv (.int (ji_gI M a 1) :: st) o := ev_getI (k := 93) rfl fd_6_18 rfl
theorem s93_50 : ji_Ev C 93 50 M lv [.int x] o ↔ o = (some (.int x), M) := ev_ireti rfl rfl
theorem s94_0 : ji_Ev C 94 0 M (some (.ref a) :: l) st o ↔ ji_Ev C 94 1 M (some (.ref a) :: l) (.ref a :: st) o := ev_go (S := (1, M, (some (.ref a) :: l), (.ref a :: st))) rfl rfl rfl
theorem s94_1 : ji_Ev C 94 1 M lv (.ref a :: st) o ↔ ji_kd M a = some (0, 8) ∧ ji_Ev C 94 4 M lv (ji_rv (ji_gR M a 1) :: st) o := ev_getR (k := 94) rfl fd_8_19 rfl
theorem s94_4 : ji_Ev C 94 4 M lv (.ref a :: st) o ↔ (ji_rcb M 3 (.ref a) = true ∧ ji_ok8 st) ∧ ji_evC (C 18 [.ref a] M) (fun v M' => ji_Ev C 94 7 M' lv (v.toList ++ st) o) := ev_inv (k := 94) rfl cd_8_84 rfl
theorem s94_7 : ji_Ev C 94 7 M lv [.int x] o ↔ o = (some (.int x), M) := ev_ireti rfl rfl
theorem s95_0 : ji_Ev C 95 0 M (some (.ref a) :: l) st o ↔ ji_Ev C 95 1 M (some (.ref a) :: l) (.ref a :: st) o := ev_go (S := (1, M, (some (.ref a) :: l), (.ref a :: st))) rfl rfl rfl
theorem s95_1 : ji_Ev C 95 1 M lv (.ref a :: st) o ↔ ji_kd M a = some (0, 8) ∧ ji_Ev C 95 4 M lv (ji_rv (ji_gR M a 1) :: st) o := ev_getR (k := 95) rfl fd_8_19 rfl
theorem s95_4 : ji_Ev C 95 4 M (l0 :: some (.int x) :: l) st o ↔ ji_Ev C 95 5 M (l0 :: some (.int x) :: l) (.int x :: st) o := ev_go (S := (5, M, (l0 :: some (.int x) :: l), (.int x :: st))) rfl rfl rfl
theorem s95_5 : ji_Ev C 95 5 M lv (p0 :: .ref a :: st) o ↔ (ji_rcb M 3 (.ref a) = true ∧ ji_ok8 st) ∧ ji_evC (C 75 [.ref a, p0] M) (fun v M' => ji_Ev C 95 8 M' lv (v.toList ++ st) o) := ev_inv (k := 95) rfl cd_8_185 rfl
theorem s95_8 : ji_Ev C 95 8 M lv (.int x :: st) o ↔ if x = 0 then ji_Ev C 95 22 M lv st o else ji_Ev C 95 11 M lv st o := ev_brz (c := .eq) rfl (by decide) rfl
theorem s95_11 : ji_Ev C 95 11 M (some (.ref a) :: l) st o ↔ ji_Ev C 95 12 M (some (.ref a) :: l) (.ref a :: st) o := ev_go (S := (12, M, (some (.ref a) :: l), (.ref a :: st))) rfl rfl rfl
theorem s95_12 : ji_Ev C 95 12 M lv (.ref a :: st) o ↔ ji_kd M a = some (0, 8) ∧ ji_Ev C 95 15 M lv (ji_rv (ji_gR M a 1) :: st) o := ev_getR (k := 95) rfl fd_8_19 rfl
theorem s95_15 : ji_Ev C 95 15 M (l0 :: some (.int x) :: l) st o ↔ ji_Ev C 95 16 M (l0 :: some (.int x) :: l) (.int x :: st) o := ev_go (S := (16, M, (l0 :: some (.int x) :: l), (.int x :: st))) rfl rfl rfl
theorem s95_16 : ji_Ev C 95 16 M lv (p0 :: .ref a :: st) o ↔ (ji_rcb M 3 (.ref a) = true ∧ ji_ok8 st) ∧ ji_evC (C 96 [.ref a, p0] M) (fun v M' => ji_Ev C 95 19 M' lv (v.toList ++ st) o) := ev_inv (k := 95) rfl cd_8_188 rfl
theorem s95_19 : ji_Ev C 95 19 M lv st o ↔ ji_Ev C 95 24 M lv st o := ev_gt rfl (by decide) rfl
theorem s95_22 : ji_Ev C 95 22 M lv st o ↔ ji_Ev C 95 24 M lv (.int (-2) :: st) o := ev_go (S := (24, M, lv, (.int (-2) :: st))) rfl rfl rfl
theorem s95_24 : ji_Ev C 95 24 M lv [.int x] o ↔ o = (some (.int x), M) := ev_ireti rfl rfl
theorem s96_0 : ji_Ev C 96 0 M (some (.ref a) :: l) st o ↔ ji_Ev C 96 1 M (some (.ref a) :: l) (.ref a :: st) o := ev_go (S := (1, M, (some (.ref a) :: l), (.ref a :: st))) rfl rfl rfl
theorem s96_1 : ji_Ev C 96 1 M lv (.ref a :: st) o ↔ ji_kd M a = some (0, 3) ∧ ji_Ev C 96 4 M lv (.int (ji_gI M a 7) :: st) o := ev_getI (k := 96) rfl fd_3_57 rfl
theorem s96_4 : ji_Ev C 96 4 M lv (.int x :: st) o ↔ 2 < lv.length ∧ ji_Ev C 96 5 M (ji_s1 lv 2 (.int x)) st o := ev_stI rfl rfl rfl
theorem s96_5 : ji_Ev C 96 5 M (some (.ref a) :: l) st o ↔ ji_Ev C 96 6 M (some (.ref a) :: l) (.ref a :: st) o := ev_go (S := (6, M, (some (.ref a) :: l), (.ref a :: st))) rfl rfl rfl
theorem s96_6 : ji_Ev C 96 6 M (l0 :: some (.int x) :: l) st o ↔ ji_Ev C 96 7 M (l0 :: some (.int x) :: l) (.int x :: st) o := ev_go (S := (7, M, (l0 :: some (.int x) :: l), (.int x :: st))) rfl rfl rfl
theorem s96_7 : ji_Ev C 96 7 M lv (.int x :: .ref a :: st) o ↔ ji_kd M a = some (0, 3) ∧ ji_Ev C 96 10 (ji_sI M a 7 x) lv st o := ev_putI (k := 96) rfl fd_3_57 rfl (by decide)
theorem s96_10 : ji_Ev C 96 10 M (l0 :: l1 :: some (.int x) :: l) st o ↔ ji_Ev C 96 11 M (l0 :: l1 :: some (.int x) :: l) (.int x :: st) o := ev_go (S := (11, M, (l0 :: l1 :: some (.int x) :: l), (.int x :: st))) rfl rfl rfl
theorem s96_11 : ji_Ev C 96 11 M lv [.int x] o ↔ o = (some (.int x), M) := ev_ireti rfl rfl
theorem s97_0 : ji_Ev C 97 0 M (some (.ref a) :: l) st o ↔ ji_Ev C 97 1 M (some (.ref a) :: l) (.ref a :: st) o := ev_go (S := (1, M, (some (.ref a) :: l), (.ref a :: st))) rfl rfl rfl
theorem s97_1 : ji_Ev C 97 1 M lv (.ref a :: st) o ↔ ji_kd M a = some (0, 8) ∧ ji_Ev C 97 4 M lv (ji_rv (ji_gR M a 0) :: st) o := ev_getR (k := 97) rfl fd_8_10 rfl
theorem s97_4 : ji_Ev C 97 4 M lv (.ref a :: st) o ↔ ji_kd M a = some (0, 5) ∧ ji_Ev C 97 7 M lv (ji_rv (ji_gR M a 0) :: st) o := ev_getR (k := 97) rfl fd_8_111 rfl
theorem s97_7 : ji_Ev C 97 7 M (l0 :: some (.int x) :: l) st o ↔ ji_Ev C 97 8 M (l0 :: some (.int x) :: l) (.int x :: st) o := ev_go (S := (8, M, (l0 :: some (.int x) :: l), (.int x :: st))) rfl rfl rfl
theorem s97_8 : ji_Ev C 97 8 M lv (p0 :: .ref a :: st) o ↔ (ji_rcb M 2 (.ref a) = true ∧ ji_ok8 st) ∧ ji_evC (C 65 [.ref a, p0] M) (fun v M' => ji_Ev C 97 11 M' lv (v.toList ++ st) o) := ev_inv (k := 97) rfl cd_8_121 rfl
theorem s97_11 : ji_Ev C 97 11 M lv (.int x :: st) o ↔ if x = 0 then ji_Ev C 97 23 M lv st o else ji_Ev C 97 14 M lv st o := ev_brz (c := .eq) rfl (by decide) rfl
theorem s97_14 : ji_Ev C 97 14 M (l0 :: l1 :: some (.int x) :: l) st o ↔ ji_Ev C 97 15 M (l0 :: l1 :: some (.int x) :: l) (.int x :: st) o := ev_go (S := (15, M, (l0 :: l1 :: some (.int x) :: l), (.int x :: st))) rfl rfl rfl
theorem s97_15 : ji_Ev C 97 15 M lv st o ↔ ji_Ev C 97 16 M lv (.int 0 :: st) o := ev_go (S := (16, M, lv, (.int 0 :: st))) rfl rfl rfl
theorem s97_16 : ji_Ev C 97 16 M lv st o ↔ ji_Ev C 97 17 M lv (.int 2 :: st) o := ev_go (S := (17, M, lv, (.int 2 :: st))) rfl rfl rfl
theorem s97_17 : ji_Ev C 97 17 M lv (p2 :: p1 :: p0 :: st) o ↔ ji_ok8 st ∧ ji_evC (C 43 [p0, p1, p2] M) (fun v M' => ji_Ev C 97 20 M' lv (v.toList ++ st) o) := ev_sta (k := 97) (a := [p2, p1, p0]) rfl (Or.inl cd_8_89) rfl
theorem s97_20 : ji_Ev C 97 20 M lv (.int x :: st) o ↔ if x = 0 then ji_Ev C 97 23 M lv st o else ji_Ev C 97 27 M lv st o := ev_brz (c := .ne) rfl (by decide) rfl
theorem s97_23 : ji_Ev C 97 23 M lv st o ↔ ji_Ev C 97 26 M lv (.long (-4611686018427387904) :: st) o := ev_go (S := (26, M, lv, (.long (-4611686018427387904) :: st))) rfl rfl rfl
theorem s97_26 : ji_Ev C 97 26 M lv [.long u] o ↔ o = (some (.long u), M) := ev_lret rfl rfl
theorem s97_27 : ji_Ev C 97 27 M (some (.ref a) :: l) st o ↔ ji_Ev C 97 28 M (some (.ref a) :: l) (.ref a :: st) o := ev_go (S := (28, M, (some (.ref a) :: l), (.ref a :: st))) rfl rfl rfl
theorem s97_28 : ji_Ev C 97 28 M lv (.ref a :: st) o ↔ ji_kd M a = some (0, 8) ∧ ji_Ev C 97 31 M lv (ji_rv (ji_gR M a 1) :: st) o := ev_getR (k := 97) rfl fd_8_19 rfl
theorem s97_31 : ji_Ev C 97 31 M (some (.ref a) :: l) st o ↔ ji_Ev C 97 32 M (some (.ref a) :: l) (.ref a :: st) o := ev_go (S := (32, M, (some (.ref a) :: l), (.ref a :: st))) rfl rfl rfl
theorem s97_32 : ji_Ev C 97 32 M lv (.ref a :: st) o ↔ ji_kd M a = some (0, 8) ∧ ji_Ev C 97 35 M lv (ji_rv (ji_gR M a 0) :: st) o := ev_getR (k := 97) rfl fd_8_10 rfl
theorem s97_35 : ji_Ev C 97 35 M (l0 :: some (.int x) :: l) st o ↔ ji_Ev C 97 36 M (l0 :: some (.int x) :: l) (.int x :: st) o := ev_go (S := (36, M, (l0 :: some (.int x) :: l), (.int x :: st))) rfl rfl rfl
theorem s97_36 : ji_Ev C 97 36 M (l0 :: l1 :: some (.int x) :: l) st o ↔ ji_Ev C 97 37 M (l0 :: l1 :: some (.int x) :: l) (.int x :: st) o := ev_go (S := (37, M, (l0 :: l1 :: some (.int x) :: l), (.int x :: st))) rfl rfl rfl
theorem s97_37 : ji_Ev C 97 37 M lv (p2 :: p1 :: p0 :: .ref a :: st) o ↔ (ji_rcb M 3 (.ref a) = true ∧ ji_ok8 st) ∧ ji_evC (C 74 [.ref a, p0, p1, p2] M) (fun v M' => ji_Ev C 97 40 M' lv (v.toList ++ st) o) := ev_inv (k := 97) rfl cd_8_191 rfl
theorem s97_40 : ji_Ev C 97 40 M lv (.int x :: st) o ↔ ji_Ev C 97 41 M lv (.long x.toInt64 :: st) o := ev_go (S := (41, M, lv, (.long x.toInt64 :: st))) rfl rfl rfl
theorem s97_41 : ji_Ev C 97 41 M lv [.long u] o ↔ o = (some (.long u), M) := ev_lret rfl rfl
theorem s98_0 : ji_Ev C 98 0 M (l0 :: some (.int x) :: l) st o ↔ ji_Ev C 98 1 M (l0 :: some (.int x) :: l) (.int x :: st) o := ev_go (S := (1, M, (l0 :: some (.int x) :: l), (.int x :: st))) rfl rfl rfl
theorem s98_1 : ji_Ev C 98 1 M lv st o ↔ ji_Ev C 98 2 M lv (.int 0 :: st) o := ev_go (S := (2, M, lv, (.int 0 :: st))) rfl rfl rfl
theorem s98_2 : ji_Ev C 98 2 M lv st o ↔ ji_Ev C 98 3 M lv (.int 3 :: st) o := ev_go (S := (3, M, lv, (.int 3 :: st))) rfl rfl rfl
theorem s98_3 : ji_Ev C 98 3 M lv (p2 :: p1 :: p0 :: st) o ↔ ji_ok8 st ∧ ji_evC (C 43 [p0, p1, p2] M) (fun v M' => ji_Ev C 98 6 M' lv (v.toList ++ st) o) := ev_sta (k := 98) (a := [p2, p1, p0]) rfl (Or.inl cd_8_89) rfl
theorem s98_6 : ji_Ev C 98 6 M lv (.int x :: st) o ↔ if x = 0 then ji_Ev C 98 27 M lv st o else ji_Ev C 98 9 M lv st o := ev_brz (c := .eq) rfl (by decide) rfl
theorem s98_9 : ji_Ev C 98 9 M (l0 :: l1 :: some (.int x) :: l) st o ↔ ji_Ev C 98 10 M (l0 :: l1 :: some (.int x) :: l) (.int x :: st) o := ev_go (S := (10, M, (l0 :: l1 :: some (.int x) :: l), (.int x :: st))) rfl rfl rfl
theorem s98_10 : ji_Ev C 98 10 M lv st o ↔ ji_Ev C 98 11 M lv (.int 0 :: st) o := ev_go (S := (11, M, lv, (.int 0 :: st))) rfl rfl rfl
theorem s98_11 : ji_Ev C 98 11 M lv st o ↔ ji_Ev C 98 12 M lv (.int 3 :: st) o := ev_go (S := (12, M, lv, (.int 3 :: st))) rfl rfl rfl
theorem s98_12 : ji_Ev C 98 12 M lv (p2 :: p1 :: p0 :: st) o ↔ ji_ok8 st ∧ ji_evC (C 43 [p0, p1, p2] M) (fun v M' => ji_Ev C 98 15 M' lv (v.toList ++ st) o) := ev_sta (k := 98) (a := [p2, p1, p0]) rfl (Or.inl cd_8_89) rfl
theorem s98_15 : ji_Ev C 98 15 M lv (.int x :: st) o ↔ if x = 0 then ji_Ev C 98 27 M lv st o else ji_Ev C 98 18 M lv st o := ev_brz (c := .eq) rfl (by decide) rfl
theorem s98_18 : ji_Ev C 98 18 M (l0 :: l1 :: l2 :: some (.int x) :: l) st o ↔ ji_Ev C 98 19 M (l0 :: l1 :: l2 :: some (.int x) :: l) (.int x :: st) o := ev_go (S := (19, M, (l0 :: l1 :: l2 :: some (.int x) :: l), (.int x :: st))) rfl rfl rfl
theorem s98_19 : ji_Ev C 98 19 M lv st o ↔ ji_Ev C 98 20 M lv (.int 0 :: st) o := ev_go (S := (20, M, lv, (.int 0 :: st))) rfl rfl rfl
theorem s98_20 : ji_Ev C 98 20 M lv st o ↔ ji_Ev C 98 21 M lv (.int 1 :: st) o := ev_go (S := (21, M, lv, (.int 1 :: st))) rfl rfl rfl
theorem s98_21 : ji_Ev C 98 21 M lv (p2 :: p1 :: p0 :: st) o ↔ ji_ok8 st ∧ ji_evC (C 43 [p0, p1, p2] M) (fun v M' => ji_Ev C 98 24 M' lv (v.toList ++ st) o) := ev_sta (k := 98) (a := [p2, p1, p0]) rfl (Or.inl cd_8_89) rfl
theorem s98_24 : ji_Ev C 98 24 M lv (.int x :: st) o ↔ if x = 0 then ji_Ev C 98 27 M lv st o else ji_Ev C 98 30 M lv st o := ev_brz (c := .ne) rfl (by decide) rfl
theorem s98_27 : ji_Ev C 98 27 M lv st o ↔ ji_Ev C 98 29 M lv (.int (-2) :: st) o := ev_go (S := (29, M, lv, (.int (-2) :: st))) rfl rfl rfl
theorem s98_29 : ji_Ev C 98 29 M lv [.int x] o ↔ o = (some (.int x), M) := ev_ireti rfl rfl
theorem s98_30 : ji_Ev C 98 30 M (some (.ref a) :: l) st o ↔ ji_Ev C 98 31 M (some (.ref a) :: l) (.ref a :: st) o := ev_go (S := (31, M, (some (.ref a) :: l), (.ref a :: st))) rfl rfl rfl
theorem s98_31 : ji_Ev C 98 31 M lv (.ref a :: st) o ↔ ji_kd M a = some (0, 8) ∧ ji_Ev C 98 34 M lv (ji_rv (ji_gR M a 2) :: st) o := ev_getR (k := 98) rfl fd_8_28 rfl
theorem s98_34 : ji_Ev C 98 34 M lv (.ref a :: st) o ↔ (ji_rcb M 2 (.ref a) = true ∧ ji_ok8 st) ∧ ji_evC (C 61 [.ref a] M) (fun v M' => ji_Ev C 98 37 M' lv (v.toList ++ st) o) := ev_inv (k := 98) rfl cd_8_114 rfl
theorem s98_37 : ji_Ev C 98 37 M lv (.int x :: st) o ↔ if x = 0 then ji_Ev C 98 45 M lv st o else ji_Ev C 98 40 M lv st o := ev_brz (c := .eq) rfl (by decide) rfl
theorem s98_40 : ji_Ev C 98 40 M lv st o ↔ ji_Ev C 98 42 M lv (.int (-4) :: st) o := ev_go (S := (42, M, lv, (.int (-4) :: st))) rfl rfl rfl
theorem s98_42 : ji_Ev C 98 42 M lv st o ↔ ji_Ev C 98 64 M lv st o := ev_gt rfl (by decide) rfl
theorem s98_45 : ji_Ev C 98 45 M (some (.ref a) :: l) st o ↔ ji_Ev C 98 46 M (some (.ref a) :: l) (.ref a :: st) o := ev_go (S := (46, M, (some (.ref a) :: l), (.ref a :: st))) rfl rfl rfl
theorem s98_46 : ji_Ev C 98 46 M lv (.ref a :: st) o ↔ ji_kd M a = some (0, 8) ∧ ji_Ev C 98 49 M lv (ji_rv (ji_gR M a 2) :: st) o := ev_getR (k := 98) rfl fd_8_28 rfl
theorem s98_49 : ji_Ev C 98 49 M (l0 :: some (.int x) :: l) st o ↔ ji_Ev C 98 50 M (l0 :: some (.int x) :: l) (.int x :: st) o := ev_go (S := (50, M, (l0 :: some (.int x) :: l), (.int x :: st))) rfl rfl rfl
theorem s98_50 : ji_Ev C 98 50 M (l0 :: l1 :: some (.int x) :: l) st o ↔ ji_Ev C 98 51 M (l0 :: l1 :: some (.int x) :: l) (.int x :: st) o := ev_go (S := (51, M, (l0 :: l1 :: some (.int x) :: l), (.int x :: st))) rfl rfl rfl
theorem s98_51 : ji_Ev C 98 51 M (l0 :: l1 :: l2 :: some (.int x) :: l) st o ↔ ji_Ev C 98 52 M (l0 :: l1 :: l2 :: some (.int x) :: l) (.int x :: st) o := ev_go (S := (52, M, (l0 :: l1 :: l2 :: some (.int x) :: l), (.int x :: st))) rfl rfl rfl
theorem s98_52 : ji_Ev C 98 52 M (some (.ref a) :: l) st o ↔ ji_Ev C 98 53 M (some (.ref a) :: l) (.ref a :: st) o := ev_go (S := (53, M, (some (.ref a) :: l), (.ref a :: st))) rfl rfl rfl
theorem s98_53 : ji_Ev C 98 53 M lv (.ref a :: st) o ↔ ji_kd M a = some (0, 8) ∧ ji_Ev C 98 56 M lv (ji_rv (ji_gR M a 0) :: st) o := ev_getR (k := 98) rfl fd_8_10 rfl
theorem s98_56 : ji_Ev C 98 56 M lv (.ref a :: st) o ↔ ji_kd M a = some (0, 5) ∧ ji_Ev C 98 59 M lv (.int (ji_gI M a 1) :: st) o := ev_getI (k := 98) rfl fd_8_99 rfl
theorem s98_59 : ji_Ev C 98 59 M lv (p3 :: p2 :: p1 :: p0 :: .ref a :: st) o ↔ (ji_rcb M 2 (.ref a) = true ∧ ji_ok8 st) ∧ ji_evC (C 63 [.ref a, p0, p1, p2, p3] M) (fun v M' => ji_Ev C 98 62 M' lv (v.toList ++ st) o) := ev_inv (k := 98) rfl cd_8_195 rfl
theorem s98_62 : ji_Ev C 98 62 M lv st o ↔ ji_Ev C 98 63 M lv (.int 1 :: st) o := ev_go (S := (63, M, lv, (.int 1 :: st))) rfl rfl rfl
theorem s98_63 : ji_Ev C 98 63 M lv (.int y :: .int x :: st) o ↔ ji_Ev C 98 64 M lv (.int (x + y) :: st) o := ev_go (S := (64, M, lv, (.int (x + y) :: st))) rfl rfl rfl
theorem s98_64 : ji_Ev C 98 64 M lv [.int x] o ↔ o = (some (.int x), M) := ev_ireti rfl rfl
theorem s99_0 : ji_Ev C 99 0 M (l0 :: some (.int x) :: l) st o ↔ ji_Ev C 99 1 M (l0 :: some (.int x) :: l) (.int x :: st) o := ev_go (S := (1, M, (l0 :: some (.int x) :: l), (.int x :: st))) rfl rfl rfl
theorem s99_1 : ji_Ev C 99 1 M lv st o ↔ ji_Ev C 99 2 M lv (.int 0 :: st) o := ev_go (S := (2, M, lv, (.int 0 :: st))) rfl rfl rfl
theorem s99_2 : ji_Ev C 99 2 M lv st o ↔ ji_Ev C 99 3 M lv (.int 3 :: st) o := ev_go (S := (3, M, lv, (.int 3 :: st))) rfl rfl rfl
theorem s99_3 : ji_Ev C 99 3 M lv (p2 :: p1 :: p0 :: st) o ↔ ji_ok8 st ∧ ji_evC (C 43 [p0, p1, p2] M) (fun v M' => ji_Ev C 99 6 M' lv (v.toList ++ st) o) := ev_sta (k := 99) (a := [p2, p1, p0]) rfl (Or.inl cd_8_89) rfl
theorem s99_6 : ji_Ev C 99 6 M lv (.int x :: st) o ↔ if x = 0 then ji_Ev C 99 33 M lv st o else ji_Ev C 99 9 M lv st o := ev_brz (c := .eq) rfl (by decide) rfl
theorem s99_9 : ji_Ev C 99 9 M (l0 :: l1 :: some (.int x) :: l) st o ↔ ji_Ev C 99 10 M (l0 :: l1 :: some (.int x) :: l) (.int x :: st) o := ev_go (S := (10, M, (l0 :: l1 :: some (.int x) :: l), (.int x :: st))) rfl rfl rfl
theorem s99_10 : ji_Ev C 99 10 M lv st o ↔ ji_Ev C 99 11 M lv (.int 0 :: st) o := ev_go (S := (11, M, lv, (.int 0 :: st))) rfl rfl rfl
theorem s99_11 : ji_Ev C 99 11 M lv st o ↔ ji_Ev C 99 12 M lv (.int 3 :: st) o := ev_go (S := (12, M, lv, (.int 3 :: st))) rfl rfl rfl
theorem s99_12 : ji_Ev C 99 12 M lv (p2 :: p1 :: p0 :: st) o ↔ ji_ok8 st ∧ ji_evC (C 43 [p0, p1, p2] M) (fun v M' => ji_Ev C 99 15 M' lv (v.toList ++ st) o) := ev_sta (k := 99) (a := [p2, p1, p0]) rfl (Or.inl cd_8_89) rfl
theorem s99_15 : ji_Ev C 99 15 M lv (.int x :: st) o ↔ if x = 0 then ji_Ev C 99 33 M lv st o else ji_Ev C 99 18 M lv st o := ev_brz (c := .eq) rfl (by decide) rfl
theorem s99_18 : ji_Ev C 99 18 M (l0 :: l1 :: l2 :: some (.int x) :: l) st o ↔ ji_Ev C 99 19 M (l0 :: l1 :: l2 :: some (.int x) :: l) (.int x :: st) o := ev_go (S := (19, M, (l0 :: l1 :: l2 :: some (.int x) :: l), (.int x :: st))) rfl rfl rfl
theorem s99_19 : ji_Ev C 99 19 M lv st o ↔ ji_Ev C 99 20 M lv (.int 0 :: st) o := ev_go (S := (20, M, lv, (.int 0 :: st))) rfl rfl rfl
theorem s99_20 : ji_Ev C 99 20 M (some (.ref a) :: l) st o ↔ ji_Ev C 99 21 M (some (.ref a) :: l) (.ref a :: st) o := ev_go (S := (21, M, (some (.ref a) :: l), (.ref a :: st))) rfl rfl rfl
theorem s99_21 : ji_Ev C 99 21 M lv (.ref a :: st) o ↔ ji_kd M a = some (0, 8) ∧ ji_Ev C 99 24 M lv (ji_rv (ji_gR M a 0) :: st) o := ev_getR (k := 99) rfl fd_8_10 rfl
theorem s99_24 : ji_Ev C 99 24 M lv (.ref a :: st) o ↔ ji_kd M a = some (0, 5) ∧ ji_Ev C 99 27 M lv (.int (ji_gI M a 1) :: st) o := ev_getI (k := 99) rfl fd_8_99 rfl
theorem s99_27 : ji_Ev C 99 27 M lv (p2 :: p1 :: p0 :: st) o ↔ ji_ok8 st ∧ ji_evC (C 43 [p0, p1, p2] M) (fun v M' => ji_Ev C 99 30 M' lv (v.toList ++ st) o) := ev_sta (k := 99) (a := [p2, p1, p0]) rfl (Or.inl cd_8_89) rfl
theorem s99_30 : ji_Ev C 99 30 M lv (.int x :: st) o ↔ if x = 0 then ji_Ev C 99 33 M lv st o else ji_Ev C 99 36 M lv st o := ev_brz (c := .ne) rfl (by decide) rfl
theorem s99_33 : ji_Ev C 99 33 M lv st o ↔ ji_Ev C 99 35 M lv (.int (-2) :: st) o := ev_go (S := (35, M, lv, (.int (-2) :: st))) rfl rfl rfl
theorem s99_35 : ji_Ev C 99 35 M lv [.int x] o ↔ o = (some (.int x), M) := ev_ireti rfl rfl
theorem s99_36 : ji_Ev C 99 36 M (some (.ref a) :: l) st o ↔ ji_Ev C 99 37 M (some (.ref a) :: l) (.ref a :: st) o := ev_go (S := (37, M, (some (.ref a) :: l), (.ref a :: st))) rfl rfl rfl
theorem s99_37 : ji_Ev C 99 37 M (l0 :: some (.int x) :: l) st o ↔ ji_Ev C 99 38 M (l0 :: some (.int x) :: l) (.int x :: st) o := ev_go (S := (38, M, (l0 :: some (.int x) :: l), (.int x :: st))) rfl rfl rfl
theorem s99_38 : ji_Ev C 99 38 M (l0 :: l1 :: some (.int x) :: l) st o ↔ ji_Ev C 99 39 M (l0 :: l1 :: some (.int x) :: l) (.int x :: st) o := ev_go (S := (39, M, (l0 :: l1 :: some (.int x) :: l), (.int x :: st))) rfl rfl rfl
theorem s99_39 : ji_Ev C 99 39 M (l0 :: l1 :: l2 :: some (.int x) :: l) st o ↔ ji_Ev C 99 40 M (l0 :: l1 :: l2 :: some (.int x) :: l) (.int x :: st) o := ev_go (S := (40, M, (l0 :: l1 :: l2 :: some (.int x) :: l), (.int x :: st))) rfl rfl rfl
theorem s99_40 : ji_Ev C 99 40 M lv (p2 :: p1 :: p0 :: .ref a :: st) o ↔ (ji_rcb M 8 (.ref a) = true ∧ ji_ok8 st) ∧ ji_evC (C 80 [.ref a, p0, p1, p2] M) (fun v M' => ji_Ev C 99 43 M' lv (v.toList ++ st) o) := ev_inv (k := 99) rfl cd_8_199 rfl
theorem s99_43 : ji_Ev C 99 43 M lv (.int x :: st) o ↔ if x = 0 then ji_Ev C 99 50 M lv st o else ji_Ev C 99 46 M lv st o := ev_brz (c := .eq) rfl (by decide) rfl
theorem s99_46 : ji_Ev C 99 46 M lv st o ↔ ji_Ev C 99 47 M lv (.int 1 :: st) o := ev_go (S := (47, M, lv, (.int 1 :: st))) rfl rfl rfl
theorem s99_47 : ji_Ev C 99 47 M lv st o ↔ ji_Ev C 99 51 M lv st o := ev_gt rfl (by decide) rfl
theorem s99_50 : ji_Ev C 99 50 M lv st o ↔ ji_Ev C 99 51 M lv (.int 0 :: st) o := ev_go (S := (51, M, lv, (.int 0 :: st))) rfl rfl rfl
theorem s99_51 : ji_Ev C 99 51 M lv [.int x] o ↔ o = (some (.int x), M) := ev_ireti rfl rfl
theorem s100_0 : ji_Ev C 100 0 M (l0 :: some (.int x) :: l) st o ↔ ji_Ev C 100 1 M (l0 :: some (.int x) :: l) (.int x :: st) o := ev_go (S := (1, M, (l0 :: some (.int x) :: l), (.int x :: st))) rfl rfl rfl
theorem s100_1 : ji_Ev C 100 1 M lv (p0 :: st) o ↔ ji_ok8 st ∧ ji_evC (C 101 [p0] M) (fun v M' => ji_Ev C 100 4 M' lv (v.toList ++ st) o) := ev_sta (k := 100) (a := [p0]) rfl (Or.inl cd_8_205) rfl
theorem s100_4 : ji_Ev C 100 4 M lv (.int x :: st) o ↔ 4 < lv.length ∧ ji_Ev C 100 6 M (ji_s1 lv 4 (.int x)) st o := ev_stI rfl rfl rfl
theorem s100_6 : ji_Ev C 100 6 M (l0 :: some (.int x) :: l) st o ↔ ji_Ev C 100 7 M (l0 :: some (.int x) :: l) (.int x :: st) o := ev_go (S := (7, M, (l0 :: some (.int x) :: l), (.int x :: st))) rfl rfl rfl
theorem s100_7 : ji_Ev C 100 7 M (some (.ref a) :: l) st o ↔ ji_Ev C 100 8 M (some (.ref a) :: l) (.ref a :: st) o := ev_go (S := (8, M, (some (.ref a) :: l), (.ref a :: st))) rfl rfl rfl
theorem s100_8 : ji_Ev C 100 8 M lv (.ref a :: st) o ↔ ji_kd M a = some (0, 8) ∧ ji_Ev C 100 11 M lv (ji_rv (ji_gR M a 0) :: st) o := ev_getR (k := 100) rfl fd_8_10 rfl
theorem s100_11 : ji_Ev C 100 11 M lv (.ref a :: st) o ↔ ji_kd M a = some (0, 5) ∧ ji_Ev C 100 14 M lv (ji_rv (ji_gR M a 0) :: st) o := ev_getR (k := 100) rfl fd_8_111 rfl
theorem s100_14 : ji_Ev C 100 14 M lv (.ref a :: st) o ↔ (ji_rcb M 2 (.ref a) = true ∧ ji_ok8 st) ∧ ji_evC (C 47 [.ref a] M) (fun v M' => ji_Ev C 100 17 M' lv (v.toList ++ st) o) := ev_inv (k := 100) rfl cd_8_202 rfl
theorem s100_17 : ji_Ev C 100 17 M lv (p1 :: p0 :: st) o ↔ ji_ok8 st ∧ ji_evC (C 102 [p0, p1] M) (fun v M' => ji_Ev C 100 20 M' lv (v.toList ++ st) o) := ev_sta (k := 100) (a := [p1, p0]) rfl (Or.inl cd_8_210) rfl
theorem s100_20 : ji_Ev C 100 20 M lv (.int x :: st) o ↔ if x = 0 then ji_Ev C 100 39 M lv st o else ji_Ev C 100 23 M lv st o := ev_brz (c := .eq) rfl (by decide) rfl
theorem s100_23 : ji_Ev C 100 23 M (l0 :: l1 :: l2 :: l3 :: some (.int x) :: l) st o ↔ ji_Ev C 100 25 M (l0 :: l1 :: l2 :: l3 :: some (.int x) :: l) (.int x :: st) o := ev_go (S := (25, M, (l0 :: l1 :: l2 :: l3 :: some (.int x) :: l), (.int x :: st))) rfl rfl rfl
theorem s100_25 : ji_Ev C 100 25 M lv st o ↔ ji_Ev C 100 26 M lv (.int 5 :: st) o := ev_go (S := (26, M, lv, (.int 5 :: st))) rfl rfl rfl
theorem s100_26 : ji_Ev C 100 26 M lv (.int y :: .int x :: st) o ↔ if y < x then ji_Ev C 100 39 M lv st o else ji_Ev C 100 29 M lv st o := ev_brc (c := .gt) rfl (by decide) rfl
theorem s100_29 : ji_Ev C 100 29 M (l0 :: l1 :: some (.int x) :: l) st o ↔ ji_Ev C 100 30 M (l0 :: l1 :: some (.int x) :: l) (.int x :: st) o := ev_go (S := (30, M, (l0 :: l1 :: some (.int x) :: l), (.int x :: st))) rfl rfl rfl
theorem s100_30 : ji_Ev C 100 30 M lv st o ↔ ji_Ev C 100 31 M lv (.int 1 :: st) o := ev_go (S := (31, M, lv, (.int 1 :: st))) rfl rfl rfl
theorem s100_31 : ji_Ev C 100 31 M lv st o ↔ ji_Ev C 100 33 M lv (.int 24 :: st) o := ev_go (S := (33, M, lv, (.int 24 :: st))) rfl rfl rfl
theorem s100_33 : ji_Ev C 100 33 M lv (p2 :: p1 :: p0 :: st) o ↔ ji_ok8 st ∧ ji_evC (C 43 [p0, p1, p2] M) (fun v M' => ji_Ev C 100 36 M' lv (v.toList ++ st) o) := ev_sta (k := 100) (a := [p2, p1, p0]) rfl (Or.inl cd_8_89) rfl
theorem s100_36 : ji_Ev C 100 36 M lv (.int x :: st) o ↔ if x = 0 then ji_Ev C 100 39 M lv st o else ji_Ev C 100 42 M lv st o := ev_brz (c := .ne) rfl (by decide) rfl
theorem s100_39 : ji_Ev C 100 39 M lv st o ↔ ji_Ev C 100 41 M lv (.int (-2) :: st) o := ev_go (S := (41, M, lv, (.int (-2) :: st))) rfl rfl rfl
theorem s100_41 : ji_Ev C 100 41 M lv [.int x] o ↔ o = (some (.int x), M) := ev_ireti rfl rfl
theorem s100_42 : ji_Ev C 100 42 M (some (.ref a) :: l) st o ↔ ji_Ev C 100 43 M (some (.ref a) :: l) (.ref a :: st) o := ev_go (S := (43, M, (some (.ref a) :: l), (.ref a :: st))) rfl rfl rfl
theorem s100_43 : ji_Ev C 100 43 M lv (.ref a :: st) o ↔ ji_kd M a = some (0, 8) ∧ ji_Ev C 100 46 M lv (ji_rv (ji_gR M a 0) :: st) o := ev_getR (k := 100) rfl fd_8_10 rfl
theorem s100_46 : ji_Ev C 100 46 M lv (.ref a :: st) o ↔ ji_kd M a = some (0, 5) ∧ ji_Ev C 100 49 M lv (.int (ji_gI M a 1) :: st) o := ev_getI (k := 100) rfl fd_8_99 rfl
theorem s100_49 : ji_Ev C 100 49 M (l0 :: l1 :: l2 :: l3 :: some (.int x) :: l) st o ↔ ji_Ev C 100 51 M (l0 :: l1 :: l2 :: l3 :: some (.int x) :: l) (.int x :: st) o := ev_go (S := (51, M, (l0 :: l1 :: l2 :: l3 :: some (.int x) :: l), (.int x :: st))) rfl rfl rfl
theorem s100_51 : ji_Ev C 100 51 M (l0 :: l1 :: some (.int x) :: l) st o ↔ ji_Ev C 100 52 M (l0 :: l1 :: some (.int x) :: l) (.int x :: st) o := ev_go (S := (52, M, (l0 :: l1 :: some (.int x) :: l), (.int x :: st))) rfl rfl rfl
theorem s100_52 : ji_Ev C 100 52 M lv (.int y :: .int x :: st) o ↔ ji_Ev C 100 53 M lv (.int (x * y) :: st) o := ev_go (S := (53, M, lv, (.int (x * y) :: st))) rfl rfl rfl
theorem s100_53 : ji_Ev C 100 53 M lv (.int y :: .int x :: st) o ↔ ji_Ev C 100 54 M lv (.int (x + y) :: st) o := ev_go (S := (54, M, lv, (.int (x + y) :: st))) rfl rfl rfl
theorem s100_54 : ji_Ev C 100 54 M lv st o ↔ ji_Ev C 100 57 M lv (.int 999 :: st) o := ev_go (S := (57, M, lv, (.int 999 :: st))) rfl rfl rfl
theorem s100_57 : ji_Ev C 100 57 M lv (.int y :: .int x :: st) o ↔ if y < x then ji_Ev C 100 60 M lv st o else ji_Ev C 100 63 M lv st o := ev_brc (c := .le) rfl (by decide) rfl
theorem s100_60 : ji_Ev C 100 60 M lv st o ↔ ji_Ev C 100 62 M lv (.int (-4) :: st) o := ev_go (S := (62, M, lv, (.int (-4) :: st))) rfl rfl rfl
theorem s100_62 : ji_Ev C 100 62 M lv [.int x] o ↔ o = (some (.int x), M) := ev_ireti rfl rfl
theorem s100_63 : ji_Ev C 100 63 M (l0 :: l1 :: l2 :: some (.int x) :: l) st o ↔ ji_Ev C 100 64 M (l0 :: l1 :: l2 :: some (.int x) :: l) (.int x :: st) o := ev_go (S := (64, M, (l0 :: l1 :: l2 :: some (.int x) :: l), (.int x :: st))) rfl rfl rfl
theorem s100_64 : ji_Ev C 100 64 M lv st o ↔ ji_Ev C 100 65 M lv (.int (-1) :: st) o := ev_go (S := (65, M, lv, (.int (-1) :: st))) rfl rfl rfl
theorem s100_65 : ji_Ev C 100 65 M (l0 :: l1 :: l2 :: l3 :: some (.int x) :: l) st o ↔ ji_Ev C 100 67 M (l0 :: l1 :: l2 :: l3 :: some (.int x) :: l) (.int x :: st) o := ev_go (S := (67, M, (l0 :: l1 :: l2 :: l3 :: some (.int x) :: l), (.int x :: st))) rfl rfl rfl
theorem s100_67 : ji_Ev C 100 67 M lv st o ↔ ji_Ev C 100 68 M lv (.int 1 :: st) o := ev_go (S := (68, M, lv, (.int 1 :: st))) rfl rfl rfl
theorem s100_68 : ji_Ev C 100 68 M lv (.int y :: .int x :: st) o ↔ ji_Ev C 100 69 M lv (.int (x - y) :: st) o := ev_go (S := (69, M, lv, (.int (x - y) :: st))) rfl rfl rfl
theorem s100_69 : ji_Ev C 100 69 M lv (p2 :: p1 :: p0 :: st) o ↔ ji_ok8 st ∧ ji_evC (C 43 [p0, p1, p2] M) (fun v M' => ji_Ev C 100 72 M' lv (v.toList ++ st) o) := ev_sta (k := 100) (a := [p2, p1, p0]) rfl (Or.inl cd_8_89) rfl
theorem s100_72 : ji_Ev C 100 72 M lv (.int x :: st) o ↔ if x = 0 then ji_Ev C 100 75 M lv st o else ji_Ev C 100 77 M lv st o := ev_brz (c := .ne) rfl (by decide) rfl
theorem s100_75 : ji_Ev C 100 75 M lv st o ↔ ji_Ev C 100 76 M lv (.int (-1) :: st) o := ev_go (S := (76, M, lv, (.int (-1) :: st))) rfl rfl rfl
theorem s100_76 : ji_Ev C 100 76 M lv [.int x] o ↔ o = (some (.int x), M) := ev_ireti rfl rfl
theorem s100_77 : ji_Ev C 100 77 M (some (.ref a) :: l) st o ↔ ji_Ev C 100 78 M (some (.ref a) :: l) (.ref a :: st) o := ev_go (S := (78, M, (some (.ref a) :: l), (.ref a :: st))) rfl rfl rfl
theorem s100_78 : ji_Ev C 100 78 M lv (.ref a :: st) o ↔ ji_kd M a = some (0, 8) ∧ ji_Ev C 100 81 M lv (ji_rv (ji_gR M a 3) :: st) o := ev_getR (k := 100) rfl fd_8_35 rfl
theorem s100_81 : ji_Ev C 100 81 M (some (.ref a) :: l) st o ↔ ji_Ev C 100 82 M (some (.ref a) :: l) (.ref a :: st) o := ev_go (S := (82, M, (some (.ref a) :: l), (.ref a :: st))) rfl rfl rfl
theorem s100_82 : ji_Ev C 100 82 M lv (.ref a :: st) o ↔ ji_kd M a = some (0, 8) ∧ ji_Ev C 100 85 M lv (ji_rv (ji_gR M a 0) :: st) o := ev_getR (k := 100) rfl fd_8_10 rfl
theorem s100_85 : ji_Ev C 100 85 M (some (.ref a) :: l) st o ↔ ji_Ev C 100 86 M (some (.ref a) :: l) (.ref a :: st) o := ev_go (S := (86, M, (some (.ref a) :: l), (.ref a :: st))) rfl rfl rfl
theorem s100_86 : ji_Ev C 100 86 M lv (.ref a :: st) o ↔ ji_kd M a = some (0, 8) ∧ ji_Ev C 100 89 M lv (ji_rv (ji_gR M a 1) :: st) o := ev_getR (k := 100) rfl fd_8_19 rfl
theorem s100_89 : ji_Ev C 100 89 M (l0 :: some (.int x) :: l) st o ↔ ji_Ev C 100 90 M (l0 :: some (.int x) :: l) (.int x :: st) o := ev_go (S := (90, M, (l0 :: some (.int x) :: l), (.int x :: st))) rfl rfl rfl
theorem s100_90 : ji_Ev C 100 90 M (l0 :: l1 :: some (.int x) :: l) st o ↔ ji_Ev C 100 91 M (l0 :: l1 :: some (.int x) :: l) (.int x :: st) o := ev_go (S := (91, M, (l0 :: l1 :: some (.int x) :: l), (.int x :: st))) rfl rfl rfl
theorem s100_91 : ji_Ev C 100 91 M lv (p3 :: p2 :: p1 :: p0 :: .ref a :: st) o ↔ (ji_rcb M 1 (.ref a) = true ∧ ji_ok8 st) ∧ ji_evC (C 103 [.ref a, p0, p1, p2, p3] M) (fun v M' => ji_Ev C 100 94 M' lv (v.toList ++ st) o) := ev_inv (k := 100) rfl cd_8_213 rfl
theorem s100_94 : ji_Ev C 100 94 M (l0 :: l1 :: l2 :: some (.int x) :: l) st o ↔ ji_Ev C 100 95 M (l0 :: l1 :: l2 :: some (.int x) :: l) (.int x :: st) o := ev_go (S := (95, M, (l0 :: l1 :: l2 :: some (.int x) :: l), (.int x :: st))) rfl rfl rfl
theorem s100_95 : ji_Ev C 100 95 M lv st o ↔ ji_Ev C 100 96 M lv (.int (-1) :: st) o := ev_go (S := (96, M, lv, (.int (-1) :: st))) rfl rfl rfl
theorem s100_96 : ji_Ev C 100 96 M lv (.int y :: .int x :: st) o ↔ if x = y then ji_Ev C 100 99 M lv st o else ji_Ev C 100 109 M lv st o := ev_brc (c := .ne) rfl (by decide) rfl
theorem s100_99 : ji_Ev C 100 99 M (some (.ref a) :: l) st o ↔ ji_Ev C 100 100 M (some (.ref a) :: l) (.ref a :: st) o := ev_go (S := (100, M, (some (.ref a) :: l), (.ref a :: st))) rfl rfl rfl
theorem s100_100 : ji_Ev C 100 100 M lv (.ref a :: st) o ↔ ji_kd M a = some (0, 8) ∧ ji_Ev C 100 103 M lv (ji_rv (ji_gR M a 3) :: st) o := ev_getR (k := 100) rfl fd_8_35 rfl
theorem s100_103 : ji_Ev C 100 103 M lv (.ref a :: st) o ↔ (ji_rcb M 1 (.ref a) = true ∧ ji_ok8 st) ∧ ji_evC (C 109 [.ref a] M) (fun v M' => ji_Ev C 100 106 M' lv (v.toList ++ st) o) := ev_inv (k := 100) rfl cd_8_217 rfl
theorem s100_106 : ji_Ev C 100 106 M lv st o ↔ ji_Ev C 100 117 M lv st o := ev_gt rfl (by decide) rfl
theorem s100_109 : ji_Ev C 100 109 M (some (.ref a) :: l) st o ↔ ji_Ev C 100 110 M (some (.ref a) :: l) (.ref a :: st) o := ev_go (S := (110, M, (some (.ref a) :: l), (.ref a :: st))) rfl rfl rfl
theorem s100_110 : ji_Ev C 100 110 M lv (.ref a :: st) o ↔ ji_kd M a = some (0, 8) ∧ ji_Ev C 100 113 M lv (ji_rv (ji_gR M a 3) :: st) o := ev_getR (k := 100) rfl fd_8_35 rfl
theorem s100_113 : ji_Ev C 100 113 M (l0 :: l1 :: l2 :: some (.int x) :: l) st o ↔ ji_Ev C 100 114 M (l0 :: l1 :: l2 :: some (.int x) :: l) (.int x :: st) o := ev_go (S := (114, M, (l0 :: l1 :: l2 :: some (.int x) :: l), (.int x :: st))) rfl rfl rfl
theorem s100_114 : ji_Ev C 100 114 M lv (p0 :: .ref a :: st) o ↔ (ji_rcb M 1 (.ref a) = true ∧ ji_ok8 st) ∧ ji_evC (C 110 [.ref a, p0] M) (fun v M' => ji_Ev C 100 117 M' lv (v.toList ++ st) o) := ev_inv (k := 100) rfl cd_8_220 rfl
theorem s100_117 : ji_Ev C 100 117 M lv [.int x] o ↔ o = (some (.int x), M) := ev_ireti rfl rfl
theorem s101_0 : ji_Ev C 101 0 M (some (.int x) :: l) st o ↔ ji_Ev C 101 1 M (some (.int x) :: l) (.int x :: st) o := ev_go (S := (1, M, (some (.int x) :: l), (.int x :: st))) rfl rfl rfl
theorem s101_1 : ji_Ev C 101 1 M (some (.int x) :: l) st o ↔ ji_Ev C 101 2 M (some (.int x) :: l) (.int x :: st) o := ev_go (S := (2, M, (some (.int x) :: l), (.int x :: st))) rfl rfl rfl
theorem s101_2 : ji_Ev C 101 2 M lv st o ↔ ji_Ev C 101 3 M lv (.int 1 :: st) o := ev_go (S := (3, M, lv, (.int 1 :: st))) rfl rfl rfl
theorem s101_3 : ji_Ev C 101 3 M lv (.int y :: .int x :: st) o ↔ ji_Ev C 101 4 M lv (.int ((x.toUInt32 >>> (y.toUInt32 &&& Int32.toUInt32 31)).toInt32) :: st) o := ev_go (S := (4, M, lv, (.int ((x.toUInt32 >>> (y.toUInt32 &&& Int32.toUInt32 31)).toInt32) :: st))) rfl rfl rfl
theorem s101_4 : ji_Ev C 101 4 M lv st o ↔ ji_Ev C 101 7 M lv (.int (1431655765) :: st) o := ev_go (S := (7, M, lv, (.int (1431655765) :: st))) rfl rfl rfl
theorem s101_7 : ji_Ev C 101 7 M lv (.int y :: .int x :: st) o ↔ ji_Ev C 101 8 M lv (.int (x &&& y) :: st) o := ev_go (S := (8, M, lv, (.int (x &&& y) :: st))) rfl rfl rfl
theorem s101_8 : ji_Ev C 101 8 M lv (.int y :: .int x :: st) o ↔ ji_Ev C 101 9 M lv (.int (x - y) :: st) o := ev_go (S := (9, M, lv, (.int (x - y) :: st))) rfl rfl rfl
theorem s101_9 : ji_Ev C 101 9 M lv (.int x :: st) o ↔ 0 < lv.length ∧ ji_Ev C 101 10 M (ji_s1 lv 0 (.int x)) st o := ev_stI rfl rfl rfl
theorem s101_10 : ji_Ev C 101 10 M (some (.int x) :: l) st o ↔ ji_Ev C 101 11 M (some (.int x) :: l) (.int x :: st) o := ev_go (S := (11, M, (some (.int x) :: l), (.int x :: st))) rfl rfl rfl
theorem s101_11 : ji_Ev C 101 11 M lv st o ↔ ji_Ev C 101 14 M lv (.int (858993459) :: st) o := ev_go (S := (14, M, lv, (.int (858993459) :: st))) rfl rfl rfl
theorem s101_14 : ji_Ev C 101 14 M lv (.int y :: .int x :: st) o ↔ ji_Ev C 101 15 M lv (.int (x &&& y) :: st) o := ev_go (S := (15, M, lv, (.int (x &&& y) :: st))) rfl rfl rfl
theorem s101_15 : ji_Ev C 101 15 M (some (.int x) :: l) st o ↔ ji_Ev C 101 16 M (some (.int x) :: l) (.int x :: st) o := ev_go (S := (16, M, (some (.int x) :: l), (.int x :: st))) rfl rfl rfl
theorem s101_16 : ji_Ev C 101 16 M lv st o ↔ ji_Ev C 101 17 M lv (.int 2 :: st) o := ev_go (S := (17, M, lv, (.int 2 :: st))) rfl rfl rfl
theorem s101_17 : ji_Ev C 101 17 M lv (.int y :: .int x :: st) o ↔ ji_Ev C 101 18 M lv (.int ((x.toUInt32 >>> (y.toUInt32 &&& Int32.toUInt32 31)).toInt32) :: st) o := ev_go (S := (18, M, lv, (.int ((x.toUInt32 >>> (y.toUInt32 &&& Int32.toUInt32 31)).toInt32) :: st))) rfl rfl rfl
theorem s101_18 : ji_Ev C 101 18 M lv st o ↔ ji_Ev C 101 21 M lv (.int (858993459) :: st) o := ev_go (S := (21, M, lv, (.int (858993459) :: st))) rfl rfl rfl
theorem s101_21 : ji_Ev C 101 21 M lv (.int y :: .int x :: st) o ↔ ji_Ev C 101 22 M lv (.int (x &&& y) :: st) o := ev_go (S := (22, M, lv, (.int (x &&& y) :: st))) rfl rfl rfl
theorem s101_22 : ji_Ev C 101 22 M lv (.int y :: .int x :: st) o ↔ ji_Ev C 101 23 M lv (.int (x + y) :: st) o := ev_go (S := (23, M, lv, (.int (x + y) :: st))) rfl rfl rfl
theorem s101_23 : ji_Ev C 101 23 M lv (.int x :: st) o ↔ 0 < lv.length ∧ ji_Ev C 101 24 M (ji_s1 lv 0 (.int x)) st o := ev_stI rfl rfl rfl
theorem s101_24 : ji_Ev C 101 24 M (some (.int x) :: l) st o ↔ ji_Ev C 101 25 M (some (.int x) :: l) (.int x :: st) o := ev_go (S := (25, M, (some (.int x) :: l), (.int x :: st))) rfl rfl rfl
theorem s101_25 : ji_Ev C 101 25 M (some (.int x) :: l) st o ↔ ji_Ev C 101 26 M (some (.int x) :: l) (.int x :: st) o := ev_go (S := (26, M, (some (.int x) :: l), (.int x :: st))) rfl rfl rfl
theorem s101_26 : ji_Ev C 101 26 M lv st o ↔ ji_Ev C 101 27 M lv (.int 4 :: st) o := ev_go (S := (27, M, lv, (.int 4 :: st))) rfl rfl rfl
theorem s101_27 : ji_Ev C 101 27 M lv (.int y :: .int x :: st) o ↔ ji_Ev C 101 28 M lv (.int ((x.toUInt32 >>> (y.toUInt32 &&& Int32.toUInt32 31)).toInt32) :: st) o := ev_go (S := (28, M, lv, (.int ((x.toUInt32 >>> (y.toUInt32 &&& Int32.toUInt32 31)).toInt32) :: st))) rfl rfl rfl
theorem s101_28 : ji_Ev C 101 28 M lv (.int y :: .int x :: st) o ↔ ji_Ev C 101 29 M lv (.int (x + y) :: st) o := ev_go (S := (29, M, lv, (.int (x + y) :: st))) rfl rfl rfl
theorem s101_29 : ji_Ev C 101 29 M lv st o ↔ ji_Ev C 101 32 M lv (.int (252645135) :: st) o := ev_go (S := (32, M, lv, (.int (252645135) :: st))) rfl rfl rfl
theorem s101_32 : ji_Ev C 101 32 M lv (.int y :: .int x :: st) o ↔ ji_Ev C 101 33 M lv (.int (x &&& y) :: st) o := ev_go (S := (33, M, lv, (.int (x &&& y) :: st))) rfl rfl rfl
theorem s101_33 : ji_Ev C 101 33 M lv (.int x :: st) o ↔ 0 < lv.length ∧ ji_Ev C 101 34 M (ji_s1 lv 0 (.int x)) st o := ev_stI rfl rfl rfl
theorem s101_34 : ji_Ev C 101 34 M (some (.int x) :: l) st o ↔ ji_Ev C 101 35 M (some (.int x) :: l) (.int x :: st) o := ev_go (S := (35, M, (some (.int x) :: l), (.int x :: st))) rfl rfl rfl
theorem s101_35 : ji_Ev C 101 35 M (some (.int x) :: l) st o ↔ ji_Ev C 101 36 M (some (.int x) :: l) (.int x :: st) o := ev_go (S := (36, M, (some (.int x) :: l), (.int x :: st))) rfl rfl rfl
theorem s101_36 : ji_Ev C 101 36 M lv st o ↔ ji_Ev C 101 38 M lv (.int 8 :: st) o := ev_go (S := (38, M, lv, (.int 8 :: st))) rfl rfl rfl
theorem s101_38 : ji_Ev C 101 38 M lv (.int y :: .int x :: st) o ↔ ji_Ev C 101 39 M lv (.int ((x.toUInt32 >>> (y.toUInt32 &&& Int32.toUInt32 31)).toInt32) :: st) o := ev_go (S := (39, M, lv, (.int ((x.toUInt32 >>> (y.toUInt32 &&& Int32.toUInt32 31)).toInt32) :: st))) rfl rfl rfl
theorem s101_39 : ji_Ev C 101 39 M lv (.int y :: .int x :: st) o ↔ ji_Ev C 101 40 M lv (.int (x + y) :: st) o := ev_go (S := (40, M, lv, (.int (x + y) :: st))) rfl rfl rfl
theorem s101_40 : ji_Ev C 101 40 M lv (.int x :: st) o ↔ 0 < lv.length ∧ ji_Ev C 101 41 M (ji_s1 lv 0 (.int x)) st o := ev_stI rfl rfl rfl
theorem s101_41 : ji_Ev C 101 41 M (some (.int x) :: l) st o ↔ ji_Ev C 101 42 M (some (.int x) :: l) (.int x :: st) o := ev_go (S := (42, M, (some (.int x) :: l), (.int x :: st))) rfl rfl rfl
theorem s101_42 : ji_Ev C 101 42 M (some (.int x) :: l) st o ↔ ji_Ev C 101 43 M (some (.int x) :: l) (.int x :: st) o := ev_go (S := (43, M, (some (.int x) :: l), (.int x :: st))) rfl rfl rfl
theorem s101_43 : ji_Ev C 101 43 M lv st o ↔ ji_Ev C 101 45 M lv (.int 16 :: st) o := ev_go (S := (45, M, lv, (.int 16 :: st))) rfl rfl rfl
theorem s101_45 : ji_Ev C 101 45 M lv (.int y :: .int x :: st) o ↔ ji_Ev C 101 46 M lv (.int ((x.toUInt32 >>> (y.toUInt32 &&& Int32.toUInt32 31)).toInt32) :: st) o := ev_go (S := (46, M, lv, (.int ((x.toUInt32 >>> (y.toUInt32 &&& Int32.toUInt32 31)).toInt32) :: st))) rfl rfl rfl
theorem s101_46 : ji_Ev C 101 46 M lv (.int y :: .int x :: st) o ↔ ji_Ev C 101 47 M lv (.int (x + y) :: st) o := ev_go (S := (47, M, lv, (.int (x + y) :: st))) rfl rfl rfl
theorem s101_47 : ji_Ev C 101 47 M lv (.int x :: st) o ↔ 0 < lv.length ∧ ji_Ev C 101 48 M (ji_s1 lv 0 (.int x)) st o := ev_stI rfl rfl rfl
theorem s101_48 : ji_Ev C 101 48 M (some (.int x) :: l) st o ↔ ji_Ev C 101 49 M (some (.int x) :: l) (.int x :: st) o := ev_go (S := (49, M, (some (.int x) :: l), (.int x :: st))) rfl rfl rfl
theorem s101_49 : ji_Ev C 101 49 M lv st o ↔ ji_Ev C 101 51 M lv (.int 63 :: st) o := ev_go (S := (51, M, lv, (.int 63 :: st))) rfl rfl rfl
theorem s101_51 : ji_Ev C 101 51 M lv (.int y :: .int x :: st) o ↔ ji_Ev C 101 52 M lv (.int (x &&& y) :: st) o := ev_go (S := (52, M, lv, (.int (x &&& y) :: st))) rfl rfl rfl
theorem s101_52 : ji_Ev C 101 52 M lv [.int x] o ↔ o = (some (.int x), M) := ev_ireti rfl rfl
theorem s102_0 : ji_Ev C 102 0 M (some (.int x) :: l) st o ↔ ji_Ev C 102 1 M (some (.int x) :: l) (.int x :: st) o := ev_go (S := (1, M, (some (.int x) :: l), (.int x :: st))) rfl rfl rfl
theorem s102_1 : ji_Ev C 102 1 M (l0 :: some (.int x) :: l) st o ↔ ji_Ev C 102 2 M (l0 :: some (.int x) :: l) (.int x :: st) o := ev_go (S := (2, M, (l0 :: some (.int x) :: l), (.int x :: st))) rfl rfl rfl
theorem s102_2 : ji_Ev C 102 2 M lv (.int y :: .int x :: st) o ↔ ji_Ev C 102 3 M lv (.int ((x.toUInt32 >>> (y.toUInt32 &&& Int32.toUInt32 31)).toInt32) :: st) o := ev_go (S := (3, M, lv, (.int ((x.toUInt32 >>> (y.toUInt32 &&& Int32.toUInt32 31)).toInt32) :: st))) rfl rfl rfl
theorem s102_3 : ji_Ev C 102 3 M lv (.int x :: st) o ↔ if x = 0 then ji_Ev C 102 6 M lv st o else ji_Ev C 102 10 M lv st o := ev_brz (c := .ne) rfl (by decide) rfl
theorem s102_6 : ji_Ev C 102 6 M lv st o ↔ ji_Ev C 102 7 M lv (.int 1 :: st) o := ev_go (S := (7, M, lv, (.int 1 :: st))) rfl rfl rfl
theorem s102_7 : ji_Ev C 102 7 M lv st o ↔ ji_Ev C 102 11 M lv st o := ev_gt rfl (by decide) rfl
theorem s102_10 : ji_Ev C 102 10 M lv st o ↔ ji_Ev C 102 11 M lv (.int 0 :: st) o := ev_go (S := (11, M, lv, (.int 0 :: st))) rfl rfl rfl
theorem s102_11 : ji_Ev C 102 11 M lv [.int x] o ↔ narrow .boolean (.int x) = .int x ∧ o = (some (.int x), M) := ev_iretb rfl rfl
theorem s103_0 : ji_Ev C 103 0 M (some (.ref a) :: l) st o ↔ ji_Ev C 103 1 M (some (.ref a) :: l) (.ref a :: st) o := ev_go (S := (1, M, (some (.ref a) :: l), (.ref a :: st))) rfl rfl rfl
theorem s103_1 : ji_Ev C 103 1 M (l0 :: l1 :: some (.ref a) :: l) st o ↔ ji_Ev C 103 2 M (l0 :: l1 :: some (.ref a) :: l) (.ref a :: st) o := ev_go (S := (2, M, (l0 :: l1 :: some (.ref a) :: l), (.ref a :: st))) rfl rfl rfl
theorem s103_2 : ji_Ev C 103 2 M lv (.ref b :: .ref a :: st) o ↔ ji_kd M a = some (0, 1) ∧ ji_Ev C 103 5 (ji_sR M a 4 (some b)) lv st o := ev_putR (k := 103) rfl fd_1_25 rfl (by decide)
theorem s103_5 : ji_Ev C 103 5 M (some (.ref a) :: l) st o ↔ ji_Ev C 103 6 M (some (.ref a) :: l) (.ref a :: st) o := ev_go (S := (6, M, (some (.ref a) :: l), (.ref a :: st))) rfl rfl rfl
theorem s103_6 : ji_Ev C 103 6 M (l0 :: l1 :: l2 :: l3 :: some (.int x) :: l) st o ↔ ji_Ev C 103 8 M (l0 :: l1 :: l2 :: l3 :: some (.int x) :: l) (.int x :: st) o := ev_go (S := (8, M, (l0 :: l1 :: l2 :: l3 :: some (.int x) :: l), (.int x :: st))) rfl rfl rfl
theorem s103_8 : ji_Ev C 103 8 M lv (.int x :: .ref a :: st) o ↔ ji_kd M a = some (0, 1) ∧ ji_Ev C 103 11 (ji_sI M a 5 x) lv st o := ev_putI (k := 103) rfl fd_1_29 rfl (by decide)
theorem s103_11 : ji_Ev C 103 11 M (some (.ref a) :: l) st o ↔ ji_Ev C 103 12 M (some (.ref a) :: l) (.ref a :: st) o := ev_go (S := (12, M, (some (.ref a) :: l), (.ref a :: st))) rfl rfl rfl
theorem s103_12 : ji_Ev C 103 12 M lv st o ↔ ji_Ev C 103 15 M lv (.long (9223372036854775807) :: st) o := ev_go (S := (15, M, lv, (.long (9223372036854775807) :: st))) rfl rfl rfl
theorem s103_15 : ji_Ev C 103 15 M lv (.long u :: .ref a :: st) o ↔ ji_kd M a = some (0, 1) ∧ ji_Ev C 103 18 (ji_sL M a 3 u) lv st o := ev_putL (k := 103) rfl fd_1_35 rfl (by decide)
theorem s103_18 : ji_Ev C 103 18 M (some (.ref a) :: l) st o ↔ ji_Ev C 103 19 M (some (.ref a) :: l) (.ref a :: st) o := ev_go (S := (19, M, (some (.ref a) :: l), (.ref a :: st))) rfl rfl rfl
theorem s103_19 : ji_Ev C 103 19 M lv (.ref a :: st) o ↔ ji_kd M a = some (0, 1) ∧ ji_Ev C 103 22 M lv (ji_rv (ji_gR M a 0) :: st) o := ev_getR (k := 103) rfl fd_1_13 rfl
theorem s103_22 : ji_Ev C 103 22 M lv st o ↔ ji_Ev C 103 23 M lv (.int 0 :: st) o := ev_go (S := (23, M, lv, (.int 0 :: st))) rfl rfl rfl
theorem s103_23 : ji_Ev C 103 23 M lv (.int x :: .ref a :: st) o ↔ ji_evQ (ji_kd M a) (fun n => vp_in x n ∧ ji_Ev C 103 24 M lv (ji_rv (ji_gR M a x.toNatClampNeg) :: st) o) := ev_aald rfl
theorem s103_24 : ji_Ev C 103 24 M (l0 :: some (.ref a) :: l) st o ↔ ji_Ev C 103 25 M (l0 :: some (.ref a) :: l) (.ref a :: st) o := ev_go (S := (25, M, (l0 :: some (.ref a) :: l), (.ref a :: st))) rfl rfl rfl
theorem s103_25 : ji_Ev C 103 25 M lv (p0 :: .ref a :: st) o ↔ (ji_rcb M 5 (.ref a) = true ∧ ji_ok8 st) ∧ ji_evC (C 104 [.ref a, p0] M) (fun v M' => ji_Ev C 103 28 M' lv (v.toList ++ st) o) := ev_inv (k := 103) rfl cd_1_39 rfl
theorem s103_28 : ji_Ev C 103 28 M (some (.ref a) :: l) st o ↔ ji_Ev C 103 29 M (some (.ref a) :: l) (.ref a :: st) o := ev_go (S := (29, M, (some (.ref a) :: l), (.ref a :: st))) rfl rfl rfl
theorem s103_29 : ji_Ev C 103 29 M lv st o ↔ ji_Ev C 103 30 M lv (.int 0 :: st) o := ev_go (S := (30, M, lv, (.int 0 :: st))) rfl rfl rfl
theorem s103_30 : ji_Ev C 103 30 M (l0 :: l1 :: l2 :: some (.int x) :: l) st o ↔ ji_Ev C 103 31 M (l0 :: l1 :: l2 :: some (.int x) :: l) (.int x :: st) o := ev_go (S := (31, M, (l0 :: l1 :: l2 :: some (.int x) :: l), (.int x :: st))) rfl rfl rfl
theorem s103_31 : ji_Ev C 103 31 M lv (p2 :: p1 :: p0 :: st) o ↔ ji_ok8 st ∧ ji_evC (C 106 [p0, p1, p2] M) (fun v M' => ji_Ev C 103 34 M' lv (v.toList ++ st) o) := ev_sta (k := 103) (a := [p2, p1, p0]) rfl (Or.inl cd_1_43) rfl
theorem s103_34 : ji_Ev C 103 34 M lv [] o ↔ o = (none, M) := ev_vret rfl rfl
theorem s104_0 : ji_Ev C 104 0 M (some (.ref a) :: l) st o ↔ ji_Ev C 104 1 M (some (.ref a) :: l) (.ref a :: st) o := ev_go (S := (1, M, (some (.ref a) :: l), (.ref a :: st))) rfl rfl rfl
theorem s104_1 : ji_Ev C 104 1 M lv (.ref a :: st) o ↔ ji_kd M a = some (0, 5) ∧ ji_Ev C 104 4 M lv (ji_rv (ji_gR M a 0) :: st) o := ev_getR (k := 104) rfl fd_5_14 rfl
theorem s104_4 : ji_Ev C 104 4 M (l0 :: some (.ref a) :: l) st o ↔ ji_Ev C 104 5 M (l0 :: some (.ref a) :: l) (.ref a :: st) o := ev_go (S := (5, M, (l0 :: some (.ref a) :: l), (.ref a :: st))) rfl rfl rfl
theorem s104_5 : ji_Ev C 104 5 M lv (.ref a :: st) o ↔ ji_kd M a = some (0, 5) ∧ ji_Ev C 104 8 M lv (ji_rv (ji_gR M a 0) :: st) o := ev_getR (k := 104) rfl fd_5_14 rfl
theorem s104_8 : ji_Ev C 104 8 M lv (p0 :: .ref a :: st) o ↔ (ji_rcb M 2 (.ref a) = true ∧ ji_ok8 st) ∧ ji_evC (C 105 [.ref a, p0] M) (fun v M' => ji_Ev C 104 11 M' lv (v.toList ++ st) o) := ev_inv (k := 104) rfl cd_5_113 rfl
theorem s104_11 : ji_Ev C 104 11 M (some (.ref a) :: l) st o ↔ ji_Ev C 104 12 M (some (.ref a) :: l) (.ref a :: st) o := ev_go (S := (12, M, (some (.ref a) :: l), (.ref a :: st))) rfl rfl rfl
theorem s104_12 : ji_Ev C 104 12 M (l0 :: some (.ref a) :: l) st o ↔ ji_Ev C 104 13 M (l0 :: some (.ref a) :: l) (.ref a :: st) o := ev_go (S := (13, M, (l0 :: some (.ref a) :: l), (.ref a :: st))) rfl rfl rfl
theorem s104_13 : ji_Ev C 104 13 M lv (.ref a :: st) o ↔ ji_kd M a = some (0, 5) ∧ ji_Ev C 104 16 M lv (.int (ji_gI M a 1) :: st) o := ev_getI (k := 104) rfl fd_5_20 rfl
theorem s104_16 : ji_Ev C 104 16 M lv (.int x :: .ref a :: st) o ↔ ji_kd M a = some (0, 5) ∧ ji_Ev C 104 19 (ji_sI M a 1 x) lv st o := ev_putI (k := 104) rfl fd_5_20 rfl (by decide)
theorem s104_19 : ji_Ev C 104 19 M (some (.ref a) :: l) st o ↔ ji_Ev C 104 20 M (some (.ref a) :: l) (.ref a :: st) o := ev_go (S := (20, M, (some (.ref a) :: l), (.ref a :: st))) rfl rfl rfl
theorem s104_20 : ji_Ev C 104 20 M (l0 :: some (.ref a) :: l) st o ↔ ji_Ev C 104 21 M (l0 :: some (.ref a) :: l) (.ref a :: st) o := ev_go (S := (21, M, (l0 :: some (.ref a) :: l), (.ref a :: st))) rfl rfl rfl
theorem s104_21 : ji_Ev C 104 21 M lv (.ref a :: st) o ↔ ji_kd M a = some (0, 5) ∧ ji_Ev C 104 24 M lv (.int (ji_gI M a 2) :: st) o := ev_getI (k := 104) rfl fd_5_24 rfl
theorem s104_24 : ji_Ev C 104 24 M lv (.int x :: .ref a :: st) o ↔ ji_kd M a = some (0, 5) ∧ ji_Ev C 104 27 (ji_sI M a 2 x) lv st o := ev_putI (k := 104) rfl fd_5_24 rfl (by decide)
theorem s104_27 : ji_Ev C 104 27 M (some (.ref a) :: l) st o ↔ ji_Ev C 104 28 M (some (.ref a) :: l) (.ref a :: st) o := ev_go (S := (28, M, (some (.ref a) :: l), (.ref a :: st))) rfl rfl rfl
theorem s104_28 : ji_Ev C 104 28 M (l0 :: some (.ref a) :: l) st o ↔ ji_Ev C 104 29 M (l0 :: some (.ref a) :: l) (.ref a :: st) o := ev_go (S := (29, M, (l0 :: some (.ref a) :: l), (.ref a :: st))) rfl rfl rfl
theorem s104_29 : ji_Ev C 104 29 M lv (.ref a :: st) o ↔ ji_kd M a = some (0, 5) ∧ ji_Ev C 104 32 M lv (.int (ji_gI M a 3) :: st) o := ev_getI (k := 104) rfl fd_5_27 rfl
theorem s104_32 : ji_Ev C 104 32 M lv (.int x :: .ref a :: st) o ↔ ji_kd M a = some (0, 5) ∧ ji_Ev C 104 35 (ji_sI M a 3 x) lv st o := ev_putI (k := 104) rfl fd_5_27 rfl (by decide)
theorem s104_35 : ji_Ev C 104 35 M (some (.ref a) :: l) st o ↔ ji_Ev C 104 36 M (some (.ref a) :: l) (.ref a :: st) o := ev_go (S := (36, M, (some (.ref a) :: l), (.ref a :: st))) rfl rfl rfl
theorem s104_36 : ji_Ev C 104 36 M (l0 :: some (.ref a) :: l) st o ↔ ji_Ev C 104 37 M (l0 :: some (.ref a) :: l) (.ref a :: st) o := ev_go (S := (37, M, (l0 :: some (.ref a) :: l), (.ref a :: st))) rfl rfl rfl
theorem s104_37 : ji_Ev C 104 37 M lv (.ref a :: st) o ↔ ji_kd M a = some (0, 5) ∧ ji_Ev C 104 40 M lv (.int (ji_gI M a 4) :: st) o := ev_getI (k := 104) rfl fd_5_30 rfl
theorem s104_40 : ji_Ev C 104 40 M lv (.int x :: .ref a :: st) o ↔ ji_kd M a = some (0, 5) ∧ ji_Ev C 104 43 (ji_sI M a 4 x) lv st o := ev_putI (k := 104) rfl fd_5_30 rfl (by decide)
theorem s104_43 : ji_Ev C 104 43 M (some (.ref a) :: l) st o ↔ ji_Ev C 104 44 M (some (.ref a) :: l) (.ref a :: st) o := ev_go (S := (44, M, (some (.ref a) :: l), (.ref a :: st))) rfl rfl rfl
theorem s104_44 : ji_Ev C 104 44 M (l0 :: some (.ref a) :: l) st o ↔ ji_Ev C 104 45 M (l0 :: some (.ref a) :: l) (.ref a :: st) o := ev_go (S := (45, M, (l0 :: some (.ref a) :: l), (.ref a :: st))) rfl rfl rfl
theorem s104_45 : ji_Ev C 104 45 M lv (.ref a :: st) o ↔ ji_kd M a = some (0, 5) ∧ ji_Ev C 104 48 M lv (.int (ji_gI M a 5) :: st) o := ev_getI (k := 104) rfl fd_5_33 rfl
theorem s104_48 : ji_Ev C 104 48 M lv (.int x :: .ref a :: st) o ↔ ji_kd M a = some (0, 5) ∧ ji_Ev C 104 51 (ji_sI M a 5 x) lv st o := ev_putI (k := 104) rfl fd_5_33 rfl (by decide)
theorem s104_51 : ji_Ev C 104 51 M lv [] o ↔ o = (none, M) := ev_vret rfl rfl
theorem s105_0 : ji_Ev C 105 0 M (l0 :: some (.ref a) :: l) st o ↔ ji_Ev C 105 1 M (l0 :: some (.ref a) :: l) (.ref a :: st) o := ev_go (S := (1, M, (l0 :: some (.ref a) :: l), (.ref a :: st))) rfl rfl rfl
theorem s105_1 : ji_Ev C 105 1 M lv (.ref a :: st) o ↔ ji_kd M a = some (0, 2) ∧ ji_Ev C 105 4 M lv (ji_rv (ji_gR M a 2) :: st) o := ev_getR (k := 105) rfl fd_2_24 rfl
theorem s105_4 : ji_Ev C 105 4 M lv (.ref a :: st) o ↔ ji_evN (ji_kd M a) (fun n => ji_Ev C 105 5 M lv (.int (Int32.ofNat n) :: st) o) := ev_alen rfl
theorem s105_5 : ji_Ev C 105 5 M (some (.ref a) :: l) st o ↔ ji_Ev C 105 6 M (some (.ref a) :: l) (.ref a :: st) o := ev_go (S := (6, M, (some (.ref a) :: l), (.ref a :: st))) rfl rfl rfl
theorem s105_6 : ji_Ev C 105 6 M lv (.ref a :: st) o ↔ ji_kd M a = some (0, 2) ∧ ji_Ev C 105 9 M lv (ji_rv (ji_gR M a 2) :: st) o := ev_getR (k := 105) rfl fd_2_24 rfl
theorem s105_9 : ji_Ev C 105 9 M lv (.ref a :: st) o ↔ ji_evN (ji_kd M a) (fun n => ji_Ev C 105 10 M lv (.int (Int32.ofNat n) :: st) o) := ev_alen rfl
theorem s105_10 : ji_Ev C 105 10 M lv (.int y :: .int x :: st) o ↔ if x = y then ji_Ev C 105 13 M lv st o else ji_Ev C 105 39 M lv st o := ev_brc (c := .ne) rfl (by decide) rfl
theorem s105_13 : ji_Ev C 105 13 M (l0 :: some (.ref a) :: l) st o ↔ ji_Ev C 105 14 M (l0 :: some (.ref a) :: l) (.ref a :: st) o := ev_go (S := (14, M, (l0 :: some (.ref a) :: l), (.ref a :: st))) rfl rfl rfl
theorem s105_14 : ji_Ev C 105 14 M lv (.ref a :: st) o ↔ ji_kd M a = some (0, 2) ∧ ji_Ev C 105 17 M lv (ji_rv (ji_gR M a 2) :: st) o := ev_getR (k := 105) rfl fd_2_24 rfl
theorem s105_17 : ji_Ev C 105 17 M lv st o ↔ ji_Ev C 105 18 M lv (.int 0 :: st) o := ev_go (S := (18, M, lv, (.int 0 :: st))) rfl rfl rfl
theorem s105_18 : ji_Ev C 105 18 M (some (.ref a) :: l) st o ↔ ji_Ev C 105 19 M (some (.ref a) :: l) (.ref a :: st) o := ev_go (S := (19, M, (some (.ref a) :: l), (.ref a :: st))) rfl rfl rfl
theorem s105_19 : ji_Ev C 105 19 M lv (.ref a :: st) o ↔ ji_kd M a = some (0, 2) ∧ ji_Ev C 105 22 M lv (ji_rv (ji_gR M a 2) :: st) o := ev_getR (k := 105) rfl fd_2_24 rfl
theorem s105_22 : ji_Ev C 105 22 M lv st o ↔ ji_Ev C 105 23 M lv (.int 0 :: st) o := ev_go (S := (23, M, lv, (.int 0 :: st))) rfl rfl rfl
theorem s105_23 : ji_Ev C 105 23 M (some (.ref a) :: l) st o ↔ ji_Ev C 105 24 M (some (.ref a) :: l) (.ref a :: st) o := ev_go (S := (24, M, (some (.ref a) :: l), (.ref a :: st))) rfl rfl rfl
theorem s105_24 : ji_Ev C 105 24 M lv (.ref a :: st) o ↔ ji_kd M a = some (0, 2) ∧ ji_Ev C 105 27 M lv (ji_rv (ji_gR M a 2) :: st) o := ev_getR (k := 105) rfl fd_2_24 rfl
theorem s105_27 : ji_Ev C 105 27 M lv (.ref a :: st) o ↔ ji_evN (ji_kd M a) (fun n => ji_Ev C 105 28 M lv (.int (Int32.ofNat n) :: st) o) := ev_alen rfl
theorem s105_28 : ji_Ev C 105 28 M lv (.int z :: .int y :: .ref b :: .int x :: .ref a :: st) o ↔ ji_evA (ji_kd M a) (fun n0 => ji_evA (ji_kd M b) (fun n1 => (¬ x < 0 ∧ ¬ y < 0 ∧ ¬ z < 0 ∧ x.toNatClampNeg + z.toNatClampNeg ≤ n0 ∧ y.toNatClampNeg + z.toNatClampNeg ≤ n1 ∧ ji_ok8 st) ∧ ji_Ev C 105 31 (ji_cp M a x.toNatClampNeg b y.toNatClampNeg z.toNatClampNeg) lv st o)) := ev_copy (k := 105) rfl cd_2_39
theorem s105_31 : ji_Ev C 105 31 M (some (.ref a) :: l) st o ↔ ji_Ev C 105 32 M (some (.ref a) :: l) (.ref a :: st) o := ev_go (S := (32, M, (some (.ref a) :: l), (.ref a :: st))) rfl rfl rfl
theorem s105_32 : ji_Ev C 105 32 M (l0 :: some (.ref a) :: l) st o ↔ ji_Ev C 105 33 M (l0 :: some (.ref a) :: l) (.ref a :: st) o := ev_go (S := (33, M, (l0 :: some (.ref a) :: l), (.ref a :: st))) rfl rfl rfl
theorem s105_33 : ji_Ev C 105 33 M lv (.ref a :: st) o ↔ ji_kd M a = some (0, 2) ∧ ji_Ev C 105 36 M lv (.int (ji_gI M a 3) :: st) o := ev_getI (k := 105) rfl fd_2_28 rfl
theorem s105_36 : ji_Ev C 105 36 M lv (.int x :: .ref a :: st) o ↔ ji_kd M a = some (0, 2) ∧ ji_Ev C 105 39 (ji_sI M a 3 x) lv st o := ev_putI (k := 105) rfl fd_2_28 rfl (by decide)
theorem s105_39 : ji_Ev C 105 39 M lv [] o ↔ o = (none, M) := ev_vret rfl rfl
theorem s106_0 : ji_Ev C 106 0 M (l0 :: l1 :: some (.int x) :: l) st o ↔ ji_Ev C 106 1 M (l0 :: l1 :: some (.int x) :: l) (.int x :: st) o := ev_go (S := (1, M, (l0 :: l1 :: some (.int x) :: l), (.int x :: st))) rfl rfl rfl
theorem s106_1 : ji_Ev C 106 1 M lv (.int x :: st) o ↔ if x = 0 then ji_Ev C 106 9 M lv st o else ji_Ev C 106 4 M lv st o := ev_brz (c := .eq) rfl (by decide) rfl
theorem s106_4 : ji_Ev C 106 4 M (l0 :: some (.int x) :: l) st o ↔ ji_Ev C 106 5 M (l0 :: some (.int x) :: l) (.int x :: st) o := ev_go (S := (5, M, (l0 :: some (.int x) :: l), (.int x :: st))) rfl rfl rfl
theorem s106_5 : ji_Ev C 106 5 M lv st o ↔ ji_Ev C 106 6 M lv (.int 5 :: st) o := ev_go (S := (6, M, lv, (.int 5 :: st))) rfl rfl rfl
theorem s106_6 : ji_Ev C 106 6 M lv (.int y :: .int x :: st) o ↔ if x < y then ji_Ev C 106 27 M lv st o else ji_Ev C 106 9 M lv st o := ev_brc (c := .lt) rfl (by decide) rfl
theorem s106_9 : ji_Ev C 106 9 M (some (.ref a) :: l) st o ↔ ji_Ev C 106 10 M (some (.ref a) :: l) (.ref a :: st) o := ev_go (S := (10, M, (some (.ref a) :: l), (.ref a :: st))) rfl rfl rfl
theorem s106_10 : ji_Ev C 106 10 M (some (.ref a) :: l) st o ↔ ji_Ev C 106 11 M (some (.ref a) :: l) (.ref a :: st) o := ev_go (S := (11, M, (some (.ref a) :: l), (.ref a :: st))) rfl rfl rfl
theorem s106_11 : ji_Ev C 106 11 M lv (.ref a :: st) o ↔ ji_kd M a = some (0, 1) ∧ ji_Ev C 106 14 M lv (ji_rv (ji_gR M a 4) :: st) o := ev_getR (k := 106) rfl fd_1_25 rfl
theorem s106_14 : ji_Ev C 106 14 M (some (.ref a) :: l) st o ↔ ji_Ev C 106 15 M (some (.ref a) :: l) (.ref a :: st) o := ev_go (S := (15, M, (some (.ref a) :: l), (.ref a :: st))) rfl rfl rfl
theorem s106_15 : ji_Ev C 106 15 M lv (.ref a :: st) o ↔ ji_kd M a = some (0, 1) ∧ ji_Ev C 106 18 M lv (ji_rv (ji_gR M a 0) :: st) o := ev_getR (k := 106) rfl fd_1_13 rfl
theorem s106_18 : ji_Ev C 106 18 M (l0 :: some (.int x) :: l) st o ↔ ji_Ev C 106 19 M (l0 :: some (.int x) :: l) (.int x :: st) o := ev_go (S := (19, M, (l0 :: some (.int x) :: l), (.int x :: st))) rfl rfl rfl
theorem s106_19 : ji_Ev C 106 19 M lv (.int x :: .ref a :: st) o ↔ ji_evQ (ji_kd M a) (fun n => vp_in x n ∧ ji_Ev C 106 20 M lv (ji_rv (ji_gR M a x.toNatClampNeg) :: st) o) := ev_aald rfl
theorem s106_20 : ji_Ev C 106 20 M lv (p0 :: .ref a :: st) o ↔ (ji_rcb M 3 (.ref a) = true ∧ ji_ok8 st) ∧ ji_evC (C 89 [.ref a, p0] M) (fun v M' => ji_Ev C 106 23 M' lv (v.toList ++ st) o) := ev_inv (k := 106) rfl cd_1_47 rfl
theorem s106_23 : ji_Ev C 106 23 M lv (p0 :: .ref a :: st) o ↔ (ji_rcb M 1 (.ref a) = true ∧ ji_ok8 st) ∧ ji_evC (C 107 [.ref a, p0] M) (fun v M' => ji_Ev C 106 26 M' lv (v.toList ++ st) o) := ev_inv (k := 106) rfl cd_1_53 rfl
theorem s106_26 : ji_Ev C 106 26 M lv [] o ↔ o = (none, M) := ev_vret rfl rfl
theorem s106_27 : ji_Ev C 106 27 M (some (.ref a) :: l) st o ↔ ji_Ev C 106 28 M (some (.ref a) :: l) (.ref a :: st) o := ev_go (S := (28, M, (some (.ref a) :: l), (.ref a :: st))) rfl rfl rfl
theorem s106_28 : ji_Ev C 106 28 M lv (.ref a :: st) o ↔ ji_kd M a = some (0, 1) ∧ ji_Ev C 106 31 M lv (ji_rv (ji_gR M a 0) :: st) o := ev_getR (k := 106) rfl fd_1_13 rfl
theorem s106_31 : ji_Ev C 106 31 M (l0 :: some (.int x) :: l) st o ↔ ji_Ev C 106 32 M (l0 :: some (.int x) :: l) (.int x :: st) o := ev_go (S := (32, M, (l0 :: some (.int x) :: l), (.int x :: st))) rfl rfl rfl
theorem s106_32 : ji_Ev C 106 32 M lv (.int x :: .ref a :: st) o ↔ ji_evQ (ji_kd M a) (fun n => vp_in x n ∧ ji_Ev C 106 33 M lv (ji_rv (ji_gR M a x.toNatClampNeg) :: st) o) := ev_aald rfl
theorem s106_33 : ji_Ev C 106 33 M lv (.ref a :: st) o ↔ 3 < lv.length ∧ ji_Ev C 106 34 M (ji_s1 lv 3 (.ref a)) st o := ev_stA rfl rfl rfl
theorem s106_34 : ji_Ev C 106 34 M (some (.ref a) :: l) st o ↔ ji_Ev C 106 35 M (some (.ref a) :: l) (.ref a :: st) o := ev_go (S := (35, M, (some (.ref a) :: l), (.ref a :: st))) rfl rfl rfl
theorem s106_35 : ji_Ev C 106 35 M lv (.ref a :: st) o ↔ ji_kd M a = some (0, 1) ∧ ji_Ev C 106 38 M lv (ji_rv (ji_gR M a 0) :: st) o := ev_getR (k := 106) rfl fd_1_13 rfl
theorem s106_38 : ji_Ev C 106 38 M (l0 :: some (.int x) :: l) st o ↔ ji_Ev C 106 39 M (l0 :: some (.int x) :: l) (.int x :: st) o := ev_go (S := (39, M, (l0 :: some (.int x) :: l), (.int x :: st))) rfl rfl rfl
theorem s106_39 : ji_Ev C 106 39 M lv st o ↔ ji_Ev C 106 40 M lv (.int 1 :: st) o := ev_go (S := (40, M, lv, (.int 1 :: st))) rfl rfl rfl
theorem s106_40 : ji_Ev C 106 40 M lv (.int y :: .int x :: st) o ↔ ji_Ev C 106 41 M lv (.int (x + y) :: st) o := ev_go (S := (41, M, lv, (.int (x + y) :: st))) rfl rfl rfl
theorem s106_41 : ji_Ev C 106 41 M lv (.int x :: .ref a :: st) o ↔ ji_evQ (ji_kd M a) (fun n => vp_in x n ∧ ji_Ev C 106 42 M lv (ji_rv (ji_gR M a x.toNatClampNeg) :: st) o) := ev_aald rfl
theorem s106_42 : ji_Ev C 106 42 M lv (.ref a :: st) o ↔ 4 < lv.length ∧ ji_Ev C 106 44 M (ji_s1 lv 4 (.ref a)) st o := ev_stA rfl rfl rfl
theorem s106_44 : ji_Ev C 106 44 M lv st o ↔ ji_Ev C 106 45 M lv (.int 0 :: st) o := ev_go (S := (45, M, lv, (.int 0 :: st))) rfl rfl rfl
theorem s106_45 : ji_Ev C 106 45 M lv (.int x :: st) o ↔ 5 < lv.length ∧ ji_Ev C 106 47 M (ji_s1 lv 5 (.int x)) st o := ev_stI rfl rfl rfl
theorem s106_47 : ji_Ev C 106 47 M (l0 :: l1 :: l2 :: l3 :: l4 :: some (.int x) :: l) st o ↔ ji_Ev C 106 49 M (l0 :: l1 :: l2 :: l3 :: l4 :: some (.int x) :: l) (.int x :: st) o := ev_go (S := (49, M, (l0 :: l1 :: l2 :: l3 :: l4 :: some (.int x) :: l), (.int x :: st))) rfl rfl rfl
theorem s106_49 : ji_Ev C 106 49 M (l0 :: l1 :: l2 :: some (.ref a) :: l) st o ↔ ji_Ev C 106 50 M (l0 :: l1 :: l2 :: some (.ref a) :: l) (.ref a :: st) o := ev_go (S := (50, M, (l0 :: l1 :: l2 :: some (.ref a) :: l), (.ref a :: st))) rfl rfl rfl
theorem s106_50 : ji_Ev C 106 50 M lv (.ref a :: st) o ↔ ji_kd M a = some (0, 5) ∧ ji_Ev C 106 53 M lv (ji_rv (ji_gR M a 0) :: st) o := ev_getR (k := 106) rfl fd_1_57 rfl
theorem s106_53 : ji_Ev C 106 53 M lv (.ref a :: st) o ↔ (ji_rcb M 2 (.ref a) = true ∧ ji_ok8 st) ∧ ji_evC (C 47 [.ref a] M) (fun v M' => ji_Ev C 106 56 M' lv (v.toList ++ st) o) := ev_inv (k := 106) rfl cd_1_61 rfl
theorem s106_56 : ji_Ev C 106 56 M lv (.int y :: .int x :: st) o ↔ if x < y then ji_Ev C 106 59 M lv st o else ji_Ev C 106 120 M lv st o := ev_brc (c := .ge) rfl (by decide) rfl
theorem s106_59 : ji_Ev C 106 59 M (l0 :: l1 :: some (.int x) :: l) st o ↔ ji_Ev C 106 60 M (l0 :: l1 :: some (.int x) :: l) (.int x :: st) o := ev_go (S := (60, M, (l0 :: l1 :: some (.int x) :: l), (.int x :: st))) rfl rfl rfl
theorem s106_60 : ji_Ev C 106 60 M (l0 :: l1 :: l2 :: l3 :: l4 :: some (.int x) :: l) st o ↔ ji_Ev C 106 62 M (l0 :: l1 :: l2 :: l3 :: l4 :: some (.int x) :: l) (.int x :: st) o := ev_go (S := (62, M, (l0 :: l1 :: l2 :: l3 :: l4 :: some (.int x) :: l), (.int x :: st))) rfl rfl rfl
theorem s106_62 : ji_Ev C 106 62 M lv (.int y :: .int x :: st) o ↔ ji_Ev C 106 63 M lv (.int (x >>> (y &&& 31)) :: st) o := ev_go (S := (63, M, lv, (.int (x >>> (y &&& 31)) :: st))) rfl rfl rfl
theorem s106_63 : ji_Ev C 106 63 M lv st o ↔ ji_Ev C 106 64 M lv (.int 1 :: st) o := ev_go (S := (64, M, lv, (.int 1 :: st))) rfl rfl rfl
theorem s106_64 : ji_Ev C 106 64 M lv (.int y :: .int x :: st) o ↔ ji_Ev C 106 65 M lv (.int (x &&& y) :: st) o := ev_go (S := (65, M, lv, (.int (x &&& y) :: st))) rfl rfl rfl
theorem s106_65 : ji_Ev C 106 65 M lv st o ↔ ji_Ev C 106 66 M lv (.int 1 :: st) o := ev_go (S := (66, M, lv, (.int 1 :: st))) rfl rfl rfl
theorem s106_66 : ji_Ev C 106 66 M lv (.int y :: .int x :: st) o ↔ if x = y then ji_Ev C 106 69 M lv st o else ji_Ev C 106 114 M lv st o := ev_brc (c := .ne) rfl (by decide) rfl
theorem s106_69 : ji_Ev C 106 69 M (l0 :: l1 :: l2 :: l3 :: some (.ref a) :: l) st o ↔ ji_Ev C 106 71 M (l0 :: l1 :: l2 :: l3 :: some (.ref a) :: l) (.ref a :: st) o := ev_go (S := (71, M, (l0 :: l1 :: l2 :: l3 :: some (.ref a) :: l), (.ref a :: st))) rfl rfl rfl
theorem s106_71 : ji_Ev C 106 71 M (l0 :: l1 :: l2 :: some (.ref a) :: l) st o ↔ ji_Ev C 106 72 M (l0 :: l1 :: l2 :: some (.ref a) :: l) (.ref a :: st) o := ev_go (S := (72, M, (l0 :: l1 :: l2 :: some (.ref a) :: l), (.ref a :: st))) rfl rfl rfl
theorem s106_72 : ji_Ev C 106 72 M lv (p0 :: .ref a :: st) o ↔ (ji_rcb M 5 (.ref a) = true ∧ ji_ok8 st) ∧ ji_evC (C 104 [.ref a, p0] M) (fun v M' => ji_Ev C 106 75 M' lv (v.toList ++ st) o) := ev_inv (k := 106) rfl cd_1_39 rfl
theorem s106_75 : ji_Ev C 106 75 M (l0 :: l1 :: l2 :: l3 :: some (.ref a) :: l) st o ↔ ji_Ev C 106 77 M (l0 :: l1 :: l2 :: l3 :: some (.ref a) :: l) (.ref a :: st) o := ev_go (S := (77, M, (l0 :: l1 :: l2 :: l3 :: some (.ref a) :: l), (.ref a :: st))) rfl rfl rfl
theorem s106_77 : ji_Ev C 106 77 M (l0 :: l1 :: l2 :: l3 :: l4 :: some (.int x) :: l) st o ↔ ji_Ev C 106 79 M (l0 :: l1 :: l2 :: l3 :: l4 :: some (.int x) :: l) (.int x :: st) o := ev_go (S := (79, M, (l0 :: l1 :: l2 :: l3 :: l4 :: some (.int x) :: l), (.int x :: st))) rfl rfl rfl
theorem s106_79 : ji_Ev C 106 79 M lv (p0 :: .ref a :: st) o ↔ (ji_rcb M 5 (.ref a) = true ∧ ji_ok8 st) ∧ ji_evC (C 108 [.ref a, p0] M) (fun v M' => ji_Ev C 106 82 M' lv (v.toList ++ st) o) := ev_inv (k := 106) rfl cd_1_67 rfl
theorem s106_82 : ji_Ev C 106 82 M (l0 :: l1 :: l2 :: l3 :: some (.ref a) :: l) st o ↔ ji_Ev C 106 84 M (l0 :: l1 :: l2 :: l3 :: some (.ref a) :: l) (.ref a :: st) o := ev_go (S := (84, M, (l0 :: l1 :: l2 :: l3 :: some (.ref a) :: l), (.ref a :: st))) rfl rfl rfl
theorem s106_84 : ji_Ev C 106 84 M (some (.ref a) :: l) st o ↔ ji_Ev C 106 85 M (some (.ref a) :: l) (.ref a :: st) o := ev_go (S := (85, M, (some (.ref a) :: l), (.ref a :: st))) rfl rfl rfl
theorem s106_85 : ji_Ev C 106 85 M lv (.ref a :: st) o ↔ ji_kd M a = some (0, 1) ∧ ji_Ev C 106 88 M lv (.int (ji_gI M a 5) :: st) o := ev_getI (k := 106) rfl fd_1_29 rfl
theorem s106_88 : ji_Ev C 106 88 M lv (p0 :: .ref a :: st) o ↔ (ji_rcb M 5 (.ref a) = true ∧ ji_ok8 st) ∧ ji_evC (C 46 [.ref a, p0] M) (fun v M' => ji_Ev C 106 91 M' lv (v.toList ++ st) o) := ev_inv (k := 106) rfl cd_1_71 rfl
theorem s106_91 : ji_Ev C 106 91 M (some (.ref a) :: l) st o ↔ ji_Ev C 106 92 M (some (.ref a) :: l) (.ref a :: st) o := ev_go (S := (92, M, (some (.ref a) :: l), (.ref a :: st))) rfl rfl rfl
theorem s106_92 : ji_Ev C 106 92 M lv (.ref a :: st) o ↔ ji_kd M a = some (0, 1) ∧ ji_Ev C 106 95 M lv (ji_rv (ji_gR M a 1) :: st) o := ev_getR (k := 106) rfl fd_1_17 rfl
theorem s106_95 : ji_Ev C 106 95 M (l0 :: some (.int x) :: l) st o ↔ ji_Ev C 106 96 M (l0 :: some (.int x) :: l) (.int x :: st) o := ev_go (S := (96, M, (l0 :: some (.int x) :: l), (.int x :: st))) rfl rfl rfl
theorem s106_96 : ji_Ev C 106 96 M (l0 :: l1 :: l2 :: l3 :: l4 :: some (.int x) :: l) st o ↔ ji_Ev C 106 98 M (l0 :: l1 :: l2 :: l3 :: l4 :: some (.int x) :: l) (.int x :: st) o := ev_go (S := (98, M, (l0 :: l1 :: l2 :: l3 :: l4 :: some (.int x) :: l), (.int x :: st))) rfl rfl rfl
theorem s106_98 : ji_Ev C 106 98 M lv (.int y :: .int x :: .ref a :: st) o ↔ ji_evA (ji_kd M a) (fun n => vp_in x n ∧ ji_Ev C 106 99 (ji_sI M a x.toNatClampNeg y) lv st o) := ev_iast rfl
theorem s106_99 : ji_Ev C 106 99 M (some (.ref a) :: l) st o ↔ ji_Ev C 106 100 M (some (.ref a) :: l) (.ref a :: st) o := ev_go (S := (100, M, (some (.ref a) :: l), (.ref a :: st))) rfl rfl rfl
theorem s106_100 : ji_Ev C 106 100 M (l0 :: some (.int x) :: l) st o ↔ ji_Ev C 106 101 M (l0 :: some (.int x) :: l) (.int x :: st) o := ev_go (S := (101, M, (l0 :: some (.int x) :: l), (.int x :: st))) rfl rfl rfl
theorem s106_101 : ji_Ev C 106 101 M lv st o ↔ ji_Ev C 106 102 M lv (.int 1 :: st) o := ev_go (S := (102, M, lv, (.int 1 :: st))) rfl rfl rfl
theorem s106_102 : ji_Ev C 106 102 M lv (.int y :: .int x :: st) o ↔ ji_Ev C 106 103 M lv (.int (x + y) :: st) o := ev_go (S := (103, M, lv, (.int (x + y) :: st))) rfl rfl rfl
theorem s106_103 : ji_Ev C 106 103 M (l0 :: l1 :: some (.int x) :: l) st o ↔ ji_Ev C 106 104 M (l0 :: l1 :: some (.int x) :: l) (.int x :: st) o := ev_go (S := (104, M, (l0 :: l1 :: some (.int x) :: l), (.int x :: st))) rfl rfl rfl
theorem s106_104 : ji_Ev C 106 104 M lv st o ↔ ji_Ev C 106 105 M lv (.int 1 :: st) o := ev_go (S := (105, M, lv, (.int 1 :: st))) rfl rfl rfl
theorem s106_105 : ji_Ev C 106 105 M (l0 :: l1 :: l2 :: l3 :: l4 :: some (.int x) :: l) st o ↔ ji_Ev C 106 107 M (l0 :: l1 :: l2 :: l3 :: l4 :: some (.int x) :: l) (.int x :: st) o := ev_go (S := (107, M, (l0 :: l1 :: l2 :: l3 :: l4 :: some (.int x) :: l), (.int x :: st))) rfl rfl rfl
theorem s106_107 : ji_Ev C 106 107 M lv (.int y :: .int x :: st) o ↔ ji_Ev C 106 108 M lv (.int (x <<< (y &&& 31)) :: st) o := ev_go (S := (108, M, lv, (.int (x <<< (y &&& 31)) :: st))) rfl rfl rfl
theorem s106_108 : ji_Ev C 106 108 M lv st o ↔ ji_Ev C 106 109 M lv (.int (-1) :: st) o := ev_go (S := (109, M, lv, (.int (-1) :: st))) rfl rfl rfl
theorem s106_109 : ji_Ev C 106 109 M lv (.int y :: .int x :: st) o ↔ ji_Ev C 106 110 M lv (.int (x ^^^ y) :: st) o := ev_go (S := (110, M, lv, (.int (x ^^^ y) :: st))) rfl rfl rfl
theorem s106_110 : ji_Ev C 106 110 M lv (.int y :: .int x :: st) o ↔ ji_Ev C 106 111 M lv (.int (x &&& y) :: st) o := ev_go (S := (111, M, lv, (.int (x &&& y) :: st))) rfl rfl rfl
theorem s106_111 : ji_Ev C 106 111 M lv (p2 :: p1 :: p0 :: st) o ↔ ji_ok8 st ∧ ji_evC (C 106 [p0, p1, p2] M) (fun v M' => ji_Ev C 106 114 M' lv (v.toList ++ st) o) := ev_sta (k := 106) (a := [p2, p1, p0]) rfl (Or.inl cd_1_43) rfl
theorem s106_114 : ji_Ev C 106 114 M lv st o ↔ ji_evL (lv.getD 5 none) ji_isI (fun v => match v with | .int x => 5 < lv.length ∧ ji_Ev C 106 117 M (ji_s1 lv 5 (.int (x + Int32.ofInt 1))) st o | _ => False) := ev_iinc rfl
theorem s106_117 : ji_Ev C 106 117 M lv st o ↔ ji_Ev C 106 47 M lv st o := ev_gt rfl (by decide) rfl
theorem s106_120 : ji_Ev C 106 120 M lv [] o ↔ o = (none, M) := ev_vret rfl rfl
theorem s107_0 : ji_Ev C 107 0 M (l0 :: some (.long u) :: l) st o ↔ ji_Ev C 107 1 M (l0 :: some (.long u) :: l) (.long u :: st) o := ev_go (S := (1, M, (l0 :: some (.long u) :: l), (.long u :: st))) rfl rfl rfl
theorem s107_1 : ji_Ev C 107 1 M (some (.ref a) :: l) st o ↔ ji_Ev C 107 2 M (some (.ref a) :: l) (.ref a :: st) o := ev_go (S := (2, M, (some (.ref a) :: l), (.ref a :: st))) rfl rfl rfl
theorem s107_2 : ji_Ev C 107 2 M lv (.ref a :: st) o ↔ ji_kd M a = some (0, 1) ∧ ji_Ev C 107 5 M lv (.long (ji_gL M a 3) :: st) o := ev_getL (k := 107) rfl fd_1_35 rfl
theorem s107_5 : ji_Ev C 107 5 M lv (.long v :: .long u :: st) o ↔ ji_Ev C 107 6 M lv (.int (lg_cmp u v) :: st) o := ev_go (S := (6, M, lv, (.int (lg_cmp u v) :: st))) rfl rfl rfl
theorem s107_6 : ji_Ev C 107 6 M lv (.int x :: st) o ↔ if x < 0 then ji_Ev C 107 9 M lv st o else ji_Ev C 107 28 M lv st o := ev_brz (c := .ge) rfl (by decide) rfl
theorem s107_9 : ji_Ev C 107 9 M (some (.ref a) :: l) st o ↔ ji_Ev C 107 10 M (some (.ref a) :: l) (.ref a :: st) o := ev_go (S := (10, M, (some (.ref a) :: l), (.ref a :: st))) rfl rfl rfl
theorem s107_10 : ji_Ev C 107 10 M (l0 :: some (.long u) :: l) st o ↔ ji_Ev C 107 11 M (l0 :: some (.long u) :: l) (.long u :: st) o := ev_go (S := (11, M, (l0 :: some (.long u) :: l), (.long u :: st))) rfl rfl rfl
theorem s107_11 : ji_Ev C 107 11 M lv (.long u :: .ref a :: st) o ↔ ji_kd M a = some (0, 1) ∧ ji_Ev C 107 14 (ji_sL M a 3 u) lv st o := ev_putL (k := 107) rfl fd_1_35 rfl (by decide)
theorem s107_14 : ji_Ev C 107 14 M (some (.ref a) :: l) st o ↔ ji_Ev C 107 15 M (some (.ref a) :: l) (.ref a :: st) o := ev_go (S := (15, M, (some (.ref a) :: l), (.ref a :: st))) rfl rfl rfl
theorem s107_15 : ji_Ev C 107 15 M lv (.ref a :: st) o ↔ ji_kd M a = some (0, 1) ∧ ji_Ev C 107 18 M lv (ji_rv (ji_gR M a 1) :: st) o := ev_getR (k := 107) rfl fd_1_17 rfl
theorem s107_18 : ji_Ev C 107 18 M lv st o ↔ ji_Ev C 107 19 M lv (.int 0 :: st) o := ev_go (S := (19, M, lv, (.int 0 :: st))) rfl rfl rfl
theorem s107_19 : ji_Ev C 107 19 M (some (.ref a) :: l) st o ↔ ji_Ev C 107 20 M (some (.ref a) :: l) (.ref a :: st) o := ev_go (S := (20, M, (some (.ref a) :: l), (.ref a :: st))) rfl rfl rfl
theorem s107_20 : ji_Ev C 107 20 M lv (.ref a :: st) o ↔ ji_kd M a = some (0, 1) ∧ ji_Ev C 107 23 M lv (ji_rv (ji_gR M a 2) :: st) o := ev_getR (k := 107) rfl fd_1_21 rfl
theorem s107_23 : ji_Ev C 107 23 M lv st o ↔ ji_Ev C 107 24 M lv (.int 0 :: st) o := ev_go (S := (24, M, lv, (.int 0 :: st))) rfl rfl rfl
theorem s107_24 : ji_Ev C 107 24 M lv st o ↔ ji_Ev C 107 25 M lv (.int 5 :: st) o := ev_go (S := (25, M, lv, (.int 5 :: st))) rfl rfl rfl
theorem s107_25 : ji_Ev C 107 25 M lv (.int z :: .int y :: .ref b :: .int x :: .ref a :: st) o ↔ ji_evA (ji_kd M a) (fun n0 => ji_evA (ji_kd M b) (fun n1 => (¬ x < 0 ∧ ¬ y < 0 ∧ ¬ z < 0 ∧ x.toNatClampNeg + z.toNatClampNeg ≤ n0 ∧ y.toNatClampNeg + z.toNatClampNeg ≤ n1 ∧ ji_ok8 st) ∧ ji_Ev C 107 28 (ji_cp M a x.toNatClampNeg b y.toNatClampNeg z.toNatClampNeg) lv st o)) := ev_copy (k := 107) rfl cd_1_74
theorem s107_28 : ji_Ev C 107 28 M lv [] o ↔ o = (none, M) := ev_vret rfl rfl
theorem s108_0 : ji_Ev C 108 0 M (some (.ref a) :: l) st o ↔ ji_Ev C 108 1 M (some (.ref a) :: l) (.ref a :: st) o := ev_go (S := (1, M, (some (.ref a) :: l), (.ref a :: st))) rfl rfl rfl
theorem s108_1 : ji_Ev C 108 1 M (l0 :: some (.int x) :: l) st o ↔ ji_Ev C 108 2 M (l0 :: some (.int x) :: l) (.int x :: st) o := ev_go (S := (2, M, (l0 :: some (.int x) :: l), (.int x :: st))) rfl rfl rfl
theorem s108_2 : ji_Ev C 108 2 M lv (p0 :: .ref a :: st) o ↔ (ji_rcb M 5 (.ref a) = true ∧ ji_ok8 st) ∧ ji_evC (C 50 [.ref a, p0] M) (fun v M' => ji_Ev C 108 5 M' lv (v.toList ++ st) o) := ev_inv (k := 108) rfl cd_5_57 rfl
theorem s108_5 : ji_Ev C 108 5 M lv st o ↔ ji_Ev C 108 6 M lv (.int 3 :: st) o := ev_go (S := (6, M, lv, (.int 3 :: st))) rfl rfl rfl
theorem s108_6 : ji_Ev C 108 6 M lv (p1 :: p0 :: st) o ↔ ji_ok8 st ∧ ji_evC (C 72 [p0, p1] M) (fun v M' => ji_Ev C 108 9 M' lv (v.toList ++ st) o) := ev_sta (k := 108) (a := [p1, p0]) rfl (Or.inl cd_5_81) rfl
theorem s108_9 : ji_Ev C 108 9 M lv (.int x :: st) o ↔ if x = 0 then ji_Ev C 108 31 M lv st o else ji_Ev C 108 12 M lv st o := ev_brz (c := .eq) rfl (by decide) rfl
theorem s108_12 : ji_Ev C 108 12 M (some (.ref a) :: l) st o ↔ ji_Ev C 108 13 M (some (.ref a) :: l) (.ref a :: st) o := ev_go (S := (13, M, (some (.ref a) :: l), (.ref a :: st))) rfl rfl rfl
theorem s108_13 : ji_Ev C 108 13 M (l0 :: some (.int x) :: l) st o ↔ ji_Ev C 108 14 M (l0 :: some (.int x) :: l) (.int x :: st) o := ev_go (S := (14, M, (l0 :: some (.int x) :: l), (.int x :: st))) rfl rfl rfl
theorem s108_14 : ji_Ev C 108 14 M lv st o ↔ ji_Ev C 108 15 M lv (.int 3 :: st) o := ev_go (S := (15, M, lv, (.int 3 :: st))) rfl rfl rfl
theorem s108_15 : ji_Ev C 108 15 M lv (p1 :: p0 :: .ref a :: st) o ↔ (ji_rcb M 5 (.ref a) = true ∧ ji_ok8 st) ∧ ji_evC (C 81 [.ref a, p0, p1] M) (fun v M' => ji_Ev C 108 18 M' lv (v.toList ++ st) o) := ev_inv (k := 108) rfl cd_5_84 rfl
theorem s108_18 : ji_Ev C 108 18 M lv (.int x :: st) o ↔ if x = 0 then ji_Ev C 108 31 M lv st o else ji_Ev C 108 21 M lv st o := ev_brz (c := .eq) rfl (by decide) rfl
theorem s108_21 : ji_Ev C 108 21 M (some (.ref a) :: l) st o ↔ ji_Ev C 108 22 M (some (.ref a) :: l) (.ref a :: st) o := ev_go (S := (22, M, (some (.ref a) :: l), (.ref a :: st))) rfl rfl rfl
theorem s108_22 : ji_Ev C 108 22 M (l0 :: some (.int x) :: l) st o ↔ ji_Ev C 108 23 M (l0 :: some (.int x) :: l) (.int x :: st) o := ev_go (S := (23, M, (l0 :: some (.int x) :: l), (.int x :: st))) rfl rfl rfl
theorem s108_23 : ji_Ev C 108 23 M lv st o ↔ ji_Ev C 108 24 M lv (.int 3 :: st) o := ev_go (S := (24, M, lv, (.int 3 :: st))) rfl rfl rfl
theorem s108_24 : ji_Ev C 108 24 M (some (.ref a) :: l) st o ↔ ji_Ev C 108 25 M (some (.ref a) :: l) (.ref a :: st) o := ev_go (S := (25, M, (some (.ref a) :: l), (.ref a :: st))) rfl rfl rfl
theorem s108_25 : ji_Ev C 108 25 M lv (.ref a :: st) o ↔ ji_kd M a = some (0, 5) ∧ ji_Ev C 108 28 M lv (.int (ji_gI M a 1) :: st) o := ev_getI (k := 108) rfl fd_5_20 rfl
theorem s108_28 : ji_Ev C 108 28 M lv (p2 :: p1 :: p0 :: .ref a :: st) o ↔ (ji_rcb M 5 (.ref a) = true ∧ ji_ok8 st) ∧ ji_evC (C 58 [.ref a, p0, p1, p2] M) (fun v M' => ji_Ev C 108 31 M' lv (v.toList ++ st) o) := ev_inv (k := 108) rfl cd_5_87 rfl
theorem s108_31 : ji_Ev C 108 31 M lv [] o ↔ o = (none, M) := ev_vret rfl rfl
theorem s109_0 : ji_Ev C 109 0 M lv st o ↔ ji_Ev C 109 3 M lv (.long (2147483647) :: st) o := ev_go (S := (3, M, lv, (.long (2147483647) :: st))) rfl rfl rfl
theorem s109_3 : ji_Ev C 109 3 M (some (.ref a) :: l) st o ↔ ji_Ev C 109 4 M (some (.ref a) :: l) (.ref a :: st) o := ev_go (S := (4, M, (some (.ref a) :: l), (.ref a :: st))) rfl rfl rfl
theorem s109_4 : ji_Ev C 109 4 M lv (.ref a :: st) o ↔ ji_kd M a = some (0, 1) ∧ ji_Ev C 109 7 M lv (.long (ji_gL M a 3) :: st) o := ev_getL (k := 109) rfl fd_1_35 rfl
theorem s109_7 : ji_Ev C 109 7 M lv st o ↔ ji_Ev C 109 10 M lv (.long (1000) :: st) o := ev_go (S := (10, M, lv, (.long (1000) :: st))) rfl rfl rfl
theorem s109_10 : ji_Ev C 109 10 M lv (.long v :: .long u :: st) o ↔ ¬ v = 0 ∧ ji_Ev C 109 11 M lv (.long (u / v) :: st) o := ev_dvL rfl
theorem s109_11 : ji_Ev C 109 11 M lv (.long v :: .long u :: st) o ↔ ji_ok8 st ∧ ji_Ev C 109 14 M lv (.long (if v < u then v else u) :: st) o := ev_minL (k := 109) rfl cd_1_84
theorem s109_14 : ji_Ev C 109 14 M lv (.long u :: st) o ↔ ji_Ev C 109 15 M lv (.int u.toInt32 :: st) o := ev_go (S := (15, M, lv, (.int u.toInt32 :: st))) rfl rfl rfl
theorem s109_15 : ji_Ev C 109 15 M lv [.int x] o ↔ o = (some (.int x), M) := ev_ireti rfl rfl
theorem s110_0 : ji_Ev C 110 0 M (l0 :: some (.int x) :: l) st o ↔ ji_Ev C 110 1 M (l0 :: some (.int x) :: l) (.int x :: st) o := ev_go (S := (1, M, (l0 :: some (.int x) :: l), (.int x :: st))) rfl rfl rfl
theorem s110_1 : ji_Ev C 110 1 M lv (.int x :: st) o ↔ if x < 0 then ji_Ev C 110 18 M lv st o else ji_Ev C 110 4 M lv st o := ev_brz (c := .lt) rfl (by decide) rfl
theorem s110_4 : ji_Ev C 110 4 M (l0 :: some (.int x) :: l) st o ↔ ji_Ev C 110 5 M (l0 :: some (.int x) :: l) (.int x :: st) o := ev_go (S := (5, M, (l0 :: some (.int x) :: l), (.int x :: st))) rfl rfl rfl
theorem s110_5 : ji_Ev C 110 5 M lv st o ↔ ji_Ev C 110 6 M lv (.int 5 :: st) o := ev_go (S := (6, M, lv, (.int 5 :: st))) rfl rfl rfl
theorem s110_6 : ji_Ev C 110 6 M lv (.int y :: .int x :: st) o ↔ if x < y then ji_Ev C 110 9 M lv st o else ji_Ev C 110 18 M lv st o := ev_brc (c := .ge) rfl (by decide) rfl
theorem s110_9 : ji_Ev C 110 9 M (some (.ref a) :: l) st o ↔ ji_Ev C 110 10 M (some (.ref a) :: l) (.ref a :: st) o := ev_go (S := (10, M, (some (.ref a) :: l), (.ref a :: st))) rfl rfl rfl
theorem s110_10 : ji_Ev C 110 10 M lv (.ref a :: st) o ↔ ji_kd M a = some (0, 1) ∧ ji_Ev C 110 13 M lv (ji_rv (ji_gR M a 2) :: st) o := ev_getR (k := 110) rfl fd_1_21 rfl
theorem s110_13 : ji_Ev C 110 13 M (l0 :: some (.int x) :: l) st o ↔ ji_Ev C 110 14 M (l0 :: some (.int x) :: l) (.int x :: st) o := ev_go (S := (14, M, (l0 :: some (.int x) :: l), (.int x :: st))) rfl rfl rfl
theorem s110_14 : ji_Ev C 110 14 M lv (.int x :: .ref a :: st) o ↔ ji_evA (ji_kd M a) (fun n => vp_in x n ∧ ji_Ev C 110 15 M lv (.int (ji_gI M a x.toNatClampNeg) :: st) o) := ev_iald rfl
theorem s110_15 : ji_Ev C 110 15 M lv st o ↔ ji_Ev C 110 19 M lv st o := ev_gt rfl (by decide) rfl
theorem s110_18 : ji_Ev C 110 18 M lv st o ↔ ji_Ev C 110 19 M lv (.int (-1) :: st) o := ev_go (S := (19, M, lv, (.int (-1) :: st))) rfl rfl rfl
theorem s110_19 : ji_Ev C 110 19 M lv [.int x] o ↔ o = (some (.int x), M) := ev_ireti rfl rfl
theorem s111_0 : ji_Ev C 111 0 M (l0 :: some (.int x) :: l) st o ↔ ji_Ev C 111 1 M (l0 :: some (.int x) :: l) (.int x :: st) o := ev_go (S := (1, M, (l0 :: some (.int x) :: l), (.int x :: st))) rfl rfl rfl
theorem s111_1 : ji_Ev C 111 1 M lv st o ↔ ji_Ev C 111 2 M lv (.int 0 :: st) o := ev_go (S := (2, M, lv, (.int 0 :: st))) rfl rfl rfl
theorem s111_2 : ji_Ev C 111 2 M lv st o ↔ ji_Ev C 111 4 M lv (.int 99 :: st) o := ev_go (S := (4, M, lv, (.int 99 :: st))) rfl rfl rfl
theorem s111_4 : ji_Ev C 111 4 M lv (p2 :: p1 :: p0 :: st) o ↔ ji_ok8 st ∧ ji_evC (C 43 [p0, p1, p2] M) (fun v M' => ji_Ev C 111 7 M' lv (v.toList ++ st) o) := ev_sta (k := 111) (a := [p2, p1, p0]) rfl (Or.inl cd_8_89) rfl
theorem s111_7 : ji_Ev C 111 7 M lv (.int x :: st) o ↔ if x = 0 then ji_Ev C 111 20 M lv st o else ji_Ev C 111 10 M lv st o := ev_brz (c := .eq) rfl (by decide) rfl
theorem s111_10 : ji_Ev C 111 10 M (l0 :: l1 :: some (.int x) :: l) st o ↔ ji_Ev C 111 11 M (l0 :: l1 :: some (.int x) :: l) (.int x :: st) o := ev_go (S := (11, M, (l0 :: l1 :: some (.int x) :: l), (.int x :: st))) rfl rfl rfl
theorem s111_11 : ji_Ev C 111 11 M lv st o ↔ ji_Ev C 111 12 M lv (.int 0 :: st) o := ev_go (S := (12, M, lv, (.int 0 :: st))) rfl rfl rfl
theorem s111_12 : ji_Ev C 111 12 M lv st o ↔ ji_Ev C 111 14 M lv (.int 9 :: st) o := ev_go (S := (14, M, lv, (.int 9 :: st))) rfl rfl rfl
theorem s111_14 : ji_Ev C 111 14 M lv (p2 :: p1 :: p0 :: st) o ↔ ji_ok8 st ∧ ji_evC (C 43 [p0, p1, p2] M) (fun v M' => ji_Ev C 111 17 M' lv (v.toList ++ st) o) := ev_sta (k := 111) (a := [p2, p1, p0]) rfl (Or.inl cd_8_89) rfl
theorem s111_17 : ji_Ev C 111 17 M lv (.int x :: st) o ↔ if x = 0 then ji_Ev C 111 20 M lv st o else ji_Ev C 111 23 M lv st o := ev_brz (c := .ne) rfl (by decide) rfl
theorem s111_20 : ji_Ev C 111 20 M lv st o ↔ ji_Ev C 111 22 M lv (.int (-2) :: st) o := ev_go (S := (22, M, lv, (.int (-2) :: st))) rfl rfl rfl
theorem s111_22 : ji_Ev C 111 22 M lv [.int x] o ↔ o = (some (.int x), M) := ev_ireti rfl rfl
theorem s111_23 : ji_Ev C 111 23 M (some (.ref a) :: l) st o ↔ ji_Ev C 111 24 M (some (.ref a) :: l) (.ref a :: st) o := ev_go (S := (24, M, (some (.ref a) :: l), (.ref a :: st))) rfl rfl rfl
theorem s111_24 : ji_Ev C 111 24 M lv (.ref a :: st) o ↔ ji_kd M a = some (0, 8) ∧ ji_Ev C 111 27 M lv (ji_rv (ji_gR M a 4) :: st) o := ev_getR (k := 111) rfl fd_8_39 rfl
theorem s111_27 : ji_Ev C 111 27 M lv (.ref a :: st) o ↔ (ji_rcb M 2 (.ref a) = true ∧ ji_ok8 st) ∧ ji_evC (C 61 [.ref a] M) (fun v M' => ji_Ev C 111 30 M' lv (v.toList ++ st) o) := ev_inv (k := 111) rfl cd_8_114 rfl
theorem s111_30 : ji_Ev C 111 30 M lv (.int x :: st) o ↔ if x = 0 then ji_Ev C 111 38 M lv st o else ji_Ev C 111 33 M lv st o := ev_brz (c := .eq) rfl (by decide) rfl
theorem s111_33 : ji_Ev C 111 33 M lv st o ↔ ji_Ev C 111 35 M lv (.int (-4) :: st) o := ev_go (S := (35, M, lv, (.int (-4) :: st))) rfl rfl rfl
theorem s111_35 : ji_Ev C 111 35 M lv st o ↔ ji_Ev C 111 55 M lv st o := ev_gt rfl (by decide) rfl
theorem s111_38 : ji_Ev C 111 38 M (some (.ref a) :: l) st o ↔ ji_Ev C 111 39 M (some (.ref a) :: l) (.ref a :: st) o := ev_go (S := (39, M, (some (.ref a) :: l), (.ref a :: st))) rfl rfl rfl
theorem s111_39 : ji_Ev C 111 39 M lv (.ref a :: st) o ↔ ji_kd M a = some (0, 8) ∧ ji_Ev C 111 42 M lv (ji_rv (ji_gR M a 4) :: st) o := ev_getR (k := 111) rfl fd_8_39 rfl
theorem s111_42 : ji_Ev C 111 42 M (l0 :: some (.int x) :: l) st o ↔ ji_Ev C 111 43 M (l0 :: some (.int x) :: l) (.int x :: st) o := ev_go (S := (43, M, (l0 :: some (.int x) :: l), (.int x :: st))) rfl rfl rfl
theorem s111_43 : ji_Ev C 111 43 M (l0 :: l1 :: some (.int x) :: l) st o ↔ ji_Ev C 111 44 M (l0 :: l1 :: some (.int x) :: l) (.int x :: st) o := ev_go (S := (44, M, (l0 :: l1 :: some (.int x) :: l), (.int x :: st))) rfl rfl rfl
theorem s111_44 : ji_Ev C 111 44 M (some (.ref a) :: l) st o ↔ ji_Ev C 111 45 M (some (.ref a) :: l) (.ref a :: st) o := ev_go (S := (45, M, (some (.ref a) :: l), (.ref a :: st))) rfl rfl rfl
theorem s111_45 : ji_Ev C 111 45 M lv (.ref a :: st) o ↔ ji_kd M a = some (0, 8) ∧ ji_Ev C 111 48 M lv (ji_rv (ji_gR M a 0) :: st) o := ev_getR (k := 111) rfl fd_8_10 rfl
theorem s111_48 : ji_Ev C 111 48 M lv (.ref a :: st) o ↔ ji_kd M a = some (0, 5) ∧ ji_Ev C 111 51 M lv (.int (ji_gI M a 1) :: st) o := ev_getI (k := 111) rfl fd_8_99 rfl
theorem s111_51 : ji_Ev C 111 51 M lv st o ↔ ji_Ev C 111 52 M lv (.int 0 :: st) o := ev_go (S := (52, M, lv, (.int 0 :: st))) rfl rfl rfl
theorem s111_52 : ji_Ev C 111 52 M lv (p3 :: p2 :: p1 :: p0 :: .ref a :: st) o ↔ (ji_rcb M 2 (.ref a) = true ∧ ji_ok8 st) ∧ ji_evC (C 63 [.ref a, p0, p1, p2, p3] M) (fun v M' => ji_Ev C 111 55 M' lv (v.toList ++ st) o) := ev_inv (k := 111) rfl cd_8_195 rfl
theorem s111_55 : ji_Ev C 111 55 M lv [.int x] o ↔ o = (some (.int x), M) := ev_ireti rfl rfl
theorem s112_0 : ji_Ev C 112 0 M (l0 :: some (.int x) :: l) st o ↔ ji_Ev C 112 1 M (l0 :: some (.int x) :: l) (.int x :: st) o := ev_go (S := (1, M, (l0 :: some (.int x) :: l), (.int x :: st))) rfl rfl rfl
theorem s112_1 : ji_Ev C 112 1 M (some (.ref a) :: l) st o ↔ ji_Ev C 112 2 M (some (.ref a) :: l) (.ref a :: st) o := ev_go (S := (2, M, (some (.ref a) :: l), (.ref a :: st))) rfl rfl rfl
theorem s112_2 : ji_Ev C 112 2 M lv (.ref a :: st) o ↔ ji_kd M a = some (0, 8) ∧ ji_Ev C 112 5 M lv (ji_rv (ji_gR M a 4) :: st) o := ev_getR (k := 112) rfl fd_8_39 rfl
theorem s112_5 : ji_Ev C 112 5 M lv (.ref a :: st) o ↔ (ji_rcb M 2 (.ref a) = true ∧ ji_ok8 st) ∧ ji_evC (C 47 [.ref a] M) (fun v M' => ji_Ev C 112 8 M' lv (v.toList ++ st) o) := ev_inv (k := 112) rfl cd_8_202 rfl
theorem s112_8 : ji_Ev C 112 8 M lv (p1 :: p0 :: st) o ↔ ji_ok8 st ∧ ji_evC (C 102 [p0, p1] M) (fun v M' => ji_Ev C 112 11 M' lv (v.toList ++ st) o) := ev_sta (k := 112) (a := [p1, p0]) rfl (Or.inl cd_8_210) rfl
theorem s112_11 : ji_Ev C 112 11 M lv (.int x :: st) o ↔ if x = 0 then ji_Ev C 112 14 M lv st o else ji_Ev C 112 17 M lv st o := ev_brz (c := .ne) rfl (by decide) rfl
theorem s112_14 : ji_Ev C 112 14 M lv st o ↔ ji_Ev C 112 16 M lv (.int (-2) :: st) o := ev_go (S := (16, M, lv, (.int (-2) :: st))) rfl rfl rfl
theorem s112_16 : ji_Ev C 112 16 M lv [.int x] o ↔ o = (some (.int x), M) := ev_ireti rfl rfl
theorem s112_17 : ji_Ev C 112 17 M lv st o ↔ ji_Ev C 112 18 M lv (.int 0 :: st) o := ev_go (S := (18, M, lv, (.int 0 :: st))) rfl rfl rfl
theorem s112_18 : ji_Ev C 112 18 M lv (.int x :: st) o ↔ 2 < lv.length ∧ ji_Ev C 112 19 M (ji_s1 lv 2 (.int x)) st o := ev_stI rfl rfl rfl
theorem s112_19 : ji_Ev C 112 19 M lv st o ↔ ji_Ev C 112 20 M lv (.int 0 :: st) o := ev_go (S := (20, M, lv, (.int 0 :: st))) rfl rfl rfl
theorem s112_20 : ji_Ev C 112 20 M lv (.int x :: st) o ↔ 3 < lv.length ∧ ji_Ev C 112 21 M (ji_s1 lv 3 (.int x)) st o := ev_stI rfl rfl rfl
theorem s112_21 : ji_Ev C 112 21 M (l0 :: l1 :: l2 :: some (.int x) :: l) st o ↔ ji_Ev C 112 22 M (l0 :: l1 :: l2 :: some (.int x) :: l) (.int x :: st) o := ev_go (S := (22, M, (l0 :: l1 :: l2 :: some (.int x) :: l), (.int x :: st))) rfl rfl rfl
theorem s112_22 : ji_Ev C 112 22 M (some (.ref a) :: l) st o ↔ ji_Ev C 112 23 M (some (.ref a) :: l) (.ref a :: st) o := ev_go (S := (23, M, (some (.ref a) :: l), (.ref a :: st))) rfl rfl rfl
theorem s112_23 : ji_Ev C 112 23 M lv (.ref a :: st) o ↔ ji_kd M a = some (0, 8) ∧ ji_Ev C 112 26 M lv (ji_rv (ji_gR M a 4) :: st) o := ev_getR (k := 112) rfl fd_8_39 rfl
theorem s112_26 : ji_Ev C 112 26 M lv (.ref a :: st) o ↔ (ji_rcb M 2 (.ref a) = true ∧ ji_ok8 st) ∧ ji_evC (C 47 [.ref a] M) (fun v M' => ji_Ev C 112 29 M' lv (v.toList ++ st) o) := ev_inv (k := 112) rfl cd_8_202 rfl
theorem s112_29 : ji_Ev C 112 29 M lv (.int y :: .int x :: st) o ↔ if x < y then ji_Ev C 112 32 M lv st o else ji_Ev C 112 55 M lv st o := ev_brc (c := .ge) rfl (by decide) rfl
theorem s112_32 : ji_Ev C 112 32 M (l0 :: some (.int x) :: l) st o ↔ ji_Ev C 112 33 M (l0 :: some (.int x) :: l) (.int x :: st) o := ev_go (S := (33, M, (l0 :: some (.int x) :: l), (.int x :: st))) rfl rfl rfl
theorem s112_33 : ji_Ev C 112 33 M (l0 :: l1 :: l2 :: some (.int x) :: l) st o ↔ ji_Ev C 112 34 M (l0 :: l1 :: l2 :: some (.int x) :: l) (.int x :: st) o := ev_go (S := (34, M, (l0 :: l1 :: l2 :: some (.int x) :: l), (.int x :: st))) rfl rfl rfl
theorem s112_34 : ji_Ev C 112 34 M lv (.int y :: .int x :: st) o ↔ ji_Ev C 112 35 M lv (.int (x >>> (y &&& 31)) :: st) o := ev_go (S := (35, M, lv, (.int (x >>> (y &&& 31)) :: st))) rfl rfl rfl
theorem s112_35 : ji_Ev C 112 35 M lv st o ↔ ji_Ev C 112 36 M lv (.int 1 :: st) o := ev_go (S := (36, M, lv, (.int 1 :: st))) rfl rfl rfl
theorem s112_36 : ji_Ev C 112 36 M lv (.int y :: .int x :: st) o ↔ ji_Ev C 112 37 M lv (.int (x &&& y) :: st) o := ev_go (S := (37, M, lv, (.int (x &&& y) :: st))) rfl rfl rfl
theorem s112_37 : ji_Ev C 112 37 M lv st o ↔ ji_Ev C 112 38 M lv (.int 1 :: st) o := ev_go (S := (38, M, lv, (.int 1 :: st))) rfl rfl rfl
theorem s112_38 : ji_Ev C 112 38 M lv (.int y :: .int x :: st) o ↔ if x = y then ji_Ev C 112 41 M lv st o else ji_Ev C 112 49 M lv st o := ev_brc (c := .ne) rfl (by decide) rfl
theorem s112_41 : ji_Ev C 112 41 M (l0 :: l1 :: some (.int x) :: l) st o ↔ ji_Ev C 112 42 M (l0 :: l1 :: some (.int x) :: l) (.int x :: st) o := ev_go (S := (42, M, (l0 :: l1 :: some (.int x) :: l), (.int x :: st))) rfl rfl rfl
theorem s112_42 : ji_Ev C 112 42 M (some (.ref a) :: l) st o ↔ ji_Ev C 112 43 M (some (.ref a) :: l) (.ref a :: st) o := ev_go (S := (43, M, (some (.ref a) :: l), (.ref a :: st))) rfl rfl rfl
theorem s112_43 : ji_Ev C 112 43 M (l0 :: l1 :: l2 :: some (.int x) :: l) st o ↔ ji_Ev C 112 44 M (l0 :: l1 :: l2 :: some (.int x) :: l) (.int x :: st) o := ev_go (S := (44, M, (l0 :: l1 :: l2 :: some (.int x) :: l), (.int x :: st))) rfl rfl rfl
theorem s112_44 : ji_Ev C 112 44 M lv (p0 :: .ref a :: st) o ↔ (ji_rcb M 8 (.ref a) = true ∧ ji_ok8 st) ∧ ji_evC (C 113 [.ref a, p0] M) (fun v M' => ji_Ev C 112 47 M' lv (v.toList ++ st) o) := ev_inv (k := 112) rfl cd_8_223 rfl
theorem s112_47 : ji_Ev C 112 47 M lv (.int y :: .int x :: st) o ↔ ji_Ev C 112 48 M lv (.int (x + y) :: st) o := ev_go (S := (48, M, lv, (.int (x + y) :: st))) rfl rfl rfl
theorem s112_48 : ji_Ev C 112 48 M lv (.int x :: st) o ↔ 2 < lv.length ∧ ji_Ev C 112 49 M (ji_s1 lv 2 (.int x)) st o := ev_stI rfl rfl rfl
theorem s112_49 : ji_Ev C 112 49 M lv st o ↔ ji_evL (lv.getD 3 none) ji_isI (fun v => match v with | .int x => 3 < lv.length ∧ ji_Ev C 112 52 M (ji_s1 lv 3 (.int (x + Int32.ofInt 1))) st o | _ => False) := ev_iinc rfl
theorem s112_52 : ji_Ev C 112 52 M lv st o ↔ ji_Ev C 112 21 M lv st o := ev_gt rfl (by decide) rfl
theorem s112_55 : ji_Ev C 112 55 M (l0 :: l1 :: some (.int x) :: l) st o ↔ ji_Ev C 112 56 M (l0 :: l1 :: some (.int x) :: l) (.int x :: st) o := ev_go (S := (56, M, (l0 :: l1 :: some (.int x) :: l), (.int x :: st))) rfl rfl rfl
theorem s112_56 : ji_Ev C 112 56 M lv [.int x] o ↔ o = (some (.int x), M) := ev_ireti rfl rfl
theorem s113_0 : ji_Ev C 113 0 M (some (.ref a) :: l) st o ↔ ji_Ev C 113 1 M (some (.ref a) :: l) (.ref a :: st) o := ev_go (S := (1, M, (some (.ref a) :: l), (.ref a :: st))) rfl rfl rfl
theorem s113_1 : ji_Ev C 113 1 M lv (.ref a :: st) o ↔ ji_kd M a = some (0, 8) ∧ ji_Ev C 113 4 M lv (ji_rv (ji_gR M a 0) :: st) o := ev_getR (k := 113) rfl fd_8_10 rfl
theorem s113_4 : ji_Ev C 113 4 M lv (.ref a :: st) o ↔ ji_kd M a = some (0, 5) ∧ ji_Ev C 113 7 M lv (.int (ji_gI M a 1) :: st) o := ev_getI (k := 113) rfl fd_8_99 rfl
theorem s113_7 : ji_Ev C 113 7 M (some (.ref a) :: l) st o ↔ ji_Ev C 113 8 M (some (.ref a) :: l) (.ref a :: st) o := ev_go (S := (8, M, (some (.ref a) :: l), (.ref a :: st))) rfl rfl rfl
theorem s113_8 : ji_Ev C 113 8 M lv (.ref a :: st) o ↔ ji_kd M a = some (0, 8) ∧ ji_Ev C 113 11 M lv (ji_rv (ji_gR M a 4) :: st) o := ev_getR (k := 113) rfl fd_8_39 rfl
theorem s113_11 : ji_Ev C 113 11 M (l0 :: some (.int x) :: l) st o ↔ ji_Ev C 113 12 M (l0 :: some (.int x) :: l) (.int x :: st) o := ev_go (S := (12, M, (l0 :: some (.int x) :: l), (.int x :: st))) rfl rfl rfl
theorem s113_12 : ji_Ev C 113 12 M lv st o ↔ ji_Ev C 113 13 M lv (.int 2 :: st) o := ev_go (S := (13, M, lv, (.int 2 :: st))) rfl rfl rfl
theorem s113_13 : ji_Ev C 113 13 M lv (p1 :: p0 :: .ref a :: st) o ↔ (ji_rcb M 2 (.ref a) = true ∧ ji_ok8 st) ∧ ji_evC (C 49 [.ref a, p0, p1] M) (fun v M' => ji_Ev C 113 16 M' lv (v.toList ++ st) o) := ev_inv (k := 113) rfl cd_8_140 rfl
theorem s113_16 : ji_Ev C 113 16 M lv (.int y :: .int x :: st) o ↔ ji_Ev C 113 17 M lv (.int (x - y) :: st) o := ev_go (S := (17, M, lv, (.int (x - y) :: st))) rfl rfl rfl
theorem s113_17 : ji_Ev C 113 17 M lv st o ↔ ji_Ev C 113 20 M lv (.int 168 :: st) o := ev_go (S := (20, M, lv, (.int 168 :: st))) rfl rfl rfl
theorem s113_20 : ji_Ev C 113 20 M lv (.int y :: .int x :: st) o ↔ ¬ y = 0 ∧ ji_Ev C 113 21 M lv (.int (x / y) :: st) o := ev_dvI rfl
theorem s113_21 : ji_Ev C 113 21 M lv (.int x :: st) o ↔ 2 < lv.length ∧ ji_Ev C 113 22 M (ji_s1 lv 2 (.int x)) st o := ev_stI rfl rfl rfl
theorem s113_22 : ji_Ev C 113 22 M lv st o ↔ ji_Ev C 113 24 M lv (.int 99 :: st) o := ev_go (S := (24, M, lv, (.int 99 :: st))) rfl rfl rfl
theorem s113_24 : ji_Ev C 113 24 M (some (.ref a) :: l) st o ↔ ji_Ev C 113 25 M (some (.ref a) :: l) (.ref a :: st) o := ev_go (S := (25, M, (some (.ref a) :: l), (.ref a :: st))) rfl rfl rfl
theorem s113_25 : ji_Ev C 113 25 M lv (.ref a :: st) o ↔ ji_kd M a = some (0, 8) ∧ ji_Ev C 113 28 M lv (ji_rv (ji_gR M a 4) :: st) o := ev_getR (k := 113) rfl fd_8_39 rfl
theorem s113_28 : ji_Ev C 113 28 M (l0 :: some (.int x) :: l) st o ↔ ji_Ev C 113 29 M (l0 :: some (.int x) :: l) (.int x :: st) o := ev_go (S := (29, M, (l0 :: some (.int x) :: l), (.int x :: st))) rfl rfl rfl
theorem s113_29 : ji_Ev C 113 29 M lv st o ↔ ji_Ev C 113 30 M lv (.int 0 :: st) o := ev_go (S := (30, M, lv, (.int 0 :: st))) rfl rfl rfl
theorem s113_30 : ji_Ev C 113 30 M lv (p1 :: p0 :: .ref a :: st) o ↔ (ji_rcb M 2 (.ref a) = true ∧ ji_ok8 st) ∧ ji_evC (C 49 [.ref a, p0, p1] M) (fun v M' => ji_Ev C 113 33 M' lv (v.toList ++ st) o) := ev_inv (k := 113) rfl cd_8_140 rfl
theorem s113_33 : ji_Ev C 113 33 M (some (.ref a) :: l) st o ↔ ji_Ev C 113 34 M (some (.ref a) :: l) (.ref a :: st) o := ev_go (S := (34, M, (some (.ref a) :: l), (.ref a :: st))) rfl rfl rfl
theorem s113_34 : ji_Ev C 113 34 M lv (.ref a :: st) o ↔ ji_kd M a = some (0, 8) ∧ ji_Ev C 113 37 M lv (ji_rv (ji_gR M a 4) :: st) o := ev_getR (k := 113) rfl fd_8_39 rfl
theorem s113_37 : ji_Ev C 113 37 M (l0 :: some (.int x) :: l) st o ↔ ji_Ev C 113 38 M (l0 :: some (.int x) :: l) (.int x :: st) o := ev_go (S := (38, M, (l0 :: some (.int x) :: l), (.int x :: st))) rfl rfl rfl
theorem s113_38 : ji_Ev C 113 38 M lv st o ↔ ji_Ev C 113 39 M lv (.int 1 :: st) o := ev_go (S := (39, M, lv, (.int 1 :: st))) rfl rfl rfl
theorem s113_39 : ji_Ev C 113 39 M lv (p1 :: p0 :: .ref a :: st) o ↔ (ji_rcb M 2 (.ref a) = true ∧ ji_ok8 st) ∧ ji_evC (C 49 [.ref a, p0, p1] M) (fun v M' => ji_Ev C 113 42 M' lv (v.toList ++ st) o) := ev_inv (k := 113) rfl cd_8_140 rfl
theorem s113_42 : ji_Ev C 113 42 M (l0 :: l1 :: some (.int x) :: l) st o ↔ ji_Ev C 113 43 M (l0 :: l1 :: some (.int x) :: l) (.int x :: st) o := ev_go (S := (43, M, (l0 :: l1 :: some (.int x) :: l), (.int x :: st))) rfl rfl rfl
theorem s113_43 : ji_Ev C 113 43 M lv (.int y :: .int x :: st) o ↔ ji_Ev C 113 44 M lv (.int (x * y) :: st) o := ev_go (S := (44, M, lv, (.int (x * y) :: st))) rfl rfl rfl
theorem s113_44 : ji_Ev C 113 44 M lv (.int y :: .int x :: st) o ↔ ji_Ev C 113 45 M lv (.int (x + y) :: st) o := ev_go (S := (45, M, lv, (.int (x + y) :: st))) rfl rfl rfl
theorem s113_45 : ji_Ev C 113 45 M lv (.int y :: .int x :: st) o ↔ ji_ok8 st ∧ ji_Ev C 113 48 M lv (.int (if y < x then y else x) :: st) o := ev_min (k := 113) rfl cd_8_226
theorem s113_48 : ji_Ev C 113 48 M lv [.int x] o ↔ o = (some (.int x), M) := ev_ireti rfl rfl
theorem s114_0 : ji_Ev C 114 0 M (l0 :: some (.int x) :: l) st o ↔ ji_Ev C 114 1 M (l0 :: some (.int x) :: l) (.int x :: st) o := ev_go (S := (1, M, (l0 :: some (.int x) :: l), (.int x :: st))) rfl rfl rfl
theorem s114_1 : ji_Ev C 114 1 M lv st o ↔ ji_Ev C 114 2 M lv (.int 0 :: st) o := ev_go (S := (2, M, lv, (.int 0 :: st))) rfl rfl rfl
theorem s114_2 : ji_Ev C 114 2 M lv st o ↔ ji_Ev C 114 5 M lv (.int 9999 :: st) o := ev_go (S := (5, M, lv, (.int 9999 :: st))) rfl rfl rfl
theorem s114_5 : ji_Ev C 114 5 M lv (p2 :: p1 :: p0 :: st) o ↔ ji_ok8 st ∧ ji_evC (C 43 [p0, p1, p2] M) (fun v M' => ji_Ev C 114 8 M' lv (v.toList ++ st) o) := ev_sta (k := 114) (a := [p2, p1, p0]) rfl (Or.inl cd_8_89) rfl
theorem s114_8 : ji_Ev C 114 8 M lv (.int x :: st) o ↔ if x = 0 then ji_Ev C 114 11 M lv st o else ji_Ev C 114 14 M lv st o := ev_brz (c := .ne) rfl (by decide) rfl
theorem s114_11 : ji_Ev C 114 11 M lv st o ↔ ji_Ev C 114 13 M lv (.int (-2) :: st) o := ev_go (S := (13, M, lv, (.int (-2) :: st))) rfl rfl rfl
theorem s114_13 : ji_Ev C 114 13 M lv [.int x] o ↔ o = (some (.int x), M) := ev_ireti rfl rfl
theorem s114_14 : ji_Ev C 114 14 M (some (.ref a) :: l) st o ↔ ji_Ev C 114 15 M (some (.ref a) :: l) (.ref a :: st) o := ev_go (S := (15, M, (some (.ref a) :: l), (.ref a :: st))) rfl rfl rfl
theorem s114_15 : ji_Ev C 114 15 M lv (.ref a :: st) o ↔ ji_kd M a = some (0, 8) ∧ ji_Ev C 114 18 M lv (ji_rv (ji_gR M a 5) :: st) o := ev_getR (k := 114) rfl fd_8_42 rfl
theorem s114_18 : ji_Ev C 114 18 M lv (.ref a :: st) o ↔ (ji_rcb M 2 (.ref a) = true ∧ ji_ok8 st) ∧ ji_evC (C 61 [.ref a] M) (fun v M' => ji_Ev C 114 21 M' lv (v.toList ++ st) o) := ev_inv (k := 114) rfl cd_8_114 rfl
theorem s114_21 : ji_Ev C 114 21 M lv (.int x :: st) o ↔ if x = 0 then ji_Ev C 114 29 M lv st o else ji_Ev C 114 24 M lv st o := ev_brz (c := .eq) rfl (by decide) rfl
theorem s114_24 : ji_Ev C 114 24 M lv st o ↔ ji_Ev C 114 26 M lv (.int (-4) :: st) o := ev_go (S := (26, M, lv, (.int (-4) :: st))) rfl rfl rfl
theorem s114_26 : ji_Ev C 114 26 M lv st o ↔ ji_Ev C 114 40 M lv st o := ev_gt rfl (by decide) rfl
theorem s114_29 : ji_Ev C 114 29 M (some (.ref a) :: l) st o ↔ ji_Ev C 114 30 M (some (.ref a) :: l) (.ref a :: st) o := ev_go (S := (30, M, (some (.ref a) :: l), (.ref a :: st))) rfl rfl rfl
theorem s114_30 : ji_Ev C 114 30 M lv (.ref a :: st) o ↔ ji_kd M a = some (0, 8) ∧ ji_Ev C 114 33 M lv (ji_rv (ji_gR M a 5) :: st) o := ev_getR (k := 114) rfl fd_8_42 rfl
theorem s114_33 : ji_Ev C 114 33 M (l0 :: some (.int x) :: l) st o ↔ ji_Ev C 114 34 M (l0 :: some (.int x) :: l) (.int x :: st) o := ev_go (S := (34, M, (l0 :: some (.int x) :: l), (.int x :: st))) rfl rfl rfl
theorem s114_34 : ji_Ev C 114 34 M lv st o ↔ ji_Ev C 114 35 M lv (.int 0 :: st) o := ev_go (S := (35, M, lv, (.int 0 :: st))) rfl rfl rfl
theorem s114_35 : ji_Ev C 114 35 M lv st o ↔ ji_Ev C 114 36 M lv (.int 0 :: st) o := ev_go (S := (36, M, lv, (.int 0 :: st))) rfl rfl rfl
theorem s114_36 : ji_Ev C 114 36 M lv st o ↔ ji_Ev C 114 37 M lv (.int 0 :: st) o := ev_go (S := (37, M, lv, (.int 0 :: st))) rfl rfl rfl
theorem s114_37 : ji_Ev C 114 37 M lv (p3 :: p2 :: p1 :: p0 :: .ref a :: st) o ↔ (ji_rcb M 2 (.ref a) = true ∧ ji_ok8 st) ∧ ji_evC (C 63 [.ref a, p0, p1, p2, p3] M) (fun v M' => ji_Ev C 114 40 M' lv (v.toList ++ st) o) := ev_inv (k := 114) rfl cd_8_195 rfl
theorem s114_40 : ji_Ev C 114 40 M lv [.int x] o ↔ o = (some (.int x), M) := ev_ireti rfl rfl
theorem s115_0 : ji_Ev C 115 0 M (some (.ref a) :: l) st o ↔ ji_Ev C 115 1 M (some (.ref a) :: l) (.ref a :: st) o := ev_go (S := (1, M, (some (.ref a) :: l), (.ref a :: st))) rfl rfl rfl
theorem s115_1 : ji_Ev C 115 1 M lv (.ref a :: st) o ↔ ji_kd M a = some (0, 8) ∧ ji_Ev C 115 4 M lv (ji_rv (ji_gR M a 0) :: st) o := ev_getR (k := 115) rfl fd_8_10 rfl
theorem s115_4 : ji_Ev C 115 4 M lv (.ref a :: st) o ↔ ji_kd M a = some (0, 5) ∧ ji_Ev C 115 7 M lv (ji_rv (ji_gR M a 0) :: st) o := ev_getR (k := 115) rfl fd_8_111 rfl
theorem s115_7 : ji_Ev C 115 7 M (l0 :: some (.int x) :: l) st o ↔ ji_Ev C 115 8 M (l0 :: some (.int x) :: l) (.int x :: st) o := ev_go (S := (8, M, (l0 :: some (.int x) :: l), (.int x :: st))) rfl rfl rfl
theorem s115_8 : ji_Ev C 115 8 M lv (p0 :: .ref a :: st) o ↔ (ji_rcb M 2 (.ref a) = true ∧ ji_ok8 st) ∧ ji_evC (C 65 [.ref a, p0] M) (fun v M' => ji_Ev C 115 11 M' lv (v.toList ++ st) o) := ev_inv (k := 115) rfl cd_8_121 rfl
theorem s115_11 : ji_Ev C 115 11 M lv (.int x :: st) o ↔ if x = 0 then ji_Ev C 115 25 M lv st o else ji_Ev C 115 14 M lv st o := ev_brz (c := .eq) rfl (by decide) rfl
theorem s115_14 : ji_Ev C 115 14 M (l0 :: l1 :: some (.int x) :: l) st o ↔ ji_Ev C 115 15 M (l0 :: l1 :: some (.int x) :: l) (.int x :: st) o := ev_go (S := (15, M, (l0 :: l1 :: some (.int x) :: l), (.int x :: st))) rfl rfl rfl
theorem s115_15 : ji_Ev C 115 15 M lv st o ↔ ji_Ev C 115 16 M lv (.int 0 :: st) o := ev_go (S := (16, M, lv, (.int 0 :: st))) rfl rfl rfl
theorem s115_16 : ji_Ev C 115 16 M lv st o ↔ ji_Ev C 115 19 M lv (.int 14640 :: st) o := ev_go (S := (19, M, lv, (.int 14640 :: st))) rfl rfl rfl
theorem s115_19 : ji_Ev C 115 19 M lv (p2 :: p1 :: p0 :: st) o ↔ ji_ok8 st ∧ ji_evC (C 43 [p0, p1, p2] M) (fun v M' => ji_Ev C 115 22 M' lv (v.toList ++ st) o) := ev_sta (k := 115) (a := [p2, p1, p0]) rfl (Or.inl cd_8_89) rfl
theorem s115_22 : ji_Ev C 115 22 M lv (.int x :: st) o ↔ if x = 0 then ji_Ev C 115 25 M lv st o else ji_Ev C 115 28 M lv st o := ev_brz (c := .ne) rfl (by decide) rfl
theorem s115_25 : ji_Ev C 115 25 M lv st o ↔ ji_Ev C 115 27 M lv (.int (-2) :: st) o := ev_go (S := (27, M, lv, (.int (-2) :: st))) rfl rfl rfl
theorem s115_27 : ji_Ev C 115 27 M lv [.int x] o ↔ o = (some (.int x), M) := ev_ireti rfl rfl
theorem s115_28 : ji_Ev C 115 28 M (some (.ref a) :: l) st o ↔ ji_Ev C 115 29 M (some (.ref a) :: l) (.ref a :: st) o := ev_go (S := (29, M, (some (.ref a) :: l), (.ref a :: st))) rfl rfl rfl
theorem s115_29 : ji_Ev C 115 29 M lv (.ref a :: st) o ↔ ji_kd M a = some (0, 8) ∧ ji_Ev C 115 32 M lv (ji_rv (ji_gR M a 6) :: st) o := ev_getR (k := 115) rfl fd_8_45 rfl
theorem s115_32 : ji_Ev C 115 32 M lv (.ref a :: st) o ↔ (ji_rcb M 2 (.ref a) = true ∧ ji_ok8 st) ∧ ji_evC (C 61 [.ref a] M) (fun v M' => ji_Ev C 115 35 M' lv (v.toList ++ st) o) := ev_inv (k := 115) rfl cd_8_114 rfl
theorem s115_35 : ji_Ev C 115 35 M lv (.int x :: st) o ↔ if x = 0 then ji_Ev C 115 43 M lv st o else ji_Ev C 115 38 M lv st o := ev_brz (c := .eq) rfl (by decide) rfl
theorem s115_38 : ji_Ev C 115 38 M lv st o ↔ ji_Ev C 115 40 M lv (.int (-4) :: st) o := ev_go (S := (40, M, lv, (.int (-4) :: st))) rfl rfl rfl
theorem s115_40 : ji_Ev C 115 40 M lv st o ↔ ji_Ev C 115 54 M lv st o := ev_gt rfl (by decide) rfl
theorem s115_43 : ji_Ev C 115 43 M (some (.ref a) :: l) st o ↔ ji_Ev C 115 44 M (some (.ref a) :: l) (.ref a :: st) o := ev_go (S := (44, M, (some (.ref a) :: l), (.ref a :: st))) rfl rfl rfl
theorem s115_44 : ji_Ev C 115 44 M lv (.ref a :: st) o ↔ ji_kd M a = some (0, 8) ∧ ji_Ev C 115 47 M lv (ji_rv (ji_gR M a 6) :: st) o := ev_getR (k := 115) rfl fd_8_45 rfl
theorem s115_47 : ji_Ev C 115 47 M (l0 :: l1 :: some (.int x) :: l) st o ↔ ji_Ev C 115 48 M (l0 :: l1 :: some (.int x) :: l) (.int x :: st) o := ev_go (S := (48, M, (l0 :: l1 :: some (.int x) :: l), (.int x :: st))) rfl rfl rfl
theorem s115_48 : ji_Ev C 115 48 M (l0 :: some (.int x) :: l) st o ↔ ji_Ev C 115 49 M (l0 :: some (.int x) :: l) (.int x :: st) o := ev_go (S := (49, M, (l0 :: some (.int x) :: l), (.int x :: st))) rfl rfl rfl
theorem s115_49 : ji_Ev C 115 49 M lv st o ↔ ji_Ev C 115 50 M lv (.int 0 :: st) o := ev_go (S := (50, M, lv, (.int 0 :: st))) rfl rfl rfl
theorem s115_50 : ji_Ev C 115 50 M lv st o ↔ ji_Ev C 115 51 M lv (.int 0 :: st) o := ev_go (S := (51, M, lv, (.int 0 :: st))) rfl rfl rfl
theorem s115_51 : ji_Ev C 115 51 M lv (p3 :: p2 :: p1 :: p0 :: .ref a :: st) o ↔ (ji_rcb M 2 (.ref a) = true ∧ ji_ok8 st) ∧ ji_evC (C 63 [.ref a, p0, p1, p2, p3] M) (fun v M' => ji_Ev C 115 54 M' lv (v.toList ++ st) o) := ev_inv (k := 115) rfl cd_8_195 rfl
theorem s115_54 : ji_Ev C 115 54 M lv [.int x] o ↔ o = (some (.int x), M) := ev_ireti rfl rfl
theorem s116_0 : ji_Ev C 116 0 M (some (.ref a) :: l) st o ↔ ji_Ev C 116 1 M (some (.ref a) :: l) (.ref a :: st) o := ev_go (S := (1, M, (some (.ref a) :: l), (.ref a :: st))) rfl rfl rfl
theorem s116_1 : ji_Ev C 116 1 M lv (.ref a :: st) o ↔ ji_kd M a = some (0, 8) ∧ ji_Ev C 116 4 M lv (ji_rv (ji_gR M a 5) :: st) o := ev_getR (k := 116) rfl fd_8_42 rfl
theorem s116_4 : ji_Ev C 116 4 M (l0 :: some (.int x) :: l) st o ↔ ji_Ev C 116 5 M (l0 :: some (.int x) :: l) (.int x :: st) o := ev_go (S := (5, M, (l0 :: some (.int x) :: l), (.int x :: st))) rfl rfl rfl
theorem s116_5 : ji_Ev C 116 5 M lv (p0 :: .ref a :: st) o ↔ (ji_rcb M 2 (.ref a) = true ∧ ji_ok8 st) ∧ ji_evC (C 65 [.ref a, p0] M) (fun v M' => ji_Ev C 116 8 M' lv (v.toList ++ st) o) := ev_inv (k := 116) rfl cd_8_121 rfl
theorem s116_8 : ji_Ev C 116 8 M lv (.int x :: st) o ↔ if x = 0 then ji_Ev C 116 22 M lv st o else ji_Ev C 116 11 M lv st o := ev_brz (c := .eq) rfl (by decide) rfl
theorem s116_11 : ji_Ev C 116 11 M (some (.ref a) :: l) st o ↔ ji_Ev C 116 12 M (some (.ref a) :: l) (.ref a :: st) o := ev_go (S := (12, M, (some (.ref a) :: l), (.ref a :: st))) rfl rfl rfl
theorem s116_12 : ji_Ev C 116 12 M lv (.ref a :: st) o ↔ ji_kd M a = some (0, 8) ∧ ji_Ev C 116 15 M lv (ji_rv (ji_gR M a 6) :: st) o := ev_getR (k := 116) rfl fd_8_45 rfl
theorem s116_15 : ji_Ev C 116 15 M (l0 :: l1 :: some (.int x) :: l) st o ↔ ji_Ev C 116 16 M (l0 :: l1 :: some (.int x) :: l) (.int x :: st) o := ev_go (S := (16, M, (l0 :: l1 :: some (.int x) :: l), (.int x :: st))) rfl rfl rfl
theorem s116_16 : ji_Ev C 116 16 M lv (p0 :: .ref a :: st) o ↔ (ji_rcb M 2 (.ref a) = true ∧ ji_ok8 st) ∧ ji_evC (C 65 [.ref a, p0] M) (fun v M' => ji_Ev C 116 19 M' lv (v.toList ++ st) o) := ev_inv (k := 116) rfl cd_8_121 rfl
theorem s116_19 : ji_Ev C 116 19 M lv (.int x :: st) o ↔ if x = 0 then ji_Ev C 116 22 M lv st o else ji_Ev C 116 25 M lv st o := ev_brz (c := .ne) rfl (by decide) rfl
theorem s116_22 : ji_Ev C 116 22 M lv st o ↔ ji_Ev C 116 24 M lv (.int (-2) :: st) o := ev_go (S := (24, M, lv, (.int (-2) :: st))) rfl rfl rfl
theorem s116_24 : ji_Ev C 116 24 M lv [.int x] o ↔ o = (some (.int x), M) := ev_ireti rfl rfl
theorem s116_25 : ji_Ev C 116 25 M (some (.ref a) :: l) st o ↔ ji_Ev C 116 26 M (some (.ref a) :: l) (.ref a :: st) o := ev_go (S := (26, M, (some (.ref a) :: l), (.ref a :: st))) rfl rfl rfl
theorem s116_26 : ji_Ev C 116 26 M lv (.ref a :: st) o ↔ ji_kd M a = some (0, 8) ∧ ji_Ev C 116 29 M lv (ji_rv (ji_gR M a 5) :: st) o := ev_getR (k := 116) rfl fd_8_42 rfl
theorem s116_29 : ji_Ev C 116 29 M (l0 :: some (.int x) :: l) st o ↔ ji_Ev C 116 30 M (l0 :: some (.int x) :: l) (.int x :: st) o := ev_go (S := (30, M, (l0 :: some (.int x) :: l), (.int x :: st))) rfl rfl rfl
theorem s116_30 : ji_Ev C 116 30 M lv st o ↔ ji_Ev C 116 31 M lv (.int 0 :: st) o := ev_go (S := (31, M, lv, (.int 0 :: st))) rfl rfl rfl
theorem s116_31 : ji_Ev C 116 31 M lv (p1 :: p0 :: .ref a :: st) o ↔ (ji_rcb M 2 (.ref a) = true ∧ ji_ok8 st) ∧ ji_evC (C 49 [.ref a, p0, p1] M) (fun v M' => ji_Ev C 116 34 M' lv (v.toList ++ st) o) := ev_inv (k := 116) rfl cd_8_140 rfl
theorem s116_34 : ji_Ev C 116 34 M (some (.ref a) :: l) st o ↔ ji_Ev C 116 35 M (some (.ref a) :: l) (.ref a :: st) o := ev_go (S := (35, M, (some (.ref a) :: l), (.ref a :: st))) rfl rfl rfl
theorem s116_35 : ji_Ev C 116 35 M lv (.ref a :: st) o ↔ ji_kd M a = some (0, 8) ∧ ji_Ev C 116 38 M lv (ji_rv (ji_gR M a 6) :: st) o := ev_getR (k := 116) rfl fd_8_45 rfl
theorem s116_38 : ji_Ev C 116 38 M (l0 :: l1 :: some (.int x) :: l) st o ↔ ji_Ev C 116 39 M (l0 :: l1 :: some (.int x) :: l) (.int x :: st) o := ev_go (S := (39, M, (l0 :: l1 :: some (.int x) :: l), (.int x :: st))) rfl rfl rfl
theorem s116_39 : ji_Ev C 116 39 M lv st o ↔ ji_Ev C 116 40 M lv (.int 0 :: st) o := ev_go (S := (40, M, lv, (.int 0 :: st))) rfl rfl rfl
theorem s116_40 : ji_Ev C 116 40 M lv (p1 :: p0 :: .ref a :: st) o ↔ (ji_rcb M 2 (.ref a) = true ∧ ji_ok8 st) ∧ ji_evC (C 49 [.ref a, p0, p1] M) (fun v M' => ji_Ev C 116 43 M' lv (v.toList ++ st) o) := ev_inv (k := 116) rfl cd_8_140 rfl
theorem s116_43 : ji_Ev C 116 43 M lv (p1 :: p0 :: st) o ↔ ji_ok8 st ∧ ji_evC (C 117 [p0, p1] M) (fun v M' => ji_Ev C 116 46 M' lv (v.toList ++ st) o) := ev_sta (k := 116) (a := [p1, p0]) rfl (Or.inl cd_8_231) rfl
theorem s116_46 : ji_Ev C 116 46 M lv [.int x] o ↔ o = (some (.int x), M) := ev_ireti rfl rfl
theorem s117_0 : ji_Ev C 117 0 M (some (.int x) :: l) st o ↔ ji_Ev C 117 1 M (some (.int x) :: l) (.int x :: st) o := ev_go (S := (1, M, (some (.int x) :: l), (.int x :: st))) rfl rfl rfl
theorem s117_1 : ji_Ev C 117 1 M lv (.int x :: st) o ↔ 2 < lv.length ∧ ji_Ev C 117 2 M (ji_s1 lv 2 (.int x)) st o := ev_stI rfl rfl rfl
theorem s117_2 : ji_Ev C 117 2 M (l0 :: some (.int x) :: l) st o ↔ ji_Ev C 117 3 M (l0 :: some (.int x) :: l) (.int x :: st) o := ev_go (S := (3, M, (l0 :: some (.int x) :: l), (.int x :: st))) rfl rfl rfl
theorem s117_3 : ji_Ev C 117 3 M lv (.int x :: st) o ↔ 3 < lv.length ∧ ji_Ev C 117 4 M (ji_s1 lv 3 (.int x)) st o := ev_stI rfl rfl rfl
theorem s117_4 : ji_Ev C 117 4 M lv st o ↔ ji_Ev C 117 5 M lv (.int 0 :: st) o := ev_go (S := (5, M, lv, (.int 0 :: st))) rfl rfl rfl
theorem s117_5 : ji_Ev C 117 5 M lv (.int x :: st) o ↔ 4 < lv.length ∧ ji_Ev C 117 7 M (ji_s1 lv 4 (.int x)) st o := ev_stI rfl rfl rfl
theorem s117_7 : ji_Ev C 117 7 M lv st o ↔ ji_Ev C 117 8 M lv (.int 0 :: st) o := ev_go (S := (8, M, lv, (.int 0 :: st))) rfl rfl rfl
theorem s117_8 : ji_Ev C 117 8 M lv (.int x :: st) o ↔ 5 < lv.length ∧ ji_Ev C 117 10 M (ji_s1 lv 5 (.int x)) st o := ev_stI rfl rfl rfl
theorem s117_10 : ji_Ev C 117 10 M (l0 :: l1 :: l2 :: l3 :: l4 :: some (.int x) :: l) st o ↔ ji_Ev C 117 12 M (l0 :: l1 :: l2 :: l3 :: l4 :: some (.int x) :: l) (.int x :: st) o := ev_go (S := (12, M, (l0 :: l1 :: l2 :: l3 :: l4 :: some (.int x) :: l), (.int x :: st))) rfl rfl rfl
theorem s117_12 : ji_Ev C 117 12 M lv st o ↔ ji_Ev C 117 13 M lv (.int 4 :: st) o := ev_go (S := (13, M, lv, (.int 4 :: st))) rfl rfl rfl
theorem s117_13 : ji_Ev C 117 13 M lv (.int y :: .int x :: st) o ↔ if x < y then ji_Ev C 117 16 M lv st o else ji_Ev C 117 74 M lv st o := ev_brc (c := .ge) rfl (by decide) rfl
theorem s117_16 : ji_Ev C 117 16 M (l0 :: l1 :: l2 :: some (.int x) :: l) st o ↔ ji_Ev C 117 17 M (l0 :: l1 :: l2 :: some (.int x) :: l) (.int x :: st) o := ev_go (S := (17, M, (l0 :: l1 :: l2 :: some (.int x) :: l), (.int x :: st))) rfl rfl rfl
theorem s117_17 : ji_Ev C 117 17 M lv st o ↔ ji_Ev C 117 19 M lv (.int 11 :: st) o := ev_go (S := (19, M, lv, (.int 11 :: st))) rfl rfl rfl
theorem s117_19 : ji_Ev C 117 19 M lv (.int y :: .int x :: st) o ↔ ¬ y = 0 ∧ ji_Ev C 117 20 M lv (.int (x - x / y * y) :: st) o := ev_dvR rfl
theorem s117_20 : ji_Ev C 117 20 M lv (.int x :: st) o ↔ 6 < lv.length ∧ ji_Ev C 117 22 M (ji_s1 lv 6 (.int x)) st o := ev_stI rfl rfl rfl
theorem s117_22 : ji_Ev C 117 22 M (l0 :: l1 :: l2 :: l3 :: l4 :: l5 :: some (.int x) :: l) st o ↔ ji_Ev C 117 24 M (l0 :: l1 :: l2 :: l3 :: l4 :: l5 :: some (.int x) :: l) (.int x :: st) o := ev_go (S := (24, M, (l0 :: l1 :: l2 :: l3 :: l4 :: l5 :: some (.int x) :: l), (.int x :: st))) rfl rfl rfl
theorem s117_24 : ji_Ev C 117 24 M lv st o ↔ ji_Ev C 117 26 M lv (.int 10 :: st) o := ev_go (S := (26, M, lv, (.int 10 :: st))) rfl rfl rfl
theorem s117_26 : ji_Ev C 117 26 M lv (.int y :: .int x :: st) o ↔ if x = y then ji_Ev C 117 44 M lv st o else ji_Ev C 117 29 M lv st o := ev_brc (c := .eq) rfl (by decide) rfl
theorem s117_29 : ji_Ev C 117 29 M (l0 :: l1 :: l2 :: l3 :: l4 :: l5 :: some (.int x) :: l) st o ↔ ji_Ev C 117 31 M (l0 :: l1 :: l2 :: l3 :: l4 :: l5 :: some (.int x) :: l) (.int x :: st) o := ev_go (S := (31, M, (l0 :: l1 :: l2 :: l3 :: l4 :: l5 :: some (.int x) :: l), (.int x :: st))) rfl rfl rfl
theorem s117_31 : ji_Ev C 117 31 M (l0 :: l1 :: some (.int x) :: l) st o ↔ ji_Ev C 117 32 M (l0 :: l1 :: some (.int x) :: l) (.int x :: st) o := ev_go (S := (32, M, (l0 :: l1 :: some (.int x) :: l), (.int x :: st))) rfl rfl rfl
theorem s117_32 : ji_Ev C 117 32 M lv st o ↔ ji_Ev C 117 34 M lv (.int 10 :: st) o := ev_go (S := (34, M, lv, (.int 10 :: st))) rfl rfl rfl
theorem s117_34 : ji_Ev C 117 34 M lv (.int y :: .int x :: st) o ↔ ¬ y = 0 ∧ ji_Ev C 117 35 M lv (.int (x - x / y * y) :: st) o := ev_dvR rfl
theorem s117_35 : ji_Ev C 117 35 M lv (.int y :: .int x :: st) o ↔ if x = y then ji_Ev C 117 38 M lv st o else ji_Ev C 117 44 M lv st o := ev_brc (c := .ne) rfl (by decide) rfl
theorem s117_38 : ji_Ev C 117 38 M lv st o ↔ ji_evL (lv.getD 4 none) ji_isI (fun v => match v with | .int x => 4 < lv.length ∧ ji_Ev C 117 41 M (ji_s1 lv 4 (.int (x + Int32.ofInt 1))) st o | _ => False) := ev_iinc rfl
theorem s117_41 : ji_Ev C 117 41 M lv st o ↔ ji_Ev C 117 58 M lv st o := ev_gt rfl (by decide) rfl
theorem s117_44 : ji_Ev C 117 44 M (l0 :: l1 :: l2 :: l3 :: l4 :: l5 :: some (.int x) :: l) st o ↔ ji_Ev C 117 46 M (l0 :: l1 :: l2 :: l3 :: l4 :: l5 :: some (.int x) :: l) (.int x :: st) o := ev_go (S := (46, M, (l0 :: l1 :: l2 :: l3 :: l4 :: l5 :: some (.int x) :: l), (.int x :: st))) rfl rfl rfl
theorem s117_46 : ji_Ev C 117 46 M lv st o ↔ ji_Ev C 117 48 M lv (.int 10 :: st) o := ev_go (S := (48, M, lv, (.int 10 :: st))) rfl rfl rfl
theorem s117_48 : ji_Ev C 117 48 M lv (.int y :: .int x :: st) o ↔ if x = y then ji_Ev C 117 58 M lv st o else ji_Ev C 117 51 M lv st o := ev_brc (c := .eq) rfl (by decide) rfl
theorem s117_51 : ji_Ev C 117 51 M (l0 :: l1 :: l2 :: l3 :: l4 :: some (.int x) :: l) st o ↔ ji_Ev C 117 53 M (l0 :: l1 :: l2 :: l3 :: l4 :: some (.int x) :: l) (.int x :: st) o := ev_go (S := (53, M, (l0 :: l1 :: l2 :: l3 :: l4 :: some (.int x) :: l), (.int x :: st))) rfl rfl rfl
theorem s117_53 : ji_Ev C 117 53 M lv (.int x :: st) o ↔ if x = 0 then ji_Ev C 117 56 M lv st o else ji_Ev C 117 58 M lv st o := ev_brz (c := .ne) rfl (by decide) rfl
theorem s117_56 : ji_Ev C 117 56 M lv st o ↔ ji_Ev C 117 57 M lv (.int 0 :: st) o := ev_go (S := (57, M, lv, (.int 0 :: st))) rfl rfl rfl
theorem s117_57 : ji_Ev C 117 57 M lv [.int x] o ↔ o = (some (.int x), M) := ev_ireti rfl rfl
theorem s117_58 : ji_Ev C 117 58 M (l0 :: l1 :: some (.int x) :: l) st o ↔ ji_Ev C 117 59 M (l0 :: l1 :: some (.int x) :: l) (.int x :: st) o := ev_go (S := (59, M, (l0 :: l1 :: some (.int x) :: l), (.int x :: st))) rfl rfl rfl
theorem s117_59 : ji_Ev C 117 59 M lv st o ↔ ji_Ev C 117 61 M lv (.int 10 :: st) o := ev_go (S := (61, M, lv, (.int 10 :: st))) rfl rfl rfl
theorem s117_61 : ji_Ev C 117 61 M lv (.int y :: .int x :: st) o ↔ ¬ y = 0 ∧ ji_Ev C 117 62 M lv (.int (x / y) :: st) o := ev_dvI rfl
theorem s117_62 : ji_Ev C 117 62 M lv (.int x :: st) o ↔ 2 < lv.length ∧ ji_Ev C 117 63 M (ji_s1 lv 2 (.int x)) st o := ev_stI rfl rfl rfl
theorem s117_63 : ji_Ev C 117 63 M (l0 :: l1 :: l2 :: some (.int x) :: l) st o ↔ ji_Ev C 117 64 M (l0 :: l1 :: l2 :: some (.int x) :: l) (.int x :: st) o := ev_go (S := (64, M, (l0 :: l1 :: l2 :: some (.int x) :: l), (.int x :: st))) rfl rfl rfl
theorem s117_64 : ji_Ev C 117 64 M lv st o ↔ ji_Ev C 117 66 M lv (.int 11 :: st) o := ev_go (S := (66, M, lv, (.int 11 :: st))) rfl rfl rfl
theorem s117_66 : ji_Ev C 117 66 M lv (.int y :: .int x :: st) o ↔ ¬ y = 0 ∧ ji_Ev C 117 67 M lv (.int (x / y) :: st) o := ev_dvI rfl
theorem s117_67 : ji_Ev C 117 67 M lv (.int x :: st) o ↔ 3 < lv.length ∧ ji_Ev C 117 68 M (ji_s1 lv 3 (.int x)) st o := ev_stI rfl rfl rfl
theorem s117_68 : ji_Ev C 117 68 M lv st o ↔ ji_evL (lv.getD 5 none) ji_isI (fun v => match v with | .int x => 5 < lv.length ∧ ji_Ev C 117 71 M (ji_s1 lv 5 (.int (x + Int32.ofInt 1))) st o | _ => False) := ev_iinc rfl
theorem s117_71 : ji_Ev C 117 71 M lv st o ↔ ji_Ev C 117 10 M lv st o := ev_gt rfl (by decide) rfl
theorem s117_74 : ji_Ev C 117 74 M (l0 :: l1 :: l2 :: l3 :: some (.int x) :: l) st o ↔ ji_Ev C 117 76 M (l0 :: l1 :: l2 :: l3 :: some (.int x) :: l) (.int x :: st) o := ev_go (S := (76, M, (l0 :: l1 :: l2 :: l3 :: some (.int x) :: l), (.int x :: st))) rfl rfl rfl
theorem s117_76 : ji_Ev C 117 76 M lv [.int x] o ↔ o = (some (.int x), M) := ev_ireti rfl rfl
theorem s118_0 : ji_Ev C 118 0 M (l0 :: some (.int x) :: l) st o ↔ ji_Ev C 118 1 M (l0 :: some (.int x) :: l) (.int x :: st) o := ev_go (S := (1, M, (l0 :: some (.int x) :: l), (.int x :: st))) rfl rfl rfl
theorem s118_1 : ji_Ev C 118 1 M lv st o ↔ ji_Ev C 118 2 M lv (.int (-1) :: st) o := ev_go (S := (2, M, lv, (.int (-1) :: st))) rfl rfl rfl
theorem s118_2 : ji_Ev C 118 2 M lv (.int y :: .int x :: st) o ↔ if x = y then ji_Ev C 118 19 M lv st o else ji_Ev C 118 5 M lv st o := ev_brc (c := .eq) rfl (by decide) rfl
theorem s118_5 : ji_Ev C 118 5 M (some (.ref a) :: l) st o ↔ ji_Ev C 118 6 M (some (.ref a) :: l) (.ref a :: st) o := ev_go (S := (6, M, (some (.ref a) :: l), (.ref a :: st))) rfl rfl rfl
theorem s118_6 : ji_Ev C 118 6 M lv (.ref a :: st) o ↔ ji_kd M a = some (0, 8) ∧ ji_Ev C 118 9 M lv (ji_rv (ji_gR M a 5) :: st) o := ev_getR (k := 118) rfl fd_8_42 rfl
theorem s118_9 : ji_Ev C 118 9 M (l0 :: some (.int x) :: l) st o ↔ ji_Ev C 118 10 M (l0 :: some (.int x) :: l) (.int x :: st) o := ev_go (S := (10, M, (l0 :: some (.int x) :: l), (.int x :: st))) rfl rfl rfl
theorem s118_10 : ji_Ev C 118 10 M lv (p0 :: .ref a :: st) o ↔ (ji_rcb M 2 (.ref a) = true ∧ ji_ok8 st) ∧ ji_evC (C 65 [.ref a, p0] M) (fun v M' => ji_Ev C 118 13 M' lv (v.toList ++ st) o) := ev_inv (k := 118) rfl cd_8_121 rfl
theorem s118_13 : ji_Ev C 118 13 M lv (.int x :: st) o ↔ if x = 0 then ji_Ev C 118 16 M lv st o else ji_Ev C 118 19 M lv st o := ev_brz (c := .ne) rfl (by decide) rfl
theorem s118_16 : ji_Ev C 118 16 M lv st o ↔ ji_Ev C 118 18 M lv (.int (-2) :: st) o := ev_go (S := (18, M, lv, (.int (-2) :: st))) rfl rfl rfl
theorem s118_18 : ji_Ev C 118 18 M lv [.int x] o ↔ o = (some (.int x), M) := ev_ireti rfl rfl
theorem s118_19 : ji_Ev C 118 19 M (some (.ref a) :: l) st o ↔ ji_Ev C 118 20 M (some (.ref a) :: l) (.ref a :: st) o := ev_go (S := (20, M, (some (.ref a) :: l), (.ref a :: st))) rfl rfl rfl
theorem s118_20 : ji_Ev C 118 20 M lv (.ref a :: st) o ↔ ji_kd M a = some (0, 8) ∧ ji_Ev C 118 23 M lv (ji_rv (ji_gR M a 7) :: st) o := ev_getR (k := 118) rfl fd_8_51 rfl
theorem s118_23 : ji_Ev C 118 23 M (some (.ref a) :: l) st o ↔ ji_Ev C 118 24 M (some (.ref a) :: l) (.ref a :: st) o := ev_go (S := (24, M, (some (.ref a) :: l), (.ref a :: st))) rfl rfl rfl
theorem s118_24 : ji_Ev C 118 24 M lv (.ref a :: st) o ↔ ji_kd M a = some (0, 8) ∧ ji_Ev C 118 27 M lv (ji_rv (ji_gR M a 5) :: st) o := ev_getR (k := 118) rfl fd_8_42 rfl
theorem s118_27 : ji_Ev C 118 27 M (some (.ref a) :: l) st o ↔ ji_Ev C 118 28 M (some (.ref a) :: l) (.ref a :: st) o := ev_go (S := (28, M, (some (.ref a) :: l), (.ref a :: st))) rfl rfl rfl
theorem s118_28 : ji_Ev C 118 28 M lv (.ref a :: st) o ↔ ji_kd M a = some (0, 8) ∧ ji_Ev C 118 31 M lv (ji_rv (ji_gR M a 6) :: st) o := ev_getR (k := 118) rfl fd_8_45 rfl
theorem s118_31 : ji_Ev C 118 31 M lv (p1 :: p0 :: .ref a :: st) o ↔ (ji_rcb M 0 (.ref a) = true ∧ ji_ok8 st) ∧ ji_evC (C 119 [.ref a, p0, p1] M) (fun v M' => ji_Ev C 118 34 M' lv (v.toList ++ st) o) := ev_inv (k := 118) rfl cd_8_234 rfl
theorem s118_34 : ji_Ev C 118 34 M (l0 :: some (.int x) :: l) st o ↔ ji_Ev C 118 35 M (l0 :: some (.int x) :: l) (.int x :: st) o := ev_go (S := (35, M, (l0 :: some (.int x) :: l), (.int x :: st))) rfl rfl rfl
theorem s118_35 : ji_Ev C 118 35 M lv st o ↔ ji_Ev C 118 36 M lv (.int (-1) :: st) o := ev_go (S := (36, M, lv, (.int (-1) :: st))) rfl rfl rfl
theorem s118_36 : ji_Ev C 118 36 M lv (.int y :: .int x :: st) o ↔ if x = y then ji_Ev C 118 39 M lv st o else ji_Ev C 118 49 M lv st o := ev_brc (c := .ne) rfl (by decide) rfl
theorem s118_39 : ji_Ev C 118 39 M (some (.ref a) :: l) st o ↔ ji_Ev C 118 40 M (some (.ref a) :: l) (.ref a :: st) o := ev_go (S := (40, M, (some (.ref a) :: l), (.ref a :: st))) rfl rfl rfl
theorem s118_40 : ji_Ev C 118 40 M lv (.ref a :: st) o ↔ ji_kd M a = some (0, 8) ∧ ji_Ev C 118 43 M lv (ji_rv (ji_gR M a 7) :: st) o := ev_getR (k := 118) rfl fd_8_51 rfl
theorem s118_43 : ji_Ev C 118 43 M lv (.ref a :: st) o ↔ (ji_rcb M 0 (.ref a) = true ∧ ji_ok8 st) ∧ ji_evC (C 124 [.ref a] M) (fun v M' => ji_Ev C 118 46 M' lv (v.toList ++ st) o) := ev_inv (k := 118) rfl cd_8_238 rfl
theorem s118_46 : ji_Ev C 118 46 M lv st o ↔ ji_Ev C 118 57 M lv st o := ev_gt rfl (by decide) rfl
theorem s118_49 : ji_Ev C 118 49 M (some (.ref a) :: l) st o ↔ ji_Ev C 118 50 M (some (.ref a) :: l) (.ref a :: st) o := ev_go (S := (50, M, (some (.ref a) :: l), (.ref a :: st))) rfl rfl rfl
theorem s118_50 : ji_Ev C 118 50 M lv (.ref a :: st) o ↔ ji_kd M a = some (0, 8) ∧ ji_Ev C 118 53 M lv (ji_rv (ji_gR M a 7) :: st) o := ev_getR (k := 118) rfl fd_8_51 rfl
theorem s118_53 : ji_Ev C 118 53 M (l0 :: some (.int x) :: l) st o ↔ ji_Ev C 118 54 M (l0 :: some (.int x) :: l) (.int x :: st) o := ev_go (S := (54, M, (l0 :: some (.int x) :: l), (.int x :: st))) rfl rfl rfl
theorem s118_54 : ji_Ev C 118 54 M lv (p0 :: .ref a :: st) o ↔ (ji_rcb M 0 (.ref a) = true ∧ ji_ok8 st) ∧ ji_evC (C 125 [.ref a, p0] M) (fun v M' => ji_Ev C 118 57 M' lv (v.toList ++ st) o) := ev_inv (k := 118) rfl cd_8_241 rfl
theorem s118_57 : ji_Ev C 118 57 M lv [.int x] o ↔ o = (some (.int x), M) := ev_ireti rfl rfl
theorem s119_0 : ji_Ev C 119 0 M lv st o ↔ ji_Ev C 119 2 M lv (.int 6 :: st) o := ev_go (S := (2, M, lv, (.int 6 :: st))) rfl rfl rfl
theorem s119_2 : ji_Ev C 119 2 M (l0 :: some (.ref a) :: l) st o ↔ ji_Ev C 119 3 M (l0 :: some (.ref a) :: l) (.ref a :: st) o := ev_go (S := (3, M, (l0 :: some (.ref a) :: l), (.ref a :: st))) rfl rfl rfl
theorem s119_3 : ji_Ev C 119 3 M lv (.ref a :: st) o ↔ (ji_rcb M 2 (.ref a) = true ∧ ji_ok8 st) ∧ ji_evC (C 47 [.ref a] M) (fun v M' => ji_Ev C 119 6 M' lv (v.toList ++ st) o) := ev_inv (k := 119) rfl cd_0_19 rfl
theorem s119_6 : ji_Ev C 119 6 M lv (.int y :: .int x :: st) o ↔ ji_ok8 st ∧ ji_Ev C 119 9 M lv (.int (if y < x then y else x) :: st) o := ev_min (k := 119) rfl cd_0_25
theorem s119_9 : ji_Ev C 119 9 M lv (.int x :: st) o ↔ 3 < lv.length ∧ ji_Ev C 119 10 M (ji_s1 lv 3 (.int x)) st o := ev_stI rfl rfl rfl
theorem s119_10 : ji_Ev C 119 10 M (some (.ref a) :: l) st o ↔ ji_Ev C 119 11 M (some (.ref a) :: l) (.ref a :: st) o := ev_go (S := (11, M, (some (.ref a) :: l), (.ref a :: st))) rfl rfl rfl
theorem s119_11 : ji_Ev C 119 11 M lv st o ↔ ji_Ev C 119 13 M lv (.int 6 :: st) o := ev_go (S := (13, M, lv, (.int 6 :: st))) rfl rfl rfl
theorem s119_13 : ji_Ev C 119 13 M (l0 :: l1 :: some (.ref a) :: l) st o ↔ ji_Ev C 119 14 M (l0 :: l1 :: some (.ref a) :: l) (.ref a :: st) o := ev_go (S := (14, M, (l0 :: l1 :: some (.ref a) :: l), (.ref a :: st))) rfl rfl rfl
theorem s119_14 : ji_Ev C 119 14 M lv (.ref a :: st) o ↔ (ji_rcb M 2 (.ref a) = true ∧ ji_ok8 st) ∧ ji_evC (C 47 [.ref a] M) (fun v M' => ji_Ev C 119 17 M' lv (v.toList ++ st) o) := ev_inv (k := 119) rfl cd_0_19 rfl
theorem s119_17 : ji_Ev C 119 17 M lv (.int y :: .int x :: st) o ↔ ji_ok8 st ∧ ji_Ev C 119 20 M lv (.int (if y < x then y else x) :: st) o := ev_min (k := 119) rfl cd_0_25
theorem s119_20 : ji_Ev C 119 20 M lv (.int x :: .ref a :: st) o ↔ ji_kd M a = some (0, 0) ∧ ji_Ev C 119 23 (ji_sI M a 2 x) lv st o := ev_putI (k := 119) rfl fd_0_31 rfl (by decide)
theorem s119_23 : ji_Ev C 119 23 M (some (.ref a) :: l) st o ↔ ji_Ev C 119 24 M (some (.ref a) :: l) (.ref a :: st) o := ev_go (S := (24, M, (some (.ref a) :: l), (.ref a :: st))) rfl rfl rfl
theorem s119_24 : ji_Ev C 119 24 M lv (.ref a :: st) o ↔ ji_kd M a = some (0, 0) ∧ ji_Ev C 119 27 M lv (ji_rv (ji_gR M a 1) :: st) o := ev_getR (k := 119) rfl fd_0_16 rfl
theorem s119_27 : ji_Ev C 119 27 M (l0 :: l1 :: l2 :: some (.int x) :: l) st o ↔ ji_Ev C 119 28 M (l0 :: l1 :: l2 :: some (.int x) :: l) (.int x :: st) o := ev_go (S := (28, M, (l0 :: l1 :: l2 :: some (.int x) :: l), (.int x :: st))) rfl rfl rfl
theorem s119_28 : ji_Ev C 119 28 M lv (.int x :: .ref a :: st) o ↔ ji_evQ (ji_kd M a) (fun n => vp_in x n ∧ ji_Ev C 119 29 M lv (ji_rv (ji_gR M a x.toNatClampNeg) :: st) o) := ev_aald rfl
theorem s119_29 : ji_Ev C 119 29 M lv st o ↔ ji_Ev C 119 30 M lv (.int 0 :: st) o := ev_go (S := (30, M, lv, (.int 0 :: st))) rfl rfl rfl
theorem s119_30 : ji_Ev C 119 30 M lv (p1 :: p0 :: st) o ↔ ji_ok8 st ∧ ji_evC (C 120 [p0, p1] M) (fun v M' => ji_Ev C 119 33 M' lv (v.toList ++ st) o) := ev_sta (k := 119) (a := [p1, p0]) rfl (Or.inl cd_0_35) rfl
theorem s119_33 : ji_Ev C 119 33 M (l0 :: l1 :: l2 :: some (.int x) :: l) st o ↔ ji_Ev C 119 34 M (l0 :: l1 :: l2 :: some (.int x) :: l) (.int x :: st) o := ev_go (S := (34, M, (l0 :: l1 :: l2 :: some (.int x) :: l), (.int x :: st))) rfl rfl rfl
theorem s119_34 : ji_Ev C 119 34 M lv st o ↔ ji_Ev C 119 35 M lv (.int 1 :: st) o := ev_go (S := (35, M, lv, (.int 1 :: st))) rfl rfl rfl
theorem s119_35 : ji_Ev C 119 35 M lv (.int y :: .int x :: st) o ↔ ji_Ev C 119 36 M lv (.int (x - y) :: st) o := ev_go (S := (36, M, lv, (.int (x - y) :: st))) rfl rfl rfl
theorem s119_36 : ji_Ev C 119 36 M lv (.int x :: st) o ↔ 4 < lv.length ∧ ji_Ev C 119 38 M (ji_s1 lv 4 (.int x)) st o := ev_stI rfl rfl rfl
theorem s119_38 : ji_Ev C 119 38 M (l0 :: l1 :: l2 :: l3 :: some (.int x) :: l) st o ↔ ji_Ev C 119 40 M (l0 :: l1 :: l2 :: l3 :: some (.int x) :: l) (.int x :: st) o := ev_go (S := (40, M, (l0 :: l1 :: l2 :: l3 :: some (.int x) :: l), (.int x :: st))) rfl rfl rfl
theorem s119_40 : ji_Ev C 119 40 M lv (.int x :: st) o ↔ if x < 0 then ji_Ev C 119 128 M lv st o else ji_Ev C 119 43 M lv st o := ev_brz (c := .lt) rfl (by decide) rfl
theorem s119_43 : ji_Ev C 119 43 M lv st o ↔ ji_Ev C 119 44 M lv (.int 0 :: st) o := ev_go (S := (44, M, lv, (.int 0 :: st))) rfl rfl rfl
theorem s119_44 : ji_Ev C 119 44 M lv (.int x :: st) o ↔ 5 < lv.length ∧ ji_Ev C 119 46 M (ji_s1 lv 5 (.int x)) st o := ev_stI rfl rfl rfl
theorem s119_46 : ji_Ev C 119 46 M (l0 :: l1 :: l2 :: l3 :: l4 :: some (.int x) :: l) st o ↔ ji_Ev C 119 48 M (l0 :: l1 :: l2 :: l3 :: l4 :: some (.int x) :: l) (.int x :: st) o := ev_go (S := (48, M, (l0 :: l1 :: l2 :: l3 :: l4 :: some (.int x) :: l), (.int x :: st))) rfl rfl rfl
theorem s119_48 : ji_Ev C 119 48 M (some (.ref a) :: l) st o ↔ ji_Ev C 119 49 M (some (.ref a) :: l) (.ref a :: st) o := ev_go (S := (49, M, (some (.ref a) :: l), (.ref a :: st))) rfl rfl rfl
theorem s119_49 : ji_Ev C 119 49 M lv (.ref a :: st) o ↔ ji_kd M a = some (0, 0) ∧ ji_Ev C 119 52 M lv (.int (ji_gI M a 2) :: st) o := ev_getI (k := 119) rfl fd_0_31 rfl
theorem s119_52 : ji_Ev C 119 52 M lv (.int y :: .int x :: st) o ↔ if x < y then ji_Ev C 119 55 M lv st o else ji_Ev C 119 88 M lv st o := ev_brc (c := .ge) rfl (by decide) rfl
theorem s119_55 : ji_Ev C 119 55 M (some (.ref a) :: l) st o ↔ ji_Ev C 119 56 M (some (.ref a) :: l) (.ref a :: st) o := ev_go (S := (56, M, (some (.ref a) :: l), (.ref a :: st))) rfl rfl rfl
theorem s119_56 : ji_Ev C 119 56 M lv (.ref a :: st) o ↔ ji_kd M a = some (0, 0) ∧ ji_Ev C 119 59 M lv (ji_rv (ji_gR M a 0) :: st) o := ev_getR (k := 119) rfl fd_0_13 rfl
theorem s119_59 : ji_Ev C 119 59 M (l0 :: l1 :: l2 :: l3 :: some (.int x) :: l) st o ↔ ji_Ev C 119 61 M (l0 :: l1 :: l2 :: l3 :: some (.int x) :: l) (.int x :: st) o := ev_go (S := (61, M, (l0 :: l1 :: l2 :: l3 :: some (.int x) :: l), (.int x :: st))) rfl rfl rfl
theorem s119_61 : ji_Ev C 119 61 M lv (.int x :: .ref a :: st) o ↔ ji_evQ (ji_kd M a) (fun n => vp_in x n ∧ ji_Ev C 119 62 M lv (ji_rv (ji_gR M a x.toNatClampNeg) :: st) o) := ev_aald rfl
theorem s119_62 : ji_Ev C 119 62 M (l0 :: l1 :: l2 :: l3 :: l4 :: some (.int x) :: l) st o ↔ ji_Ev C 119 64 M (l0 :: l1 :: l2 :: l3 :: l4 :: some (.int x) :: l) (.int x :: st) o := ev_go (S := (64, M, (l0 :: l1 :: l2 :: l3 :: l4 :: some (.int x) :: l), (.int x :: st))) rfl rfl rfl
theorem s119_64 : ji_Ev C 119 64 M (l0 :: some (.ref a) :: l) st o ↔ ji_Ev C 119 65 M (l0 :: some (.ref a) :: l) (.ref a :: st) o := ev_go (S := (65, M, (l0 :: some (.ref a) :: l), (.ref a :: st))) rfl rfl rfl
theorem s119_65 : ji_Ev C 119 65 M (l0 :: l1 :: l2 :: l3 :: some (.int x) :: l) st o ↔ ji_Ev C 119 67 M (l0 :: l1 :: l2 :: l3 :: some (.int x) :: l) (.int x :: st) o := ev_go (S := (67, M, (l0 :: l1 :: l2 :: l3 :: some (.int x) :: l), (.int x :: st))) rfl rfl rfl
theorem s119_67 : ji_Ev C 119 67 M lv st o ↔ ji_Ev C 119 68 M lv (.int 0 :: st) o := ev_go (S := (68, M, lv, (.int 0 :: st))) rfl rfl rfl
theorem s119_68 : ji_Ev C 119 68 M lv (p1 :: p0 :: .ref a :: st) o ↔ (ji_rcb M 2 (.ref a) = true ∧ ji_ok8 st) ∧ ji_evC (C 49 [.ref a, p0, p1] M) (fun v M' => ji_Ev C 119 71 M' lv (v.toList ++ st) o) := ev_inv (k := 119) rfl cd_0_41 rfl
theorem s119_71 : ji_Ev C 119 71 M (l0 :: l1 :: some (.ref a) :: l) st o ↔ ji_Ev C 119 72 M (l0 :: l1 :: some (.ref a) :: l) (.ref a :: st) o := ev_go (S := (72, M, (l0 :: l1 :: some (.ref a) :: l), (.ref a :: st))) rfl rfl rfl
theorem s119_72 : ji_Ev C 119 72 M (l0 :: l1 :: l2 :: l3 :: l4 :: some (.int x) :: l) st o ↔ ji_Ev C 119 74 M (l0 :: l1 :: l2 :: l3 :: l4 :: some (.int x) :: l) (.int x :: st) o := ev_go (S := (74, M, (l0 :: l1 :: l2 :: l3 :: l4 :: some (.int x) :: l), (.int x :: st))) rfl rfl rfl
theorem s119_74 : ji_Ev C 119 74 M lv st o ↔ ji_Ev C 119 75 M lv (.int 0 :: st) o := ev_go (S := (75, M, lv, (.int 0 :: st))) rfl rfl rfl
theorem s119_75 : ji_Ev C 119 75 M lv (p1 :: p0 :: .ref a :: st) o ↔ (ji_rcb M 2 (.ref a) = true ∧ ji_ok8 st) ∧ ji_evC (C 49 [.ref a, p0, p1] M) (fun v M' => ji_Ev C 119 78 M' lv (v.toList ++ st) o) := ev_inv (k := 119) rfl cd_0_41 rfl
theorem s119_78 : ji_Ev C 119 78 M lv (p1 :: p0 :: st) o ↔ ji_ok8 st ∧ ji_evC (C 117 [p0, p1] M) (fun v M' => ji_Ev C 119 81 M' lv (v.toList ++ st) o) := ev_sta (k := 119) (a := [p1, p0]) rfl (Or.inl cd_0_44) rfl
theorem s119_81 : ji_Ev C 119 81 M lv (.int y :: .int x :: .ref a :: st) o ↔ ji_evA (ji_kd M a) (fun n => vp_in x n ∧ ji_Ev C 119 82 (ji_sI M a x.toNatClampNeg y) lv st o) := ev_iast rfl
theorem s119_82 : ji_Ev C 119 82 M lv st o ↔ ji_evL (lv.getD 5 none) ji_isI (fun v => match v with | .int x => 5 < lv.length ∧ ji_Ev C 119 85 M (ji_s1 lv 5 (.int (x + Int32.ofInt 1))) st o | _ => False) := ev_iinc rfl
theorem s119_85 : ji_Ev C 119 85 M lv st o ↔ ji_Ev C 119 46 M lv st o := ev_gt rfl (by decide) rfl
theorem s119_88 : ji_Ev C 119 88 M lv st o ↔ ji_Ev C 119 89 M lv (.int 0 :: st) o := ev_go (S := (89, M, lv, (.int 0 :: st))) rfl rfl rfl
theorem s119_89 : ji_Ev C 119 89 M lv (.int x :: st) o ↔ 5 < lv.length ∧ ji_Ev C 119 91 M (ji_s1 lv 5 (.int x)) st o := ev_stI rfl rfl rfl
theorem s119_91 : ji_Ev C 119 91 M (l0 :: l1 :: l2 :: l3 :: l4 :: some (.int x) :: l) st o ↔ ji_Ev C 119 93 M (l0 :: l1 :: l2 :: l3 :: l4 :: some (.int x) :: l) (.int x :: st) o := ev_go (S := (93, M, (l0 :: l1 :: l2 :: l3 :: l4 :: some (.int x) :: l), (.int x :: st))) rfl rfl rfl
theorem s119_93 : ji_Ev C 119 93 M lv st o ↔ ji_Ev C 119 95 M lv (.int 64 :: st) o := ev_go (S := (95, M, lv, (.int 64 :: st))) rfl rfl rfl
theorem s119_95 : ji_Ev C 119 95 M lv (.int y :: .int x :: st) o ↔ if x < y then ji_Ev C 119 98 M lv st o else ji_Ev C 119 122 M lv st o := ev_brc (c := .ge) rfl (by decide) rfl
theorem s119_98 : ji_Ev C 119 98 M (some (.ref a) :: l) st o ↔ ji_Ev C 119 99 M (some (.ref a) :: l) (.ref a :: st) o := ev_go (S := (99, M, (some (.ref a) :: l), (.ref a :: st))) rfl rfl rfl
theorem s119_99 : ji_Ev C 119 99 M lv (.ref a :: st) o ↔ ji_kd M a = some (0, 0) ∧ ji_Ev C 119 102 M lv (ji_rv (ji_gR M a 1) :: st) o := ev_getR (k := 119) rfl fd_0_16 rfl
theorem s119_102 : ji_Ev C 119 102 M (l0 :: l1 :: l2 :: l3 :: some (.int x) :: l) st o ↔ ji_Ev C 119 104 M (l0 :: l1 :: l2 :: l3 :: some (.int x) :: l) (.int x :: st) o := ev_go (S := (104, M, (l0 :: l1 :: l2 :: l3 :: some (.int x) :: l), (.int x :: st))) rfl rfl rfl
theorem s119_104 : ji_Ev C 119 104 M lv (.int x :: .ref a :: st) o ↔ ji_evQ (ji_kd M a) (fun n => vp_in x n ∧ ji_Ev C 119 105 M lv (ji_rv (ji_gR M a x.toNatClampNeg) :: st) o) := ev_aald rfl
theorem s119_105 : ji_Ev C 119 105 M (l0 :: l1 :: l2 :: l3 :: l4 :: some (.int x) :: l) st o ↔ ji_Ev C 119 107 M (l0 :: l1 :: l2 :: l3 :: l4 :: some (.int x) :: l) (.int x :: st) o := ev_go (S := (107, M, (l0 :: l1 :: l2 :: l3 :: l4 :: some (.int x) :: l), (.int x :: st))) rfl rfl rfl
theorem s119_107 : ji_Ev C 119 107 M (some (.ref a) :: l) st o ↔ ji_Ev C 119 108 M (some (.ref a) :: l) (.ref a :: st) o := ev_go (S := (108, M, (some (.ref a) :: l), (.ref a :: st))) rfl rfl rfl
theorem s119_108 : ji_Ev C 119 108 M (l0 :: l1 :: l2 :: l3 :: some (.int x) :: l) st o ↔ ji_Ev C 119 110 M (l0 :: l1 :: l2 :: l3 :: some (.int x) :: l) (.int x :: st) o := ev_go (S := (110, M, (l0 :: l1 :: l2 :: l3 :: some (.int x) :: l), (.int x :: st))) rfl rfl rfl
theorem s119_110 : ji_Ev C 119 110 M (l0 :: l1 :: l2 :: l3 :: l4 :: some (.int x) :: l) st o ↔ ji_Ev C 119 112 M (l0 :: l1 :: l2 :: l3 :: l4 :: some (.int x) :: l) (.int x :: st) o := ev_go (S := (112, M, (l0 :: l1 :: l2 :: l3 :: l4 :: some (.int x) :: l), (.int x :: st))) rfl rfl rfl
theorem s119_112 : ji_Ev C 119 112 M lv (p1 :: p0 :: .ref a :: st) o ↔ (ji_rcb M 0 (.ref a) = true ∧ ji_ok8 st) ∧ ji_evC (C 121 [.ref a, p0, p1] M) (fun v M' => ji_Ev C 119 115 M' lv (v.toList ++ st) o) := ev_inv (k := 119) rfl cd_0_47 rfl
theorem s119_115 : ji_Ev C 119 115 M lv (.int y :: .int x :: .ref a :: st) o ↔ ji_evA (ji_kd M a) (fun n => vp_in x n ∧ ji_Ev C 119 116 (ji_sI M a x.toNatClampNeg y) lv st o) := ev_iast rfl
theorem s119_116 : ji_Ev C 119 116 M lv st o ↔ ji_evL (lv.getD 5 none) ji_isI (fun v => match v with | .int x => 5 < lv.length ∧ ji_Ev C 119 119 M (ji_s1 lv 5 (.int (x + Int32.ofInt 1))) st o | _ => False) := ev_iinc rfl
theorem s119_119 : ji_Ev C 119 119 M lv st o ↔ ji_Ev C 119 91 M lv st o := ev_gt rfl (by decide) rfl
theorem s119_122 : ji_Ev C 119 122 M lv st o ↔ ji_evL (lv.getD 4 none) ji_isI (fun v => match v with | .int x => 4 < lv.length ∧ ji_Ev C 119 125 M (ji_s1 lv 4 (.int (x + Int32.ofInt (-1)))) st o | _ => False) := ev_iinc rfl
theorem s119_125 : ji_Ev C 119 125 M lv st o ↔ ji_Ev C 119 38 M lv st o := ev_gt rfl (by decide) rfl
theorem s119_128 : ji_Ev C 119 128 M lv [] o ↔ o = (none, M) := ev_vret rfl rfl
theorem s120_0 : ji_Ev C 120 0 M lv st o ↔ ji_Ev C 120 1 M lv (.int 0 :: st) o := ev_go (S := (1, M, lv, (.int 0 :: st))) rfl rfl rfl
theorem s120_1 : ji_Ev C 120 1 M lv (.int x :: st) o ↔ 2 < lv.length ∧ ji_Ev C 120 2 M (ji_s1 lv 2 (.int x)) st o := ev_stI rfl rfl rfl
theorem s120_2 : ji_Ev C 120 2 M (some (.ref a) :: l) st o ↔ ji_Ev C 120 3 M (some (.ref a) :: l) (.ref a :: st) o := ev_go (S := (3, M, (some (.ref a) :: l), (.ref a :: st))) rfl rfl rfl
theorem s120_2x : ji_Ev C 120 2 M (some (.retAddr a) :: l) st o ↔ ji_Ev C 120 3 M (some (.retAddr a) :: l) (.retAddr a :: st) o := ev_go (S := (3, M, (some (.retAddr a) :: l), (.retAddr a :: st))) rfl rfl rfl
theorem s120_3 : ji_Ev C 120 3 M lv (.ref a :: st) o ↔ ji_evN (ji_kd M a) (fun n => ji_Ev C 120 4 M lv (.int (Int32.ofNat n) :: st) o) := ev_alen rfl
theorem s120_3_4 : ji_Ev C 120 3 M lv (.retAddr 4 :: st) o ↔ ji_Ev C 120 4 M lv (.int (Int32.ofNat (ji_tx 4).length) :: st) o := ev_alenX (l := ji_tx 4) rfl rfl
theorem s120_3_5 : ji_Ev C 120 3 M lv (.retAddr 5 :: st) o ↔ ji_Ev C 120 4 M lv (.int (Int32.ofNat (ji_tx 5).length) :: st) o := ev_alenX (l := ji_tx 5) rfl rfl
theorem s120_3_6 : ji_Ev C 120 3 M lv (.retAddr 6 :: st) o ↔ ji_Ev C 120 4 M lv (.int (Int32.ofNat (ji_tx 6).length) :: st) o := ev_alenX (l := ji_tx 6) rfl rfl
theorem s120_4 : ji_Ev C 120 4 M lv (.int x :: st) o ↔ 3 < lv.length ∧ ji_Ev C 120 5 M (ji_s1 lv 3 (.int x)) st o := ev_stI rfl rfl rfl
theorem s120_5 : ji_Ev C 120 5 M (l0 :: l1 :: some (.int x) :: l) st o ↔ ji_Ev C 120 6 M (l0 :: l1 :: some (.int x) :: l) (.int x :: st) o := ev_go (S := (6, M, (l0 :: l1 :: some (.int x) :: l), (.int x :: st))) rfl rfl rfl
theorem s120_6 : ji_Ev C 120 6 M (l0 :: l1 :: l2 :: some (.int x) :: l) st o ↔ ji_Ev C 120 7 M (l0 :: l1 :: l2 :: some (.int x) :: l) (.int x :: st) o := ev_go (S := (7, M, (l0 :: l1 :: l2 :: some (.int x) :: l), (.int x :: st))) rfl rfl rfl
theorem s120_7 : ji_Ev C 120 7 M lv (.int y :: .int x :: st) o ↔ if x < y then ji_Ev C 120 10 M lv st o else ji_Ev C 120 20 M lv st o := ev_brc (c := .ge) rfl (by decide) rfl
theorem s120_10 : ji_Ev C 120 10 M (some (.ref a) :: l) st o ↔ ji_Ev C 120 11 M (some (.ref a) :: l) (.ref a :: st) o := ev_go (S := (11, M, (some (.ref a) :: l), (.ref a :: st))) rfl rfl rfl
theorem s120_10x : ji_Ev C 120 10 M (some (.retAddr a) :: l) st o ↔ ji_Ev C 120 11 M (some (.retAddr a) :: l) (.retAddr a :: st) o := ev_go (S := (11, M, (some (.retAddr a) :: l), (.retAddr a :: st))) rfl rfl rfl
theorem s120_11 : ji_Ev C 120 11 M (l0 :: l1 :: some (.int x) :: l) st o ↔ ji_Ev C 120 12 M (l0 :: l1 :: some (.int x) :: l) (.int x :: st) o := ev_go (S := (12, M, (l0 :: l1 :: some (.int x) :: l), (.int x :: st))) rfl rfl rfl
theorem s120_12 : ji_Ev C 120 12 M (l0 :: some (.int x) :: l) st o ↔ ji_Ev C 120 13 M (l0 :: some (.int x) :: l) (.int x :: st) o := ev_go (S := (13, M, (l0 :: some (.int x) :: l), (.int x :: st))) rfl rfl rfl
theorem s120_13 : ji_Ev C 120 13 M lv (.int y :: .int x :: .ref a :: st) o ↔ ji_evA (ji_kd M a) (fun n => vp_in x n ∧ ji_Ev C 120 14 (ji_sI M a x.toNatClampNeg y) lv st o) := ev_iast rfl
theorem s120_14 : ji_Ev C 120 14 M lv st o ↔ ji_evL (lv.getD 2 none) ji_isI (fun v => match v with | .int x => 2 < lv.length ∧ ji_Ev C 120 17 M (ji_s1 lv 2 (.int (x + Int32.ofInt 1))) st o | _ => False) := ev_iinc rfl
theorem s120_17 : ji_Ev C 120 17 M lv st o ↔ ji_Ev C 120 5 M lv st o := ev_gt rfl (by decide) rfl
theorem s120_20 : ji_Ev C 120 20 M lv [] o ↔ o = (none, M) := ev_vret rfl rfl
theorem s121_0 : ji_Ev C 121 0 M (some (.ref a) :: l) st o ↔ ji_Ev C 121 1 M (some (.ref a) :: l) (.ref a :: st) o := ev_go (S := (1, M, (some (.ref a) :: l), (.ref a :: st))) rfl rfl rfl
theorem s121_1 : ji_Ev C 121 1 M lv (.ref a :: st) o ↔ ji_kd M a = some (0, 0) ∧ ji_Ev C 121 4 M lv (ji_rv (ji_gR M a 1) :: st) o := ev_getR (k := 121) rfl fd_0_16 rfl
theorem s121_4 : ji_Ev C 121 4 M (l0 :: some (.int x) :: l) st o ↔ ji_Ev C 121 5 M (l0 :: some (.int x) :: l) (.int x :: st) o := ev_go (S := (5, M, (l0 :: some (.int x) :: l), (.int x :: st))) rfl rfl rfl
theorem s121_5 : ji_Ev C 121 5 M lv st o ↔ ji_Ev C 121 6 M lv (.int 1 :: st) o := ev_go (S := (6, M, lv, (.int 1 :: st))) rfl rfl rfl
theorem s121_6 : ji_Ev C 121 6 M lv (.int y :: .int x :: st) o ↔ ji_Ev C 121 7 M lv (.int (x + y) :: st) o := ev_go (S := (7, M, lv, (.int (x + y) :: st))) rfl rfl rfl
theorem s121_7 : ji_Ev C 121 7 M lv (.int x :: .ref a :: st) o ↔ ji_evQ (ji_kd M a) (fun n => vp_in x n ∧ ji_Ev C 121 8 M lv (ji_rv (ji_gR M a x.toNatClampNeg) :: st) o) := ev_aald rfl
theorem s121_8 : ji_Ev C 121 8 M (l0 :: l1 :: some (.int x) :: l) st o ↔ ji_Ev C 121 9 M (l0 :: l1 :: some (.int x) :: l) (.int x :: st) o := ev_go (S := (9, M, (l0 :: l1 :: some (.int x) :: l), (.int x :: st))) rfl rfl rfl
theorem s121_9 : ji_Ev C 121 9 M lv (.int x :: .ref a :: st) o ↔ ji_evA (ji_kd M a) (fun n => vp_in x n ∧ ji_Ev C 121 10 M lv (.int (ji_gI M a x.toNatClampNeg) :: st) o) := ev_iald rfl
theorem s121_10 : ji_Ev C 121 10 M lv (.int x :: st) o ↔ 3 < lv.length ∧ ji_Ev C 121 11 M (ji_s1 lv 3 (.int x)) st o := ev_stI rfl rfl rfl
theorem s121_11 : ji_Ev C 121 11 M lv st o ↔ ji_Ev C 121 12 M lv (.int 0 :: st) o := ev_go (S := (12, M, lv, (.int 0 :: st))) rfl rfl rfl
theorem s121_12 : ji_Ev C 121 12 M lv (.int x :: st) o ↔ 4 < lv.length ∧ ji_Ev C 121 14 M (ji_s1 lv 4 (.int x)) st o := ev_stI rfl rfl rfl
theorem s121_14 : ji_Ev C 121 14 M (l0 :: l1 :: l2 :: l3 :: some (.int x) :: l) st o ↔ ji_Ev C 121 16 M (l0 :: l1 :: l2 :: l3 :: some (.int x) :: l) (.int x :: st) o := ev_go (S := (16, M, (l0 :: l1 :: l2 :: l3 :: some (.int x) :: l), (.int x :: st))) rfl rfl rfl
theorem s121_16 : ji_Ev C 121 16 M (some (.ref a) :: l) st o ↔ ji_Ev C 121 17 M (some (.ref a) :: l) (.ref a :: st) o := ev_go (S := (17, M, (some (.ref a) :: l), (.ref a :: st))) rfl rfl rfl
theorem s121_17 : ji_Ev C 121 17 M lv (.ref a :: st) o ↔ ji_kd M a = some (0, 0) ∧ ji_Ev C 121 20 M lv (.int (ji_gI M a 2) :: st) o := ev_getI (k := 121) rfl fd_0_31 rfl
theorem s121_20 : ji_Ev C 121 20 M lv (.int y :: .int x :: st) o ↔ if x < y then ji_Ev C 121 23 M lv st o else ji_Ev C 121 53 M lv st o := ev_brc (c := .ge) rfl (by decide) rfl
theorem s121_23 : ji_Ev C 121 23 M (some (.ref a) :: l) st o ↔ ji_Ev C 121 24 M (some (.ref a) :: l) (.ref a :: st) o := ev_go (S := (24, M, (some (.ref a) :: l), (.ref a :: st))) rfl rfl rfl
theorem s121_24 : ji_Ev C 121 24 M (l0 :: some (.int x) :: l) st o ↔ ji_Ev C 121 25 M (l0 :: some (.int x) :: l) (.int x :: st) o := ev_go (S := (25, M, (l0 :: some (.int x) :: l), (.int x :: st))) rfl rfl rfl
theorem s121_25 : ji_Ev C 121 25 M (l0 :: l1 :: l2 :: l3 :: some (.int x) :: l) st o ↔ ji_Ev C 121 27 M (l0 :: l1 :: l2 :: l3 :: some (.int x) :: l) (.int x :: st) o := ev_go (S := (27, M, (l0 :: l1 :: l2 :: l3 :: some (.int x) :: l), (.int x :: st))) rfl rfl rfl
theorem s121_27 : ji_Ev C 121 27 M (l0 :: l1 :: some (.int x) :: l) st o ↔ ji_Ev C 121 28 M (l0 :: l1 :: some (.int x) :: l) (.int x :: st) o := ev_go (S := (28, M, (l0 :: l1 :: some (.int x) :: l), (.int x :: st))) rfl rfl rfl
theorem s121_28 : ji_Ev C 121 28 M lv (p2 :: p1 :: p0 :: .ref a :: st) o ↔ (ji_rcb M 0 (.ref a) = true ∧ ji_ok8 st) ∧ ji_evC (C 122 [.ref a, p0, p1, p2] M) (fun v M' => ji_Ev C 121 31 M' lv (v.toList ++ st) o) := ev_inv (k := 121) rfl cd_0_50 rfl
theorem s121_31 : ji_Ev C 121 31 M lv (.int x :: st) o ↔ if x = 0 then ji_Ev C 121 47 M lv st o else ji_Ev C 121 34 M lv st o := ev_brz (c := .eq) rfl (by decide) rfl
theorem s121_34 : ji_Ev C 121 34 M (l0 :: l1 :: l2 :: some (.int x) :: l) st o ↔ ji_Ev C 121 35 M (l0 :: l1 :: l2 :: some (.int x) :: l) (.int x :: st) o := ev_go (S := (35, M, (l0 :: l1 :: l2 :: some (.int x) :: l), (.int x :: st))) rfl rfl rfl
theorem s121_35 : ji_Ev C 121 35 M (some (.ref a) :: l) st o ↔ ji_Ev C 121 36 M (some (.ref a) :: l) (.ref a :: st) o := ev_go (S := (36, M, (some (.ref a) :: l), (.ref a :: st))) rfl rfl rfl
theorem s121_36 : ji_Ev C 121 36 M (l0 :: some (.int x) :: l) st o ↔ ji_Ev C 121 37 M (l0 :: some (.int x) :: l) (.int x :: st) o := ev_go (S := (37, M, (l0 :: some (.int x) :: l), (.int x :: st))) rfl rfl rfl
theorem s121_37 : ji_Ev C 121 37 M (l0 :: l1 :: l2 :: l3 :: some (.int x) :: l) st o ↔ ji_Ev C 121 39 M (l0 :: l1 :: l2 :: l3 :: some (.int x) :: l) (.int x :: st) o := ev_go (S := (39, M, (l0 :: l1 :: l2 :: l3 :: some (.int x) :: l), (.int x :: st))) rfl rfl rfl
theorem s121_39 : ji_Ev C 121 39 M (l0 :: l1 :: some (.int x) :: l) st o ↔ ji_Ev C 121 40 M (l0 :: l1 :: some (.int x) :: l) (.int x :: st) o := ev_go (S := (40, M, (l0 :: l1 :: some (.int x) :: l), (.int x :: st))) rfl rfl rfl
theorem s121_40 : ji_Ev C 121 40 M lv (p2 :: p1 :: p0 :: .ref a :: st) o ↔ (ji_rcb M 0 (.ref a) = true ∧ ji_ok8 st) ∧ ji_evC (C 123 [.ref a, p0, p1, p2] M) (fun v M' => ji_Ev C 121 43 M' lv (v.toList ++ st) o) := ev_inv (k := 121) rfl cd_0_54 rfl
theorem s121_43 : ji_Ev C 121 43 M lv (.int y :: .int x :: st) o ↔ ji_ok8 st ∧ ji_Ev C 121 46 M lv (.int (if x < y then y else x) :: st) o := ev_max (k := 121) rfl cd_0_58
theorem s121_46 : ji_Ev C 121 46 M lv (.int x :: st) o ↔ 3 < lv.length ∧ ji_Ev C 121 47 M (ji_s1 lv 3 (.int x)) st o := ev_stI rfl rfl rfl
theorem s121_47 : ji_Ev C 121 47 M lv st o ↔ ji_evL (lv.getD 4 none) ji_isI (fun v => match v with | .int x => 4 < lv.length ∧ ji_Ev C 121 50 M (ji_s1 lv 4 (.int (x + Int32.ofInt 1))) st o | _ => False) := ev_iinc rfl
theorem s121_50 : ji_Ev C 121 50 M lv st o ↔ ji_Ev C 121 14 M lv st o := ev_gt rfl (by decide) rfl
theorem s121_53 : ji_Ev C 121 53 M (l0 :: l1 :: l2 :: some (.int x) :: l) st o ↔ ji_Ev C 121 54 M (l0 :: l1 :: l2 :: some (.int x) :: l) (.int x :: st) o := ev_go (S := (54, M, (l0 :: l1 :: l2 :: some (.int x) :: l), (.int x :: st))) rfl rfl rfl
theorem s121_54 : ji_Ev C 121 54 M lv [.int x] o ↔ o = (some (.int x), M) := ev_ireti rfl rfl
theorem s122_0 : ji_Ev C 122 0 M (l0 :: l1 :: l2 :: some (.int x) :: l) st o ↔ ji_Ev C 122 1 M (l0 :: l1 :: l2 :: some (.int x) :: l) (.int x :: st) o := ev_go (S := (1, M, (l0 :: l1 :: l2 :: some (.int x) :: l), (.int x :: st))) rfl rfl rfl
theorem s122_1 : ji_Ev C 122 1 M (l0 :: l1 :: some (.int x) :: l) st o ↔ ji_Ev C 122 2 M (l0 :: l1 :: some (.int x) :: l) (.int x :: st) o := ev_go (S := (2, M, (l0 :: l1 :: some (.int x) :: l), (.int x :: st))) rfl rfl rfl
theorem s122_2 : ji_Ev C 122 2 M lv (.int y :: .int x :: st) o ↔ ji_Ev C 122 3 M lv (.int (x >>> (y &&& 31)) :: st) o := ev_go (S := (3, M, lv, (.int (x >>> (y &&& 31)) :: st))) rfl rfl rfl
theorem s122_3 : ji_Ev C 122 3 M lv st o ↔ ji_Ev C 122 4 M lv (.int 1 :: st) o := ev_go (S := (4, M, lv, (.int 1 :: st))) rfl rfl rfl
theorem s122_4 : ji_Ev C 122 4 M lv (.int y :: .int x :: st) o ↔ ji_Ev C 122 5 M lv (.int (x &&& y) :: st) o := ev_go (S := (5, M, lv, (.int (x &&& y) :: st))) rfl rfl rfl
theorem s122_5 : ji_Ev C 122 5 M lv (.int x :: st) o ↔ if x = 0 then ji_Ev C 122 8 M lv st o else ji_Ev C 122 23 M lv st o := ev_brz (c := .ne) rfl (by decide) rfl
theorem s122_8 : ji_Ev C 122 8 M (some (.ref a) :: l) st o ↔ ji_Ev C 122 9 M (some (.ref a) :: l) (.ref a :: st) o := ev_go (S := (9, M, (some (.ref a) :: l), (.ref a :: st))) rfl rfl rfl
theorem s122_9 : ji_Ev C 122 9 M lv (.ref a :: st) o ↔ ji_kd M a = some (0, 0) ∧ ji_Ev C 122 12 M lv (ji_rv (ji_gR M a 0) :: st) o := ev_getR (k := 122) rfl fd_0_13 rfl
theorem s122_12 : ji_Ev C 122 12 M (l0 :: some (.int x) :: l) st o ↔ ji_Ev C 122 13 M (l0 :: some (.int x) :: l) (.int x :: st) o := ev_go (S := (13, M, (l0 :: some (.int x) :: l), (.int x :: st))) rfl rfl rfl
theorem s122_13 : ji_Ev C 122 13 M lv (.int x :: .ref a :: st) o ↔ ji_evQ (ji_kd M a) (fun n => vp_in x n ∧ ji_Ev C 122 14 M lv (ji_rv (ji_gR M a x.toNatClampNeg) :: st) o) := ev_aald rfl
theorem s122_14 : ji_Ev C 122 14 M (l0 :: l1 :: some (.int x) :: l) st o ↔ ji_Ev C 122 15 M (l0 :: l1 :: some (.int x) :: l) (.int x :: st) o := ev_go (S := (15, M, (l0 :: l1 :: some (.int x) :: l), (.int x :: st))) rfl rfl rfl
theorem s122_15 : ji_Ev C 122 15 M lv (.int x :: .ref a :: st) o ↔ ji_evA (ji_kd M a) (fun n => vp_in x n ∧ ji_Ev C 122 16 M lv (.int (ji_gI M a x.toNatClampNeg) :: st) o) := ev_iald rfl
theorem s122_16 : ji_Ev C 122 16 M lv (.int x :: st) o ↔ if 0 < x then ji_Ev C 122 19 M lv st o else ji_Ev C 122 23 M lv st o := ev_brz (c := .le) rfl (by decide) rfl
theorem s122_19 : ji_Ev C 122 19 M lv st o ↔ ji_Ev C 122 20 M lv (.int 1 :: st) o := ev_go (S := (20, M, lv, (.int 1 :: st))) rfl rfl rfl
theorem s122_20 : ji_Ev C 122 20 M lv st o ↔ ji_Ev C 122 24 M lv st o := ev_gt rfl (by decide) rfl
theorem s122_23 : ji_Ev C 122 23 M lv st o ↔ ji_Ev C 122 24 M lv (.int 0 :: st) o := ev_go (S := (24, M, lv, (.int 0 :: st))) rfl rfl rfl
theorem s122_24 : ji_Ev C 122 24 M lv [.int x] o ↔ narrow .boolean (.int x) = .int x ∧ o = (some (.int x), M) := ev_iretb rfl rfl
theorem s123_0 : ji_Ev C 123 0 M (some (.ref a) :: l) st o ↔ ji_Ev C 123 1 M (some (.ref a) :: l) (.ref a :: st) o := ev_go (S := (1, M, (some (.ref a) :: l), (.ref a :: st))) rfl rfl rfl
theorem s123_1 : ji_Ev C 123 1 M lv (.ref a :: st) o ↔ ji_kd M a = some (0, 0) ∧ ji_Ev C 123 4 M lv (ji_rv (ji_gR M a 0) :: st) o := ev_getR (k := 123) rfl fd_0_13 rfl
theorem s123_4 : ji_Ev C 123 4 M (l0 :: some (.int x) :: l) st o ↔ ji_Ev C 123 5 M (l0 :: some (.int x) :: l) (.int x :: st) o := ev_go (S := (5, M, (l0 :: some (.int x) :: l), (.int x :: st))) rfl rfl rfl
theorem s123_5 : ji_Ev C 123 5 M lv (.int x :: .ref a :: st) o ↔ ji_evQ (ji_kd M a) (fun n => vp_in x n ∧ ji_Ev C 123 6 M lv (ji_rv (ji_gR M a x.toNatClampNeg) :: st) o) := ev_aald rfl
theorem s123_6 : ji_Ev C 123 6 M (l0 :: l1 :: some (.int x) :: l) st o ↔ ji_Ev C 123 7 M (l0 :: l1 :: some (.int x) :: l) (.int x :: st) o := ev_go (S := (7, M, (l0 :: l1 :: some (.int x) :: l), (.int x :: st))) rfl rfl rfl
theorem s123_7 : ji_Ev C 123 7 M lv (.int x :: .ref a :: st) o ↔ ji_evA (ji_kd M a) (fun n => vp_in x n ∧ ji_Ev C 123 8 M lv (.int (ji_gI M a x.toNatClampNeg) :: st) o) := ev_iald rfl
theorem s123_8 : ji_Ev C 123 8 M (some (.ref a) :: l) st o ↔ ji_Ev C 123 9 M (some (.ref a) :: l) (.ref a :: st) o := ev_go (S := (9, M, (some (.ref a) :: l), (.ref a :: st))) rfl rfl rfl
theorem s123_9 : ji_Ev C 123 9 M lv (.ref a :: st) o ↔ ji_kd M a = some (0, 0) ∧ ji_Ev C 123 12 M lv (ji_rv (ji_gR M a 1) :: st) o := ev_getR (k := 123) rfl fd_0_16 rfl
theorem s123_12 : ji_Ev C 123 12 M (l0 :: some (.int x) :: l) st o ↔ ji_Ev C 123 13 M (l0 :: some (.int x) :: l) (.int x :: st) o := ev_go (S := (13, M, (l0 :: some (.int x) :: l), (.int x :: st))) rfl rfl rfl
theorem s123_13 : ji_Ev C 123 13 M lv st o ↔ ji_Ev C 123 14 M lv (.int 1 :: st) o := ev_go (S := (14, M, lv, (.int 1 :: st))) rfl rfl rfl
theorem s123_14 : ji_Ev C 123 14 M lv (.int y :: .int x :: st) o ↔ ji_Ev C 123 15 M lv (.int (x + y) :: st) o := ev_go (S := (15, M, lv, (.int (x + y) :: st))) rfl rfl rfl
theorem s123_15 : ji_Ev C 123 15 M lv (.int x :: .ref a :: st) o ↔ ji_evQ (ji_kd M a) (fun n => vp_in x n ∧ ji_Ev C 123 16 M lv (ji_rv (ji_gR M a x.toNatClampNeg) :: st) o) := ev_aald rfl
theorem s123_16 : ji_Ev C 123 16 M (l0 :: l1 :: l2 :: some (.int x) :: l) st o ↔ ji_Ev C 123 17 M (l0 :: l1 :: l2 :: some (.int x) :: l) (.int x :: st) o := ev_go (S := (17, M, (l0 :: l1 :: l2 :: some (.int x) :: l), (.int x :: st))) rfl rfl rfl
theorem s123_17 : ji_Ev C 123 17 M lv st o ↔ ji_Ev C 123 18 M lv (.int 1 :: st) o := ev_go (S := (18, M, lv, (.int 1 :: st))) rfl rfl rfl
theorem s123_18 : ji_Ev C 123 18 M (l0 :: l1 :: some (.int x) :: l) st o ↔ ji_Ev C 123 19 M (l0 :: l1 :: some (.int x) :: l) (.int x :: st) o := ev_go (S := (19, M, (l0 :: l1 :: some (.int x) :: l), (.int x :: st))) rfl rfl rfl
theorem s123_19 : ji_Ev C 123 19 M lv (.int y :: .int x :: st) o ↔ ji_Ev C 123 20 M lv (.int (x <<< (y &&& 31)) :: st) o := ev_go (S := (20, M, lv, (.int (x <<< (y &&& 31)) :: st))) rfl rfl rfl
theorem s123_20 : ji_Ev C 123 20 M lv (.int y :: .int x :: st) o ↔ ji_Ev C 123 21 M lv (.int (x ||| y) :: st) o := ev_go (S := (21, M, lv, (.int (x ||| y) :: st))) rfl rfl rfl
theorem s123_21 : ji_Ev C 123 21 M lv (.int x :: .ref a :: st) o ↔ ji_evA (ji_kd M a) (fun n => vp_in x n ∧ ji_Ev C 123 22 M lv (.int (ji_gI M a x.toNatClampNeg) :: st) o) := ev_iald rfl
theorem s123_22 : ji_Ev C 123 22 M lv (.int y :: .int x :: st) o ↔ ji_Ev C 123 23 M lv (.int (x + y) :: st) o := ev_go (S := (23, M, lv, (.int (x + y) :: st))) rfl rfl rfl
theorem s123_23 : ji_Ev C 123 23 M lv [.int x] o ↔ o = (some (.int x), M) := ev_ireti rfl rfl
theorem s124_0 : ji_Ev C 124 0 M (some (.ref a) :: l) st o ↔ ji_Ev C 124 1 M (some (.ref a) :: l) (.ref a :: st) o := ev_go (S := (1, M, (some (.ref a) :: l), (.ref a :: st))) rfl rfl rfl
theorem s124_1 : ji_Ev C 124 1 M lv (.ref a :: st) o ↔ ji_kd M a = some (0, 0) ∧ ji_Ev C 124 4 M lv (ji_rv (ji_gR M a 1) :: st) o := ev_getR (k := 124) rfl fd_0_16 rfl
theorem s124_4 : ji_Ev C 124 4 M lv st o ↔ ji_Ev C 124 5 M lv (.int 0 :: st) o := ev_go (S := (5, M, lv, (.int 0 :: st))) rfl rfl rfl
theorem s124_5 : ji_Ev C 124 5 M lv (.int x :: .ref a :: st) o ↔ ji_evQ (ji_kd M a) (fun n => vp_in x n ∧ ji_Ev C 124 6 M lv (ji_rv (ji_gR M a x.toNatClampNeg) :: st) o) := ev_aald rfl
theorem s124_6 : ji_Ev C 124 6 M lv st o ↔ ji_Ev C 124 7 M lv (.int 0 :: st) o := ev_go (S := (7, M, lv, (.int 0 :: st))) rfl rfl rfl
theorem s124_7 : ji_Ev C 124 7 M lv (.int x :: .ref a :: st) o ↔ ji_evA (ji_kd M a) (fun n => vp_in x n ∧ ji_Ev C 124 8 M lv (.int (ji_gI M a x.toNatClampNeg) :: st) o) := ev_iald rfl
theorem s124_8 : ji_Ev C 124 8 M lv [.int x] o ↔ o = (some (.int x), M) := ev_ireti rfl rfl
theorem s125_0 : ji_Ev C 125 0 M lv st o ↔ ji_Ev C 125 1 M lv (.int 0 :: st) o := ev_go (S := (1, M, lv, (.int 0 :: st))) rfl rfl rfl
theorem s125_1 : ji_Ev C 125 1 M lv (.int x :: st) o ↔ 2 < lv.length ∧ ji_Ev C 125 2 M (ji_s1 lv 2 (.int x)) st o := ev_stI rfl rfl rfl
theorem s125_2 : ji_Ev C 125 2 M lv st o ↔ ji_Ev C 125 3 M lv (.int (-1) :: st) o := ev_go (S := (3, M, lv, (.int (-1) :: st))) rfl rfl rfl
theorem s125_3 : ji_Ev C 125 3 M lv (.int x :: st) o ↔ 3 < lv.length ∧ ji_Ev C 125 4 M (ji_s1 lv 3 (.int x)) st o := ev_stI rfl rfl rfl
theorem s125_4 : ji_Ev C 125 4 M lv st o ↔ ji_Ev C 125 5 M lv (.int 0 :: st) o := ev_go (S := (5, M, lv, (.int 0 :: st))) rfl rfl rfl
theorem s125_5 : ji_Ev C 125 5 M lv (.int x :: st) o ↔ 4 < lv.length ∧ ji_Ev C 125 7 M (ji_s1 lv 4 (.int x)) st o := ev_stI rfl rfl rfl
theorem s125_7 : ji_Ev C 125 7 M (l0 :: l1 :: l2 :: l3 :: some (.int x) :: l) st o ↔ ji_Ev C 125 9 M (l0 :: l1 :: l2 :: l3 :: some (.int x) :: l) (.int x :: st) o := ev_go (S := (9, M, (l0 :: l1 :: l2 :: l3 :: some (.int x) :: l), (.int x :: st))) rfl rfl rfl
theorem s125_9 : ji_Ev C 125 9 M (l0 :: some (.int x) :: l) st o ↔ ji_Ev C 125 10 M (l0 :: some (.int x) :: l) (.int x :: st) o := ev_go (S := (10, M, (l0 :: some (.int x) :: l), (.int x :: st))) rfl rfl rfl
theorem s125_10 : ji_Ev C 125 10 M lv (.int y :: .int x :: st) o ↔ if y < x then ji_Ev C 125 49 M lv st o else ji_Ev C 125 13 M lv st o := ev_brc (c := .gt) rfl (by decide) rfl
theorem s125_13 : ji_Ev C 125 13 M (l0 :: l1 :: l2 :: l3 :: some (.int x) :: l) st o ↔ ji_Ev C 125 15 M (l0 :: l1 :: l2 :: l3 :: some (.int x) :: l) (.int x :: st) o := ev_go (S := (15, M, (l0 :: l1 :: l2 :: l3 :: some (.int x) :: l), (.int x :: st))) rfl rfl rfl
theorem s125_15 : ji_Ev C 125 15 M lv st o ↔ ji_Ev C 125 17 M lv (.int 6 :: st) o := ev_go (S := (17, M, lv, (.int 6 :: st))) rfl rfl rfl
theorem s125_17 : ji_Ev C 125 17 M lv (.int y :: .int x :: st) o ↔ if x < y then ji_Ev C 125 20 M lv st o else ji_Ev C 125 49 M lv st o := ev_brc (c := .ge) rfl (by decide) rfl
theorem s125_20 : ji_Ev C 125 20 M (some (.ref a) :: l) st o ↔ ji_Ev C 125 21 M (some (.ref a) :: l) (.ref a :: st) o := ev_go (S := (21, M, (some (.ref a) :: l), (.ref a :: st))) rfl rfl rfl
theorem s125_21 : ji_Ev C 125 21 M (l0 :: l1 :: l2 :: l3 :: some (.int x) :: l) st o ↔ ji_Ev C 125 23 M (l0 :: l1 :: l2 :: l3 :: some (.int x) :: l) (.int x :: st) o := ev_go (S := (23, M, (l0 :: l1 :: l2 :: l3 :: some (.int x) :: l), (.int x :: st))) rfl rfl rfl
theorem s125_23 : ji_Ev C 125 23 M (l0 :: l1 :: some (.int x) :: l) st o ↔ ji_Ev C 125 24 M (l0 :: l1 :: some (.int x) :: l) (.int x :: st) o := ev_go (S := (24, M, (l0 :: l1 :: some (.int x) :: l), (.int x :: st))) rfl rfl rfl
theorem s125_24 : ji_Ev C 125 24 M lv (p1 :: p0 :: .ref a :: st) o ↔ (ji_rcb M 0 (.ref a) = true ∧ ji_ok8 st) ∧ ji_evC (C 126 [.ref a, p0, p1] M) (fun v M' => ji_Ev C 125 27 M' lv (v.toList ++ st) o) := ev_inv (k := 125) rfl cd_0_61 rfl
theorem s125_27 : ji_Ev C 125 27 M lv (.int x :: st) o ↔ 3 < lv.length ∧ ji_Ev C 125 28 M (ji_s1 lv 3 (.int x)) st o := ev_stI rfl rfl rfl
theorem s125_28 : ji_Ev C 125 28 M (l0 :: l1 :: some (.int x) :: l) st o ↔ ji_Ev C 125 29 M (l0 :: l1 :: some (.int x) :: l) (.int x :: st) o := ev_go (S := (29, M, (l0 :: l1 :: some (.int x) :: l), (.int x :: st))) rfl rfl rfl
theorem s125_29 : ji_Ev C 125 29 M (l0 :: l1 :: l2 :: some (.int x) :: l) st o ↔ ji_Ev C 125 30 M (l0 :: l1 :: l2 :: some (.int x) :: l) (.int x :: st) o := ev_go (S := (30, M, (l0 :: l1 :: l2 :: some (.int x) :: l), (.int x :: st))) rfl rfl rfl
theorem s125_30 : ji_Ev C 125 30 M lv st o ↔ ji_Ev C 125 31 M lv (.int (-1) :: st) o := ev_go (S := (31, M, lv, (.int (-1) :: st))) rfl rfl rfl
theorem s125_31 : ji_Ev C 125 31 M lv (.int y :: .int x :: st) o ↔ if x = y then ji_Ev C 125 34 M lv st o else ji_Ev C 125 38 M lv st o := ev_brc (c := .ne) rfl (by decide) rfl
theorem s125_34 : ji_Ev C 125 34 M lv st o ↔ ji_Ev C 125 35 M lv (.int 0 :: st) o := ev_go (S := (35, M, lv, (.int 0 :: st))) rfl rfl rfl
theorem s125_35 : ji_Ev C 125 35 M lv st o ↔ ji_Ev C 125 41 M lv st o := ev_gt rfl (by decide) rfl
theorem s125_38 : ji_Ev C 125 38 M lv st o ↔ ji_Ev C 125 39 M lv (.int 1 :: st) o := ev_go (S := (39, M, lv, (.int 1 :: st))) rfl rfl rfl
theorem s125_39 : ji_Ev C 125 39 M (l0 :: l1 :: l2 :: some (.int x) :: l) st o ↔ ji_Ev C 125 40 M (l0 :: l1 :: l2 :: some (.int x) :: l) (.int x :: st) o := ev_go (S := (40, M, (l0 :: l1 :: l2 :: some (.int x) :: l), (.int x :: st))) rfl rfl rfl
theorem s125_40 : ji_Ev C 125 40 M lv (.int y :: .int x :: st) o ↔ ji_Ev C 125 41 M lv (.int (x <<< (y &&& 31)) :: st) o := ev_go (S := (41, M, lv, (.int (x <<< (y &&& 31)) :: st))) rfl rfl rfl
theorem s125_41 : ji_Ev C 125 41 M lv (.int y :: .int x :: st) o ↔ ji_Ev C 125 42 M lv (.int (x ||| y) :: st) o := ev_go (S := (42, M, lv, (.int (x ||| y) :: st))) rfl rfl rfl
theorem s125_42 : ji_Ev C 125 42 M lv (.int x :: st) o ↔ 2 < lv.length ∧ ji_Ev C 125 43 M (ji_s1 lv 2 (.int x)) st o := ev_stI rfl rfl rfl
theorem s125_43 : ji_Ev C 125 43 M lv st o ↔ ji_evL (lv.getD 4 none) ji_isI (fun v => match v with | .int x => 4 < lv.length ∧ ji_Ev C 125 46 M (ji_s1 lv 4 (.int (x + Int32.ofInt 1))) st o | _ => False) := ev_iinc rfl
theorem s125_46 : ji_Ev C 125 46 M lv st o ↔ ji_Ev C 125 7 M lv st o := ev_gt rfl (by decide) rfl
theorem s125_49 : ji_Ev C 125 49 M (l0 :: l1 :: l2 :: some (.int x) :: l) st o ↔ ji_Ev C 125 50 M (l0 :: l1 :: l2 :: some (.int x) :: l) (.int x :: st) o := ev_go (S := (50, M, (l0 :: l1 :: l2 :: some (.int x) :: l), (.int x :: st))) rfl rfl rfl
theorem s125_50 : ji_Ev C 125 50 M lv [.int x] o ↔ o = (some (.int x), M) := ev_ireti rfl rfl
theorem s126_0 : ji_Ev C 126 0 M lv st o ↔ ji_Ev C 126 1 M lv (.int 0 :: st) o := ev_go (S := (1, M, lv, (.int 0 :: st))) rfl rfl rfl
theorem s126_1 : ji_Ev C 126 1 M lv (.int x :: st) o ↔ 3 < lv.length ∧ ji_Ev C 126 2 M (ji_s1 lv 3 (.int x)) st o := ev_stI rfl rfl rfl
theorem s126_2 : ji_Ev C 126 2 M (l0 :: l1 :: l2 :: some (.int x) :: l) st o ↔ ji_Ev C 126 3 M (l0 :: l1 :: l2 :: some (.int x) :: l) (.int x :: st) o := ev_go (S := (3, M, (l0 :: l1 :: l2 :: some (.int x) :: l), (.int x :: st))) rfl rfl rfl
theorem s126_3 : ji_Ev C 126 3 M (some (.ref a) :: l) st o ↔ ji_Ev C 126 4 M (some (.ref a) :: l) (.ref a :: st) o := ev_go (S := (4, M, (some (.ref a) :: l), (.ref a :: st))) rfl rfl rfl
theorem s126_4 : ji_Ev C 126 4 M lv (.ref a :: st) o ↔ ji_kd M a = some (0, 0) ∧ ji_Ev C 126 7 M lv (.int (ji_gI M a 2) :: st) o := ev_getI (k := 126) rfl fd_0_31 rfl
theorem s126_7 : ji_Ev C 126 7 M lv (.int y :: .int x :: st) o ↔ if x < y then ji_Ev C 126 10 M lv st o else ji_Ev C 126 46 M lv st o := ev_brc (c := .ge) rfl (by decide) rfl
theorem s126_10 : ji_Ev C 126 10 M (some (.ref a) :: l) st o ↔ ji_Ev C 126 11 M (some (.ref a) :: l) (.ref a :: st) o := ev_go (S := (11, M, (some (.ref a) :: l), (.ref a :: st))) rfl rfl rfl
theorem s126_11 : ji_Ev C 126 11 M (l0 :: some (.int x) :: l) st o ↔ ji_Ev C 126 12 M (l0 :: some (.int x) :: l) (.int x :: st) o := ev_go (S := (12, M, (l0 :: some (.int x) :: l), (.int x :: st))) rfl rfl rfl
theorem s126_12 : ji_Ev C 126 12 M (l0 :: l1 :: l2 :: some (.int x) :: l) st o ↔ ji_Ev C 126 13 M (l0 :: l1 :: l2 :: some (.int x) :: l) (.int x :: st) o := ev_go (S := (13, M, (l0 :: l1 :: l2 :: some (.int x) :: l), (.int x :: st))) rfl rfl rfl
theorem s126_13 : ji_Ev C 126 13 M (l0 :: l1 :: some (.int x) :: l) st o ↔ ji_Ev C 126 14 M (l0 :: l1 :: some (.int x) :: l) (.int x :: st) o := ev_go (S := (14, M, (l0 :: l1 :: some (.int x) :: l), (.int x :: st))) rfl rfl rfl
theorem s126_14 : ji_Ev C 126 14 M lv (p2 :: p1 :: p0 :: .ref a :: st) o ↔ (ji_rcb M 0 (.ref a) = true ∧ ji_ok8 st) ∧ ji_evC (C 122 [.ref a, p0, p1, p2] M) (fun v M' => ji_Ev C 126 17 M' lv (v.toList ++ st) o) := ev_inv (k := 126) rfl cd_0_50 rfl
theorem s126_17 : ji_Ev C 126 17 M lv (.int x :: st) o ↔ if x = 0 then ji_Ev C 126 40 M lv st o else ji_Ev C 126 20 M lv st o := ev_brz (c := .eq) rfl (by decide) rfl
theorem s126_20 : ji_Ev C 126 20 M (some (.ref a) :: l) st o ↔ ji_Ev C 126 21 M (some (.ref a) :: l) (.ref a :: st) o := ev_go (S := (21, M, (some (.ref a) :: l), (.ref a :: st))) rfl rfl rfl
theorem s126_21 : ji_Ev C 126 21 M (l0 :: some (.int x) :: l) st o ↔ ji_Ev C 126 22 M (l0 :: some (.int x) :: l) (.int x :: st) o := ev_go (S := (22, M, (l0 :: some (.int x) :: l), (.int x :: st))) rfl rfl rfl
theorem s126_22 : ji_Ev C 126 22 M (l0 :: l1 :: l2 :: some (.int x) :: l) st o ↔ ji_Ev C 126 23 M (l0 :: l1 :: l2 :: some (.int x) :: l) (.int x :: st) o := ev_go (S := (23, M, (l0 :: l1 :: l2 :: some (.int x) :: l), (.int x :: st))) rfl rfl rfl
theorem s126_23 : ji_Ev C 126 23 M (l0 :: l1 :: some (.int x) :: l) st o ↔ ji_Ev C 126 24 M (l0 :: l1 :: some (.int x) :: l) (.int x :: st) o := ev_go (S := (24, M, (l0 :: l1 :: some (.int x) :: l), (.int x :: st))) rfl rfl rfl
theorem s126_24 : ji_Ev C 126 24 M lv (p2 :: p1 :: p0 :: .ref a :: st) o ↔ (ji_rcb M 0 (.ref a) = true ∧ ji_ok8 st) ∧ ji_evC (C 123 [.ref a, p0, p1, p2] M) (fun v M' => ji_Ev C 126 27 M' lv (v.toList ++ st) o) := ev_inv (k := 126) rfl cd_0_54 rfl
theorem s126_27 : ji_Ev C 126 27 M (some (.ref a) :: l) st o ↔ ji_Ev C 126 28 M (some (.ref a) :: l) (.ref a :: st) o := ev_go (S := (28, M, (some (.ref a) :: l), (.ref a :: st))) rfl rfl rfl
theorem s126_28 : ji_Ev C 126 28 M lv (.ref a :: st) o ↔ ji_kd M a = some (0, 0) ∧ ji_Ev C 126 31 M lv (ji_rv (ji_gR M a 1) :: st) o := ev_getR (k := 126) rfl fd_0_16 rfl
theorem s126_31 : ji_Ev C 126 31 M (l0 :: some (.int x) :: l) st o ↔ ji_Ev C 126 32 M (l0 :: some (.int x) :: l) (.int x :: st) o := ev_go (S := (32, M, (l0 :: some (.int x) :: l), (.int x :: st))) rfl rfl rfl
theorem s126_32 : ji_Ev C 126 32 M lv (.int x :: .ref a :: st) o ↔ ji_evQ (ji_kd M a) (fun n => vp_in x n ∧ ji_Ev C 126 33 M lv (ji_rv (ji_gR M a x.toNatClampNeg) :: st) o) := ev_aald rfl
theorem s126_33 : ji_Ev C 126 33 M (l0 :: l1 :: some (.int x) :: l) st o ↔ ji_Ev C 126 34 M (l0 :: l1 :: some (.int x) :: l) (.int x :: st) o := ev_go (S := (34, M, (l0 :: l1 :: some (.int x) :: l), (.int x :: st))) rfl rfl rfl
theorem s126_34 : ji_Ev C 126 34 M lv (.int x :: .ref a :: st) o ↔ ji_evA (ji_kd M a) (fun n => vp_in x n ∧ ji_Ev C 126 35 M lv (.int (ji_gI M a x.toNatClampNeg) :: st) o) := ev_iald rfl
theorem s126_35 : ji_Ev C 126 35 M lv (.int y :: .int x :: st) o ↔ if x = y then ji_Ev C 126 38 M lv st o else ji_Ev C 126 40 M lv st o := ev_brc (c := .ne) rfl (by decide) rfl
theorem s126_38 : ji_Ev C 126 38 M (l0 :: l1 :: l2 :: some (.int x) :: l) st o ↔ ji_Ev C 126 39 M (l0 :: l1 :: l2 :: some (.int x) :: l) (.int x :: st) o := ev_go (S := (39, M, (l0 :: l1 :: l2 :: some (.int x) :: l), (.int x :: st))) rfl rfl rfl
theorem s126_39 : ji_Ev C 126 39 M lv [.int x] o ↔ o = (some (.int x), M) := ev_ireti rfl rfl
theorem s126_40 : ji_Ev C 126 40 M lv st o ↔ ji_evL (lv.getD 3 none) ji_isI (fun v => match v with | .int x => 3 < lv.length ∧ ji_Ev C 126 43 M (ji_s1 lv 3 (.int (x + Int32.ofInt 1))) st o | _ => False) := ev_iinc rfl
theorem s126_43 : ji_Ev C 126 43 M lv st o ↔ ji_Ev C 126 2 M lv st o := ev_gt rfl (by decide) rfl
theorem s126_46 : ji_Ev C 126 46 M lv st o ↔ ji_Ev C 126 47 M lv (.int (-1) :: st) o := ev_go (S := (47, M, lv, (.int (-1) :: st))) rfl rfl rfl
theorem s126_47 : ji_Ev C 126 47 M lv [.int x] o ↔ o = (some (.int x), M) := ev_ireti rfl rfl
theorem s127_0 : ji_Ev C 127 0 M (l0 :: some (.int x) :: l) st o ↔ ji_Ev C 127 1 M (l0 :: some (.int x) :: l) (.int x :: st) o := ev_go (S := (1, M, (l0 :: some (.int x) :: l), (.int x :: st))) rfl rfl rfl
theorem s127_1 : ji_Ev C 127 1 M lv st o ↔ ji_Ev C 127 2 M lv (.int 0 :: st) o := ev_go (S := (2, M, lv, (.int 0 :: st))) rfl rfl rfl
theorem s127_2 : ji_Ev C 127 2 M lv st o ↔ ji_Ev C 127 3 M lv (.int 3 :: st) o := ev_go (S := (3, M, lv, (.int 3 :: st))) rfl rfl rfl
theorem s127_3 : ji_Ev C 127 3 M lv (p2 :: p1 :: p0 :: st) o ↔ ji_ok8 st ∧ ji_evC (C 43 [p0, p1, p2] M) (fun v M' => ji_Ev C 127 6 M' lv (v.toList ++ st) o) := ev_sta (k := 127) (a := [p2, p1, p0]) rfl (Or.inl cd_8_89) rfl
theorem s127_6 : ji_Ev C 127 6 M lv (.int x :: st) o ↔ if x = 0 then ji_Ev C 127 31 M lv st o else ji_Ev C 127 9 M lv st o := ev_brz (c := .eq) rfl (by decide) rfl
theorem s127_9 : ji_Ev C 127 9 M (l0 :: l1 :: some (.int x) :: l) st o ↔ ji_Ev C 127 10 M (l0 :: l1 :: some (.int x) :: l) (.int x :: st) o := ev_go (S := (10, M, (l0 :: l1 :: some (.int x) :: l), (.int x :: st))) rfl rfl rfl
theorem s127_10 : ji_Ev C 127 10 M lv st o ↔ ji_Ev C 127 11 M lv (.int 0 :: st) o := ev_go (S := (11, M, lv, (.int 0 :: st))) rfl rfl rfl
theorem s127_11 : ji_Ev C 127 11 M lv st o ↔ ji_Ev C 127 14 M lv (.int 9999 :: st) o := ev_go (S := (14, M, lv, (.int 9999 :: st))) rfl rfl rfl
theorem s127_14 : ji_Ev C 127 14 M lv (p2 :: p1 :: p0 :: st) o ↔ ji_ok8 st ∧ ji_evC (C 43 [p0, p1, p2] M) (fun v M' => ji_Ev C 127 17 M' lv (v.toList ++ st) o) := ev_sta (k := 127) (a := [p2, p1, p0]) rfl (Or.inl cd_8_89) rfl
theorem s127_17 : ji_Ev C 127 17 M lv (.int x :: st) o ↔ if x = 0 then ji_Ev C 127 31 M lv st o else ji_Ev C 127 20 M lv st o := ev_brz (c := .eq) rfl (by decide) rfl
theorem s127_20 : ji_Ev C 127 20 M (l0 :: l1 :: l2 :: some (.int x) :: l) st o ↔ ji_Ev C 127 21 M (l0 :: l1 :: l2 :: some (.int x) :: l) (.int x :: st) o := ev_go (S := (21, M, (l0 :: l1 :: l2 :: some (.int x) :: l), (.int x :: st))) rfl rfl rfl
theorem s127_21 : ji_Ev C 127 21 M lv st o ↔ ji_Ev C 127 22 M lv (.int 0 :: st) o := ev_go (S := (22, M, lv, (.int 0 :: st))) rfl rfl rfl
theorem s127_22 : ji_Ev C 127 22 M lv st o ↔ ji_Ev C 127 25 M lv (.int 9999 :: st) o := ev_go (S := (25, M, lv, (.int 9999 :: st))) rfl rfl rfl
theorem s127_25 : ji_Ev C 127 25 M lv (p2 :: p1 :: p0 :: st) o ↔ ji_ok8 st ∧ ji_evC (C 43 [p0, p1, p2] M) (fun v M' => ji_Ev C 127 28 M' lv (v.toList ++ st) o) := ev_sta (k := 127) (a := [p2, p1, p0]) rfl (Or.inl cd_8_89) rfl
theorem s127_28 : ji_Ev C 127 28 M lv (.int x :: st) o ↔ if x = 0 then ji_Ev C 127 31 M lv st o else ji_Ev C 127 34 M lv st o := ev_brz (c := .ne) rfl (by decide) rfl
theorem s127_31 : ji_Ev C 127 31 M lv st o ↔ ji_Ev C 127 33 M lv (.int (-2) :: st) o := ev_go (S := (33, M, lv, (.int (-2) :: st))) rfl rfl rfl
theorem s127_33 : ji_Ev C 127 33 M lv [.int x] o ↔ o = (some (.int x), M) := ev_ireti rfl rfl
theorem s127_34 : ji_Ev C 127 34 M (some (.ref a) :: l) st o ↔ ji_Ev C 127 35 M (some (.ref a) :: l) (.ref a :: st) o := ev_go (S := (35, M, (some (.ref a) :: l), (.ref a :: st))) rfl rfl rfl
theorem s127_35 : ji_Ev C 127 35 M lv (.ref a :: st) o ↔ ji_kd M a = some (0, 8) ∧ ji_Ev C 127 38 M lv (ji_rv (ji_gR M a 8) :: st) o := ev_getR (k := 127) rfl fd_8_55 rfl
theorem s127_38 : ji_Ev C 127 38 M lv (.ref a :: st) o ↔ (ji_rcb M 2 (.ref a) = true ∧ ji_ok8 st) ∧ ji_evC (C 61 [.ref a] M) (fun v M' => ji_Ev C 127 41 M' lv (v.toList ++ st) o) := ev_inv (k := 127) rfl cd_8_114 rfl
theorem s127_41 : ji_Ev C 127 41 M lv (.int x :: st) o ↔ if x = 0 then ji_Ev C 127 49 M lv st o else ji_Ev C 127 44 M lv st o := ev_brz (c := .eq) rfl (by decide) rfl
theorem s127_44 : ji_Ev C 127 44 M lv st o ↔ ji_Ev C 127 46 M lv (.int (-4) :: st) o := ev_go (S := (46, M, lv, (.int (-4) :: st))) rfl rfl rfl
theorem s127_46 : ji_Ev C 127 46 M lv st o ↔ ji_Ev C 127 68 M lv st o := ev_gt rfl (by decide) rfl
theorem s127_49 : ji_Ev C 127 49 M (some (.ref a) :: l) st o ↔ ji_Ev C 127 50 M (some (.ref a) :: l) (.ref a :: st) o := ev_go (S := (50, M, (some (.ref a) :: l), (.ref a :: st))) rfl rfl rfl
theorem s127_50 : ji_Ev C 127 50 M lv (.ref a :: st) o ↔ ji_kd M a = some (0, 8) ∧ ji_Ev C 127 53 M lv (ji_rv (ji_gR M a 8) :: st) o := ev_getR (k := 127) rfl fd_8_55 rfl
theorem s127_53 : ji_Ev C 127 53 M (l0 :: some (.int x) :: l) st o ↔ ji_Ev C 127 54 M (l0 :: some (.int x) :: l) (.int x :: st) o := ev_go (S := (54, M, (l0 :: some (.int x) :: l), (.int x :: st))) rfl rfl rfl
theorem s127_54 : ji_Ev C 127 54 M (l0 :: l1 :: some (.int x) :: l) st o ↔ ji_Ev C 127 55 M (l0 :: l1 :: some (.int x) :: l) (.int x :: st) o := ev_go (S := (55, M, (l0 :: l1 :: some (.int x) :: l), (.int x :: st))) rfl rfl rfl
theorem s127_55 : ji_Ev C 127 55 M (l0 :: l1 :: l2 :: some (.int x) :: l) st o ↔ ji_Ev C 127 56 M (l0 :: l1 :: l2 :: some (.int x) :: l) (.int x :: st) o := ev_go (S := (56, M, (l0 :: l1 :: l2 :: some (.int x) :: l), (.int x :: st))) rfl rfl rfl
theorem s127_56 : ji_Ev C 127 56 M (some (.ref a) :: l) st o ↔ ji_Ev C 127 57 M (some (.ref a) :: l) (.ref a :: st) o := ev_go (S := (57, M, (some (.ref a) :: l), (.ref a :: st))) rfl rfl rfl
theorem s127_57 : ji_Ev C 127 57 M lv (.ref a :: st) o ↔ ji_kd M a = some (0, 8) ∧ ji_Ev C 127 60 M lv (ji_rv (ji_gR M a 0) :: st) o := ev_getR (k := 127) rfl fd_8_10 rfl
theorem s127_60 : ji_Ev C 127 60 M lv (.ref a :: st) o ↔ ji_kd M a = some (0, 5) ∧ ji_Ev C 127 63 M lv (.int (ji_gI M a 1) :: st) o := ev_getI (k := 127) rfl fd_8_99 rfl
theorem s127_63 : ji_Ev C 127 63 M lv (p3 :: p2 :: p1 :: p0 :: .ref a :: st) o ↔ (ji_rcb M 2 (.ref a) = true ∧ ji_ok8 st) ∧ ji_evC (C 63 [.ref a, p0, p1, p2, p3] M) (fun v M' => ji_Ev C 127 66 M' lv (v.toList ++ st) o) := ev_inv (k := 127) rfl cd_8_195 rfl
theorem s127_66 : ji_Ev C 127 66 M lv st o ↔ ji_Ev C 127 67 M lv (.int 1 :: st) o := ev_go (S := (67, M, lv, (.int 1 :: st))) rfl rfl rfl
theorem s127_67 : ji_Ev C 127 67 M lv (.int y :: .int x :: st) o ↔ ji_Ev C 127 68 M lv (.int (x + y) :: st) o := ev_go (S := (68, M, lv, (.int (x + y) :: st))) rfl rfl rfl
theorem s127_68 : ji_Ev C 127 68 M lv [.int x] o ↔ o = (some (.int x), M) := ev_ireti rfl rfl
theorem s128_0 : ji_Ev C 128 0 M (l0 :: some (.int x) :: l) st o ↔ ji_Ev C 128 1 M (l0 :: some (.int x) :: l) (.int x :: st) o := ev_go (S := (1, M, (l0 :: some (.int x) :: l), (.int x :: st))) rfl rfl rfl
theorem s128_1 : ji_Ev C 128 1 M lv st o ↔ ji_Ev C 128 2 M lv (.int 0 :: st) o := ev_go (S := (2, M, lv, (.int 0 :: st))) rfl rfl rfl
theorem s128_2 : ji_Ev C 128 2 M lv st o ↔ ji_Ev C 128 3 M lv (.int 3 :: st) o := ev_go (S := (3, M, lv, (.int 3 :: st))) rfl rfl rfl
theorem s128_3 : ji_Ev C 128 3 M lv (p2 :: p1 :: p0 :: st) o ↔ ji_ok8 st ∧ ji_evC (C 43 [p0, p1, p2] M) (fun v M' => ji_Ev C 128 6 M' lv (v.toList ++ st) o) := ev_sta (k := 128) (a := [p2, p1, p0]) rfl (Or.inl cd_8_89) rfl
theorem s128_6 : ji_Ev C 128 6 M lv (.int x :: st) o ↔ if x = 0 then ji_Ev C 128 33 M lv st o else ji_Ev C 128 9 M lv st o := ev_brz (c := .eq) rfl (by decide) rfl
theorem s128_9 : ji_Ev C 128 9 M (l0 :: l1 :: some (.int x) :: l) st o ↔ ji_Ev C 128 10 M (l0 :: l1 :: some (.int x) :: l) (.int x :: st) o := ev_go (S := (10, M, (l0 :: l1 :: some (.int x) :: l), (.int x :: st))) rfl rfl rfl
theorem s128_10 : ji_Ev C 128 10 M lv st o ↔ ji_Ev C 128 11 M lv (.int 0 :: st) o := ev_go (S := (11, M, lv, (.int 0 :: st))) rfl rfl rfl
theorem s128_11 : ji_Ev C 128 11 M (some (.ref a) :: l) st o ↔ ji_Ev C 128 12 M (some (.ref a) :: l) (.ref a :: st) o := ev_go (S := (12, M, (some (.ref a) :: l), (.ref a :: st))) rfl rfl rfl
theorem s128_12 : ji_Ev C 128 12 M lv (.ref a :: st) o ↔ ji_kd M a = some (0, 8) ∧ ji_Ev C 128 15 M lv (ji_rv (ji_gR M a 0) :: st) o := ev_getR (k := 128) rfl fd_8_10 rfl
theorem s128_15 : ji_Ev C 128 15 M lv (.ref a :: st) o ↔ ji_kd M a = some (0, 5) ∧ ji_Ev C 128 18 M lv (.int (ji_gI M a 1) :: st) o := ev_getI (k := 128) rfl fd_8_99 rfl
theorem s128_18 : ji_Ev C 128 18 M lv (p2 :: p1 :: p0 :: st) o ↔ ji_ok8 st ∧ ji_evC (C 43 [p0, p1, p2] M) (fun v M' => ji_Ev C 128 21 M' lv (v.toList ++ st) o) := ev_sta (k := 128) (a := [p2, p1, p0]) rfl (Or.inl cd_8_89) rfl
theorem s128_21 : ji_Ev C 128 21 M lv (.int x :: st) o ↔ if x = 0 then ji_Ev C 128 33 M lv st o else ji_Ev C 128 24 M lv st o := ev_brz (c := .eq) rfl (by decide) rfl
theorem s128_24 : ji_Ev C 128 24 M (l0 :: l1 :: l2 :: some (.int x) :: l) st o ↔ ji_Ev C 128 25 M (l0 :: l1 :: l2 :: some (.int x) :: l) (.int x :: st) o := ev_go (S := (25, M, (l0 :: l1 :: l2 :: some (.int x) :: l), (.int x :: st))) rfl rfl rfl
theorem s128_25 : ji_Ev C 128 25 M lv st o ↔ ji_Ev C 128 26 M lv (.int 0 :: st) o := ev_go (S := (26, M, lv, (.int 0 :: st))) rfl rfl rfl
theorem s128_26 : ji_Ev C 128 26 M lv st o ↔ ji_Ev C 128 27 M lv (.int 3 :: st) o := ev_go (S := (27, M, lv, (.int 3 :: st))) rfl rfl rfl
theorem s128_27 : ji_Ev C 128 27 M lv (p2 :: p1 :: p0 :: st) o ↔ ji_ok8 st ∧ ji_evC (C 43 [p0, p1, p2] M) (fun v M' => ji_Ev C 128 30 M' lv (v.toList ++ st) o) := ev_sta (k := 128) (a := [p2, p1, p0]) rfl (Or.inl cd_8_89) rfl
theorem s128_30 : ji_Ev C 128 30 M lv (.int x :: st) o ↔ if x = 0 then ji_Ev C 128 33 M lv st o else ji_Ev C 128 36 M lv st o := ev_brz (c := .ne) rfl (by decide) rfl
theorem s128_33 : ji_Ev C 128 33 M lv st o ↔ ji_Ev C 128 35 M lv (.int (-2) :: st) o := ev_go (S := (35, M, lv, (.int (-2) :: st))) rfl rfl rfl
theorem s128_35 : ji_Ev C 128 35 M lv [.int x] o ↔ o = (some (.int x), M) := ev_ireti rfl rfl
theorem s128_36 : ji_Ev C 128 36 M lv st o ↔ ji_Ev C 128 37 M lv (.int 0 :: st) o := ev_go (S := (37, M, lv, (.int 0 :: st))) rfl rfl rfl
theorem s128_37 : ji_Ev C 128 37 M lv (.int x :: st) o ↔ 4 < lv.length ∧ ji_Ev C 128 39 M (ji_s1 lv 4 (.int x)) st o := ev_stI rfl rfl rfl
theorem s128_39 : ji_Ev C 128 39 M lv st o ↔ ji_Ev C 128 42 M lv (.int 9999 :: st) o := ev_go (S := (42, M, lv, (.int 9999 :: st))) rfl rfl rfl
theorem s128_42 : ji_Ev C 128 42 M lv (.int x :: st) o ↔ 5 < lv.length ∧ ji_Ev C 128 44 M (ji_s1 lv 5 (.int x)) st o := ev_stI rfl rfl rfl
theorem s128_44 : ji_Ev C 128 44 M lv st o ↔ ji_Ev C 128 45 M lv (.int 0 :: st) o := ev_go (S := (45, M, lv, (.int 0 :: st))) rfl rfl rfl
theorem s128_45 : ji_Ev C 128 45 M lv (.int x :: st) o ↔ 6 < lv.length ∧ ji_Ev C 128 47 M (ji_s1 lv 6 (.int x)) st o := ev_stI rfl rfl rfl
theorem s128_47 : ji_Ev C 128 47 M (l0 :: l1 :: l2 :: l3 :: l4 :: l5 :: some (.int x) :: l) st o ↔ ji_Ev C 128 49 M (l0 :: l1 :: l2 :: l3 :: l4 :: l5 :: some (.int x) :: l) (.int x :: st) o := ev_go (S := (49, M, (l0 :: l1 :: l2 :: l3 :: l4 :: l5 :: some (.int x) :: l), (.int x :: st))) rfl rfl rfl
theorem s128_49 : ji_Ev C 128 49 M (some (.ref a) :: l) st o ↔ ji_Ev C 128 50 M (some (.ref a) :: l) (.ref a :: st) o := ev_go (S := (50, M, (some (.ref a) :: l), (.ref a :: st))) rfl rfl rfl
theorem s128_50 : ji_Ev C 128 50 M lv (.ref a :: st) o ↔ ji_kd M a = some (0, 8) ∧ ji_Ev C 128 53 M lv (ji_rv (ji_gR M a 8) :: st) o := ev_getR (k := 128) rfl fd_8_55 rfl
theorem s128_53 : ji_Ev C 128 53 M lv (.ref a :: st) o ↔ (ji_rcb M 2 (.ref a) = true ∧ ji_ok8 st) ∧ ji_evC (C 47 [.ref a] M) (fun v M' => ji_Ev C 128 56 M' lv (v.toList ++ st) o) := ev_inv (k := 128) rfl cd_8_202 rfl
theorem s128_56 : ji_Ev C 128 56 M lv (.int y :: .int x :: st) o ↔ if x < y then ji_Ev C 128 59 M lv st o else ji_Ev C 128 127 M lv st o := ev_brc (c := .ge) rfl (by decide) rfl
theorem s128_59 : ji_Ev C 128 59 M (some (.ref a) :: l) st o ↔ ji_Ev C 128 60 M (some (.ref a) :: l) (.ref a :: st) o := ev_go (S := (60, M, (some (.ref a) :: l), (.ref a :: st))) rfl rfl rfl
theorem s128_60 : ji_Ev C 128 60 M lv (.ref a :: st) o ↔ ji_kd M a = some (0, 8) ∧ ji_Ev C 128 63 M lv (ji_rv (ji_gR M a 8) :: st) o := ev_getR (k := 128) rfl fd_8_55 rfl
theorem s128_63 : ji_Ev C 128 63 M (l0 :: l1 :: l2 :: l3 :: l4 :: l5 :: some (.int x) :: l) st o ↔ ji_Ev C 128 65 M (l0 :: l1 :: l2 :: l3 :: l4 :: l5 :: some (.int x) :: l) (.int x :: st) o := ev_go (S := (65, M, (l0 :: l1 :: l2 :: l3 :: l4 :: l5 :: some (.int x) :: l), (.int x :: st))) rfl rfl rfl
theorem s128_65 : ji_Ev C 128 65 M lv st o ↔ ji_Ev C 128 66 M lv (.int 0 :: st) o := ev_go (S := (66, M, lv, (.int 0 :: st))) rfl rfl rfl
theorem s128_66 : ji_Ev C 128 66 M lv (p1 :: p0 :: .ref a :: st) o ↔ (ji_rcb M 2 (.ref a) = true ∧ ji_ok8 st) ∧ ji_evC (C 49 [.ref a, p0, p1] M) (fun v M' => ji_Ev C 128 69 M' lv (v.toList ++ st) o) := ev_inv (k := 128) rfl cd_8_140 rfl
theorem s128_69 : ji_Ev C 128 69 M (l0 :: some (.int x) :: l) st o ↔ ji_Ev C 128 70 M (l0 :: some (.int x) :: l) (.int x :: st) o := ev_go (S := (70, M, (l0 :: some (.int x) :: l), (.int x :: st))) rfl rfl rfl
theorem s128_70 : ji_Ev C 128 70 M lv (.int y :: .int x :: st) o ↔ if x = y then ji_Ev C 128 73 M lv st o else ji_Ev C 128 121 M lv st o := ev_brc (c := .ne) rfl (by decide) rfl
theorem s128_73 : ji_Ev C 128 73 M (some (.ref a) :: l) st o ↔ ji_Ev C 128 74 M (some (.ref a) :: l) (.ref a :: st) o := ev_go (S := (74, M, (some (.ref a) :: l), (.ref a :: st))) rfl rfl rfl
theorem s128_74 : ji_Ev C 128 74 M lv (.ref a :: st) o ↔ ji_kd M a = some (0, 8) ∧ ji_Ev C 128 77 M lv (ji_rv (ji_gR M a 8) :: st) o := ev_getR (k := 128) rfl fd_8_55 rfl
theorem s128_77 : ji_Ev C 128 77 M (l0 :: l1 :: l2 :: l3 :: l4 :: l5 :: some (.int x) :: l) st o ↔ ji_Ev C 128 79 M (l0 :: l1 :: l2 :: l3 :: l4 :: l5 :: some (.int x) :: l) (.int x :: st) o := ev_go (S := (79, M, (l0 :: l1 :: l2 :: l3 :: l4 :: l5 :: some (.int x) :: l), (.int x :: st))) rfl rfl rfl
theorem s128_79 : ji_Ev C 128 79 M lv st o ↔ ji_Ev C 128 80 M lv (.int 3 :: st) o := ev_go (S := (80, M, lv, (.int 3 :: st))) rfl rfl rfl
theorem s128_80 : ji_Ev C 128 80 M lv (p1 :: p0 :: .ref a :: st) o ↔ (ji_rcb M 2 (.ref a) = true ∧ ji_ok8 st) ∧ ji_evC (C 49 [.ref a, p0, p1] M) (fun v M' => ji_Ev C 128 83 M' lv (v.toList ++ st) o) := ev_inv (k := 128) rfl cd_8_140 rfl
theorem s128_83 : ji_Ev C 128 83 M (l0 :: l1 :: some (.int x) :: l) st o ↔ ji_Ev C 128 84 M (l0 :: l1 :: some (.int x) :: l) (.int x :: st) o := ev_go (S := (84, M, (l0 :: l1 :: some (.int x) :: l), (.int x :: st))) rfl rfl rfl
theorem s128_84 : ji_Ev C 128 84 M lv (.int y :: .int x :: st) o ↔ if y < x then ji_Ev C 128 121 M lv st o else ji_Ev C 128 87 M lv st o := ev_brc (c := .gt) rfl (by decide) rfl
theorem s128_87 : ji_Ev C 128 87 M (l0 :: l1 :: l2 :: l3 :: some (.int x) :: l) st o ↔ ji_Ev C 128 89 M (l0 :: l1 :: l2 :: l3 :: some (.int x) :: l) (.int x :: st) o := ev_go (S := (89, M, (l0 :: l1 :: l2 :: l3 :: some (.int x) :: l), (.int x :: st))) rfl rfl rfl
theorem s128_89 : ji_Ev C 128 89 M (some (.ref a) :: l) st o ↔ ji_Ev C 128 90 M (some (.ref a) :: l) (.ref a :: st) o := ev_go (S := (90, M, (some (.ref a) :: l), (.ref a :: st))) rfl rfl rfl
theorem s128_90 : ji_Ev C 128 90 M lv (.ref a :: st) o ↔ ji_kd M a = some (0, 8) ∧ ji_Ev C 128 93 M lv (ji_rv (ji_gR M a 8) :: st) o := ev_getR (k := 128) rfl fd_8_55 rfl
theorem s128_93 : ji_Ev C 128 93 M (l0 :: l1 :: l2 :: l3 :: l4 :: l5 :: some (.int x) :: l) st o ↔ ji_Ev C 128 95 M (l0 :: l1 :: l2 :: l3 :: l4 :: l5 :: some (.int x) :: l) (.int x :: st) o := ev_go (S := (95, M, (l0 :: l1 :: l2 :: l3 :: l4 :: l5 :: some (.int x) :: l), (.int x :: st))) rfl rfl rfl
theorem s128_95 : ji_Ev C 128 95 M lv st o ↔ ji_Ev C 128 96 M lv (.int 1 :: st) o := ev_go (S := (96, M, lv, (.int 1 :: st))) rfl rfl rfl
theorem s128_96 : ji_Ev C 128 96 M lv (p1 :: p0 :: .ref a :: st) o ↔ (ji_rcb M 2 (.ref a) = true ∧ ji_ok8 st) ∧ ji_evC (C 49 [.ref a, p0, p1] M) (fun v M' => ji_Ev C 128 99 M' lv (v.toList ++ st) o) := ev_inv (k := 128) rfl cd_8_140 rfl
theorem s128_99 : ji_Ev C 128 99 M lv (.int y :: .int x :: st) o ↔ ji_ok8 st ∧ ji_Ev C 128 102 M lv (.int (if x < y then y else x) :: st) o := ev_max (k := 128) rfl cd_8_244
theorem s128_102 : ji_Ev C 128 102 M lv (.int x :: st) o ↔ 4 < lv.length ∧ ji_Ev C 128 104 M (ji_s1 lv 4 (.int x)) st o := ev_stI rfl rfl rfl
theorem s128_104 : ji_Ev C 128 104 M (l0 :: l1 :: l2 :: l3 :: l4 :: some (.int x) :: l) st o ↔ ji_Ev C 128 106 M (l0 :: l1 :: l2 :: l3 :: l4 :: some (.int x) :: l) (.int x :: st) o := ev_go (S := (106, M, (l0 :: l1 :: l2 :: l3 :: l4 :: some (.int x) :: l), (.int x :: st))) rfl rfl rfl
theorem s128_106 : ji_Ev C 128 106 M (some (.ref a) :: l) st o ↔ ji_Ev C 128 107 M (some (.ref a) :: l) (.ref a :: st) o := ev_go (S := (107, M, (some (.ref a) :: l), (.ref a :: st))) rfl rfl rfl
theorem s128_107 : ji_Ev C 128 107 M lv (.ref a :: st) o ↔ ji_kd M a = some (0, 8) ∧ ji_Ev C 128 110 M lv (ji_rv (ji_gR M a 8) :: st) o := ev_getR (k := 128) rfl fd_8_55 rfl
theorem s128_110 : ji_Ev C 128 110 M (l0 :: l1 :: l2 :: l3 :: l4 :: l5 :: some (.int x) :: l) st o ↔ ji_Ev C 128 112 M (l0 :: l1 :: l2 :: l3 :: l4 :: l5 :: some (.int x) :: l) (.int x :: st) o := ev_go (S := (112, M, (l0 :: l1 :: l2 :: l3 :: l4 :: l5 :: some (.int x) :: l), (.int x :: st))) rfl rfl rfl
theorem s128_112 : ji_Ev C 128 112 M lv st o ↔ ji_Ev C 128 113 M lv (.int 2 :: st) o := ev_go (S := (113, M, lv, (.int 2 :: st))) rfl rfl rfl
theorem s128_113 : ji_Ev C 128 113 M lv (p1 :: p0 :: .ref a :: st) o ↔ (ji_rcb M 2 (.ref a) = true ∧ ji_ok8 st) ∧ ji_evC (C 49 [.ref a, p0, p1] M) (fun v M' => ji_Ev C 128 116 M' lv (v.toList ++ st) o) := ev_inv (k := 128) rfl cd_8_140 rfl
theorem s128_116 : ji_Ev C 128 116 M lv (.int y :: .int x :: st) o ↔ ji_ok8 st ∧ ji_Ev C 128 119 M lv (.int (if y < x then y else x) :: st) o := ev_min (k := 128) rfl cd_8_226
theorem s128_119 : ji_Ev C 128 119 M lv (.int x :: st) o ↔ 5 < lv.length ∧ ji_Ev C 128 121 M (ji_s1 lv 5 (.int x)) st o := ev_stI rfl rfl rfl
theorem s128_121 : ji_Ev C 128 121 M lv st o ↔ ji_evL (lv.getD 6 none) ji_isI (fun v => match v with | .int x => 6 < lv.length ∧ ji_Ev C 128 124 M (ji_s1 lv 6 (.int (x + Int32.ofInt 1))) st o | _ => False) := ev_iinc rfl
theorem s128_124 : ji_Ev C 128 124 M lv st o ↔ ji_Ev C 128 47 M lv st o := ev_gt rfl (by decide) rfl
theorem s128_127 : ji_Ev C 128 127 M (l0 :: l1 :: l2 :: l3 :: some (.int x) :: l) st o ↔ ji_Ev C 128 129 M (l0 :: l1 :: l2 :: l3 :: some (.int x) :: l) (.int x :: st) o := ev_go (S := (129, M, (l0 :: l1 :: l2 :: l3 :: some (.int x) :: l), (.int x :: st))) rfl rfl rfl
theorem s128_129 : ji_Ev C 128 129 M (l0 :: l1 :: l2 :: l3 :: l4 :: some (.int x) :: l) st o ↔ ji_Ev C 128 131 M (l0 :: l1 :: l2 :: l3 :: l4 :: some (.int x) :: l) (.int x :: st) o := ev_go (S := (131, M, (l0 :: l1 :: l2 :: l3 :: l4 :: some (.int x) :: l), (.int x :: st))) rfl rfl rfl
theorem s128_131 : ji_Ev C 128 131 M lv (.int y :: .int x :: st) o ↔ if y < x then ji_Ev C 128 134 M lv st o else ji_Ev C 128 137 M lv st o := ev_brc (c := .le) rfl (by decide) rfl
theorem s128_134 : ji_Ev C 128 134 M lv st o ↔ ji_Ev C 128 136 M lv (.int (-3) :: st) o := ev_go (S := (136, M, lv, (.int (-3) :: st))) rfl rfl rfl
theorem s128_136 : ji_Ev C 128 136 M lv [.int x] o ↔ o = (some (.int x), M) := ev_ireti rfl rfl
theorem s128_137 : ji_Ev C 128 137 M (l0 :: l1 :: l2 :: some (.int x) :: l) st o ↔ ji_Ev C 128 138 M (l0 :: l1 :: l2 :: some (.int x) :: l) (.int x :: st) o := ev_go (S := (138, M, (l0 :: l1 :: l2 :: some (.int x) :: l), (.int x :: st))) rfl rfl rfl
theorem s128_138 : ji_Ev C 128 138 M lv st o ↔ ji_Ev C 128 139 M lv (.int 2 :: st) o := ev_go (S := (139, M, lv, (.int 2 :: st))) rfl rfl rfl
theorem s128_139 : ji_Ev C 128 139 M lv (.int y :: .int x :: st) o ↔ ¬ y = 0 ∧ ji_Ev C 128 140 M lv (.int (x - x / y * y) :: st) o := ev_dvR rfl
theorem s128_140 : ji_Ev C 128 140 M lv (.int x :: st) o ↔ if x = 0 then ji_Ev C 128 143 M lv st o else ji_Ev C 128 148 M lv st o := ev_brz (c := .ne) rfl (by decide) rfl
theorem s128_143 : ji_Ev C 128 143 M (l0 :: l1 :: l2 :: l3 :: some (.int x) :: l) st o ↔ ji_Ev C 128 145 M (l0 :: l1 :: l2 :: l3 :: some (.int x) :: l) (.int x :: st) o := ev_go (S := (145, M, (l0 :: l1 :: l2 :: l3 :: some (.int x) :: l), (.int x :: st))) rfl rfl rfl
theorem s128_145 : ji_Ev C 128 145 M lv st o ↔ ji_Ev C 128 150 M lv st o := ev_gt rfl (by decide) rfl
theorem s128_148 : ji_Ev C 128 148 M (l0 :: l1 :: l2 :: l3 :: l4 :: some (.int x) :: l) st o ↔ ji_Ev C 128 150 M (l0 :: l1 :: l2 :: l3 :: l4 :: some (.int x) :: l) (.int x :: st) o := ev_go (S := (150, M, (l0 :: l1 :: l2 :: l3 :: l4 :: some (.int x) :: l), (.int x :: st))) rfl rfl rfl
theorem s128_150 : ji_Ev C 128 150 M lv (.int x :: st) o ↔ 6 < lv.length ∧ ji_Ev C 128 152 M (ji_s1 lv 6 (.int x)) st o := ev_stI rfl rfl rfl
theorem s128_152 : ji_Ev C 128 152 M (l0 :: l1 :: l2 :: some (.int x) :: l) st o ↔ ji_Ev C 128 153 M (l0 :: l1 :: l2 :: some (.int x) :: l) (.int x :: st) o := ev_go (S := (153, M, (l0 :: l1 :: l2 :: some (.int x) :: l), (.int x :: st))) rfl rfl rfl
theorem s128_153 : ji_Ev C 128 153 M lv st o ↔ ji_Ev C 128 154 M lv (.int 2 :: st) o := ev_go (S := (154, M, lv, (.int 2 :: st))) rfl rfl rfl
theorem s128_154 : ji_Ev C 128 154 M lv (.int y :: .int x :: st) o ↔ if x < y then ji_Ev C 128 157 M lv st o else ji_Ev C 128 162 M lv st o := ev_brc (c := .ge) rfl (by decide) rfl
theorem s128_157 : ji_Ev C 128 157 M (l0 :: l1 :: l2 :: l3 :: l4 :: l5 :: some (.int x) :: l) st o ↔ ji_Ev C 128 159 M (l0 :: l1 :: l2 :: l3 :: l4 :: l5 :: some (.int x) :: l) (.int x :: st) o := ev_go (S := (159, M, (l0 :: l1 :: l2 :: l3 :: l4 :: l5 :: some (.int x) :: l), (.int x :: st))) rfl rfl rfl
theorem s128_159 : ji_Ev C 128 159 M lv st o ↔ ji_Ev C 128 177 M lv st o := ev_gt rfl (by decide) rfl
theorem s128_162 : ji_Ev C 128 162 M lv st o ↔ ji_Ev C 128 163 M lv (.int 0 :: st) o := ev_go (S := (163, M, lv, (.int 0 :: st))) rfl rfl rfl
theorem s128_163 : ji_Ev C 128 163 M (l0 :: l1 :: l2 :: l3 :: l4 :: l5 :: some (.int x) :: l) st o ↔ ji_Ev C 128 165 M (l0 :: l1 :: l2 :: l3 :: l4 :: l5 :: some (.int x) :: l) (.int x :: st) o := ev_go (S := (165, M, (l0 :: l1 :: l2 :: l3 :: l4 :: l5 :: some (.int x) :: l), (.int x :: st))) rfl rfl rfl
theorem s128_165 : ji_Ev C 128 165 M (some (.ref a) :: l) st o ↔ ji_Ev C 128 166 M (some (.ref a) :: l) (.ref a :: st) o := ev_go (S := (166, M, (some (.ref a) :: l), (.ref a :: st))) rfl rfl rfl
theorem s128_166 : ji_Ev C 128 166 M lv (.ref a :: st) o ↔ ji_kd M a = some (0, 8) ∧ ji_Ev C 128 169 M lv (ji_rv (ji_gR M a 0) :: st) o := ev_getR (k := 128) rfl fd_8_10 rfl
theorem s128_169 : ji_Ev C 128 169 M (l0 :: some (.int x) :: l) st o ↔ ji_Ev C 128 170 M (l0 :: some (.int x) :: l) (.int x :: st) o := ev_go (S := (170, M, (l0 :: some (.int x) :: l), (.int x :: st))) rfl rfl rfl
theorem s128_170 : ji_Ev C 128 170 M lv (p0 :: .ref a :: st) o ↔ (ji_rcb M 5 (.ref a) = true ∧ ji_ok8 st) ∧ ji_evC (C 129 [.ref a, p0] M) (fun v M' => ji_Ev C 128 173 M' lv (v.toList ++ st) o) := ev_inv (k := 128) rfl cd_8_247 rfl
theorem s128_173 : ji_Ev C 128 173 M lv (.int y :: .int x :: st) o ↔ ji_Ev C 128 174 M lv (.int (x - y) :: st) o := ev_go (S := (174, M, lv, (.int (x - y) :: st))) rfl rfl rfl
theorem s128_174 : ji_Ev C 128 174 M lv (.int y :: .int x :: st) o ↔ ji_ok8 st ∧ ji_Ev C 128 177 M lv (.int (if x < y then y else x) :: st) o := ev_max (k := 128) rfl cd_8_244
theorem s128_177 : ji_Ev C 128 177 M lv [.int x] o ↔ o = (some (.int x), M) := ev_ireti rfl rfl
theorem s129_0 : ji_Ev C 129 0 M lv st o ↔ ji_Ev C 129 1 M lv (.int 0 :: st) o := ev_go (S := (1, M, lv, (.int 0 :: st))) rfl rfl rfl
theorem s129_1 : ji_Ev C 129 1 M lv (.int x :: st) o ↔ 2 < lv.length ∧ ji_Ev C 129 2 M (ji_s1 lv 2 (.int x)) st o := ev_stI rfl rfl rfl
theorem s129_2 : ji_Ev C 129 2 M lv st o ↔ ji_Ev C 129 3 M lv (.int 0 :: st) o := ev_go (S := (3, M, lv, (.int 0 :: st))) rfl rfl rfl
theorem s129_3 : ji_Ev C 129 3 M lv (.int x :: st) o ↔ 3 < lv.length ∧ ji_Ev C 129 4 M (ji_s1 lv 3 (.int x)) st o := ev_stI rfl rfl rfl
theorem s129_4 : ji_Ev C 129 4 M (l0 :: l1 :: l2 :: some (.int x) :: l) st o ↔ ji_Ev C 129 5 M (l0 :: l1 :: l2 :: some (.int x) :: l) (.int x :: st) o := ev_go (S := (5, M, (l0 :: l1 :: l2 :: some (.int x) :: l), (.int x :: st))) rfl rfl rfl
theorem s129_5 : ji_Ev C 129 5 M (some (.ref a) :: l) st o ↔ ji_Ev C 129 6 M (some (.ref a) :: l) (.ref a :: st) o := ev_go (S := (6, M, (some (.ref a) :: l), (.ref a :: st))) rfl rfl rfl
theorem s129_6 : ji_Ev C 129 6 M lv (.ref a :: st) o ↔ ji_kd M a = some (0, 5) ∧ ji_Ev C 129 9 M lv (ji_rv (ji_gR M a 0) :: st) o := ev_getR (k := 129) rfl fd_5_14 rfl
theorem s129_9 : ji_Ev C 129 9 M lv (.ref a :: st) o ↔ (ji_rcb M 2 (.ref a) = true ∧ ji_ok8 st) ∧ ji_evC (C 47 [.ref a] M) (fun v M' => ji_Ev C 129 12 M' lv (v.toList ++ st) o) := ev_inv (k := 129) rfl cd_5_70 rfl
theorem s129_12 : ji_Ev C 129 12 M lv (.int y :: .int x :: st) o ↔ if x < y then ji_Ev C 129 15 M lv st o else ji_Ev C 129 42 M lv st o := ev_brc (c := .ge) rfl (by decide) rfl
theorem s129_15 : ji_Ev C 129 15 M (l0 :: l1 :: some (.int x) :: l) st o ↔ ji_Ev C 129 16 M (l0 :: l1 :: some (.int x) :: l) (.int x :: st) o := ev_go (S := (16, M, (l0 :: l1 :: some (.int x) :: l), (.int x :: st))) rfl rfl rfl
theorem s129_16 : ji_Ev C 129 16 M (some (.ref a) :: l) st o ↔ ji_Ev C 129 17 M (some (.ref a) :: l) (.ref a :: st) o := ev_go (S := (17, M, (some (.ref a) :: l), (.ref a :: st))) rfl rfl rfl
theorem s129_17 : ji_Ev C 129 17 M lv (.ref a :: st) o ↔ ji_kd M a = some (0, 5) ∧ ji_Ev C 129 20 M lv (ji_rv (ji_gR M a 0) :: st) o := ev_getR (k := 129) rfl fd_5_14 rfl
theorem s129_20 : ji_Ev C 129 20 M (l0 :: l1 :: l2 :: some (.int x) :: l) st o ↔ ji_Ev C 129 21 M (l0 :: l1 :: l2 :: some (.int x) :: l) (.int x :: st) o := ev_go (S := (21, M, (l0 :: l1 :: l2 :: some (.int x) :: l), (.int x :: st))) rfl rfl rfl
theorem s129_21 : ji_Ev C 129 21 M lv st o ↔ ji_Ev C 129 22 M lv (.int 1 :: st) o := ev_go (S := (22, M, lv, (.int 1 :: st))) rfl rfl rfl
theorem s129_22 : ji_Ev C 129 22 M lv (p1 :: p0 :: .ref a :: st) o ↔ (ji_rcb M 2 (.ref a) = true ∧ ji_ok8 st) ∧ ji_evC (C 49 [.ref a, p0, p1] M) (fun v M' => ji_Ev C 129 25 M' lv (v.toList ++ st) o) := ev_inv (k := 129) rfl cd_5_53 rfl
theorem s129_25 : ji_Ev C 129 25 M (l0 :: some (.int x) :: l) st o ↔ ji_Ev C 129 26 M (l0 :: some (.int x) :: l) (.int x :: st) o := ev_go (S := (26, M, (l0 :: some (.int x) :: l), (.int x :: st))) rfl rfl rfl
theorem s129_26 : ji_Ev C 129 26 M lv (.int y :: .int x :: st) o ↔ if x = y then ji_Ev C 129 29 M lv st o else ji_Ev C 129 33 M lv st o := ev_brc (c := .ne) rfl (by decide) rfl
theorem s129_29 : ji_Ev C 129 29 M lv st o ↔ ji_Ev C 129 30 M lv (.int 1 :: st) o := ev_go (S := (30, M, lv, (.int 1 :: st))) rfl rfl rfl
theorem s129_30 : ji_Ev C 129 30 M lv st o ↔ ji_Ev C 129 34 M lv st o := ev_gt rfl (by decide) rfl
theorem s129_33 : ji_Ev C 129 33 M lv st o ↔ ji_Ev C 129 34 M lv (.int 0 :: st) o := ev_go (S := (34, M, lv, (.int 0 :: st))) rfl rfl rfl
theorem s129_34 : ji_Ev C 129 34 M lv (.int y :: .int x :: st) o ↔ ji_Ev C 129 35 M lv (.int (x + y) :: st) o := ev_go (S := (35, M, lv, (.int (x + y) :: st))) rfl rfl rfl
theorem s129_35 : ji_Ev C 129 35 M lv (.int x :: st) o ↔ 2 < lv.length ∧ ji_Ev C 129 36 M (ji_s1 lv 2 (.int x)) st o := ev_stI rfl rfl rfl
theorem s129_36 : ji_Ev C 129 36 M lv st o ↔ ji_evL (lv.getD 3 none) ji_isI (fun v => match v with | .int x => 3 < lv.length ∧ ji_Ev C 129 39 M (ji_s1 lv 3 (.int (x + Int32.ofInt 1))) st o | _ => False) := ev_iinc rfl
theorem s129_39 : ji_Ev C 129 39 M lv st o ↔ ji_Ev C 129 4 M lv st o := ev_gt rfl (by decide) rfl
theorem s129_42 : ji_Ev C 129 42 M (l0 :: l1 :: some (.int x) :: l) st o ↔ ji_Ev C 129 43 M (l0 :: l1 :: some (.int x) :: l) (.int x :: st) o := ev_go (S := (43, M, (l0 :: l1 :: some (.int x) :: l), (.int x :: st))) rfl rfl rfl
theorem s129_43 : ji_Ev C 129 43 M lv [.int x] o ↔ o = (some (.int x), M) := ev_ireti rfl rfl
theorem s130_0 : ji_Ev C 130 0 M (l0 :: some (.int x) :: l) st o ↔ ji_Ev C 130 1 M (l0 :: some (.int x) :: l) (.int x :: st) o := ev_go (S := (1, M, (l0 :: some (.int x) :: l), (.int x :: st))) rfl rfl rfl
theorem s130_1 : ji_Ev C 130 1 M lv st o ↔ ji_Ev C 130 2 M lv (.int 0 :: st) o := ev_go (S := (2, M, lv, (.int 0 :: st))) rfl rfl rfl
theorem s130_2 : ji_Ev C 130 2 M lv st o ↔ ji_Ev C 130 5 M lv (.int 999 :: st) o := ev_go (S := (5, M, lv, (.int 999 :: st))) rfl rfl rfl
theorem s130_5 : ji_Ev C 130 5 M lv (p2 :: p1 :: p0 :: st) o ↔ ji_ok8 st ∧ ji_evC (C 43 [p0, p1, p2] M) (fun v M' => ji_Ev C 130 8 M' lv (v.toList ++ st) o) := ev_sta (k := 130) (a := [p2, p1, p0]) rfl (Or.inl cd_8_89) rfl
theorem s130_8 : ji_Ev C 130 8 M lv (.int x :: st) o ↔ if x = 0 then ji_Ev C 130 20 M lv st o else ji_Ev C 130 11 M lv st o := ev_brz (c := .eq) rfl (by decide) rfl
theorem s130_11 : ji_Ev C 130 11 M (l0 :: l1 :: some (.int x) :: l) st o ↔ ji_Ev C 130 12 M (l0 :: l1 :: some (.int x) :: l) (.int x :: st) o := ev_go (S := (12, M, (l0 :: l1 :: some (.int x) :: l), (.int x :: st))) rfl rfl rfl
theorem s130_12 : ji_Ev C 130 12 M lv st o ↔ ji_Ev C 130 13 M lv (.int 0 :: st) o := ev_go (S := (13, M, lv, (.int 0 :: st))) rfl rfl rfl
theorem s130_13 : ji_Ev C 130 13 M lv st o ↔ ji_Ev C 130 14 M lv (.int 3 :: st) o := ev_go (S := (14, M, lv, (.int 3 :: st))) rfl rfl rfl
theorem s130_14 : ji_Ev C 130 14 M lv (p2 :: p1 :: p0 :: st) o ↔ ji_ok8 st ∧ ji_evC (C 43 [p0, p1, p2] M) (fun v M' => ji_Ev C 130 17 M' lv (v.toList ++ st) o) := ev_sta (k := 130) (a := [p2, p1, p0]) rfl (Or.inl cd_8_89) rfl
theorem s130_17 : ji_Ev C 130 17 M lv (.int x :: st) o ↔ if x = 0 then ji_Ev C 130 20 M lv st o else ji_Ev C 130 23 M lv st o := ev_brz (c := .ne) rfl (by decide) rfl
theorem s130_20 : ji_Ev C 130 20 M lv st o ↔ ji_Ev C 130 22 M lv (.int (-2) :: st) o := ev_go (S := (22, M, lv, (.int (-2) :: st))) rfl rfl rfl
theorem s130_22 : ji_Ev C 130 22 M lv [.int x] o ↔ o = (some (.int x), M) := ev_ireti rfl rfl
theorem s130_23 : ji_Ev C 130 23 M (some (.ref a) :: l) st o ↔ ji_Ev C 130 24 M (some (.ref a) :: l) (.ref a :: st) o := ev_go (S := (24, M, (some (.ref a) :: l), (.ref a :: st))) rfl rfl rfl
theorem s130_24 : ji_Ev C 130 24 M lv (.ref a :: st) o ↔ ji_kd M a = some (0, 8) ∧ ji_Ev C 130 27 M lv (ji_rv (ji_gR M a 9) :: st) o := ev_getR (k := 130) rfl fd_8_58 rfl
theorem s130_27 : ji_Ev C 130 27 M lv (.ref a :: st) o ↔ (ji_rcb M 2 (.ref a) = true ∧ ji_ok8 st) ∧ ji_evC (C 61 [.ref a] M) (fun v M' => ji_Ev C 130 30 M' lv (v.toList ++ st) o) := ev_inv (k := 130) rfl cd_8_114 rfl
theorem s130_30 : ji_Ev C 130 30 M lv (.int x :: st) o ↔ if x = 0 then ji_Ev C 130 38 M lv st o else ji_Ev C 130 33 M lv st o := ev_brz (c := .eq) rfl (by decide) rfl
theorem s130_33 : ji_Ev C 130 33 M lv st o ↔ ji_Ev C 130 35 M lv (.int (-4) :: st) o := ev_go (S := (35, M, lv, (.int (-4) :: st))) rfl rfl rfl
theorem s130_35 : ji_Ev C 130 35 M lv st o ↔ ji_Ev C 130 49 M lv st o := ev_gt rfl (by decide) rfl
theorem s130_38 : ji_Ev C 130 38 M (some (.ref a) :: l) st o ↔ ji_Ev C 130 39 M (some (.ref a) :: l) (.ref a :: st) o := ev_go (S := (39, M, (some (.ref a) :: l), (.ref a :: st))) rfl rfl rfl
theorem s130_39 : ji_Ev C 130 39 M lv (.ref a :: st) o ↔ ji_kd M a = some (0, 8) ∧ ji_Ev C 130 42 M lv (ji_rv (ji_gR M a 9) :: st) o := ev_getR (k := 130) rfl fd_8_58 rfl
theorem s130_42 : ji_Ev C 130 42 M (l0 :: some (.int x) :: l) st o ↔ ji_Ev C 130 43 M (l0 :: some (.int x) :: l) (.int x :: st) o := ev_go (S := (43, M, (l0 :: some (.int x) :: l), (.int x :: st))) rfl rfl rfl
theorem s130_43 : ji_Ev C 130 43 M (l0 :: l1 :: some (.int x) :: l) st o ↔ ji_Ev C 130 44 M (l0 :: l1 :: some (.int x) :: l) (.int x :: st) o := ev_go (S := (44, M, (l0 :: l1 :: some (.int x) :: l), (.int x :: st))) rfl rfl rfl
theorem s130_44 : ji_Ev C 130 44 M lv st o ↔ ji_Ev C 130 45 M lv (.int 0 :: st) o := ev_go (S := (45, M, lv, (.int 0 :: st))) rfl rfl rfl
theorem s130_45 : ji_Ev C 130 45 M lv st o ↔ ji_Ev C 130 46 M lv (.int 0 :: st) o := ev_go (S := (46, M, lv, (.int 0 :: st))) rfl rfl rfl
theorem s130_46 : ji_Ev C 130 46 M lv (p3 :: p2 :: p1 :: p0 :: .ref a :: st) o ↔ (ji_rcb M 2 (.ref a) = true ∧ ji_ok8 st) ∧ ji_evC (C 63 [.ref a, p0, p1, p2, p3] M) (fun v M' => ji_Ev C 130 49 M' lv (v.toList ++ st) o) := ev_inv (k := 130) rfl cd_8_195 rfl
theorem s130_49 : ji_Ev C 130 49 M lv [.int x] o ↔ o = (some (.int x), M) := ev_ireti rfl rfl
theorem s131_0 : ji_Ev C 131 0 M (l0 :: l1 :: some (.int x) :: l) st o ↔ ji_Ev C 131 1 M (l0 :: l1 :: some (.int x) :: l) (.int x :: st) o := ev_go (S := (1, M, (l0 :: l1 :: some (.int x) :: l), (.int x :: st))) rfl rfl rfl
theorem s131_1 : ji_Ev C 131 1 M lv st o ↔ ji_Ev C 131 2 M lv (.int 0 :: st) o := ev_go (S := (2, M, lv, (.int 0 :: st))) rfl rfl rfl
theorem s131_2 : ji_Ev C 131 2 M lv st o ↔ ji_Ev C 131 4 M lv (.int (999999) :: st) o := ev_go (S := (4, M, lv, (.int (999999) :: st))) rfl rfl rfl
theorem s131_4 : ji_Ev C 131 4 M lv (p2 :: p1 :: p0 :: st) o ↔ ji_ok8 st ∧ ji_evC (C 43 [p0, p1, p2] M) (fun v M' => ji_Ev C 131 7 M' lv (v.toList ++ st) o) := ev_sta (k := 131) (a := [p2, p1, p0]) rfl (Or.inl cd_8_89) rfl
theorem s131_7 : ji_Ev C 131 7 M lv (.int x :: st) o ↔ if x = 0 then ji_Ev C 131 27 M lv st o else ji_Ev C 131 10 M lv st o := ev_brz (c := .eq) rfl (by decide) rfl
theorem s131_10 : ji_Ev C 131 10 M (l0 :: l1 :: some (.int x) :: l) st o ↔ ji_Ev C 131 11 M (l0 :: l1 :: some (.int x) :: l) (.int x :: st) o := ev_go (S := (11, M, (l0 :: l1 :: some (.int x) :: l), (.int x :: st))) rfl rfl rfl
theorem s131_11 : ji_Ev C 131 11 M lv st o ↔ ji_Ev C 131 14 M lv (.int 1000 :: st) o := ev_go (S := (14, M, lv, (.int 1000 :: st))) rfl rfl rfl
theorem s131_14 : ji_Ev C 131 14 M lv (.int y :: .int x :: st) o ↔ ¬ y = 0 ∧ ji_Ev C 131 15 M lv (.int (x / y) :: st) o := ev_dvI rfl
theorem s131_15 : ji_Ev C 131 15 M (l0 :: l1 :: some (.int x) :: l) st o ↔ ji_Ev C 131 16 M (l0 :: l1 :: some (.int x) :: l) (.int x :: st) o := ev_go (S := (16, M, (l0 :: l1 :: some (.int x) :: l), (.int x :: st))) rfl rfl rfl
theorem s131_16 : ji_Ev C 131 16 M lv st o ↔ ji_Ev C 131 19 M lv (.int 1000 :: st) o := ev_go (S := (19, M, lv, (.int 1000 :: st))) rfl rfl rfl
theorem s131_19 : ji_Ev C 131 19 M lv (.int y :: .int x :: st) o ↔ ¬ y = 0 ∧ ji_Ev C 131 20 M lv (.int (x - x / y * y) :: st) o := ev_dvR rfl
theorem s131_20 : ji_Ev C 131 20 M lv (.int y :: .int x :: st) o ↔ if x < y then ji_Ev C 131 23 M lv st o else ji_Ev C 131 27 M lv st o := ev_brc (c := .ge) rfl (by decide) rfl
theorem s131_23 : ji_Ev C 131 23 M lv st o ↔ ji_Ev C 131 24 M lv (.int 1 :: st) o := ev_go (S := (24, M, lv, (.int 1 :: st))) rfl rfl rfl
theorem s131_24 : ji_Ev C 131 24 M lv st o ↔ ji_Ev C 131 28 M lv st o := ev_gt rfl (by decide) rfl
theorem s131_27 : ji_Ev C 131 27 M lv st o ↔ ji_Ev C 131 28 M lv (.int 0 :: st) o := ev_go (S := (28, M, lv, (.int 0 :: st))) rfl rfl rfl
theorem s131_28 : ji_Ev C 131 28 M lv (.int x :: st) o ↔ 4 < lv.length ∧ ji_Ev C 131 30 M (ji_s1 lv 4 (.int x)) st o := ev_stI rfl rfl rfl
theorem s131_30 : ji_Ev C 131 30 M (l0 :: l1 :: l2 :: some (.int x) :: l) st o ↔ ji_Ev C 131 31 M (l0 :: l1 :: l2 :: some (.int x) :: l) (.int x :: st) o := ev_go (S := (31, M, (l0 :: l1 :: l2 :: some (.int x) :: l), (.int x :: st))) rfl rfl rfl
theorem s131_31 : ji_Ev C 131 31 M lv st o ↔ ji_Ev C 131 32 M lv (.int 0 :: st) o := ev_go (S := (32, M, lv, (.int 0 :: st))) rfl rfl rfl
theorem s131_32 : ji_Ev C 131 32 M lv st o ↔ ji_Ev C 131 35 M lv (.int 9999 :: st) o := ev_go (S := (35, M, lv, (.int 9999 :: st))) rfl rfl rfl
theorem s131_35 : ji_Ev C 131 35 M lv (p2 :: p1 :: p0 :: st) o ↔ ji_ok8 st ∧ ji_evC (C 43 [p0, p1, p2] M) (fun v M' => ji_Ev C 131 38 M' lv (v.toList ++ st) o) := ev_sta (k := 131) (a := [p2, p1, p0]) rfl (Or.inl cd_8_89) rfl
theorem s131_38 : ji_Ev C 131 38 M lv (.int x :: st) o ↔ if x = 0 then ji_Ev C 131 56 M lv st o else ji_Ev C 131 41 M lv st o := ev_brz (c := .eq) rfl (by decide) rfl
theorem s131_41 : ji_Ev C 131 41 M (l0 :: l1 :: l2 :: some (.int x) :: l) st o ↔ ji_Ev C 131 42 M (l0 :: l1 :: l2 :: some (.int x) :: l) (.int x :: st) o := ev_go (S := (42, M, (l0 :: l1 :: l2 :: some (.int x) :: l), (.int x :: st))) rfl rfl rfl
theorem s131_42 : ji_Ev C 131 42 M lv st o ↔ ji_Ev C 131 44 M lv (.int 100 :: st) o := ev_go (S := (44, M, lv, (.int 100 :: st))) rfl rfl rfl
theorem s131_44 : ji_Ev C 131 44 M lv (.int y :: .int x :: st) o ↔ ¬ y = 0 ∧ ji_Ev C 131 45 M lv (.int (x / y) :: st) o := ev_dvI rfl
theorem s131_45 : ji_Ev C 131 45 M (l0 :: l1 :: l2 :: some (.int x) :: l) st o ↔ ji_Ev C 131 46 M (l0 :: l1 :: l2 :: some (.int x) :: l) (.int x :: st) o := ev_go (S := (46, M, (l0 :: l1 :: l2 :: some (.int x) :: l), (.int x :: st))) rfl rfl rfl
theorem s131_46 : ji_Ev C 131 46 M lv st o ↔ ji_Ev C 131 48 M lv (.int 100 :: st) o := ev_go (S := (48, M, lv, (.int 100 :: st))) rfl rfl rfl
theorem s131_48 : ji_Ev C 131 48 M lv (.int y :: .int x :: st) o ↔ ¬ y = 0 ∧ ji_Ev C 131 49 M lv (.int (x - x / y * y) :: st) o := ev_dvR rfl
theorem s131_49 : ji_Ev C 131 49 M lv (.int y :: .int x :: st) o ↔ if y < x then ji_Ev C 131 56 M lv st o else ji_Ev C 131 52 M lv st o := ev_brc (c := .gt) rfl (by decide) rfl
theorem s131_52 : ji_Ev C 131 52 M lv st o ↔ ji_Ev C 131 53 M lv (.int 1 :: st) o := ev_go (S := (53, M, lv, (.int 1 :: st))) rfl rfl rfl
theorem s131_53 : ji_Ev C 131 53 M lv st o ↔ ji_Ev C 131 57 M lv st o := ev_gt rfl (by decide) rfl
theorem s131_56 : ji_Ev C 131 56 M lv st o ↔ ji_Ev C 131 57 M lv (.int 0 :: st) o := ev_go (S := (57, M, lv, (.int 0 :: st))) rfl rfl rfl
theorem s131_57 : ji_Ev C 131 57 M lv (.int x :: st) o ↔ 5 < lv.length ∧ ji_Ev C 131 59 M (ji_s1 lv 5 (.int x)) st o := ev_stI rfl rfl rfl
theorem s131_59 : ji_Ev C 131 59 M (l0 :: some (.int x) :: l) st o ↔ ji_Ev C 131 60 M (l0 :: some (.int x) :: l) (.int x :: st) o := ev_go (S := (60, M, (l0 :: some (.int x) :: l), (.int x :: st))) rfl rfl rfl
theorem s131_60 : ji_Ev C 131 60 M lv st o ↔ ji_Ev C 131 61 M lv (.int 0 :: st) o := ev_go (S := (61, M, lv, (.int 0 :: st))) rfl rfl rfl
theorem s131_61 : ji_Ev C 131 61 M lv st o ↔ ji_Ev C 131 62 M lv (.int 3 :: st) o := ev_go (S := (62, M, lv, (.int 3 :: st))) rfl rfl rfl
theorem s131_62 : ji_Ev C 131 62 M lv (p2 :: p1 :: p0 :: st) o ↔ ji_ok8 st ∧ ji_evC (C 43 [p0, p1, p2] M) (fun v M' => ji_Ev C 131 65 M' lv (v.toList ++ st) o) := ev_sta (k := 131) (a := [p2, p1, p0]) rfl (Or.inl cd_8_89) rfl
theorem s131_65 : ji_Ev C 131 65 M lv (.int x :: st) o ↔ if x = 0 then ji_Ev C 131 78 M lv st o else ji_Ev C 131 68 M lv st o := ev_brz (c := .eq) rfl (by decide) rfl
theorem s131_68 : ji_Ev C 131 68 M (l0 :: l1 :: l2 :: l3 :: some (.int x) :: l) st o ↔ ji_Ev C 131 70 M (l0 :: l1 :: l2 :: l3 :: some (.int x) :: l) (.int x :: st) o := ev_go (S := (70, M, (l0 :: l1 :: l2 :: l3 :: some (.int x) :: l), (.int x :: st))) rfl rfl rfl
theorem s131_70 : ji_Ev C 131 70 M lv (.int x :: st) o ↔ if x = 0 then ji_Ev C 131 78 M lv st o else ji_Ev C 131 73 M lv st o := ev_brz (c := .eq) rfl (by decide) rfl
theorem s131_73 : ji_Ev C 131 73 M (l0 :: l1 :: l2 :: l3 :: l4 :: some (.int x) :: l) st o ↔ ji_Ev C 131 75 M (l0 :: l1 :: l2 :: l3 :: l4 :: some (.int x) :: l) (.int x :: st) o := ev_go (S := (75, M, (l0 :: l1 :: l2 :: l3 :: l4 :: some (.int x) :: l), (.int x :: st))) rfl rfl rfl
theorem s131_75 : ji_Ev C 131 75 M lv (.int x :: st) o ↔ if x = 0 then ji_Ev C 131 78 M lv st o else ji_Ev C 131 81 M lv st o := ev_brz (c := .ne) rfl (by decide) rfl
theorem s131_78 : ji_Ev C 131 78 M lv st o ↔ ji_Ev C 131 80 M lv (.int (-2) :: st) o := ev_go (S := (80, M, lv, (.int (-2) :: st))) rfl rfl rfl
theorem s131_80 : ji_Ev C 131 80 M lv [.int x] o ↔ o = (some (.int x), M) := ev_ireti rfl rfl
theorem s131_81 : ji_Ev C 131 81 M (some (.ref a) :: l) st o ↔ ji_Ev C 131 82 M (some (.ref a) :: l) (.ref a :: st) o := ev_go (S := (82, M, (some (.ref a) :: l), (.ref a :: st))) rfl rfl rfl
theorem s131_82 : ji_Ev C 131 82 M lv (.ref a :: st) o ↔ ji_kd M a = some (0, 8) ∧ ji_Ev C 131 85 M lv (ji_rv (ji_gR M a 10) :: st) o := ev_getR (k := 131) rfl fd_8_61 rfl
theorem s131_85 : ji_Ev C 131 85 M lv (.ref a :: st) o ↔ (ji_rcb M 2 (.ref a) = true ∧ ji_ok8 st) ∧ ji_evC (C 61 [.ref a] M) (fun v M' => ji_Ev C 131 88 M' lv (v.toList ++ st) o) := ev_inv (k := 131) rfl cd_8_114 rfl
theorem s131_88 : ji_Ev C 131 88 M lv (.int x :: st) o ↔ if x = 0 then ji_Ev C 131 96 M lv st o else ji_Ev C 131 91 M lv st o := ev_brz (c := .eq) rfl (by decide) rfl
theorem s131_91 : ji_Ev C 131 91 M lv st o ↔ ji_Ev C 131 93 M lv (.int (-4) :: st) o := ev_go (S := (93, M, lv, (.int (-4) :: st))) rfl rfl rfl
theorem s131_93 : ji_Ev C 131 93 M lv st o ↔ ji_Ev C 131 109 M lv st o := ev_gt rfl (by decide) rfl
theorem s131_96 : ji_Ev C 131 96 M (some (.ref a) :: l) st o ↔ ji_Ev C 131 97 M (some (.ref a) :: l) (.ref a :: st) o := ev_go (S := (97, M, (some (.ref a) :: l), (.ref a :: st))) rfl rfl rfl
theorem s131_97 : ji_Ev C 131 97 M lv (.ref a :: st) o ↔ ji_kd M a = some (0, 8) ∧ ji_Ev C 131 100 M lv (ji_rv (ji_gR M a 10) :: st) o := ev_getR (k := 131) rfl fd_8_61 rfl
theorem s131_100 : ji_Ev C 131 100 M (l0 :: some (.int x) :: l) st o ↔ ji_Ev C 131 101 M (l0 :: some (.int x) :: l) (.int x :: st) o := ev_go (S := (101, M, (l0 :: some (.int x) :: l), (.int x :: st))) rfl rfl rfl
theorem s131_101 : ji_Ev C 131 101 M (l0 :: l1 :: some (.int x) :: l) st o ↔ ji_Ev C 131 102 M (l0 :: l1 :: some (.int x) :: l) (.int x :: st) o := ev_go (S := (102, M, (l0 :: l1 :: some (.int x) :: l), (.int x :: st))) rfl rfl rfl
theorem s131_102 : ji_Ev C 131 102 M (l0 :: l1 :: l2 :: some (.int x) :: l) st o ↔ ji_Ev C 131 103 M (l0 :: l1 :: l2 :: some (.int x) :: l) (.int x :: st) o := ev_go (S := (103, M, (l0 :: l1 :: l2 :: some (.int x) :: l), (.int x :: st))) rfl rfl rfl
theorem s131_103 : ji_Ev C 131 103 M lv st o ↔ ji_Ev C 131 104 M lv (.int 0 :: st) o := ev_go (S := (104, M, lv, (.int 0 :: st))) rfl rfl rfl
theorem s131_104 : ji_Ev C 131 104 M lv (p3 :: p2 :: p1 :: p0 :: .ref a :: st) o ↔ (ji_rcb M 2 (.ref a) = true ∧ ji_ok8 st) ∧ ji_evC (C 63 [.ref a, p0, p1, p2, p3] M) (fun v M' => ji_Ev C 131 107 M' lv (v.toList ++ st) o) := ev_inv (k := 131) rfl cd_8_195 rfl
theorem s131_107 : ji_Ev C 131 107 M lv st o ↔ ji_Ev C 131 108 M lv (.int 1 :: st) o := ev_go (S := (108, M, lv, (.int 1 :: st))) rfl rfl rfl
theorem s131_108 : ji_Ev C 131 108 M lv (.int y :: .int x :: st) o ↔ ji_Ev C 131 109 M lv (.int (x + y) :: st) o := ev_go (S := (109, M, lv, (.int (x + y) :: st))) rfl rfl rfl
theorem s131_109 : ji_Ev C 131 109 M lv [.int x] o ↔ o = (some (.int x), M) := ev_ireti rfl rfl
theorem s132_0 : ji_Ev C 132 0 M (some (.ref a) :: l) st o ↔ ji_Ev C 132 1 M (some (.ref a) :: l) (.ref a :: st) o := ev_go (S := (1, M, (some (.ref a) :: l), (.ref a :: st))) rfl rfl rfl
theorem s132_1 : ji_Ev C 132 1 M lv (.ref a :: st) o ↔ ji_kd M a = some (0, 8) ∧ ji_Ev C 132 4 M lv (ji_rv (ji_gR M a 9) :: st) o := ev_getR (k := 132) rfl fd_8_58 rfl
theorem s132_4 : ji_Ev C 132 4 M (l0 :: some (.int x) :: l) st o ↔ ji_Ev C 132 5 M (l0 :: some (.int x) :: l) (.int x :: st) o := ev_go (S := (5, M, (l0 :: some (.int x) :: l), (.int x :: st))) rfl rfl rfl
theorem s132_5 : ji_Ev C 132 5 M lv (p0 :: .ref a :: st) o ↔ (ji_rcb M 2 (.ref a) = true ∧ ji_ok8 st) ∧ ji_evC (C 65 [.ref a, p0] M) (fun v M' => ji_Ev C 132 8 M' lv (v.toList ++ st) o) := ev_inv (k := 132) rfl cd_8_121 rfl
theorem s132_8 : ji_Ev C 132 8 M lv (.int x :: st) o ↔ if x = 0 then ji_Ev C 132 11 M lv st o else ji_Ev C 132 14 M lv st o := ev_brz (c := .ne) rfl (by decide) rfl
theorem s132_11 : ji_Ev C 132 11 M lv st o ↔ ji_Ev C 132 13 M lv (.int (-2) :: st) o := ev_go (S := (13, M, lv, (.int (-2) :: st))) rfl rfl rfl
theorem s132_13 : ji_Ev C 132 13 M lv [.int x] o ↔ o = (some (.int x), M) := ev_ireti rfl rfl
theorem s132_14 : ji_Ev C 132 14 M lv st o ↔ ji_Ev C 132 15 M lv (.int 0 :: st) o := ev_go (S := (15, M, lv, (.int 0 :: st))) rfl rfl rfl
theorem s132_15 : ji_Ev C 132 15 M lv (.int x :: st) o ↔ 2 < lv.length ∧ ji_Ev C 132 16 M (ji_s1 lv 2 (.int x)) st o := ev_stI rfl rfl rfl
theorem s132_16 : ji_Ev C 132 16 M lv st o ↔ ji_Ev C 132 17 M lv (.int (-1) :: st) o := ev_go (S := (17, M, lv, (.int (-1) :: st))) rfl rfl rfl
theorem s132_17 : ji_Ev C 132 17 M lv (.int x :: st) o ↔ 3 < lv.length ∧ ji_Ev C 132 18 M (ji_s1 lv 3 (.int x)) st o := ev_stI rfl rfl rfl
theorem s132_18 : ji_Ev C 132 18 M lv st o ↔ ji_Ev C 132 19 M lv (.int 0 :: st) o := ev_go (S := (19, M, lv, (.int 0 :: st))) rfl rfl rfl
theorem s132_19 : ji_Ev C 132 19 M lv (.int x :: st) o ↔ 4 < lv.length ∧ ji_Ev C 132 21 M (ji_s1 lv 4 (.int x)) st o := ev_stI rfl rfl rfl
theorem s132_21 : ji_Ev C 132 21 M (l0 :: l1 :: l2 :: l3 :: some (.int x) :: l) st o ↔ ji_Ev C 132 23 M (l0 :: l1 :: l2 :: l3 :: some (.int x) :: l) (.int x :: st) o := ev_go (S := (23, M, (l0 :: l1 :: l2 :: l3 :: some (.int x) :: l), (.int x :: st))) rfl rfl rfl
theorem s132_23 : ji_Ev C 132 23 M (some (.ref a) :: l) st o ↔ ji_Ev C 132 24 M (some (.ref a) :: l) (.ref a :: st) o := ev_go (S := (24, M, (some (.ref a) :: l), (.ref a :: st))) rfl rfl rfl
theorem s132_24 : ji_Ev C 132 24 M lv (.ref a :: st) o ↔ ji_kd M a = some (0, 8) ∧ ji_Ev C 132 27 M lv (ji_rv (ji_gR M a 10) :: st) o := ev_getR (k := 132) rfl fd_8_61 rfl
theorem s132_27 : ji_Ev C 132 27 M lv (.ref a :: st) o ↔ (ji_rcb M 2 (.ref a) = true ∧ ji_ok8 st) ∧ ji_evC (C 47 [.ref a] M) (fun v M' => ji_Ev C 132 30 M' lv (v.toList ++ st) o) := ev_inv (k := 132) rfl cd_8_202 rfl
theorem s132_30 : ji_Ev C 132 30 M lv (.int y :: .int x :: st) o ↔ if x < y then ji_Ev C 132 33 M lv st o else ji_Ev C 132 93 M lv st o := ev_brc (c := .ge) rfl (by decide) rfl
theorem s132_33 : ji_Ev C 132 33 M (some (.ref a) :: l) st o ↔ ji_Ev C 132 34 M (some (.ref a) :: l) (.ref a :: st) o := ev_go (S := (34, M, (some (.ref a) :: l), (.ref a :: st))) rfl rfl rfl
theorem s132_34 : ji_Ev C 132 34 M (l0 :: l1 :: l2 :: l3 :: some (.int x) :: l) st o ↔ ji_Ev C 132 36 M (l0 :: l1 :: l2 :: l3 :: some (.int x) :: l) (.int x :: st) o := ev_go (S := (36, M, (l0 :: l1 :: l2 :: l3 :: some (.int x) :: l), (.int x :: st))) rfl rfl rfl
theorem s132_36 : ji_Ev C 132 36 M (l0 :: some (.int x) :: l) st o ↔ ji_Ev C 132 37 M (l0 :: some (.int x) :: l) (.int x :: st) o := ev_go (S := (37, M, (l0 :: some (.int x) :: l), (.int x :: st))) rfl rfl rfl
theorem s132_37 : ji_Ev C 132 37 M lv (p1 :: p0 :: .ref a :: st) o ↔ (ji_rcb M 8 (.ref a) = true ∧ ji_ok8 st) ∧ ji_evC (C 133 [.ref a, p0, p1] M) (fun v M' => ji_Ev C 132 40 M' lv (v.toList ++ st) o) := ev_inv (k := 132) rfl cd_8_250 rfl
theorem s132_40 : ji_Ev C 132 40 M lv (.int x :: st) o ↔ if x = 0 then ji_Ev C 132 87 M lv st o else ji_Ev C 132 43 M lv st o := ev_brz (c := .eq) rfl (by decide) rfl
theorem s132_43 : ji_Ev C 132 43 M (some (.ref a) :: l) st o ↔ ji_Ev C 132 44 M (some (.ref a) :: l) (.ref a :: st) o := ev_go (S := (44, M, (some (.ref a) :: l), (.ref a :: st))) rfl rfl rfl
theorem s132_44 : ji_Ev C 132 44 M lv (.ref a :: st) o ↔ ji_kd M a = some (0, 8) ∧ ji_Ev C 132 47 M lv (ji_rv (ji_gR M a 10) :: st) o := ev_getR (k := 132) rfl fd_8_61 rfl
theorem s132_47 : ji_Ev C 132 47 M (l0 :: l1 :: l2 :: l3 :: some (.int x) :: l) st o ↔ ji_Ev C 132 49 M (l0 :: l1 :: l2 :: l3 :: some (.int x) :: l) (.int x :: st) o := ev_go (S := (49, M, (l0 :: l1 :: l2 :: l3 :: some (.int x) :: l), (.int x :: st))) rfl rfl rfl
theorem s132_49 : ji_Ev C 132 49 M lv st o ↔ ji_Ev C 132 50 M lv (.int 2 :: st) o := ev_go (S := (50, M, lv, (.int 2 :: st))) rfl rfl rfl
theorem s132_50 : ji_Ev C 132 50 M lv (p1 :: p0 :: .ref a :: st) o ↔ (ji_rcb M 2 (.ref a) = true ∧ ji_ok8 st) ∧ ji_evC (C 49 [.ref a, p0, p1] M) (fun v M' => ji_Ev C 132 53 M' lv (v.toList ++ st) o) := ev_inv (k := 132) rfl cd_8_140 rfl
theorem s132_53 : ji_Ev C 132 53 M lv (.int x :: st) o ↔ 5 < lv.length ∧ ji_Ev C 132 55 M (ji_s1 lv 5 (.int x)) st o := ev_stI rfl rfl rfl
theorem s132_55 : ji_Ev C 132 55 M (l0 :: l1 :: some (.int x) :: l) st o ↔ ji_Ev C 132 56 M (l0 :: l1 :: some (.int x) :: l) (.int x :: st) o := ev_go (S := (56, M, (l0 :: l1 :: some (.int x) :: l), (.int x :: st))) rfl rfl rfl
theorem s132_56 : ji_Ev C 132 56 M (l0 :: l1 :: l2 :: l3 :: l4 :: some (.int x) :: l) st o ↔ ji_Ev C 132 58 M (l0 :: l1 :: l2 :: l3 :: l4 :: some (.int x) :: l) (.int x :: st) o := ev_go (S := (58, M, (l0 :: l1 :: l2 :: l3 :: l4 :: some (.int x) :: l), (.int x :: st))) rfl rfl rfl
theorem s132_58 : ji_Ev C 132 58 M lv st o ↔ ji_Ev C 132 60 M lv (.int 100 :: st) o := ev_go (S := (60, M, lv, (.int 100 :: st))) rfl rfl rfl
theorem s132_60 : ji_Ev C 132 60 M lv (.int y :: .int x :: st) o ↔ ¬ y = 0 ∧ ji_Ev C 132 61 M lv (.int (x / y) :: st) o := ev_dvI rfl
theorem s132_61 : ji_Ev C 132 61 M lv (.int y :: .int x :: st) o ↔ ji_ok8 st ∧ ji_Ev C 132 64 M lv (.int (if x < y then y else x) :: st) o := ev_max (k := 132) rfl cd_8_244
theorem s132_64 : ji_Ev C 132 64 M lv (.int x :: st) o ↔ 2 < lv.length ∧ ji_Ev C 132 65 M (ji_s1 lv 2 (.int x)) st o := ev_stI rfl rfl rfl
theorem s132_65 : ji_Ev C 132 65 M (l0 :: l1 :: l2 :: some (.int x) :: l) st o ↔ ji_Ev C 132 66 M (l0 :: l1 :: l2 :: some (.int x) :: l) (.int x :: st) o := ev_go (S := (66, M, (l0 :: l1 :: l2 :: some (.int x) :: l), (.int x :: st))) rfl rfl rfl
theorem s132_66 : ji_Ev C 132 66 M lv (.int x :: st) o ↔ if x < 0 then ji_Ev C 132 69 M lv st o else ji_Ev C 132 77 M lv st o := ev_brz (c := .ge) rfl (by decide) rfl
theorem s132_69 : ji_Ev C 132 69 M (l0 :: l1 :: l2 :: l3 :: l4 :: some (.int x) :: l) st o ↔ ji_Ev C 132 71 M (l0 :: l1 :: l2 :: l3 :: l4 :: some (.int x) :: l) (.int x :: st) o := ev_go (S := (71, M, (l0 :: l1 :: l2 :: l3 :: l4 :: some (.int x) :: l), (.int x :: st))) rfl rfl rfl
theorem s132_71 : ji_Ev C 132 71 M lv st o ↔ ji_Ev C 132 73 M lv (.int 100 :: st) o := ev_go (S := (73, M, lv, (.int 100 :: st))) rfl rfl rfl
theorem s132_73 : ji_Ev C 132 73 M lv (.int y :: .int x :: st) o ↔ ¬ y = 0 ∧ ji_Ev C 132 74 M lv (.int (x - x / y * y) :: st) o := ev_dvR rfl
theorem s132_74 : ji_Ev C 132 74 M lv st o ↔ ji_Ev C 132 86 M lv st o := ev_gt rfl (by decide) rfl
theorem s132_77 : ji_Ev C 132 77 M (l0 :: l1 :: l2 :: some (.int x) :: l) st o ↔ ji_Ev C 132 78 M (l0 :: l1 :: l2 :: some (.int x) :: l) (.int x :: st) o := ev_go (S := (78, M, (l0 :: l1 :: l2 :: some (.int x) :: l), (.int x :: st))) rfl rfl rfl
theorem s132_78 : ji_Ev C 132 78 M (l0 :: l1 :: l2 :: l3 :: l4 :: some (.int x) :: l) st o ↔ ji_Ev C 132 80 M (l0 :: l1 :: l2 :: l3 :: l4 :: some (.int x) :: l) (.int x :: st) o := ev_go (S := (80, M, (l0 :: l1 :: l2 :: l3 :: l4 :: some (.int x) :: l), (.int x :: st))) rfl rfl rfl
theorem s132_80 : ji_Ev C 132 80 M lv st o ↔ ji_Ev C 132 82 M lv (.int 100 :: st) o := ev_go (S := (82, M, lv, (.int 100 :: st))) rfl rfl rfl
theorem s132_82 : ji_Ev C 132 82 M lv (.int y :: .int x :: st) o ↔ ¬ y = 0 ∧ ji_Ev C 132 83 M lv (.int (x - x / y * y) :: st) o := ev_dvR rfl
theorem s132_83 : ji_Ev C 132 83 M lv (.int y :: .int x :: st) o ↔ ji_ok8 st ∧ ji_Ev C 132 86 M lv (.int (if y < x then y else x) :: st) o := ev_min (k := 132) rfl cd_8_226
theorem s132_86 : ji_Ev C 132 86 M lv (.int x :: st) o ↔ 3 < lv.length ∧ ji_Ev C 132 87 M (ji_s1 lv 3 (.int x)) st o := ev_stI rfl rfl rfl
theorem s132_87 : ji_Ev C 132 87 M lv st o ↔ ji_evL (lv.getD 4 none) ji_isI (fun v => match v with | .int x => 4 < lv.length ∧ ji_Ev C 132 90 M (ji_s1 lv 4 (.int (x + Int32.ofInt 1))) st o | _ => False) := ev_iinc rfl
theorem s132_90 : ji_Ev C 132 90 M lv st o ↔ ji_Ev C 132 21 M lv st o := ev_gt rfl (by decide) rfl
theorem s132_93 : ji_Ev C 132 93 M (l0 :: l1 :: some (.int x) :: l) st o ↔ ji_Ev C 132 94 M (l0 :: l1 :: some (.int x) :: l) (.int x :: st) o := ev_go (S := (94, M, (l0 :: l1 :: some (.int x) :: l), (.int x :: st))) rfl rfl rfl
theorem s132_94 : ji_Ev C 132 94 M (l0 :: l1 :: l2 :: some (.int x) :: l) st o ↔ ji_Ev C 132 95 M (l0 :: l1 :: l2 :: some (.int x) :: l) (.int x :: st) o := ev_go (S := (95, M, (l0 :: l1 :: l2 :: some (.int x) :: l), (.int x :: st))) rfl rfl rfl
theorem s132_95 : ji_Ev C 132 95 M lv (.int y :: .int x :: st) o ↔ if y < x then ji_Ev C 132 98 M lv st o else ji_Ev C 132 102 M lv st o := ev_brc (c := .le) rfl (by decide) rfl
theorem s132_98 : ji_Ev C 132 98 M lv st o ↔ ji_Ev C 132 99 M lv (.int (-1) :: st) o := ev_go (S := (99, M, lv, (.int (-1) :: st))) rfl rfl rfl
theorem s132_99 : ji_Ev C 132 99 M lv st o ↔ ji_Ev C 132 108 M lv st o := ev_gt rfl (by decide) rfl
theorem s132_102 : ji_Ev C 132 102 M lv st o ↔ ji_Ev C 132 104 M lv (.int 100 :: st) o := ev_go (S := (104, M, lv, (.int 100 :: st))) rfl rfl rfl
theorem s132_104 : ji_Ev C 132 104 M (l0 :: l1 :: some (.int x) :: l) st o ↔ ji_Ev C 132 105 M (l0 :: l1 :: some (.int x) :: l) (.int x :: st) o := ev_go (S := (105, M, (l0 :: l1 :: some (.int x) :: l), (.int x :: st))) rfl rfl rfl
theorem s132_105 : ji_Ev C 132 105 M lv (.int y :: .int x :: st) o ↔ ji_Ev C 132 106 M lv (.int (x * y) :: st) o := ev_go (S := (106, M, lv, (.int (x * y) :: st))) rfl rfl rfl
theorem s132_106 : ji_Ev C 132 106 M (l0 :: l1 :: l2 :: some (.int x) :: l) st o ↔ ji_Ev C 132 107 M (l0 :: l1 :: l2 :: some (.int x) :: l) (.int x :: st) o := ev_go (S := (107, M, (l0 :: l1 :: l2 :: some (.int x) :: l), (.int x :: st))) rfl rfl rfl
theorem s132_107 : ji_Ev C 132 107 M lv (.int y :: .int x :: st) o ↔ ji_Ev C 132 108 M lv (.int (x + y) :: st) o := ev_go (S := (108, M, lv, (.int (x + y) :: st))) rfl rfl rfl
theorem s132_108 : ji_Ev C 132 108 M lv [.int x] o ↔ o = (some (.int x), M) := ev_ireti rfl rfl
theorem s133_0 : ji_Ev C 133 0 M (some (.ref a) :: l) st o ↔ ji_Ev C 133 1 M (some (.ref a) :: l) (.ref a :: st) o := ev_go (S := (1, M, (some (.ref a) :: l), (.ref a :: st))) rfl rfl rfl
theorem s133_1 : ji_Ev C 133 1 M lv (.ref a :: st) o ↔ ji_kd M a = some (0, 8) ∧ ji_Ev C 133 4 M lv (ji_rv (ji_gR M a 9) :: st) o := ev_getR (k := 133) rfl fd_8_58 rfl
theorem s133_4 : ji_Ev C 133 4 M (l0 :: l1 :: some (.int x) :: l) st o ↔ ji_Ev C 133 5 M (l0 :: l1 :: some (.int x) :: l) (.int x :: st) o := ev_go (S := (5, M, (l0 :: l1 :: some (.int x) :: l), (.int x :: st))) rfl rfl rfl
theorem s133_5 : ji_Ev C 133 5 M lv st o ↔ ji_Ev C 133 6 M lv (.int 0 :: st) o := ev_go (S := (6, M, lv, (.int 0 :: st))) rfl rfl rfl
theorem s133_6 : ji_Ev C 133 6 M lv (p1 :: p0 :: .ref a :: st) o ↔ (ji_rcb M 2 (.ref a) = true ∧ ji_ok8 st) ∧ ji_evC (C 49 [.ref a, p0, p1] M) (fun v M' => ji_Ev C 133 9 M' lv (v.toList ++ st) o) := ev_inv (k := 133) rfl cd_8_140 rfl
theorem s133_9 : ji_Ev C 133 9 M lv (.int x :: st) o ↔ 3 < lv.length ∧ ji_Ev C 133 10 M (ji_s1 lv 3 (.int x)) st o := ev_stI rfl rfl rfl
theorem s133_10 : ji_Ev C 133 10 M (some (.ref a) :: l) st o ↔ ji_Ev C 133 11 M (some (.ref a) :: l) (.ref a :: st) o := ev_go (S := (11, M, (some (.ref a) :: l), (.ref a :: st))) rfl rfl rfl
theorem s133_11 : ji_Ev C 133 11 M lv (.ref a :: st) o ↔ ji_kd M a = some (0, 8) ∧ ji_Ev C 133 14 M lv (ji_rv (ji_gR M a 10) :: st) o := ev_getR (k := 133) rfl fd_8_61 rfl
theorem s133_14 : ji_Ev C 133 14 M (l0 :: some (.int x) :: l) st o ↔ ji_Ev C 133 15 M (l0 :: some (.int x) :: l) (.int x :: st) o := ev_go (S := (15, M, (l0 :: some (.int x) :: l), (.int x :: st))) rfl rfl rfl
theorem s133_15 : ji_Ev C 133 15 M lv st o ↔ ji_Ev C 133 16 M lv (.int 1 :: st) o := ev_go (S := (16, M, lv, (.int 1 :: st))) rfl rfl rfl
theorem s133_16 : ji_Ev C 133 16 M lv (p1 :: p0 :: .ref a :: st) o ↔ (ji_rcb M 2 (.ref a) = true ∧ ji_ok8 st) ∧ ji_evC (C 49 [.ref a, p0, p1] M) (fun v M' => ji_Ev C 133 19 M' lv (v.toList ++ st) o) := ev_inv (k := 133) rfl cd_8_140 rfl
theorem s133_19 : ji_Ev C 133 19 M lv (.int x :: st) o ↔ 4 < lv.length ∧ ji_Ev C 133 21 M (ji_s1 lv 4 (.int x)) st o := ev_stI rfl rfl rfl
theorem s133_21 : ji_Ev C 133 21 M (some (.ref a) :: l) st o ↔ ji_Ev C 133 22 M (some (.ref a) :: l) (.ref a :: st) o := ev_go (S := (22, M, (some (.ref a) :: l), (.ref a :: st))) rfl rfl rfl
theorem s133_22 : ji_Ev C 133 22 M lv (.ref a :: st) o ↔ ji_kd M a = some (0, 8) ∧ ji_Ev C 133 25 M lv (ji_rv (ji_gR M a 10) :: st) o := ev_getR (k := 133) rfl fd_8_61 rfl
theorem s133_25 : ji_Ev C 133 25 M (l0 :: some (.int x) :: l) st o ↔ ji_Ev C 133 26 M (l0 :: some (.int x) :: l) (.int x :: st) o := ev_go (S := (26, M, (l0 :: some (.int x) :: l), (.int x :: st))) rfl rfl rfl
theorem s133_26 : ji_Ev C 133 26 M lv st o ↔ ji_Ev C 133 27 M lv (.int 0 :: st) o := ev_go (S := (27, M, lv, (.int 0 :: st))) rfl rfl rfl
theorem s133_27 : ji_Ev C 133 27 M lv (p1 :: p0 :: .ref a :: st) o ↔ (ji_rcb M 2 (.ref a) = true ∧ ji_ok8 st) ∧ ji_evC (C 49 [.ref a, p0, p1] M) (fun v M' => ji_Ev C 133 30 M' lv (v.toList ++ st) o) := ev_inv (k := 133) rfl cd_8_140 rfl
theorem s133_30 : ji_Ev C 133 30 M (some (.ref a) :: l) st o ↔ ji_Ev C 133 31 M (some (.ref a) :: l) (.ref a :: st) o := ev_go (S := (31, M, (some (.ref a) :: l), (.ref a :: st))) rfl rfl rfl
theorem s133_31 : ji_Ev C 133 31 M lv (.ref a :: st) o ↔ ji_kd M a = some (0, 8) ∧ ji_Ev C 133 34 M lv (ji_rv (ji_gR M a 9) :: st) o := ev_getR (k := 133) rfl fd_8_58 rfl
theorem s133_34 : ji_Ev C 133 34 M (l0 :: l1 :: some (.int x) :: l) st o ↔ ji_Ev C 133 35 M (l0 :: l1 :: some (.int x) :: l) (.int x :: st) o := ev_go (S := (35, M, (l0 :: l1 :: some (.int x) :: l), (.int x :: st))) rfl rfl rfl
theorem s133_35 : ji_Ev C 133 35 M lv st o ↔ ji_Ev C 133 36 M lv (.int 1 :: st) o := ev_go (S := (36, M, lv, (.int 1 :: st))) rfl rfl rfl
theorem s133_36 : ji_Ev C 133 36 M lv (p1 :: p0 :: .ref a :: st) o ↔ (ji_rcb M 2 (.ref a) = true ∧ ji_ok8 st) ∧ ji_evC (C 49 [.ref a, p0, p1] M) (fun v M' => ji_Ev C 133 39 M' lv (v.toList ++ st) o) := ev_inv (k := 133) rfl cd_8_140 rfl
theorem s133_39 : ji_Ev C 133 39 M lv (.int y :: .int x :: st) o ↔ if x = y then ji_Ev C 133 42 M lv st o else ji_Ev C 133 66 M lv st o := ev_brc (c := .ne) rfl (by decide) rfl
theorem s133_42 : ji_Ev C 133 42 M (l0 :: l1 :: l2 :: l3 :: some (.int x) :: l) st o ↔ ji_Ev C 133 44 M (l0 :: l1 :: l2 :: l3 :: some (.int x) :: l) (.int x :: st) o := ev_go (S := (44, M, (l0 :: l1 :: l2 :: l3 :: some (.int x) :: l), (.int x :: st))) rfl rfl rfl
theorem s133_44 : ji_Ev C 133 44 M lv st o ↔ ji_Ev C 133 47 M lv (.int 1000 :: st) o := ev_go (S := (47, M, lv, (.int 1000 :: st))) rfl rfl rfl
theorem s133_47 : ji_Ev C 133 47 M lv (.int y :: .int x :: st) o ↔ ¬ y = 0 ∧ ji_Ev C 133 48 M lv (.int (x / y) :: st) o := ev_dvI rfl
theorem s133_48 : ji_Ev C 133 48 M (l0 :: l1 :: l2 :: some (.int x) :: l) st o ↔ ji_Ev C 133 49 M (l0 :: l1 :: l2 :: some (.int x) :: l) (.int x :: st) o := ev_go (S := (49, M, (l0 :: l1 :: l2 :: some (.int x) :: l), (.int x :: st))) rfl rfl rfl
theorem s133_49 : ji_Ev C 133 49 M lv (.int y :: .int x :: st) o ↔ if y < x then ji_Ev C 133 66 M lv st o else ji_Ev C 133 52 M lv st o := ev_brc (c := .gt) rfl (by decide) rfl
theorem s133_52 : ji_Ev C 133 52 M (l0 :: l1 :: l2 :: some (.int x) :: l) st o ↔ ji_Ev C 133 53 M (l0 :: l1 :: l2 :: some (.int x) :: l) (.int x :: st) o := ev_go (S := (53, M, (l0 :: l1 :: l2 :: some (.int x) :: l), (.int x :: st))) rfl rfl rfl
theorem s133_53 : ji_Ev C 133 53 M (l0 :: l1 :: l2 :: l3 :: some (.int x) :: l) st o ↔ ji_Ev C 133 55 M (l0 :: l1 :: l2 :: l3 :: some (.int x) :: l) (.int x :: st) o := ev_go (S := (55, M, (l0 :: l1 :: l2 :: l3 :: some (.int x) :: l), (.int x :: st))) rfl rfl rfl
theorem s133_55 : ji_Ev C 133 55 M lv st o ↔ ji_Ev C 133 58 M lv (.int 1000 :: st) o := ev_go (S := (58, M, lv, (.int 1000 :: st))) rfl rfl rfl
theorem s133_58 : ji_Ev C 133 58 M lv (.int y :: .int x :: st) o ↔ ¬ y = 0 ∧ ji_Ev C 133 59 M lv (.int (x - x / y * y) :: st) o := ev_dvR rfl
theorem s133_59 : ji_Ev C 133 59 M lv (.int y :: .int x :: st) o ↔ if x < y then ji_Ev C 133 62 M lv st o else ji_Ev C 133 66 M lv st o := ev_brc (c := .ge) rfl (by decide) rfl
theorem s133_62 : ji_Ev C 133 62 M lv st o ↔ ji_Ev C 133 63 M lv (.int 1 :: st) o := ev_go (S := (63, M, lv, (.int 1 :: st))) rfl rfl rfl
theorem s133_63 : ji_Ev C 133 63 M lv st o ↔ ji_Ev C 133 67 M lv st o := ev_gt rfl (by decide) rfl
theorem s133_66 : ji_Ev C 133 66 M lv st o ↔ ji_Ev C 133 67 M lv (.int 0 :: st) o := ev_go (S := (67, M, lv, (.int 0 :: st))) rfl rfl rfl
theorem s133_67 : ji_Ev C 133 67 M lv [.int x] o ↔ narrow .boolean (.int x) = .int x ∧ o = (some (.int x), M) := ev_iretb rfl rfl
theorem s134_0 : ji_Ev C 134 0 M (l0 :: some (.int x) :: l) st o ↔ ji_Ev C 134 1 M (l0 :: some (.int x) :: l) (.int x :: st) o := ev_go (S := (1, M, (l0 :: some (.int x) :: l), (.int x :: st))) rfl rfl rfl
theorem s134_1 : ji_Ev C 134 1 M lv st o ↔ ji_Ev C 134 2 M lv (.int 1 :: st) o := ev_go (S := (2, M, lv, (.int 1 :: st))) rfl rfl rfl
theorem s134_2 : ji_Ev C 134 2 M lv st o ↔ ji_Ev C 134 5 M lv (.int 999 :: st) o := ev_go (S := (5, M, lv, (.int 999 :: st))) rfl rfl rfl
theorem s134_5 : ji_Ev C 134 5 M lv (p2 :: p1 :: p0 :: st) o ↔ ji_ok8 st ∧ ji_evC (C 43 [p0, p1, p2] M) (fun v M' => ji_Ev C 134 8 M' lv (v.toList ++ st) o) := ev_sta (k := 134) (a := [p2, p1, p0]) rfl (Or.inl cd_8_89) rfl
theorem s134_8 : ji_Ev C 134 8 M lv (.int x :: st) o ↔ if x = 0 then ji_Ev C 134 22 M lv st o else ji_Ev C 134 11 M lv st o := ev_brz (c := .eq) rfl (by decide) rfl
theorem s134_11 : ji_Ev C 134 11 M (l0 :: l1 :: some (.int x) :: l) st o ↔ ji_Ev C 134 12 M (l0 :: l1 :: some (.int x) :: l) (.int x :: st) o := ev_go (S := (12, M, (l0 :: l1 :: some (.int x) :: l), (.int x :: st))) rfl rfl rfl
theorem s134_12 : ji_Ev C 134 12 M lv st o ↔ ji_Ev C 134 13 M lv (.int 0 :: st) o := ev_go (S := (13, M, lv, (.int 0 :: st))) rfl rfl rfl
theorem s134_13 : ji_Ev C 134 13 M lv st o ↔ ji_Ev C 134 16 M lv (.int 999 :: st) o := ev_go (S := (16, M, lv, (.int 999 :: st))) rfl rfl rfl
theorem s134_16 : ji_Ev C 134 16 M lv (p2 :: p1 :: p0 :: st) o ↔ ji_ok8 st ∧ ji_evC (C 43 [p0, p1, p2] M) (fun v M' => ji_Ev C 134 19 M' lv (v.toList ++ st) o) := ev_sta (k := 134) (a := [p2, p1, p0]) rfl (Or.inl cd_8_89) rfl
theorem s134_19 : ji_Ev C 134 19 M lv (.int x :: st) o ↔ if x = 0 then ji_Ev C 134 22 M lv st o else ji_Ev C 134 25 M lv st o := ev_brz (c := .ne) rfl (by decide) rfl
theorem s134_22 : ji_Ev C 134 22 M lv st o ↔ ji_Ev C 134 24 M lv (.int (-2) :: st) o := ev_go (S := (24, M, lv, (.int (-2) :: st))) rfl rfl rfl
theorem s134_24 : ji_Ev C 134 24 M lv [.int x] o ↔ o = (some (.int x), M) := ev_ireti rfl rfl
theorem s134_25 : ji_Ev C 134 25 M (some (.ref a) :: l) st o ↔ ji_Ev C 134 26 M (some (.ref a) :: l) (.ref a :: st) o := ev_go (S := (26, M, (some (.ref a) :: l), (.ref a :: st))) rfl rfl rfl
theorem s134_26 : ji_Ev C 134 26 M lv (.ref a :: st) o ↔ ji_kd M a = some (0, 8) ∧ ji_Ev C 134 29 M lv (ji_rv (ji_gR M a 11) :: st) o := ev_getR (k := 134) rfl fd_8_64 rfl
theorem s134_29 : ji_Ev C 134 29 M lv (.ref a :: st) o ↔ (ji_rcb M 2 (.ref a) = true ∧ ji_ok8 st) ∧ ji_evC (C 61 [.ref a] M) (fun v M' => ji_Ev C 134 32 M' lv (v.toList ++ st) o) := ev_inv (k := 134) rfl cd_8_114 rfl
theorem s134_32 : ji_Ev C 134 32 M lv (.int x :: st) o ↔ if x = 0 then ji_Ev C 134 40 M lv st o else ji_Ev C 134 35 M lv st o := ev_brz (c := .eq) rfl (by decide) rfl
theorem s134_35 : ji_Ev C 134 35 M lv st o ↔ ji_Ev C 134 37 M lv (.int (-4) :: st) o := ev_go (S := (37, M, lv, (.int (-4) :: st))) rfl rfl rfl
theorem s134_37 : ji_Ev C 134 37 M lv st o ↔ ji_Ev C 134 51 M lv st o := ev_gt rfl (by decide) rfl
theorem s134_40 : ji_Ev C 134 40 M (some (.ref a) :: l) st o ↔ ji_Ev C 134 41 M (some (.ref a) :: l) (.ref a :: st) o := ev_go (S := (41, M, (some (.ref a) :: l), (.ref a :: st))) rfl rfl rfl
theorem s134_41 : ji_Ev C 134 41 M lv (.ref a :: st) o ↔ ji_kd M a = some (0, 8) ∧ ji_Ev C 134 44 M lv (ji_rv (ji_gR M a 11) :: st) o := ev_getR (k := 134) rfl fd_8_64 rfl
theorem s134_44 : ji_Ev C 134 44 M (l0 :: some (.int x) :: l) st o ↔ ji_Ev C 134 45 M (l0 :: some (.int x) :: l) (.int x :: st) o := ev_go (S := (45, M, (l0 :: some (.int x) :: l), (.int x :: st))) rfl rfl rfl
theorem s134_45 : ji_Ev C 134 45 M (l0 :: l1 :: some (.int x) :: l) st o ↔ ji_Ev C 134 46 M (l0 :: l1 :: some (.int x) :: l) (.int x :: st) o := ev_go (S := (46, M, (l0 :: l1 :: some (.int x) :: l), (.int x :: st))) rfl rfl rfl
theorem s134_46 : ji_Ev C 134 46 M lv st o ↔ ji_Ev C 134 47 M lv (.int 0 :: st) o := ev_go (S := (47, M, lv, (.int 0 :: st))) rfl rfl rfl
theorem s134_47 : ji_Ev C 134 47 M lv st o ↔ ji_Ev C 134 48 M lv (.int 0 :: st) o := ev_go (S := (48, M, lv, (.int 0 :: st))) rfl rfl rfl
theorem s134_48 : ji_Ev C 134 48 M lv (p3 :: p2 :: p1 :: p0 :: .ref a :: st) o ↔ (ji_rcb M 2 (.ref a) = true ∧ ji_ok8 st) ∧ ji_evC (C 63 [.ref a, p0, p1, p2, p3] M) (fun v M' => ji_Ev C 134 51 M' lv (v.toList ++ st) o) := ev_inv (k := 134) rfl cd_8_195 rfl
theorem s134_51 : ji_Ev C 134 51 M lv [.int x] o ↔ o = (some (.int x), M) := ev_ireti rfl rfl
theorem s135_0 : ji_Ev C 135 0 M (l0 :: some (.int x) :: l) st o ↔ ji_Ev C 135 1 M (l0 :: some (.int x) :: l) (.int x :: st) o := ev_go (S := (1, M, (l0 :: some (.int x) :: l), (.int x :: st))) rfl rfl rfl
theorem s135_1 : ji_Ev C 135 1 M lv st o ↔ ji_Ev C 135 2 M lv (.int 1 :: st) o := ev_go (S := (2, M, lv, (.int 1 :: st))) rfl rfl rfl
theorem s135_2 : ji_Ev C 135 2 M lv st o ↔ ji_Ev C 135 3 M lv (.int 4 :: st) o := ev_go (S := (3, M, lv, (.int 4 :: st))) rfl rfl rfl
theorem s135_3 : ji_Ev C 135 3 M lv (p2 :: p1 :: p0 :: st) o ↔ ji_ok8 st ∧ ji_evC (C 43 [p0, p1, p2] M) (fun v M' => ji_Ev C 135 6 M' lv (v.toList ++ st) o) := ev_sta (k := 135) (a := [p2, p1, p0]) rfl (Or.inl cd_8_89) rfl
theorem s135_6 : ji_Ev C 135 6 M lv (.int x :: st) o ↔ if x = 0 then ji_Ev C 135 20 M lv st o else ji_Ev C 135 9 M lv st o := ev_brz (c := .eq) rfl (by decide) rfl
theorem s135_9 : ji_Ev C 135 9 M (l0 :: l1 :: some (.int x) :: l) st o ↔ ji_Ev C 135 10 M (l0 :: l1 :: some (.int x) :: l) (.int x :: st) o := ev_go (S := (10, M, (l0 :: l1 :: some (.int x) :: l), (.int x :: st))) rfl rfl rfl
theorem s135_10 : ji_Ev C 135 10 M lv st o ↔ ji_Ev C 135 11 M lv (.int 0 :: st) o := ev_go (S := (11, M, lv, (.int 0 :: st))) rfl rfl rfl
theorem s135_11 : ji_Ev C 135 11 M lv st o ↔ ji_Ev C 135 14 M lv (.int 9999 :: st) o := ev_go (S := (14, M, lv, (.int 9999 :: st))) rfl rfl rfl
theorem s135_14 : ji_Ev C 135 14 M lv (p2 :: p1 :: p0 :: st) o ↔ ji_ok8 st ∧ ji_evC (C 43 [p0, p1, p2] M) (fun v M' => ji_Ev C 135 17 M' lv (v.toList ++ st) o) := ev_sta (k := 135) (a := [p2, p1, p0]) rfl (Or.inl cd_8_89) rfl
theorem s135_17 : ji_Ev C 135 17 M lv (.int x :: st) o ↔ if x = 0 then ji_Ev C 135 20 M lv st o else ji_Ev C 135 23 M lv st o := ev_brz (c := .ne) rfl (by decide) rfl
theorem s135_20 : ji_Ev C 135 20 M lv st o ↔ ji_Ev C 135 22 M lv (.int (-2) :: st) o := ev_go (S := (22, M, lv, (.int (-2) :: st))) rfl rfl rfl
theorem s135_22 : ji_Ev C 135 22 M lv [.int x] o ↔ o = (some (.int x), M) := ev_ireti rfl rfl
theorem s135_23 : ji_Ev C 135 23 M (l0 :: l1 :: l2 :: some (.int x) :: l) st o ↔ ji_Ev C 135 24 M (l0 :: l1 :: l2 :: some (.int x) :: l) (.int x :: st) o := ev_go (S := (24, M, (l0 :: l1 :: l2 :: some (.int x) :: l), (.int x :: st))) rfl rfl rfl
theorem s135_24 : ji_Ev C 135 24 M lv st o ↔ ji_Ev C 135 26 M lv (.int (-2) :: st) o := ev_go (S := (26, M, lv, (.int (-2) :: st))) rfl rfl rfl
theorem s135_26 : ji_Ev C 135 26 M (some (.ref a) :: l) st o ↔ ji_Ev C 135 27 M (some (.ref a) :: l) (.ref a :: st) o := ev_go (S := (27, M, (some (.ref a) :: l), (.ref a :: st))) rfl rfl rfl
theorem s135_27 : ji_Ev C 135 27 M lv (.ref a :: st) o ↔ ji_kd M a = some (0, 8) ∧ ji_Ev C 135 30 M lv (ji_rv (ji_gR M a 11) :: st) o := ev_getR (k := 135) rfl fd_8_64 rfl
theorem s135_30 : ji_Ev C 135 30 M lv (.ref a :: st) o ↔ (ji_rcb M 2 (.ref a) = true ∧ ji_ok8 st) ∧ ji_evC (C 47 [.ref a] M) (fun v M' => ji_Ev C 135 33 M' lv (v.toList ++ st) o) := ev_inv (k := 135) rfl cd_8_202 rfl
theorem s135_33 : ji_Ev C 135 33 M lv st o ↔ ji_Ev C 135 34 M lv (.int 1 :: st) o := ev_go (S := (34, M, lv, (.int 1 :: st))) rfl rfl rfl
theorem s135_34 : ji_Ev C 135 34 M lv (.int y :: .int x :: st) o ↔ ji_Ev C 135 35 M lv (.int (x - y) :: st) o := ev_go (S := (35, M, lv, (.int (x - y) :: st))) rfl rfl rfl
theorem s135_35 : ji_Ev C 135 35 M lv (p2 :: p1 :: p0 :: st) o ↔ ji_ok8 st ∧ ji_evC (C 43 [p0, p1, p2] M) (fun v M' => ji_Ev C 135 38 M' lv (v.toList ++ st) o) := ev_sta (k := 135) (a := [p2, p1, p0]) rfl (Or.inl cd_8_89) rfl
theorem s135_38 : ji_Ev C 135 38 M lv (.int x :: st) o ↔ if x = 0 then ji_Ev C 135 41 M lv st o else ji_Ev C 135 43 M lv st o := ev_brz (c := .ne) rfl (by decide) rfl
theorem s135_41 : ji_Ev C 135 41 M lv st o ↔ ji_Ev C 135 42 M lv (.int (-1) :: st) o := ev_go (S := (42, M, lv, (.int (-1) :: st))) rfl rfl rfl
theorem s135_42 : ji_Ev C 135 42 M lv [.int x] o ↔ o = (some (.int x), M) := ev_ireti rfl rfl
theorem s135_43 : ji_Ev C 135 43 M (some (.ref a) :: l) st o ↔ ji_Ev C 135 44 M (some (.ref a) :: l) (.ref a :: st) o := ev_go (S := (44, M, (some (.ref a) :: l), (.ref a :: st))) rfl rfl rfl
theorem s135_44 : ji_Ev C 135 44 M lv (.ref a :: st) o ↔ ji_kd M a = some (0, 8) ∧ ji_Ev C 135 47 M lv (ji_rv (ji_gR M a 12) :: st) o := ev_getR (k := 135) rfl fd_8_70 rfl
theorem s135_47 : ji_Ev C 135 47 M (some (.ref a) :: l) st o ↔ ji_Ev C 135 48 M (some (.ref a) :: l) (.ref a :: st) o := ev_go (S := (48, M, (some (.ref a) :: l), (.ref a :: st))) rfl rfl rfl
theorem s135_48 : ji_Ev C 135 48 M lv (.ref a :: st) o ↔ ji_kd M a = some (0, 8) ∧ ji_Ev C 135 51 M lv (ji_rv (ji_gR M a 11) :: st) o := ev_getR (k := 135) rfl fd_8_64 rfl
theorem s135_51 : ji_Ev C 135 51 M (l0 :: some (.int x) :: l) st o ↔ ji_Ev C 135 52 M (l0 :: some (.int x) :: l) (.int x :: st) o := ev_go (S := (52, M, (l0 :: some (.int x) :: l), (.int x :: st))) rfl rfl rfl
theorem s135_52 : ji_Ev C 135 52 M (l0 :: l1 :: some (.int x) :: l) st o ↔ ji_Ev C 135 53 M (l0 :: l1 :: some (.int x) :: l) (.int x :: st) o := ev_go (S := (53, M, (l0 :: l1 :: some (.int x) :: l), (.int x :: st))) rfl rfl rfl
theorem s135_53 : ji_Ev C 135 53 M lv (p2 :: p1 :: p0 :: .ref a :: st) o ↔ (ji_rcb M 7 (.ref a) = true ∧ ji_ok8 st) ∧ ji_evC (C 136 [.ref a, p0, p1, p2] M) (fun v M' => ji_Ev C 135 56 M' lv (v.toList ++ st) o) := ev_inv (k := 135) rfl cd_8_253 rfl
theorem s135_56 : ji_Ev C 135 56 M (l0 :: l1 :: l2 :: some (.int x) :: l) st o ↔ ji_Ev C 135 57 M (l0 :: l1 :: l2 :: some (.int x) :: l) (.int x :: st) o := ev_go (S := (57, M, (l0 :: l1 :: l2 :: some (.int x) :: l), (.int x :: st))) rfl rfl rfl
theorem s135_57 : ji_Ev C 135 57 M lv (.int x :: st) o ↔ if x = (-2) then ji_Ev C 135 92 M lv st o else if x = (-1) then ji_Ev C 135 84 M lv st o else ji_Ev C 135 100 M lv st o := by
  refine (ev_swL rfl (by decide)).trans ?_
  show ji_Ev C 135 ((57 : Int) + (if x = (-2) then 35 else if x = (-1) then 27 else 43)).toNat M lv st o ↔ _
  by_cases h0 : x = (-2)
  · rw [if_pos h0, if_pos h0]; exact Iff.rfl
  rw [if_neg h0, if_neg h0]
  by_cases h1 : x = (-1)
  · rw [if_pos h1, if_pos h1]; exact Iff.rfl
  rw [if_neg h1, if_neg h1]
  exact Iff.rfl
theorem s135_84 : ji_Ev C 135 84 M (some (.ref a) :: l) st o ↔ ji_Ev C 135 85 M (some (.ref a) :: l) (.ref a :: st) o := ev_go (S := (85, M, (some (.ref a) :: l), (.ref a :: st))) rfl rfl rfl
theorem s135_85 : ji_Ev C 135 85 M lv (.ref a :: st) o ↔ ji_kd M a = some (0, 8) ∧ ji_Ev C 135 88 M lv (ji_rv (ji_gR M a 12) :: st) o := ev_getR (k := 135) rfl fd_8_70 rfl
theorem s135_88 : ji_Ev C 135 88 M lv (.ref a :: st) o ↔ ji_kd M a = some (0, 7) ∧ ji_Ev C 135 91 M lv (.int (ji_gI M a 6) :: st) o := ev_getI (k := 135) rfl fd_8_256 rfl
theorem s135_91 : ji_Ev C 135 91 M lv [.int x] o ↔ o = (some (.int x), M) := ev_ireti rfl rfl
theorem s135_92 : ji_Ev C 135 92 M (some (.ref a) :: l) st o ↔ ji_Ev C 135 93 M (some (.ref a) :: l) (.ref a :: st) o := ev_go (S := (93, M, (some (.ref a) :: l), (.ref a :: st))) rfl rfl rfl
theorem s135_93 : ji_Ev C 135 93 M lv (.ref a :: st) o ↔ ji_kd M a = some (0, 8) ∧ ji_Ev C 135 96 M lv (ji_rv (ji_gR M a 12) :: st) o := ev_getR (k := 135) rfl fd_8_70 rfl
theorem s135_96 : ji_Ev C 135 96 M lv (.ref a :: st) o ↔ ji_kd M a = some (0, 7) ∧ ji_Ev C 135 99 M lv (.int (ji_gI M a 7) :: st) o := ev_getI (k := 135) rfl fd_8_259 rfl
theorem s135_99 : ji_Ev C 135 99 M lv [.int x] o ↔ o = (some (.int x), M) := ev_ireti rfl rfl
theorem s135_100 : ji_Ev C 135 100 M (some (.ref a) :: l) st o ↔ ji_Ev C 135 101 M (some (.ref a) :: l) (.ref a :: st) o := ev_go (S := (101, M, (some (.ref a) :: l), (.ref a :: st))) rfl rfl rfl
theorem s135_101 : ji_Ev C 135 101 M lv (.ref a :: st) o ↔ ji_kd M a = some (0, 8) ∧ ji_Ev C 135 104 M lv (ji_rv (ji_gR M a 12) :: st) o := ev_getR (k := 135) rfl fd_8_70 rfl
theorem s135_104 : ji_Ev C 135 104 M (l0 :: l1 :: l2 :: some (.int x) :: l) st o ↔ ji_Ev C 135 105 M (l0 :: l1 :: l2 :: some (.int x) :: l) (.int x :: st) o := ev_go (S := (105, M, (l0 :: l1 :: l2 :: some (.int x) :: l), (.int x :: st))) rfl rfl rfl
theorem s135_105 : ji_Ev C 135 105 M lv (p0 :: .ref a :: st) o ↔ (ji_rcb M 7 (.ref a) = true ∧ ji_ok8 st) ∧ ji_evC (C 140 [.ref a, p0] M) (fun v M' => ji_Ev C 135 108 M' lv (v.toList ++ st) o) := ev_inv (k := 135) rfl cd_8_262 rfl
theorem s135_108 : ji_Ev C 135 108 M lv [.int x] o ↔ o = (some (.int x), M) := ev_ireti rfl rfl
theorem s136_0 : ji_Ev C 136 0 M (some (.ref a) :: l) st o ↔ ji_Ev C 136 1 M (some (.ref a) :: l) (.ref a :: st) o := ev_go (S := (1, M, (some (.ref a) :: l), (.ref a :: st))) rfl rfl rfl
theorem s136_1 : ji_Ev C 136 1 M (l0 :: some (.ref a) :: l) st o ↔ ji_Ev C 136 2 M (l0 :: some (.ref a) :: l) (.ref a :: st) o := ev_go (S := (2, M, (l0 :: some (.ref a) :: l), (.ref a :: st))) rfl rfl rfl
theorem s136_2 : ji_Ev C 136 2 M lv (.ref b :: .ref a :: st) o ↔ ji_kd M a = some (0, 7) ∧ ji_Ev C 136 5 (ji_sR M a 3 (some b)) lv st o := ev_putR (k := 136) rfl fd_7_21 rfl (by decide)
theorem s136_5 : ji_Ev C 136 5 M (some (.ref a) :: l) st o ↔ ji_Ev C 136 6 M (some (.ref a) :: l) (.ref a :: st) o := ev_go (S := (6, M, (some (.ref a) :: l), (.ref a :: st))) rfl rfl rfl
theorem s136_6 : ji_Ev C 136 6 M lv st o ↔ ji_Ev C 136 7 M lv (.int 4 :: st) o := ev_go (S := (7, M, lv, (.int 4 :: st))) rfl rfl rfl
theorem s136_7 : ji_Ev C 136 7 M (l0 :: l1 :: some (.int x) :: l) st o ↔ ji_Ev C 136 8 M (l0 :: l1 :: some (.int x) :: l) (.int x :: st) o := ev_go (S := (8, M, (l0 :: l1 :: some (.int x) :: l), (.int x :: st))) rfl rfl rfl
theorem s136_8 : ji_Ev C 136 8 M lv (.int y :: .int x :: st) o ↔ ji_ok8 st ∧ ji_Ev C 136 11 M lv (.int (if y < x then y else x) :: st) o := ev_min (k := 136) rfl cd_7_25
theorem s136_11 : ji_Ev C 136 11 M lv (.int x :: .ref a :: st) o ↔ ji_kd M a = some (0, 7) ∧ ji_Ev C 136 14 (ji_sI M a 4 x) lv st o := ev_putI (k := 136) rfl fd_7_31 rfl (by decide)
theorem s136_14 : ji_Ev C 136 14 M (some (.ref a) :: l) st o ↔ ji_Ev C 136 15 M (some (.ref a) :: l) (.ref a :: st) o := ev_go (S := (15, M, (some (.ref a) :: l), (.ref a :: st))) rfl rfl rfl
theorem s136_15 : ji_Ev C 136 15 M (l0 :: l1 :: l2 :: some (.int x) :: l) st o ↔ ji_Ev C 136 16 M (l0 :: l1 :: l2 :: some (.int x) :: l) (.int x :: st) o := ev_go (S := (16, M, (l0 :: l1 :: l2 :: some (.int x) :: l), (.int x :: st))) rfl rfl rfl
theorem s136_16 : ji_Ev C 136 16 M lv (.int x :: .ref a :: st) o ↔ ji_kd M a = some (0, 7) ∧ ji_Ev C 136 19 (ji_sI M a 5 x) lv st o := ev_putI (k := 136) rfl fd_7_35 rfl (by decide)
theorem s136_19 : ji_Ev C 136 19 M (some (.ref a) :: l) st o ↔ ji_Ev C 136 20 M (some (.ref a) :: l) (.ref a :: st) o := ev_go (S := (20, M, (some (.ref a) :: l), (.ref a :: st))) rfl rfl rfl
theorem s136_20 : ji_Ev C 136 20 M lv st o ↔ ji_Ev C 136 21 M lv (.int (-1) :: st) o := ev_go (S := (21, M, lv, (.int (-1) :: st))) rfl rfl rfl
theorem s136_21 : ji_Ev C 136 21 M lv (.int x :: .ref a :: st) o ↔ ji_kd M a = some (0, 7) ∧ ji_Ev C 136 24 (ji_sI M a 6 x) lv st o := ev_putI (k := 136) rfl fd_7_38 rfl (by decide)
theorem s136_24 : ji_Ev C 136 24 M (some (.ref a) :: l) st o ↔ ji_Ev C 136 25 M (some (.ref a) :: l) (.ref a :: st) o := ev_go (S := (25, M, (some (.ref a) :: l), (.ref a :: st))) rfl rfl rfl
theorem s136_25 : ji_Ev C 136 25 M lv st o ↔ ji_Ev C 136 26 M lv (.int 0 :: st) o := ev_go (S := (26, M, lv, (.int 0 :: st))) rfl rfl rfl
theorem s136_26 : ji_Ev C 136 26 M lv (.int x :: .ref a :: st) o ↔ ji_kd M a = some (0, 7) ∧ ji_Ev C 136 29 (ji_sI M a 7 x) lv st o := ev_putI (k := 136) rfl fd_7_41 rfl (by decide)
theorem s136_29 : ji_Ev C 136 29 M (some (.ref a) :: l) st o ↔ ji_Ev C 136 30 M (some (.ref a) :: l) (.ref a :: st) o := ev_go (S := (30, M, (some (.ref a) :: l), (.ref a :: st))) rfl rfl rfl
theorem s136_30 : ji_Ev C 136 30 M lv (.ref a :: st) o ↔ ji_kd M a = some (0, 7) ∧ ji_Ev C 136 33 M lv (ji_rv (ji_gR M a 0) :: st) o := ev_getR (k := 136) rfl fd_7_11 rfl
theorem s136_33 : ji_Ev C 136 33 M lv st o ↔ ji_Ev C 136 34 M lv (.int 0 :: st) o := ev_go (S := (34, M, lv, (.int 0 :: st))) rfl rfl rfl
theorem s136_34 : ji_Ev C 136 34 M lv (p1 :: p0 :: st) o ↔ ji_ok8 st ∧ ji_evC (C 120 [p0, p1] M) (fun v M' => ji_Ev C 136 37 M' lv (v.toList ++ st) o) := ev_sta (k := 136) (a := [p1, p0]) rfl (Or.inl cd_7_44) rfl
theorem s136_37 : ji_Ev C 136 37 M (some (.ref a) :: l) st o ↔ ji_Ev C 136 38 M (some (.ref a) :: l) (.ref a :: st) o := ev_go (S := (38, M, (some (.ref a) :: l), (.ref a :: st))) rfl rfl rfl
theorem s136_38 : ji_Ev C 136 38 M lv st o ↔ ji_Ev C 136 39 M lv (.int 0 :: st) o := ev_go (S := (39, M, lv, (.int 0 :: st))) rfl rfl rfl
theorem s136_39 : ji_Ev C 136 39 M lv st o ↔ ji_Ev C 136 40 M lv (.int 0 :: st) o := ev_go (S := (40, M, lv, (.int 0 :: st))) rfl rfl rfl
theorem s136_40 : ji_Ev C 136 40 M lv st o ↔ ji_Ev C 136 41 M lv (.int 0 :: st) o := ev_go (S := (41, M, lv, (.int 0 :: st))) rfl rfl rfl
theorem s136_41 : ji_Ev C 136 41 M lv (p3 :: p2 :: p1 :: p0 :: st) o ↔ ji_ok8 st ∧ ji_evC (C 137 [p0, p1, p2, p3] M) (fun v M' => ji_Ev C 136 44 M' lv (v.toList ++ st) o) := ev_sta (k := 136) (a := [p3, p2, p1, p0]) rfl (Or.inl cd_7_50) rfl
theorem s136_44 : ji_Ev C 136 44 M lv [] o ↔ o = (none, M) := ev_vret rfl rfl
theorem s137_0 : ji_Ev C 137 0 M (l0 :: some (.int x) :: l) st o ↔ ji_Ev C 137 1 M (l0 :: some (.int x) :: l) (.int x :: st) o := ev_go (S := (1, M, (l0 :: some (.int x) :: l), (.int x :: st))) rfl rfl rfl
theorem s137_1 : ji_Ev C 137 1 M (some (.ref a) :: l) st o ↔ ji_Ev C 137 2 M (some (.ref a) :: l) (.ref a :: st) o := ev_go (S := (2, M, (some (.ref a) :: l), (.ref a :: st))) rfl rfl rfl
theorem s137_2 : ji_Ev C 137 2 M lv (.ref a :: st) o ↔ ji_kd M a = some (0, 7) ∧ ji_Ev C 137 5 M lv (ji_rv (ji_gR M a 3) :: st) o := ev_getR (k := 137) rfl fd_7_21 rfl
theorem s137_5 : ji_Ev C 137 5 M lv (.ref a :: st) o ↔ (ji_rcb M 2 (.ref a) = true ∧ ji_ok8 st) ∧ ji_evC (C 47 [.ref a] M) (fun v M' => ji_Ev C 137 8 M' lv (v.toList ++ st) o) := ev_inv (k := 137) rfl cd_7_54 rfl
theorem s137_8 : ji_Ev C 137 8 M lv (.int y :: .int x :: st) o ↔ if x < y then ji_Ev C 137 11 M lv st o else ji_Ev C 137 17 M lv st o := ev_brc (c := .ge) rfl (by decide) rfl
theorem s137_11 : ji_Ev C 137 11 M (l0 :: some (.int x) :: l) st o ↔ ji_Ev C 137 12 M (l0 :: some (.int x) :: l) (.int x :: st) o := ev_go (S := (12, M, (l0 :: some (.int x) :: l), (.int x :: st))) rfl rfl rfl
theorem s137_12 : ji_Ev C 137 12 M lv st o ↔ ji_Ev C 137 14 M lv (.int 6 :: st) o := ev_go (S := (14, M, lv, (.int 6 :: st))) rfl rfl rfl
theorem s137_14 : ji_Ev C 137 14 M lv (.int y :: .int x :: st) o ↔ if x < y then ji_Ev C 137 24 M lv st o else ji_Ev C 137 17 M lv st o := ev_brc (c := .lt) rfl (by decide) rfl
theorem s137_17 : ji_Ev C 137 17 M (some (.ref a) :: l) st o ↔ ji_Ev C 137 18 M (some (.ref a) :: l) (.ref a :: st) o := ev_go (S := (18, M, (some (.ref a) :: l), (.ref a :: st))) rfl rfl rfl
theorem s137_18 : ji_Ev C 137 18 M (l0 :: l1 :: some (.int x) :: l) st o ↔ ji_Ev C 137 19 M (l0 :: l1 :: some (.int x) :: l) (.int x :: st) o := ev_go (S := (19, M, (l0 :: l1 :: some (.int x) :: l), (.int x :: st))) rfl rfl rfl
theorem s137_19 : ji_Ev C 137 19 M (l0 :: l1 :: l2 :: some (.int x) :: l) st o ↔ ji_Ev C 137 20 M (l0 :: l1 :: l2 :: some (.int x) :: l) (.int x :: st) o := ev_go (S := (20, M, (l0 :: l1 :: l2 :: some (.int x) :: l), (.int x :: st))) rfl rfl rfl
theorem s137_20 : ji_Ev C 137 20 M lv (p1 :: p0 :: .ref a :: st) o ↔ (ji_rcb M 7 (.ref a) = true ∧ ji_ok8 st) ∧ ji_evC (C 138 [.ref a, p0, p1] M) (fun v M' => ji_Ev C 137 23 M' lv (v.toList ++ st) o) := ev_inv (k := 137) rfl cd_7_60 rfl
theorem s137_23 : ji_Ev C 137 23 M lv [] o ↔ o = (none, M) := ev_vret rfl rfl
theorem s137_24 : ji_Ev C 137 24 M (some (.ref a) :: l) st o ↔ ji_Ev C 137 25 M (some (.ref a) :: l) (.ref a :: st) o := ev_go (S := (25, M, (some (.ref a) :: l), (.ref a :: st))) rfl rfl rfl
theorem s137_25 : ji_Ev C 137 25 M lv (.ref a :: st) o ↔ ji_kd M a = some (0, 7) ∧ ji_Ev C 137 28 M lv (ji_rv (ji_gR M a 3) :: st) o := ev_getR (k := 137) rfl fd_7_21 rfl
theorem s137_28 : ji_Ev C 137 28 M (l0 :: some (.int x) :: l) st o ↔ ji_Ev C 137 29 M (l0 :: some (.int x) :: l) (.int x :: st) o := ev_go (S := (29, M, (l0 :: some (.int x) :: l), (.int x :: st))) rfl rfl rfl
theorem s137_29 : ji_Ev C 137 29 M lv st o ↔ ji_Ev C 137 30 M lv (.int 0 :: st) o := ev_go (S := (30, M, lv, (.int 0 :: st))) rfl rfl rfl
theorem s137_30 : ji_Ev C 137 30 M lv (p1 :: p0 :: .ref a :: st) o ↔ (ji_rcb M 2 (.ref a) = true ∧ ji_ok8 st) ∧ ji_evC (C 49 [.ref a, p0, p1] M) (fun v M' => ji_Ev C 137 33 M' lv (v.toList ++ st) o) := ev_inv (k := 137) rfl cd_7_64 rfl
theorem s137_33 : ji_Ev C 137 33 M lv (.int x :: st) o ↔ 4 < lv.length ∧ ji_Ev C 137 35 M (ji_s1 lv 4 (.int x)) st o := ev_stI rfl rfl rfl
theorem s137_35 : ji_Ev C 137 35 M (some (.ref a) :: l) st o ↔ ji_Ev C 137 36 M (some (.ref a) :: l) (.ref a :: st) o := ev_go (S := (36, M, (some (.ref a) :: l), (.ref a :: st))) rfl rfl rfl
theorem s137_36 : ji_Ev C 137 36 M lv (.ref a :: st) o ↔ ji_kd M a = some (0, 7) ∧ ji_Ev C 137 39 M lv (ji_rv (ji_gR M a 3) :: st) o := ev_getR (k := 137) rfl fd_7_21 rfl
theorem s137_39 : ji_Ev C 137 39 M (l0 :: some (.int x) :: l) st o ↔ ji_Ev C 137 40 M (l0 :: some (.int x) :: l) (.int x :: st) o := ev_go (S := (40, M, (l0 :: some (.int x) :: l), (.int x :: st))) rfl rfl rfl
theorem s137_40 : ji_Ev C 137 40 M lv st o ↔ ji_Ev C 137 41 M lv (.int 1 :: st) o := ev_go (S := (41, M, lv, (.int 1 :: st))) rfl rfl rfl
theorem s137_41 : ji_Ev C 137 41 M lv (p1 :: p0 :: .ref a :: st) o ↔ (ji_rcb M 2 (.ref a) = true ∧ ji_ok8 st) ∧ ji_evC (C 49 [.ref a, p0, p1] M) (fun v M' => ji_Ev C 137 44 M' lv (v.toList ++ st) o) := ev_inv (k := 137) rfl cd_7_64 rfl
theorem s137_44 : ji_Ev C 137 44 M lv (.int x :: st) o ↔ 5 < lv.length ∧ ji_Ev C 137 46 M (ji_s1 lv 5 (.int x)) st o := ev_stI rfl rfl rfl
theorem s137_46 : ji_Ev C 137 46 M lv st o ↔ ji_Ev C 137 47 M lv (.int 0 :: st) o := ev_go (S := (47, M, lv, (.int 0 :: st))) rfl rfl rfl
theorem s137_47 : ji_Ev C 137 47 M lv (.int x :: st) o ↔ 6 < lv.length ∧ ji_Ev C 137 49 M (ji_s1 lv 6 (.int x)) st o := ev_stI rfl rfl rfl
theorem s137_49 : ji_Ev C 137 49 M (l0 :: l1 :: l2 :: l3 :: l4 :: l5 :: some (.int x) :: l) st o ↔ ji_Ev C 137 51 M (l0 :: l1 :: l2 :: l3 :: l4 :: l5 :: some (.int x) :: l) (.int x :: st) o := ev_go (S := (51, M, (l0 :: l1 :: l2 :: l3 :: l4 :: l5 :: some (.int x) :: l), (.int x :: st))) rfl rfl rfl
theorem s137_51 : ji_Ev C 137 51 M (some (.ref a) :: l) st o ↔ ji_Ev C 137 52 M (some (.ref a) :: l) (.ref a :: st) o := ev_go (S := (52, M, (some (.ref a) :: l), (.ref a :: st))) rfl rfl rfl
theorem s137_52 : ji_Ev C 137 52 M lv (.ref a :: st) o ↔ ji_kd M a = some (0, 7) ∧ ji_Ev C 137 55 M lv (.int (ji_gI M a 4) :: st) o := ev_getI (k := 137) rfl fd_7_31 rfl
theorem s137_55 : ji_Ev C 137 55 M lv (.int y :: .int x :: st) o ↔ if x < y then ji_Ev C 137 58 M lv st o else ji_Ev C 137 130 M lv st o := ev_brc (c := .ge) rfl (by decide) rfl
theorem s137_58 : ji_Ev C 137 58 M (some (.ref a) :: l) st o ↔ ji_Ev C 137 59 M (some (.ref a) :: l) (.ref a :: st) o := ev_go (S := (59, M, (some (.ref a) :: l), (.ref a :: st))) rfl rfl rfl
theorem s137_59 : ji_Ev C 137 59 M (l0 :: l1 :: l2 :: l3 :: some (.int x) :: l) st o ↔ ji_Ev C 137 61 M (l0 :: l1 :: l2 :: l3 :: some (.int x) :: l) (.int x :: st) o := ev_go (S := (61, M, (l0 :: l1 :: l2 :: l3 :: some (.int x) :: l), (.int x :: st))) rfl rfl rfl
theorem s137_61 : ji_Ev C 137 61 M (l0 :: l1 :: l2 :: l3 :: l4 :: l5 :: some (.int x) :: l) st o ↔ ji_Ev C 137 63 M (l0 :: l1 :: l2 :: l3 :: l4 :: l5 :: some (.int x) :: l) (.int x :: st) o := ev_go (S := (63, M, (l0 :: l1 :: l2 :: l3 :: l4 :: l5 :: some (.int x) :: l), (.int x :: st))) rfl rfl rfl
theorem s137_63 : ji_Ev C 137 63 M lv (p1 :: p0 :: .ref a :: st) o ↔ (ji_rcb M 7 (.ref a) = true ∧ ji_ok8 st) ∧ ji_evC (C 139 [.ref a, p0, p1] M) (fun v M' => ji_Ev C 137 66 M' lv (v.toList ++ st) o) := ev_inv (k := 137) rfl cd_7_67 rfl
theorem s137_66 : ji_Ev C 137 66 M lv (.int x :: st) o ↔ if x = 0 then ji_Ev C 137 124 M lv st o else ji_Ev C 137 69 M lv st o := ev_brz (c := .eq) rfl (by decide) rfl
theorem s137_69 : ji_Ev C 137 69 M (some (.ref a) :: l) st o ↔ ji_Ev C 137 70 M (some (.ref a) :: l) (.ref a :: st) o := ev_go (S := (70, M, (some (.ref a) :: l), (.ref a :: st))) rfl rfl rfl
theorem s137_70 : ji_Ev C 137 70 M lv (.ref a :: st) o ↔ ji_kd M a = some (0, 7) ∧ ji_Ev C 137 73 M lv (ji_rv (ji_gR M a 0) :: st) o := ev_getR (k := 137) rfl fd_7_11 rfl
theorem s137_73 : ji_Ev C 137 73 M (l0 :: l1 :: l2 :: l3 :: l4 :: l5 :: some (.int x) :: l) st o ↔ ji_Ev C 137 75 M (l0 :: l1 :: l2 :: l3 :: l4 :: l5 :: some (.int x) :: l) (.int x :: st) o := ev_go (S := (75, M, (l0 :: l1 :: l2 :: l3 :: l4 :: l5 :: some (.int x) :: l), (.int x :: st))) rfl rfl rfl
theorem s137_75 : ji_Ev C 137 75 M lv (.int x :: .ref a :: st) o ↔ ji_Ev C 137 76 M lv (.int x :: .ref a :: .int x :: .ref a :: st) o := ev_go (S := (76, M, lv, (.int x :: .ref a :: .int x :: .ref a :: st))) rfl rfl rfl
theorem s137_76 : ji_Ev C 137 76 M lv (.int x :: .ref a :: st) o ↔ ji_evA (ji_kd M a) (fun n => vp_in x n ∧ ji_Ev C 137 77 M lv (.int (ji_gI M a x.toNatClampNeg) :: st) o) := ev_iald rfl
theorem s137_77 : ji_Ev C 137 77 M (l0 :: l1 :: l2 :: l3 :: some (.int x) :: l) st o ↔ ji_Ev C 137 79 M (l0 :: l1 :: l2 :: l3 :: some (.int x) :: l) (.int x :: st) o := ev_go (S := (79, M, (l0 :: l1 :: l2 :: l3 :: some (.int x) :: l), (.int x :: st))) rfl rfl rfl
theorem s137_79 : ji_Ev C 137 79 M lv (.int y :: .int x :: st) o ↔ ji_Ev C 137 80 M lv (.int (x + y) :: st) o := ev_go (S := (80, M, lv, (.int (x + y) :: st))) rfl rfl rfl
theorem s137_80 : ji_Ev C 137 80 M lv (.int y :: .int x :: .ref a :: st) o ↔ ji_evA (ji_kd M a) (fun n => vp_in x n ∧ ji_Ev C 137 81 (ji_sI M a x.toNatClampNeg y) lv st o) := ev_iast rfl
theorem s137_81 : ji_Ev C 137 81 M (some (.ref a) :: l) st o ↔ ji_Ev C 137 82 M (some (.ref a) :: l) (.ref a :: st) o := ev_go (S := (82, M, (some (.ref a) :: l), (.ref a :: st))) rfl rfl rfl
theorem s137_82 : ji_Ev C 137 82 M lv (.ref a :: st) o ↔ ji_kd M a = some (0, 7) ∧ ji_Ev C 137 85 M lv (ji_rv (ji_gR M a 1) :: st) o := ev_getR (k := 137) rfl fd_7_15 rfl
theorem s137_85 : ji_Ev C 137 85 M (l0 :: some (.int x) :: l) st o ↔ ji_Ev C 137 86 M (l0 :: some (.int x) :: l) (.int x :: st) o := ev_go (S := (86, M, (l0 :: some (.int x) :: l), (.int x :: st))) rfl rfl rfl
theorem s137_86 : ji_Ev C 137 86 M (l0 :: l1 :: l2 :: l3 :: l4 :: l5 :: some (.int x) :: l) st o ↔ ji_Ev C 137 88 M (l0 :: l1 :: l2 :: l3 :: l4 :: l5 :: some (.int x) :: l) (.int x :: st) o := ev_go (S := (88, M, (l0 :: l1 :: l2 :: l3 :: l4 :: l5 :: some (.int x) :: l), (.int x :: st))) rfl rfl rfl
theorem s137_88 : ji_Ev C 137 88 M lv (.int y :: .int x :: .ref a :: st) o ↔ ji_evA (ji_kd M a) (fun n => vp_in x n ∧ ji_Ev C 137 89 (ji_sI M a x.toNatClampNeg y) lv st o) := ev_iast rfl
theorem s137_89 : ji_Ev C 137 89 M (some (.ref a) :: l) st o ↔ ji_Ev C 137 90 M (some (.ref a) :: l) (.ref a :: st) o := ev_go (S := (90, M, (some (.ref a) :: l), (.ref a :: st))) rfl rfl rfl
theorem s137_90 : ji_Ev C 137 90 M (l0 :: some (.int x) :: l) st o ↔ ji_Ev C 137 91 M (l0 :: some (.int x) :: l) (.int x :: st) o := ev_go (S := (91, M, (l0 :: some (.int x) :: l), (.int x :: st))) rfl rfl rfl
theorem s137_91 : ji_Ev C 137 91 M lv st o ↔ ji_Ev C 137 92 M lv (.int 1 :: st) o := ev_go (S := (92, M, lv, (.int 1 :: st))) rfl rfl rfl
theorem s137_92 : ji_Ev C 137 92 M lv (.int y :: .int x :: st) o ↔ ji_Ev C 137 93 M lv (.int (x + y) :: st) o := ev_go (S := (93, M, lv, (.int (x + y) :: st))) rfl rfl rfl
theorem s137_93 : ji_Ev C 137 93 M (l0 :: l1 :: some (.int x) :: l) st o ↔ ji_Ev C 137 94 M (l0 :: l1 :: some (.int x) :: l) (.int x :: st) o := ev_go (S := (94, M, (l0 :: l1 :: some (.int x) :: l), (.int x :: st))) rfl rfl rfl
theorem s137_94 : ji_Ev C 137 94 M (l0 :: l1 :: l2 :: l3 :: l4 :: some (.int x) :: l) st o ↔ ji_Ev C 137 96 M (l0 :: l1 :: l2 :: l3 :: l4 :: some (.int x) :: l) (.int x :: st) o := ev_go (S := (96, M, (l0 :: l1 :: l2 :: l3 :: l4 :: some (.int x) :: l), (.int x :: st))) rfl rfl rfl
theorem s137_96 : ji_Ev C 137 96 M (some (.ref a) :: l) st o ↔ ji_Ev C 137 97 M (some (.ref a) :: l) (.ref a :: st) o := ev_go (S := (97, M, (some (.ref a) :: l), (.ref a :: st))) rfl rfl rfl
theorem s137_97 : ji_Ev C 137 97 M lv (.ref a :: st) o ↔ ji_kd M a = some (0, 7) ∧ ji_Ev C 137 100 M lv (.int (ji_gI M a 4) :: st) o := ev_getI (k := 137) rfl fd_7_31 rfl
theorem s137_100 : ji_Ev C 137 100 M (l0 :: l1 :: l2 :: l3 :: l4 :: l5 :: some (.int x) :: l) st o ↔ ji_Ev C 137 102 M (l0 :: l1 :: l2 :: l3 :: l4 :: l5 :: some (.int x) :: l) (.int x :: st) o := ev_go (S := (102, M, (l0 :: l1 :: l2 :: l3 :: l4 :: l5 :: some (.int x) :: l), (.int x :: st))) rfl rfl rfl
theorem s137_102 : ji_Ev C 137 102 M lv (.int y :: .int x :: st) o ↔ ji_Ev C 137 103 M lv (.int (x - y) :: st) o := ev_go (S := (103, M, lv, (.int (x - y) :: st))) rfl rfl rfl
theorem s137_103 : ji_Ev C 137 103 M lv (.int y :: .int x :: st) o ↔ ji_Ev C 137 104 M lv (.int (x * y) :: st) o := ev_go (S := (104, M, lv, (.int (x * y) :: st))) rfl rfl rfl
theorem s137_104 : ji_Ev C 137 104 M lv (.int y :: .int x :: st) o ↔ ji_Ev C 137 105 M lv (.int (x + y) :: st) o := ev_go (S := (105, M, lv, (.int (x + y) :: st))) rfl rfl rfl
theorem s137_105 : ji_Ev C 137 105 M (l0 :: l1 :: l2 :: some (.int x) :: l) st o ↔ ji_Ev C 137 106 M (l0 :: l1 :: l2 :: some (.int x) :: l) (.int x :: st) o := ev_go (S := (106, M, (l0 :: l1 :: l2 :: some (.int x) :: l), (.int x :: st))) rfl rfl rfl
theorem s137_106 : ji_Ev C 137 106 M (l0 :: l1 :: l2 :: l3 :: some (.int x) :: l) st o ↔ ji_Ev C 137 108 M (l0 :: l1 :: l2 :: l3 :: some (.int x) :: l) (.int x :: st) o := ev_go (S := (108, M, (l0 :: l1 :: l2 :: l3 :: some (.int x) :: l), (.int x :: st))) rfl rfl rfl
theorem s137_108 : ji_Ev C 137 108 M lv (.int y :: .int x :: st) o ↔ ji_Ev C 137 109 M lv (.int (x + y) :: st) o := ev_go (S := (109, M, lv, (.int (x + y) :: st))) rfl rfl rfl
theorem s137_109 : ji_Ev C 137 109 M lv (p3 :: p2 :: p1 :: p0 :: st) o ↔ ji_ok8 st ∧ ji_evC (C 137 [p0, p1, p2, p3] M) (fun v M' => ji_Ev C 137 112 M' lv (v.toList ++ st) o) := ev_sta (k := 137) (a := [p3, p2, p1, p0]) rfl (Or.inl cd_7_50) rfl
theorem s137_112 : ji_Ev C 137 112 M (some (.ref a) :: l) st o ↔ ji_Ev C 137 113 M (some (.ref a) :: l) (.ref a :: st) o := ev_go (S := (113, M, (some (.ref a) :: l), (.ref a :: st))) rfl rfl rfl
theorem s137_113 : ji_Ev C 137 113 M lv (.ref a :: st) o ↔ ji_kd M a = some (0, 7) ∧ ji_Ev C 137 116 M lv (ji_rv (ji_gR M a 0) :: st) o := ev_getR (k := 137) rfl fd_7_11 rfl
theorem s137_116 : ji_Ev C 137 116 M (l0 :: l1 :: l2 :: l3 :: l4 :: l5 :: some (.int x) :: l) st o ↔ ji_Ev C 137 118 M (l0 :: l1 :: l2 :: l3 :: l4 :: l5 :: some (.int x) :: l) (.int x :: st) o := ev_go (S := (118, M, (l0 :: l1 :: l2 :: l3 :: l4 :: l5 :: some (.int x) :: l), (.int x :: st))) rfl rfl rfl
theorem s137_118 : ji_Ev C 137 118 M lv (.int x :: .ref a :: st) o ↔ ji_Ev C 137 119 M lv (.int x :: .ref a :: .int x :: .ref a :: st) o := ev_go (S := (119, M, lv, (.int x :: .ref a :: .int x :: .ref a :: st))) rfl rfl rfl
theorem s137_119 : ji_Ev C 137 119 M lv (.int x :: .ref a :: st) o ↔ ji_evA (ji_kd M a) (fun n => vp_in x n ∧ ji_Ev C 137 120 M lv (.int (ji_gI M a x.toNatClampNeg) :: st) o) := ev_iald rfl
theorem s137_120 : ji_Ev C 137 120 M (l0 :: l1 :: l2 :: l3 :: some (.int x) :: l) st o ↔ ji_Ev C 137 122 M (l0 :: l1 :: l2 :: l3 :: some (.int x) :: l) (.int x :: st) o := ev_go (S := (122, M, (l0 :: l1 :: l2 :: l3 :: some (.int x) :: l), (.int x :: st))) rfl rfl rfl
theorem s137_122 : ji_Ev C 137 122 M lv (.int y :: .int x :: st) o ↔ ji_Ev C 137 123 M lv (.int (x - y) :: st) o := ev_go (S := (123, M, lv, (.int (x - y) :: st))) rfl rfl rfl
theorem s137_123 : ji_Ev C 137 123 M lv (.int y :: .int x :: .ref a :: st) o ↔ ji_evA (ji_kd M a) (fun n => vp_in x n ∧ ji_Ev C 137 124 (ji_sI M a x.toNatClampNeg y) lv st o) := ev_iast rfl
theorem s137_124 : ji_Ev C 137 124 M lv st o ↔ ji_evL (lv.getD 6 none) ji_isI (fun v => match v with | .int x => 6 < lv.length ∧ ji_Ev C 137 127 M (ji_s1 lv 6 (.int (x + Int32.ofInt 1))) st o | _ => False) := ev_iinc rfl
theorem s137_127 : ji_Ev C 137 127 M lv st o ↔ ji_Ev C 137 49 M lv st o := ev_gt rfl (by decide) rfl
theorem s137_130 : ji_Ev C 137 130 M (some (.ref a) :: l) st o ↔ ji_Ev C 137 131 M (some (.ref a) :: l) (.ref a :: st) o := ev_go (S := (131, M, (some (.ref a) :: l), (.ref a :: st))) rfl rfl rfl
theorem s137_131 : ji_Ev C 137 131 M lv (.ref a :: st) o ↔ ji_kd M a = some (0, 7) ∧ ji_Ev C 137 134 M lv (ji_rv (ji_gR M a 1) :: st) o := ev_getR (k := 137) rfl fd_7_15 rfl
theorem s137_134 : ji_Ev C 137 134 M (l0 :: some (.int x) :: l) st o ↔ ji_Ev C 137 135 M (l0 :: some (.int x) :: l) (.int x :: st) o := ev_go (S := (135, M, (l0 :: some (.int x) :: l), (.int x :: st))) rfl rfl rfl
theorem s137_135 : ji_Ev C 137 135 M lv st o ↔ ji_Ev C 137 136 M lv (.int (-1) :: st) o := ev_go (S := (136, M, lv, (.int (-1) :: st))) rfl rfl rfl
theorem s137_136 : ji_Ev C 137 136 M lv (.int y :: .int x :: .ref a :: st) o ↔ ji_evA (ji_kd M a) (fun n => vp_in x n ∧ ji_Ev C 137 137 (ji_sI M a x.toNatClampNeg y) lv st o) := ev_iast rfl
theorem s137_137 : ji_Ev C 137 137 M (some (.ref a) :: l) st o ↔ ji_Ev C 137 138 M (some (.ref a) :: l) (.ref a :: st) o := ev_go (S := (138, M, (some (.ref a) :: l), (.ref a :: st))) rfl rfl rfl
theorem s137_138 : ji_Ev C 137 138 M (l0 :: some (.int x) :: l) st o ↔ ji_Ev C 137 139 M (l0 :: some (.int x) :: l) (.int x :: st) o := ev_go (S := (139, M, (l0 :: some (.int x) :: l), (.int x :: st))) rfl rfl rfl
theorem s137_139 : ji_Ev C 137 139 M lv st o ↔ ji_Ev C 137 140 M lv (.int 1 :: st) o := ev_go (S := (140, M, lv, (.int 1 :: st))) rfl rfl rfl
theorem s137_140 : ji_Ev C 137 140 M lv (.int y :: .int x :: st) o ↔ ji_Ev C 137 141 M lv (.int (x + y) :: st) o := ev_go (S := (141, M, lv, (.int (x + y) :: st))) rfl rfl rfl
theorem s137_141 : ji_Ev C 137 141 M (l0 :: l1 :: some (.int x) :: l) st o ↔ ji_Ev C 137 142 M (l0 :: l1 :: some (.int x) :: l) (.int x :: st) o := ev_go (S := (142, M, (l0 :: l1 :: some (.int x) :: l), (.int x :: st))) rfl rfl rfl
theorem s137_142 : ji_Ev C 137 142 M (l0 :: l1 :: l2 :: some (.int x) :: l) st o ↔ ji_Ev C 137 143 M (l0 :: l1 :: l2 :: some (.int x) :: l) (.int x :: st) o := ev_go (S := (143, M, (l0 :: l1 :: l2 :: some (.int x) :: l), (.int x :: st))) rfl rfl rfl
theorem s137_143 : ji_Ev C 137 143 M lv (p3 :: p2 :: p1 :: p0 :: st) o ↔ ji_ok8 st ∧ ji_evC (C 137 [p0, p1, p2, p3] M) (fun v M' => ji_Ev C 137 146 M' lv (v.toList ++ st) o) := ev_sta (k := 137) (a := [p3, p2, p1, p0]) rfl (Or.inl cd_7_50) rfl
theorem s137_146 : ji_Ev C 137 146 M lv [] o ↔ o = (none, M) := ev_vret rfl rfl
theorem s138_0 : ji_Ev C 138 0 M (l0 :: some (.int x) :: l) st o ↔ ji_Ev C 138 1 M (l0 :: some (.int x) :: l) (.int x :: st) o := ev_go (S := (1, M, (l0 :: some (.int x) :: l), (.int x :: st))) rfl rfl rfl
theorem s138_1 : ji_Ev C 138 1 M (some (.ref a) :: l) st o ↔ ji_Ev C 138 2 M (some (.ref a) :: l) (.ref a :: st) o := ev_go (S := (2, M, (some (.ref a) :: l), (.ref a :: st))) rfl rfl rfl
theorem s138_2 : ji_Ev C 138 2 M lv (.ref a :: st) o ↔ ji_kd M a = some (0, 7) ∧ ji_Ev C 138 5 M lv (.int (ji_gI M a 6) :: st) o := ev_getI (k := 138) rfl fd_7_38 rfl
theorem s138_5 : ji_Ev C 138 5 M lv (.int y :: .int x :: st) o ↔ if y < x then ji_Ev C 138 24 M lv st o else ji_Ev C 138 8 M lv st o := ev_brc (c := .gt) rfl (by decide) rfl
theorem s138_8 : ji_Ev C 138 8 M (l0 :: some (.int x) :: l) st o ↔ ji_Ev C 138 9 M (l0 :: some (.int x) :: l) (.int x :: st) o := ev_go (S := (9, M, (l0 :: some (.int x) :: l), (.int x :: st))) rfl rfl rfl
theorem s138_9 : ji_Ev C 138 9 M (some (.ref a) :: l) st o ↔ ji_Ev C 138 10 M (some (.ref a) :: l) (.ref a :: st) o := ev_go (S := (10, M, (some (.ref a) :: l), (.ref a :: st))) rfl rfl rfl
theorem s138_10 : ji_Ev C 138 10 M lv (.ref a :: st) o ↔ ji_kd M a = some (0, 7) ∧ ji_Ev C 138 13 M lv (.int (ji_gI M a 6) :: st) o := ev_getI (k := 138) rfl fd_7_38 rfl
theorem s138_13 : ji_Ev C 138 13 M lv (.int y :: .int x :: st) o ↔ if x = y then ji_Ev C 138 16 M lv st o else ji_Ev C 138 49 M lv st o := ev_brc (c := .ne) rfl (by decide) rfl
theorem s138_16 : ji_Ev C 138 16 M (l0 :: l1 :: some (.int x) :: l) st o ↔ ji_Ev C 138 17 M (l0 :: l1 :: some (.int x) :: l) (.int x :: st) o := ev_go (S := (17, M, (l0 :: l1 :: some (.int x) :: l), (.int x :: st))) rfl rfl rfl
theorem s138_17 : ji_Ev C 138 17 M (some (.ref a) :: l) st o ↔ ji_Ev C 138 18 M (some (.ref a) :: l) (.ref a :: st) o := ev_go (S := (18, M, (some (.ref a) :: l), (.ref a :: st))) rfl rfl rfl
theorem s138_18 : ji_Ev C 138 18 M lv (.ref a :: st) o ↔ ji_kd M a = some (0, 7) ∧ ji_Ev C 138 21 M lv (.int (ji_gI M a 7) :: st) o := ev_getI (k := 138) rfl fd_7_41 rfl
theorem s138_21 : ji_Ev C 138 21 M lv (.int y :: .int x :: st) o ↔ if x < y then ji_Ev C 138 24 M lv st o else ji_Ev C 138 49 M lv st o := ev_brc (c := .ge) rfl (by decide) rfl
theorem s138_24 : ji_Ev C 138 24 M (some (.ref a) :: l) st o ↔ ji_Ev C 138 25 M (some (.ref a) :: l) (.ref a :: st) o := ev_go (S := (25, M, (some (.ref a) :: l), (.ref a :: st))) rfl rfl rfl
theorem s138_25 : ji_Ev C 138 25 M (l0 :: some (.int x) :: l) st o ↔ ji_Ev C 138 26 M (l0 :: some (.int x) :: l) (.int x :: st) o := ev_go (S := (26, M, (l0 :: some (.int x) :: l), (.int x :: st))) rfl rfl rfl
theorem s138_26 : ji_Ev C 138 26 M lv (.int x :: .ref a :: st) o ↔ ji_kd M a = some (0, 7) ∧ ji_Ev C 138 29 (ji_sI M a 6 x) lv st o := ev_putI (k := 138) rfl fd_7_38 rfl (by decide)
theorem s138_29 : ji_Ev C 138 29 M (some (.ref a) :: l) st o ↔ ji_Ev C 138 30 M (some (.ref a) :: l) (.ref a :: st) o := ev_go (S := (30, M, (some (.ref a) :: l), (.ref a :: st))) rfl rfl rfl
theorem s138_30 : ji_Ev C 138 30 M (l0 :: l1 :: some (.int x) :: l) st o ↔ ji_Ev C 138 31 M (l0 :: l1 :: some (.int x) :: l) (.int x :: st) o := ev_go (S := (31, M, (l0 :: l1 :: some (.int x) :: l), (.int x :: st))) rfl rfl rfl
theorem s138_31 : ji_Ev C 138 31 M lv (.int x :: .ref a :: st) o ↔ ji_kd M a = some (0, 7) ∧ ji_Ev C 138 34 (ji_sI M a 7 x) lv st o := ev_putI (k := 138) rfl fd_7_41 rfl (by decide)
theorem s138_34 : ji_Ev C 138 34 M (some (.ref a) :: l) st o ↔ ji_Ev C 138 35 M (some (.ref a) :: l) (.ref a :: st) o := ev_go (S := (35, M, (some (.ref a) :: l), (.ref a :: st))) rfl rfl rfl
theorem s138_35 : ji_Ev C 138 35 M lv (.ref a :: st) o ↔ ji_kd M a = some (0, 7) ∧ ji_Ev C 138 38 M lv (ji_rv (ji_gR M a 1) :: st) o := ev_getR (k := 138) rfl fd_7_15 rfl
theorem s138_38 : ji_Ev C 138 38 M lv st o ↔ ji_Ev C 138 39 M lv (.int 0 :: st) o := ev_go (S := (39, M, lv, (.int 0 :: st))) rfl rfl rfl
theorem s138_39 : ji_Ev C 138 39 M (some (.ref a) :: l) st o ↔ ji_Ev C 138 40 M (some (.ref a) :: l) (.ref a :: st) o := ev_go (S := (40, M, (some (.ref a) :: l), (.ref a :: st))) rfl rfl rfl
theorem s138_40 : ji_Ev C 138 40 M lv (.ref a :: st) o ↔ ji_kd M a = some (0, 7) ∧ ji_Ev C 138 43 M lv (ji_rv (ji_gR M a 2) :: st) o := ev_getR (k := 138) rfl fd_7_18 rfl
theorem s138_43 : ji_Ev C 138 43 M lv st o ↔ ji_Ev C 138 44 M lv (.int 0 :: st) o := ev_go (S := (44, M, lv, (.int 0 :: st))) rfl rfl rfl
theorem s138_44 : ji_Ev C 138 44 M lv st o ↔ ji_Ev C 138 46 M lv (.int 6 :: st) o := ev_go (S := (46, M, lv, (.int 6 :: st))) rfl rfl rfl
theorem s138_46 : ji_Ev C 138 46 M lv (.int z :: .int y :: .ref b :: .int x :: .ref a :: st) o ↔ ji_evA (ji_kd M a) (fun n0 => ji_evA (ji_kd M b) (fun n1 => (¬ x < 0 ∧ ¬ y < 0 ∧ ¬ z < 0 ∧ x.toNatClampNeg + z.toNatClampNeg ≤ n0 ∧ y.toNatClampNeg + z.toNatClampNeg ≤ n1 ∧ ji_ok8 st) ∧ ji_Ev C 138 49 (ji_cp M a x.toNatClampNeg b y.toNatClampNeg z.toNatClampNeg) lv st o)) := ev_copy (k := 138) rfl cd_7_71
theorem s138_49 : ji_Ev C 138 49 M lv [] o ↔ o = (none, M) := ev_vret rfl rfl
theorem s139_0 : ji_Ev C 139 0 M (l0 :: some (.int x) :: l) st o ↔ ji_Ev C 139 1 M (l0 :: some (.int x) :: l) (.int x :: st) o := ev_go (S := (1, M, (l0 :: some (.int x) :: l), (.int x :: st))) rfl rfl rfl
theorem s139_1 : ji_Ev C 139 1 M lv (.int x :: st) o ↔ ji_Ev C 139 2 M lv (.int (-x) :: st) o := ev_go (S := (2, M, lv, (.int (-x) :: st))) rfl rfl rfl
theorem s139_2 : ji_Ev C 139 2 M lv (.int x :: st) o ↔ 3 < lv.length ∧ ji_Ev C 139 3 M (ji_s1 lv 3 (.int x)) st o := ev_stI rfl rfl rfl
theorem s139_3 : ji_Ev C 139 3 M lv st o ↔ ji_Ev C 139 4 M lv (.int 0 :: st) o := ev_go (S := (4, M, lv, (.int 0 :: st))) rfl rfl rfl
theorem s139_4 : ji_Ev C 139 4 M lv (.int x :: st) o ↔ 4 < lv.length ∧ ji_Ev C 139 6 M (ji_s1 lv 4 (.int x)) st o := ev_stI rfl rfl rfl
theorem s139_6 : ji_Ev C 139 6 M (l0 :: l1 :: l2 :: l3 :: some (.int x) :: l) st o ↔ ji_Ev C 139 8 M (l0 :: l1 :: l2 :: l3 :: some (.int x) :: l) (.int x :: st) o := ev_go (S := (8, M, (l0 :: l1 :: l2 :: l3 :: some (.int x) :: l), (.int x :: st))) rfl rfl rfl
theorem s139_8 : ji_Ev C 139 8 M (some (.ref a) :: l) st o ↔ ji_Ev C 139 9 M (some (.ref a) :: l) (.ref a :: st) o := ev_go (S := (9, M, (some (.ref a) :: l), (.ref a :: st))) rfl rfl rfl
theorem s139_9 : ji_Ev C 139 9 M lv (.ref a :: st) o ↔ ji_kd M a = some (0, 7) ∧ ji_Ev C 139 12 M lv (.int (ji_gI M a 4) :: st) o := ev_getI (k := 139) rfl fd_7_31 rfl
theorem s139_12 : ji_Ev C 139 12 M lv (.int y :: .int x :: st) o ↔ if x < y then ji_Ev C 139 15 M lv st o else ji_Ev C 139 48 M lv st o := ev_brc (c := .ge) rfl (by decide) rfl
theorem s139_15 : ji_Ev C 139 15 M (l0 :: l1 :: l2 :: some (.int x) :: l) st o ↔ ji_Ev C 139 16 M (l0 :: l1 :: l2 :: some (.int x) :: l) (.int x :: st) o := ev_go (S := (16, M, (l0 :: l1 :: l2 :: some (.int x) :: l), (.int x :: st))) rfl rfl rfl
theorem s139_16 : ji_Ev C 139 16 M (some (.ref a) :: l) st o ↔ ji_Ev C 139 17 M (some (.ref a) :: l) (.ref a :: st) o := ev_go (S := (17, M, (some (.ref a) :: l), (.ref a :: st))) rfl rfl rfl
theorem s139_17 : ji_Ev C 139 17 M lv (.ref a :: st) o ↔ ji_kd M a = some (0, 7) ∧ ji_Ev C 139 20 M lv (.int (ji_gI M a 5) :: st) o := ev_getI (k := 139) rfl fd_7_35 rfl
theorem s139_20 : ji_Ev C 139 20 M (some (.ref a) :: l) st o ↔ ji_Ev C 139 21 M (some (.ref a) :: l) (.ref a :: st) o := ev_go (S := (21, M, (some (.ref a) :: l), (.ref a :: st))) rfl rfl rfl
theorem s139_21 : ji_Ev C 139 21 M lv (.ref a :: st) o ↔ ji_kd M a = some (0, 7) ∧ ji_Ev C 139 24 M lv (ji_rv (ji_gR M a 0) :: st) o := ev_getR (k := 139) rfl fd_7_11 rfl
theorem s139_24 : ji_Ev C 139 24 M (l0 :: l1 :: l2 :: l3 :: some (.int x) :: l) st o ↔ ji_Ev C 139 26 M (l0 :: l1 :: l2 :: l3 :: some (.int x) :: l) (.int x :: st) o := ev_go (S := (26, M, (l0 :: l1 :: l2 :: l3 :: some (.int x) :: l), (.int x :: st))) rfl rfl rfl
theorem s139_26 : ji_Ev C 139 26 M lv (.int x :: .ref a :: st) o ↔ ji_evA (ji_kd M a) (fun n => vp_in x n ∧ ji_Ev C 139 27 M lv (.int (ji_gI M a x.toNatClampNeg) :: st) o) := ev_iald rfl
theorem s139_27 : ji_Ev C 139 27 M lv (.int y :: .int x :: st) o ↔ ji_Ev C 139 28 M lv (.int (x - y) :: st) o := ev_go (S := (28, M, lv, (.int (x - y) :: st))) rfl rfl rfl
theorem s139_28 : ji_Ev C 139 28 M lv (.int y :: .int x :: st) o ↔ ji_Ev C 139 29 M lv (.int (x + y) :: st) o := ev_go (S := (29, M, lv, (.int (x + y) :: st))) rfl rfl rfl
theorem s139_29 : ji_Ev C 139 29 M lv (.int x :: st) o ↔ 3 < lv.length ∧ ji_Ev C 139 30 M (ji_s1 lv 3 (.int x)) st o := ev_stI rfl rfl rfl
theorem s139_30 : ji_Ev C 139 30 M (l0 :: l1 :: l2 :: l3 :: some (.int x) :: l) st o ↔ ji_Ev C 139 32 M (l0 :: l1 :: l2 :: l3 :: some (.int x) :: l) (.int x :: st) o := ev_go (S := (32, M, (l0 :: l1 :: l2 :: l3 :: some (.int x) :: l), (.int x :: st))) rfl rfl rfl
theorem s139_32 : ji_Ev C 139 32 M (l0 :: l1 :: some (.int x) :: l) st o ↔ ji_Ev C 139 33 M (l0 :: l1 :: some (.int x) :: l) (.int x :: st) o := ev_go (S := (33, M, (l0 :: l1 :: some (.int x) :: l), (.int x :: st))) rfl rfl rfl
theorem s139_33 : ji_Ev C 139 33 M lv (.int y :: .int x :: st) o ↔ if x < y then ji_Ev C 139 42 M lv st o else ji_Ev C 139 36 M lv st o := ev_brc (c := .lt) rfl (by decide) rfl
theorem s139_36 : ji_Ev C 139 36 M (l0 :: l1 :: l2 :: some (.int x) :: l) st o ↔ ji_Ev C 139 37 M (l0 :: l1 :: l2 :: some (.int x) :: l) (.int x :: st) o := ev_go (S := (37, M, (l0 :: l1 :: l2 :: some (.int x) :: l), (.int x :: st))) rfl rfl rfl
theorem s139_37 : ji_Ev C 139 37 M lv (.int x :: st) o ↔ if x < 0 then ji_Ev C 139 40 M lv st o else ji_Ev C 139 42 M lv st o := ev_brz (c := .ge) rfl (by decide) rfl
theorem s139_40 : ji_Ev C 139 40 M lv st o ↔ ji_Ev C 139 41 M lv (.int 0 :: st) o := ev_go (S := (41, M, lv, (.int 0 :: st))) rfl rfl rfl
theorem s139_41 : ji_Ev C 139 41 M lv [.int x] o ↔ narrow .boolean (.int x) = .int x ∧ o = (some (.int x), M) := ev_iretb rfl rfl
theorem s139_42 : ji_Ev C 139 42 M lv st o ↔ ji_evL (lv.getD 4 none) ji_isI (fun v => match v with | .int x => 4 < lv.length ∧ ji_Ev C 139 45 M (ji_s1 lv 4 (.int (x + Int32.ofInt 1))) st o | _ => False) := ev_iinc rfl
theorem s139_45 : ji_Ev C 139 45 M lv st o ↔ ji_Ev C 139 6 M lv st o := ev_gt rfl (by decide) rfl
theorem s139_48 : ji_Ev C 139 48 M lv st o ↔ ji_Ev C 139 49 M lv (.int 1 :: st) o := ev_go (S := (49, M, lv, (.int 1 :: st))) rfl rfl rfl
theorem s139_49 : ji_Ev C 139 49 M lv [.int x] o ↔ narrow .boolean (.int x) = .int x ∧ o = (some (.int x), M) := ev_iretb rfl rfl
theorem s140_0 : ji_Ev C 140 0 M (l0 :: some (.int x) :: l) st o ↔ ji_Ev C 140 1 M (l0 :: some (.int x) :: l) (.int x :: st) o := ev_go (S := (1, M, (l0 :: some (.int x) :: l), (.int x :: st))) rfl rfl rfl
theorem s140_1 : ji_Ev C 140 1 M lv (.int x :: st) o ↔ if x < 0 then ji_Ev C 140 19 M lv st o else ji_Ev C 140 4 M lv st o := ev_brz (c := .lt) rfl (by decide) rfl
theorem s140_4 : ji_Ev C 140 4 M (l0 :: some (.int x) :: l) st o ↔ ji_Ev C 140 5 M (l0 :: some (.int x) :: l) (.int x :: st) o := ev_go (S := (5, M, (l0 :: some (.int x) :: l), (.int x :: st))) rfl rfl rfl
theorem s140_5 : ji_Ev C 140 5 M lv st o ↔ ji_Ev C 140 7 M lv (.int 6 :: st) o := ev_go (S := (7, M, lv, (.int 6 :: st))) rfl rfl rfl
theorem s140_7 : ji_Ev C 140 7 M lv (.int y :: .int x :: st) o ↔ if x < y then ji_Ev C 140 10 M lv st o else ji_Ev C 140 19 M lv st o := ev_brc (c := .ge) rfl (by decide) rfl
theorem s140_10 : ji_Ev C 140 10 M (some (.ref a) :: l) st o ↔ ji_Ev C 140 11 M (some (.ref a) :: l) (.ref a :: st) o := ev_go (S := (11, M, (some (.ref a) :: l), (.ref a :: st))) rfl rfl rfl
theorem s140_11 : ji_Ev C 140 11 M lv (.ref a :: st) o ↔ ji_kd M a = some (0, 7) ∧ ji_Ev C 140 14 M lv (ji_rv (ji_gR M a 2) :: st) o := ev_getR (k := 140) rfl fd_7_18 rfl
theorem s140_14 : ji_Ev C 140 14 M (l0 :: some (.int x) :: l) st o ↔ ji_Ev C 140 15 M (l0 :: some (.int x) :: l) (.int x :: st) o := ev_go (S := (15, M, (l0 :: some (.int x) :: l), (.int x :: st))) rfl rfl rfl
theorem s140_15 : ji_Ev C 140 15 M lv (.int x :: .ref a :: st) o ↔ ji_evA (ji_kd M a) (fun n => vp_in x n ∧ ji_Ev C 140 16 M lv (.int (ji_gI M a x.toNatClampNeg) :: st) o) := ev_iald rfl
theorem s140_16 : ji_Ev C 140 16 M lv st o ↔ ji_Ev C 140 20 M lv st o := ev_gt rfl (by decide) rfl
theorem s140_19 : ji_Ev C 140 19 M lv st o ↔ ji_Ev C 140 20 M lv (.int (-1) :: st) o := ev_go (S := (20, M, lv, (.int (-1) :: st))) rfl rfl rfl
theorem s140_20 : ji_Ev C 140 20 M lv [.int x] o ↔ o = (some (.int x), M) := ev_ireti rfl rfl
theorem s141_0 : ji_Ev C 141 0 M (l0 :: some (.int x) :: l) st o ↔ ji_Ev C 141 1 M (l0 :: some (.int x) :: l) (.int x :: st) o := ev_go (S := (1, M, (l0 :: some (.int x) :: l), (.int x :: st))) rfl rfl rfl
theorem s141_1 : ji_Ev C 141 1 M lv (.int x :: st) o ↔ if x = 0 then ji_Ev C 141 76 M lv st o else if x = 1 then ji_Ev C 141 84 M lv st o else if x = 2 then ji_Ev C 141 95 M lv st o else if x = 3 then ji_Ev C 141 103 M lv st o else if x = 4 then ji_Ev C 141 114 M lv st o else if x = 5 then ji_Ev C 141 122 M lv st o else if x = 6 then ji_Ev C 141 130 M lv st o else if x = 7 then ji_Ev C 141 138 M lv st o else if x = 8 then ji_Ev C 141 146 M lv st o else if x = 9 then ji_Ev C 141 154 M lv st o else if x = 10 then ji_Ev C 141 162 M lv st o else if x = 11 then ji_Ev C 141 170 M lv st o else if x = 12 then ji_Ev C 141 178 M lv st o else if x = 13 then ji_Ev C 141 186 M lv st o else if x = 14 then ji_Ev C 141 196 M lv st o else ji_Ev C 141 206 M lv st o := by
  refine (ev_swT rfl (by decide)).trans ?_
  show ji_Ev C 141 ((1 : Int) + (if x = 0 then 75 else if x = 1 then 83 else if x = 2 then 94 else if x = 3 then 102 else if x = 4 then 113 else if x = 5 then 121 else if x = 6 then 129 else if x = 7 then 137 else if x = 8 then 145 else if x = 9 then 153 else if x = 10 then 161 else if x = 11 then 169 else if x = 12 then 177 else if x = 13 then 185 else if x = 14 then 195 else 205)).toNat M lv st o ↔ _
  by_cases h0 : x = 0
  · rw [if_pos h0, if_pos h0]; exact Iff.rfl
  rw [if_neg h0, if_neg h0]
  by_cases h1 : x = 1
  · rw [if_pos h1, if_pos h1]; exact Iff.rfl
  rw [if_neg h1, if_neg h1]
  by_cases h2 : x = 2
  · rw [if_pos h2, if_pos h2]; exact Iff.rfl
  rw [if_neg h2, if_neg h2]
  by_cases h3 : x = 3
  · rw [if_pos h3, if_pos h3]; exact Iff.rfl
  rw [if_neg h3, if_neg h3]
  by_cases h4 : x = 4
  · rw [if_pos h4, if_pos h4]; exact Iff.rfl
  rw [if_neg h4, if_neg h4]
  by_cases h5 : x = 5
  · rw [if_pos h5, if_pos h5]; exact Iff.rfl
  rw [if_neg h5, if_neg h5]
  by_cases h6 : x = 6
  · rw [if_pos h6, if_pos h6]; exact Iff.rfl
  rw [if_neg h6, if_neg h6]
  by_cases h7 : x = 7
  · rw [if_pos h7, if_pos h7]; exact Iff.rfl
  rw [if_neg h7, if_neg h7]
  by_cases h8 : x = 8
  · rw [if_pos h8, if_pos h8]; exact Iff.rfl
  rw [if_neg h8, if_neg h8]
  by_cases h9 : x = 9
  · rw [if_pos h9, if_pos h9]; exact Iff.rfl
  rw [if_neg h9, if_neg h9]
  by_cases h10 : x = 10
  · rw [if_pos h10, if_pos h10]; exact Iff.rfl
  rw [if_neg h10, if_neg h10]
  by_cases h11 : x = 11
  · rw [if_pos h11, if_pos h11]; exact Iff.rfl
  rw [if_neg h11, if_neg h11]
  by_cases h12 : x = 12
  · rw [if_pos h12, if_pos h12]; exact Iff.rfl
  rw [if_neg h12, if_neg h12]
  by_cases h13 : x = 13
  · rw [if_pos h13, if_pos h13]; exact Iff.rfl
  rw [if_neg h13, if_neg h13]
  by_cases h14 : x = 14
  · rw [if_pos h14, if_pos h14]; exact Iff.rfl
  rw [if_neg h14, if_neg h14]
  exact Iff.rfl
theorem s141_76 : ji_Ev C 141 76 M (some (.ref a) :: l) st o ↔ ji_Ev C 141 77 M (some (.ref a) :: l) (.ref a :: st) o := ev_go (S := (77, M, (some (.ref a) :: l), (.ref a :: st))) rfl rfl rfl
theorem s141_77 : ji_Ev C 141 77 M lv (.ref a :: st) o ↔ ji_kd M a = some (0, 8) ∧ ji_Ev C 141 80 M lv (ji_rv (ji_gR M a 0) :: st) o := ev_getR (k := 141) rfl fd_8_10 rfl
theorem s141_80 : ji_Ev C 141 80 M lv (.ref a :: st) o ↔ ji_kd M a = some (0, 5) ∧ ji_Ev C 141 83 M lv (.int (ji_gI M a 1) :: st) o := ev_getI (k := 141) rfl fd_8_99 rfl
theorem s141_83 : ji_Ev C 141 83 M lv [.int x] o ↔ o = (some (.int x), M) := ev_ireti rfl rfl
theorem s141_84 : ji_Ev C 141 84 M (some (.ref a) :: l) st o ↔ ji_Ev C 141 85 M (some (.ref a) :: l) (.ref a :: st) o := ev_go (S := (85, M, (some (.ref a) :: l), (.ref a :: st))) rfl rfl rfl
theorem s141_85 : ji_Ev C 141 85 M lv (.ref a :: st) o ↔ ji_kd M a = some (0, 8) ∧ ji_Ev C 141 88 M lv (ji_rv (ji_gR M a 0) :: st) o := ev_getR (k := 141) rfl fd_8_10 rfl
theorem s141_88 : ji_Ev C 141 88 M lv (.ref a :: st) o ↔ ji_kd M a = some (0, 5) ∧ ji_Ev C 141 91 M lv (ji_rv (ji_gR M a 0) :: st) o := ev_getR (k := 141) rfl fd_8_111 rfl
theorem s141_91 : ji_Ev C 141 91 M lv (.ref a :: st) o ↔ (ji_rcb M 2 (.ref a) = true ∧ ji_ok8 st) ∧ ji_evC (C 47 [.ref a] M) (fun v M' => ji_Ev C 141 94 M' lv (v.toList ++ st) o) := ev_inv (k := 141) rfl cd_8_202 rfl
theorem s141_94 : ji_Ev C 141 94 M lv [.int x] o ↔ o = (some (.int x), M) := ev_ireti rfl rfl
theorem s141_95 : ji_Ev C 141 95 M (some (.ref a) :: l) st o ↔ ji_Ev C 141 96 M (some (.ref a) :: l) (.ref a :: st) o := ev_go (S := (96, M, (some (.ref a) :: l), (.ref a :: st))) rfl rfl rfl
theorem s141_96 : ji_Ev C 141 96 M lv (.ref a :: st) o ↔ ji_kd M a = some (0, 8) ∧ ji_Ev C 141 99 M lv (ji_rv (ji_gR M a 1) :: st) o := ev_getR (k := 141) rfl fd_8_19 rfl
theorem s141_99 : ji_Ev C 141 99 M lv (.ref a :: st) o ↔ ji_kd M a = some (0, 3) ∧ ji_Ev C 141 102 M lv (.int (ji_gI M a 6) :: st) o := ev_getI (k := 141) rfl fd_8_265 rfl
theorem s141_102 : ji_Ev C 141 102 M lv [.int x] o ↔ o = (some (.int x), M) := ev_ireti rfl rfl
theorem s141_103 : ji_Ev C 141 103 M (some (.ref a) :: l) st o ↔ ji_Ev C 141 104 M (some (.ref a) :: l) (.ref a :: st) o := ev_go (S := (104, M, (some (.ref a) :: l), (.ref a :: st))) rfl rfl rfl
theorem s141_104 : ji_Ev C 141 104 M lv (.ref a :: st) o ↔ ji_kd M a = some (0, 8) ∧ ji_Ev C 141 107 M lv (ji_rv (ji_gR M a 1) :: st) o := ev_getR (k := 141) rfl fd_8_19 rfl
theorem s141_107 : ji_Ev C 141 107 M lv (.ref a :: st) o ↔ ji_kd M a = some (0, 3) ∧ ji_Ev C 141 110 M lv (ji_rv (ji_gR M a 0) :: st) o := ev_getR (k := 141) rfl fd_8_175 rfl
theorem s141_110 : ji_Ev C 141 110 M lv (.ref a :: st) o ↔ ji_kd M a = some (0, 6) ∧ ji_Ev C 141 113 M lv (.int (ji_gI M a 1) :: st) o := ev_getI (k := 141) rfl fd_8_268 rfl
theorem s141_113 : ji_Ev C 141 113 M lv [.int x] o ↔ o = (some (.int x), M) := ev_ireti rfl rfl
theorem s141_114 : ji_Ev C 141 114 M (some (.ref a) :: l) st o ↔ ji_Ev C 141 115 M (some (.ref a) :: l) (.ref a :: st) o := ev_go (S := (115, M, (some (.ref a) :: l), (.ref a :: st))) rfl rfl rfl
theorem s141_115 : ji_Ev C 141 115 M lv (.ref a :: st) o ↔ ji_kd M a = some (0, 8) ∧ ji_Ev C 141 118 M lv (ji_rv (ji_gR M a 1) :: st) o := ev_getR (k := 141) rfl fd_8_19 rfl
theorem s141_118 : ji_Ev C 141 118 M lv (.ref a :: st) o ↔ ji_kd M a = some (0, 3) ∧ ji_Ev C 141 121 M lv (.int (ji_gI M a 7) :: st) o := ev_getI (k := 141) rfl fd_8_270 rfl
theorem s141_121 : ji_Ev C 141 121 M lv [.int x] o ↔ o = (some (.int x), M) := ev_ireti rfl rfl
theorem s141_122 : ji_Ev C 141 122 M (some (.ref a) :: l) st o ↔ ji_Ev C 141 123 M (some (.ref a) :: l) (.ref a :: st) o := ev_go (S := (123, M, (some (.ref a) :: l), (.ref a :: st))) rfl rfl rfl
theorem s141_123 : ji_Ev C 141 123 M lv (.ref a :: st) o ↔ ji_kd M a = some (0, 8) ∧ ji_Ev C 141 126 M lv (ji_rv (ji_gR M a 2) :: st) o := ev_getR (k := 141) rfl fd_8_28 rfl
theorem s141_126 : ji_Ev C 141 126 M lv (.ref a :: st) o ↔ (ji_rcb M 2 (.ref a) = true ∧ ji_ok8 st) ∧ ji_evC (C 47 [.ref a] M) (fun v M' => ji_Ev C 141 129 M' lv (v.toList ++ st) o) := ev_inv (k := 141) rfl cd_8_202 rfl
theorem s141_129 : ji_Ev C 141 129 M lv [.int x] o ↔ o = (some (.int x), M) := ev_ireti rfl rfl
theorem s141_130 : ji_Ev C 141 130 M (some (.ref a) :: l) st o ↔ ji_Ev C 141 131 M (some (.ref a) :: l) (.ref a :: st) o := ev_go (S := (131, M, (some (.ref a) :: l), (.ref a :: st))) rfl rfl rfl
theorem s141_131 : ji_Ev C 141 131 M lv (.ref a :: st) o ↔ ji_kd M a = some (0, 8) ∧ ji_Ev C 141 134 M lv (ji_rv (ji_gR M a 4) :: st) o := ev_getR (k := 141) rfl fd_8_39 rfl
theorem s141_134 : ji_Ev C 141 134 M lv (.ref a :: st) o ↔ (ji_rcb M 2 (.ref a) = true ∧ ji_ok8 st) ∧ ji_evC (C 47 [.ref a] M) (fun v M' => ji_Ev C 141 137 M' lv (v.toList ++ st) o) := ev_inv (k := 141) rfl cd_8_202 rfl
theorem s141_137 : ji_Ev C 141 137 M lv [.int x] o ↔ o = (some (.int x), M) := ev_ireti rfl rfl
theorem s141_138 : ji_Ev C 141 138 M (some (.ref a) :: l) st o ↔ ji_Ev C 141 139 M (some (.ref a) :: l) (.ref a :: st) o := ev_go (S := (139, M, (some (.ref a) :: l), (.ref a :: st))) rfl rfl rfl
theorem s141_139 : ji_Ev C 141 139 M lv (.ref a :: st) o ↔ ji_kd M a = some (0, 8) ∧ ji_Ev C 141 142 M lv (ji_rv (ji_gR M a 5) :: st) o := ev_getR (k := 141) rfl fd_8_42 rfl
theorem s141_142 : ji_Ev C 141 142 M lv (.ref a :: st) o ↔ (ji_rcb M 2 (.ref a) = true ∧ ji_ok8 st) ∧ ji_evC (C 47 [.ref a] M) (fun v M' => ji_Ev C 141 145 M' lv (v.toList ++ st) o) := ev_inv (k := 141) rfl cd_8_202 rfl
theorem s141_145 : ji_Ev C 141 145 M lv [.int x] o ↔ o = (some (.int x), M) := ev_ireti rfl rfl
theorem s141_146 : ji_Ev C 141 146 M (some (.ref a) :: l) st o ↔ ji_Ev C 141 147 M (some (.ref a) :: l) (.ref a :: st) o := ev_go (S := (147, M, (some (.ref a) :: l), (.ref a :: st))) rfl rfl rfl
theorem s141_147 : ji_Ev C 141 147 M lv (.ref a :: st) o ↔ ji_kd M a = some (0, 8) ∧ ji_Ev C 141 150 M lv (ji_rv (ji_gR M a 6) :: st) o := ev_getR (k := 141) rfl fd_8_45 rfl
theorem s141_150 : ji_Ev C 141 150 M lv (.ref a :: st) o ↔ (ji_rcb M 2 (.ref a) = true ∧ ji_ok8 st) ∧ ji_evC (C 47 [.ref a] M) (fun v M' => ji_Ev C 141 153 M' lv (v.toList ++ st) o) := ev_inv (k := 141) rfl cd_8_202 rfl
theorem s141_153 : ji_Ev C 141 153 M lv [.int x] o ↔ o = (some (.int x), M) := ev_ireti rfl rfl
theorem s141_154 : ji_Ev C 141 154 M (some (.ref a) :: l) st o ↔ ji_Ev C 141 155 M (some (.ref a) :: l) (.ref a :: st) o := ev_go (S := (155, M, (some (.ref a) :: l), (.ref a :: st))) rfl rfl rfl
theorem s141_155 : ji_Ev C 141 155 M lv (.ref a :: st) o ↔ ji_kd M a = some (0, 8) ∧ ji_Ev C 141 158 M lv (ji_rv (ji_gR M a 8) :: st) o := ev_getR (k := 141) rfl fd_8_55 rfl
theorem s141_158 : ji_Ev C 141 158 M lv (.ref a :: st) o ↔ (ji_rcb M 2 (.ref a) = true ∧ ji_ok8 st) ∧ ji_evC (C 47 [.ref a] M) (fun v M' => ji_Ev C 141 161 M' lv (v.toList ++ st) o) := ev_inv (k := 141) rfl cd_8_202 rfl
theorem s141_161 : ji_Ev C 141 161 M lv [.int x] o ↔ o = (some (.int x), M) := ev_ireti rfl rfl
theorem s141_162 : ji_Ev C 141 162 M (some (.ref a) :: l) st o ↔ ji_Ev C 141 163 M (some (.ref a) :: l) (.ref a :: st) o := ev_go (S := (163, M, (some (.ref a) :: l), (.ref a :: st))) rfl rfl rfl
theorem s141_163 : ji_Ev C 141 163 M lv (.ref a :: st) o ↔ ji_kd M a = some (0, 8) ∧ ji_Ev C 141 166 M lv (ji_rv (ji_gR M a 9) :: st) o := ev_getR (k := 141) rfl fd_8_58 rfl
theorem s141_166 : ji_Ev C 141 166 M lv (.ref a :: st) o ↔ (ji_rcb M 2 (.ref a) = true ∧ ji_ok8 st) ∧ ji_evC (C 47 [.ref a] M) (fun v M' => ji_Ev C 141 169 M' lv (v.toList ++ st) o) := ev_inv (k := 141) rfl cd_8_202 rfl
theorem s141_169 : ji_Ev C 141 169 M lv [.int x] o ↔ o = (some (.int x), M) := ev_ireti rfl rfl
theorem s141_170 : ji_Ev C 141 170 M (some (.ref a) :: l) st o ↔ ji_Ev C 141 171 M (some (.ref a) :: l) (.ref a :: st) o := ev_go (S := (171, M, (some (.ref a) :: l), (.ref a :: st))) rfl rfl rfl
theorem s141_171 : ji_Ev C 141 171 M lv (.ref a :: st) o ↔ ji_kd M a = some (0, 8) ∧ ji_Ev C 141 174 M lv (ji_rv (ji_gR M a 10) :: st) o := ev_getR (k := 141) rfl fd_8_61 rfl
theorem s141_174 : ji_Ev C 141 174 M lv (.ref a :: st) o ↔ (ji_rcb M 2 (.ref a) = true ∧ ji_ok8 st) ∧ ji_evC (C 47 [.ref a] M) (fun v M' => ji_Ev C 141 177 M' lv (v.toList ++ st) o) := ev_inv (k := 141) rfl cd_8_202 rfl
theorem s141_177 : ji_Ev C 141 177 M lv [.int x] o ↔ o = (some (.int x), M) := ev_ireti rfl rfl
theorem s141_178 : ji_Ev C 141 178 M (some (.ref a) :: l) st o ↔ ji_Ev C 141 179 M (some (.ref a) :: l) (.ref a :: st) o := ev_go (S := (179, M, (some (.ref a) :: l), (.ref a :: st))) rfl rfl rfl
theorem s141_179 : ji_Ev C 141 179 M lv (.ref a :: st) o ↔ ji_kd M a = some (0, 8) ∧ ji_Ev C 141 182 M lv (ji_rv (ji_gR M a 11) :: st) o := ev_getR (k := 141) rfl fd_8_64 rfl
theorem s141_182 : ji_Ev C 141 182 M lv (.ref a :: st) o ↔ (ji_rcb M 2 (.ref a) = true ∧ ji_ok8 st) ∧ ji_evC (C 47 [.ref a] M) (fun v M' => ji_Ev C 141 185 M' lv (v.toList ++ st) o) := ev_inv (k := 141) rfl cd_8_202 rfl
theorem s141_185 : ji_Ev C 141 185 M lv [.int x] o ↔ o = (some (.int x), M) := ev_ireti rfl rfl
theorem s141_186 : ji_Ev C 141 186 M (some (.ref a) :: l) st o ↔ ji_Ev C 141 187 M (some (.ref a) :: l) (.ref a :: st) o := ev_go (S := (187, M, (some (.ref a) :: l), (.ref a :: st))) rfl rfl rfl
theorem s141_187 : ji_Ev C 141 187 M lv (.ref a :: st) o ↔ ji_kd M a = some (0, 8) ∧ ji_Ev C 141 190 M lv (ji_rv (ji_gR M a 0) :: st) o := ev_getR (k := 141) rfl fd_8_10 rfl
theorem s141_190 : ji_Ev C 141 190 M lv st o ↔ ji_Ev C 141 191 M lv (.int 2 :: st) o := ev_go (S := (191, M, lv, (.int 2 :: st))) rfl rfl rfl
theorem s141_191 : ji_Ev C 141 191 M lv st o ↔ ji_Ev C 141 192 M lv (.int (-1) :: st) o := ev_go (S := (192, M, lv, (.int (-1) :: st))) rfl rfl rfl
theorem s141_192 : ji_Ev C 141 192 M lv (p1 :: p0 :: .ref a :: st) o ↔ (ji_rcb M 5 (.ref a) = true ∧ ji_ok8 st) ∧ ji_evC (C 82 [.ref a, p0, p1] M) (fun v M' => ji_Ev C 141 195 M' lv (v.toList ++ st) o) := ev_inv (k := 141) rfl cd_8_273 rfl
theorem s141_195 : ji_Ev C 141 195 M lv [.int x] o ↔ o = (some (.int x), M) := ev_ireti rfl rfl
theorem s141_196 : ji_Ev C 141 196 M (some (.ref a) :: l) st o ↔ ji_Ev C 141 197 M (some (.ref a) :: l) (.ref a :: st) o := ev_go (S := (197, M, (some (.ref a) :: l), (.ref a :: st))) rfl rfl rfl
theorem s141_197 : ji_Ev C 141 197 M lv (.ref a :: st) o ↔ ji_kd M a = some (0, 8) ∧ ji_Ev C 141 200 M lv (ji_rv (ji_gR M a 0) :: st) o := ev_getR (k := 141) rfl fd_8_10 rfl
theorem s141_200 : ji_Ev C 141 200 M lv st o ↔ ji_Ev C 141 201 M lv (.int 3 :: st) o := ev_go (S := (201, M, lv, (.int 3 :: st))) rfl rfl rfl
theorem s141_201 : ji_Ev C 141 201 M lv st o ↔ ji_Ev C 141 202 M lv (.int (-1) :: st) o := ev_go (S := (202, M, lv, (.int (-1) :: st))) rfl rfl rfl
theorem s141_202 : ji_Ev C 141 202 M lv (p1 :: p0 :: .ref a :: st) o ↔ (ji_rcb M 5 (.ref a) = true ∧ ji_ok8 st) ∧ ji_evC (C 82 [.ref a, p0, p1] M) (fun v M' => ji_Ev C 141 205 M' lv (v.toList ++ st) o) := ev_inv (k := 141) rfl cd_8_273 rfl
theorem s141_205 : ji_Ev C 141 205 M lv [.int x] o ↔ o = (some (.int x), M) := ev_ireti rfl rfl
theorem s141_206 : ji_Ev C 141 206 M lv st o ↔ ji_Ev C 141 208 M lv (.int (-2) :: st) o := ev_go (S := (208, M, lv, (.int (-2) :: st))) rfl rfl rfl
theorem s141_208 : ji_Ev C 141 208 M lv [.int x] o ↔ o = (some (.int x), M) := ev_ireti rfl rfl
theorem s142_0 : ji_Ev C 142 0 M (l0 :: some (.int x) :: l) st o ↔ ji_Ev C 142 1 M (l0 :: some (.int x) :: l) (.int x :: st) o := ev_go (S := (1, M, (l0 :: some (.int x) :: l), (.int x :: st))) rfl rfl rfl
theorem s142_1 : ji_Ev C 142 1 M lv (p0 :: st) o ↔ ji_ok8 st ∧ ji_evC (C 143 [p0] M) (fun v M' => ji_Ev C 142 4 M' lv (v.toList ++ st) o) := ev_sta (k := 142) (a := [p0]) rfl (Or.inl cd_8_276) rfl
theorem s142_4 : ji_Ev C 142 4 M lv (.int x :: st) o ↔ if x = 0 then ji_Ev C 142 16 M lv st o else ji_Ev C 142 7 M lv st o := ev_brz (c := .eq) rfl (by decide) rfl
theorem s142_7 : ji_Ev C 142 7 M (l0 :: l1 :: some (.int x) :: l) st o ↔ ji_Ev C 142 8 M (l0 :: l1 :: some (.int x) :: l) (.int x :: st) o := ev_go (S := (8, M, (l0 :: l1 :: some (.int x) :: l), (.int x :: st))) rfl rfl rfl
theorem s142_8 : ji_Ev C 142 8 M lv st o ↔ ji_Ev C 142 9 M lv (.int (-1) :: st) o := ev_go (S := (9, M, lv, (.int (-1) :: st))) rfl rfl rfl
theorem s142_9 : ji_Ev C 142 9 M lv st o ↔ ji_Ev C 142 10 M lv (.int 2 :: st) o := ev_go (S := (10, M, lv, (.int 2 :: st))) rfl rfl rfl
theorem s142_10 : ji_Ev C 142 10 M lv (p2 :: p1 :: p0 :: st) o ↔ ji_ok8 st ∧ ji_evC (C 43 [p0, p1, p2] M) (fun v M' => ji_Ev C 142 13 M' lv (v.toList ++ st) o) := ev_sta (k := 142) (a := [p2, p1, p0]) rfl (Or.inl cd_8_89) rfl
theorem s142_13 : ji_Ev C 142 13 M lv (.int x :: st) o ↔ if x = 0 then ji_Ev C 142 16 M lv st o else ji_Ev C 142 19 M lv st o := ev_brz (c := .ne) rfl (by decide) rfl
theorem s142_16 : ji_Ev C 142 16 M lv st o ↔ ji_Ev C 142 18 M lv (.int (-2) :: st) o := ev_go (S := (18, M, lv, (.int (-2) :: st))) rfl rfl rfl
theorem s142_18 : ji_Ev C 142 18 M lv [.int x] o ↔ o = (some (.int x), M) := ev_ireti rfl rfl
theorem s142_19 : ji_Ev C 142 19 M (l0 :: l1 :: some (.int x) :: l) st o ↔ ji_Ev C 142 20 M (l0 :: l1 :: some (.int x) :: l) (.int x :: st) o := ev_go (S := (20, M, (l0 :: l1 :: some (.int x) :: l), (.int x :: st))) rfl rfl rfl
theorem s142_20 : ji_Ev C 142 20 M lv st o ↔ ji_Ev C 142 21 M lv (.int (-1) :: st) o := ev_go (S := (21, M, lv, (.int (-1) :: st))) rfl rfl rfl
theorem s142_21 : ji_Ev C 142 21 M lv (.int y :: .int x :: st) o ↔ if x = y then ji_Ev C 142 33 M lv st o else ji_Ev C 142 24 M lv st o := ev_brc (c := .eq) rfl (by decide) rfl
theorem s142_24 : ji_Ev C 142 24 M (l0 :: l1 :: l2 :: some (.int x) :: l) st o ↔ ji_Ev C 142 25 M (l0 :: l1 :: l2 :: some (.int x) :: l) (.int x :: st) o := ev_go (S := (25, M, (l0 :: l1 :: l2 :: some (.int x) :: l), (.int x :: st))) rfl rfl rfl
theorem s142_25 : ji_Ev C 142 25 M lv st o ↔ ji_Ev C 142 27 M lv (.int 40 :: st) o := ev_go (S := (27, M, lv, (.int 40 :: st))) rfl rfl rfl
theorem s142_27 : ji_Ev C 142 27 M lv (.int y :: .int x :: st) o ↔ if y < x then ji_Ev C 142 30 M lv st o else ji_Ev C 142 33 M lv st o := ev_brc (c := .le) rfl (by decide) rfl
theorem s142_30 : ji_Ev C 142 30 M lv st o ↔ ji_Ev C 142 32 M lv (.int (-2) :: st) o := ev_go (S := (32, M, lv, (.int (-2) :: st))) rfl rfl rfl
theorem s142_32 : ji_Ev C 142 32 M lv [.int x] o ↔ o = (some (.int x), M) := ev_ireti rfl rfl
theorem s142_33 : ji_Ev C 142 33 M (l0 :: l1 :: some (.int x) :: l) st o ↔ ji_Ev C 142 34 M (l0 :: l1 :: some (.int x) :: l) (.int x :: st) o := ev_go (S := (34, M, (l0 :: l1 :: some (.int x) :: l), (.int x :: st))) rfl rfl rfl
theorem s142_34 : ji_Ev C 142 34 M lv st o ↔ ji_Ev C 142 35 M lv (.int (-1) :: st) o := ev_go (S := (35, M, lv, (.int (-1) :: st))) rfl rfl rfl
theorem s142_35 : ji_Ev C 142 35 M lv (.int y :: .int x :: st) o ↔ if x = y then ji_Ev C 142 45 M lv st o else ji_Ev C 142 38 M lv st o := ev_brc (c := .eq) rfl (by decide) rfl
theorem s142_38 : ji_Ev C 142 38 M (l0 :: l1 :: l2 :: some (.int x) :: l) st o ↔ ji_Ev C 142 39 M (l0 :: l1 :: l2 :: some (.int x) :: l) (.int x :: st) o := ev_go (S := (39, M, (l0 :: l1 :: l2 :: some (.int x) :: l), (.int x :: st))) rfl rfl rfl
theorem s142_39 : ji_Ev C 142 39 M lv (.int x :: st) o ↔ if x < 0 then ji_Ev C 142 42 M lv st o else ji_Ev C 142 45 M lv st o := ev_brz (c := .ge) rfl (by decide) rfl
theorem s142_42 : ji_Ev C 142 42 M lv st o ↔ ji_Ev C 142 44 M lv (.int (-14) :: st) o := ev_go (S := (44, M, lv, (.int (-14) :: st))) rfl rfl rfl
theorem s142_44 : ji_Ev C 142 44 M lv [.int x] o ↔ o = (some (.int x), M) := ev_ireti rfl rfl
theorem s142_45 : ji_Ev C 142 45 M (some (.ref a) :: l) st o ↔ ji_Ev C 142 46 M (some (.ref a) :: l) (.ref a :: st) o := ev_go (S := (46, M, (some (.ref a) :: l), (.ref a :: st))) rfl rfl rfl
theorem s142_46 : ji_Ev C 142 46 M lv (.ref a :: st) o ↔ ji_kd M a = some (0, 8) ∧ ji_Ev C 142 49 M lv (ji_rv (ji_gR M a 13) :: st) o := ev_getR (k := 142) rfl fd_8_77 rfl
theorem s142_49 : ji_Ev C 142 49 M (l0 :: some (.int x) :: l) st o ↔ ji_Ev C 142 50 M (l0 :: some (.int x) :: l) (.int x :: st) o := ev_go (S := (50, M, (l0 :: some (.int x) :: l), (.int x :: st))) rfl rfl rfl
theorem s142_50 : ji_Ev C 142 50 M (l0 :: l1 :: some (.int x) :: l) st o ↔ ji_Ev C 142 51 M (l0 :: l1 :: some (.int x) :: l) (.int x :: st) o := ev_go (S := (51, M, (l0 :: l1 :: some (.int x) :: l), (.int x :: st))) rfl rfl rfl
theorem s142_51 : ji_Ev C 142 51 M (l0 :: l1 :: l2 :: some (.int x) :: l) st o ↔ ji_Ev C 142 52 M (l0 :: l1 :: l2 :: some (.int x) :: l) (.int x :: st) o := ev_go (S := (52, M, (l0 :: l1 :: l2 :: some (.int x) :: l), (.int x :: st))) rfl rfl rfl
theorem s142_52 : ji_Ev C 142 52 M lv (p2 :: p1 :: p0 :: .ref a :: st) o ↔ (ji_rcb M 4 (.ref a) = true ∧ ji_ok8 st) ∧ ji_evC (C 144 [.ref a, p0, p1, p2] M) (fun v M' => ji_Ev C 142 55 M' lv (v.toList ++ st) o) := ev_inv (k := 142) rfl cd_8_279 rfl
theorem s142_55 : ji_Ev C 142 55 M lv st o ↔ ji_Ev C 142 56 M lv (.int 1 :: st) o := ev_go (S := (56, M, lv, (.int 1 :: st))) rfl rfl rfl
theorem s142_56 : ji_Ev C 142 56 M lv [.int x] o ↔ o = (some (.int x), M) := ev_ireti rfl rfl
theorem s143_0 : ji_Ev C 143 0 M (some (.int x) :: l) st o ↔ ji_Ev C 143 1 M (some (.int x) :: l) (.int x :: st) o := ev_go (S := (1, M, (some (.int x) :: l), (.int x :: st))) rfl rfl rfl
theorem s143_1 : ji_Ev C 143 1 M lv (.int x :: st) o ↔ if x < 0 then ji_Ev C 143 13 M lv st o else ji_Ev C 143 4 M lv st o := ev_brz (c := .lt) rfl (by decide) rfl
theorem s143_4 : ji_Ev C 143 4 M (some (.int x) :: l) st o ↔ ji_Ev C 143 5 M (some (.int x) :: l) (.int x :: st) o := ev_go (S := (5, M, (some (.int x) :: l), (.int x :: st))) rfl rfl rfl
theorem s143_5 : ji_Ev C 143 5 M lv st o ↔ ji_Ev C 143 6 M lv (.int 4 :: st) o := ev_go (S := (6, M, lv, (.int 4 :: st))) rfl rfl rfl
theorem s143_6 : ji_Ev C 143 6 M lv (.int y :: .int x :: st) o ↔ if x < y then ji_Ev C 143 9 M lv st o else ji_Ev C 143 13 M lv st o := ev_brc (c := .ge) rfl (by decide) rfl
theorem s143_9 : ji_Ev C 143 9 M lv st o ↔ ji_Ev C 143 10 M lv (.int 1 :: st) o := ev_go (S := (10, M, lv, (.int 1 :: st))) rfl rfl rfl
theorem s143_10 : ji_Ev C 143 10 M lv st o ↔ ji_Ev C 143 14 M lv st o := ev_gt rfl (by decide) rfl
theorem s143_13 : ji_Ev C 143 13 M lv st o ↔ ji_Ev C 143 14 M lv (.int 0 :: st) o := ev_go (S := (14, M, lv, (.int 0 :: st))) rfl rfl rfl
theorem s143_14 : ji_Ev C 143 14 M lv [.int x] o ↔ narrow .boolean (.int x) = .int x ∧ o = (some (.int x), M) := ev_iretb rfl rfl
theorem s144_0 : ji_Ev C 144 0 M (l0 :: some (.int x) :: l) st o ↔ ji_Ev C 144 1 M (l0 :: some (.int x) :: l) (.int x :: st) o := ev_go (S := (1, M, (l0 :: some (.int x) :: l), (.int x :: st))) rfl rfl rfl
theorem s144_1 : ji_Ev C 144 1 M lv (p0 :: st) o ↔ ji_ok8 st ∧ ji_evC (C 143 [p0] M) (fun v M' => ji_Ev C 144 4 M' lv (v.toList ++ st) o) := ev_sta (k := 144) (a := [p0]) rfl (Or.inl cd_4_21) rfl
theorem s144_4 : ji_Ev C 144 4 M lv (.int x :: st) o ↔ if x = 0 then ji_Ev C 144 49 M lv st o else ji_Ev C 144 7 M lv st o := ev_brz (c := .eq) rfl (by decide) rfl
theorem s144_7 : ji_Ev C 144 7 M (some (.ref a) :: l) st o ↔ ji_Ev C 144 8 M (some (.ref a) :: l) (.ref a :: st) o := ev_go (S := (8, M, (some (.ref a) :: l), (.ref a :: st))) rfl rfl rfl
theorem s144_8 : ji_Ev C 144 8 M lv (.ref a :: st) o ↔ ji_kd M a = some (0, 4) ∧ ji_Ev C 144 11 M lv (ji_rv (ji_gR M a 1) :: st) o := ev_getR (k := 144) rfl fd_4_14 rfl
theorem s144_11 : ji_Ev C 144 11 M (l0 :: some (.int x) :: l) st o ↔ ji_Ev C 144 12 M (l0 :: some (.int x) :: l) (.int x :: st) o := ev_go (S := (12, M, (l0 :: some (.int x) :: l), (.int x :: st))) rfl rfl rfl
theorem s144_12 : ji_Ev C 144 12 M (l0 :: l1 :: some (.int x) :: l) st o ↔ ji_Ev C 144 13 M (l0 :: l1 :: some (.int x) :: l) (.int x :: st) o := ev_go (S := (13, M, (l0 :: l1 :: some (.int x) :: l), (.int x :: st))) rfl rfl rfl
theorem s144_13 : ji_Ev C 144 13 M lv (.int y :: .int x :: .ref a :: st) o ↔ ji_evA (ji_kd M a) (fun n => vp_in x n ∧ ji_Ev C 144 14 (ji_sI M a x.toNatClampNeg y) lv st o) := ev_iast rfl
theorem s144_14 : ji_Ev C 144 14 M (some (.ref a) :: l) st o ↔ ji_Ev C 144 15 M (some (.ref a) :: l) (.ref a :: st) o := ev_go (S := (15, M, (some (.ref a) :: l), (.ref a :: st))) rfl rfl rfl
theorem s144_15 : ji_Ev C 144 15 M lv (.ref a :: st) o ↔ ji_kd M a = some (0, 4) ∧ ji_Ev C 144 18 M lv (ji_rv (ji_gR M a 2) :: st) o := ev_getR (k := 144) rfl fd_4_18 rfl
theorem s144_18 : ji_Ev C 144 18 M (l0 :: some (.int x) :: l) st o ↔ ji_Ev C 144 19 M (l0 :: some (.int x) :: l) (.int x :: st) o := ev_go (S := (19, M, (l0 :: some (.int x) :: l), (.int x :: st))) rfl rfl rfl
theorem s144_19 : ji_Ev C 144 19 M (l0 :: l1 :: some (.int x) :: l) st o ↔ ji_Ev C 144 20 M (l0 :: l1 :: some (.int x) :: l) (.int x :: st) o := ev_go (S := (20, M, (l0 :: l1 :: some (.int x) :: l), (.int x :: st))) rfl rfl rfl
theorem s144_20 : ji_Ev C 144 20 M lv st o ↔ ji_Ev C 144 21 M lv (.int (-1) :: st) o := ev_go (S := (21, M, lv, (.int (-1) :: st))) rfl rfl rfl
theorem s144_21 : ji_Ev C 144 21 M lv (.int y :: .int x :: st) o ↔ if x = y then ji_Ev C 144 24 M lv st o else ji_Ev C 144 28 M lv st o := ev_brc (c := .ne) rfl (by decide) rfl
theorem s144_24 : ji_Ev C 144 24 M lv st o ↔ ji_Ev C 144 25 M lv (.int 0 :: st) o := ev_go (S := (25, M, lv, (.int 0 :: st))) rfl rfl rfl
theorem s144_25 : ji_Ev C 144 25 M lv st o ↔ ji_Ev C 144 38 M lv st o := ev_gt rfl (by decide) rfl
theorem s144_28 : ji_Ev C 144 28 M lv st o ↔ ji_Ev C 144 29 M lv (.int 0 :: st) o := ev_go (S := (29, M, lv, (.int 0 :: st))) rfl rfl rfl
theorem s144_29 : ji_Ev C 144 29 M lv st o ↔ ji_Ev C 144 31 M lv (.int 40 :: st) o := ev_go (S := (31, M, lv, (.int 40 :: st))) rfl rfl rfl
theorem s144_31 : ji_Ev C 144 31 M (l0 :: l1 :: l2 :: some (.int x) :: l) st o ↔ ji_Ev C 144 32 M (l0 :: l1 :: l2 :: some (.int x) :: l) (.int x :: st) o := ev_go (S := (32, M, (l0 :: l1 :: l2 :: some (.int x) :: l), (.int x :: st))) rfl rfl rfl
theorem s144_32 : ji_Ev C 144 32 M lv (.int y :: .int x :: st) o ↔ ji_ok8 st ∧ ji_Ev C 144 35 M lv (.int (if y < x then y else x) :: st) o := ev_min (k := 144) rfl cd_4_29
theorem s144_35 : ji_Ev C 144 35 M lv (.int y :: .int x :: st) o ↔ ji_ok8 st ∧ ji_Ev C 144 38 M lv (.int (if x < y then y else x) :: st) o := ev_max (k := 144) rfl cd_4_35
theorem s144_38 : ji_Ev C 144 38 M lv (.int y :: .int x :: .ref a :: st) o ↔ ji_evA (ji_kd M a) (fun n => vp_in x n ∧ ji_Ev C 144 39 (ji_sI M a x.toNatClampNeg y) lv st o) := ev_iast rfl
theorem s144_39 : ji_Ev C 144 39 M (some (.ref a) :: l) st o ↔ ji_Ev C 144 40 M (some (.ref a) :: l) (.ref a :: st) o := ev_go (S := (40, M, (some (.ref a) :: l), (.ref a :: st))) rfl rfl rfl
theorem s144_40 : ji_Ev C 144 40 M lv (.ref a :: st) o ↔ ji_kd M a = some (0, 4) ∧ ji_Ev C 144 43 M lv (ji_rv (ji_gR M a 0) :: st) o := ev_getR (k := 144) rfl fd_4_11 rfl
theorem s144_43 : ji_Ev C 144 43 M (l0 :: some (.int x) :: l) st o ↔ ji_Ev C 144 44 M (l0 :: some (.int x) :: l) (.int x :: st) o := ev_go (S := (44, M, (l0 :: some (.int x) :: l), (.int x :: st))) rfl rfl rfl
theorem s144_44 : ji_Ev C 144 44 M lv (.int x :: .ref a :: st) o ↔ ji_evQ (ji_kd M a) (fun n => vp_in x n ∧ ji_Ev C 144 45 M lv (ji_rv (ji_gR M a x.toNatClampNeg) :: st) o) := ev_aald rfl
theorem s144_45 : ji_Ev C 144 45 M lv st o ↔ ji_Ev C 144 46 M lv (.int 0 :: st) o := ev_go (S := (46, M, lv, (.int 0 :: st))) rfl rfl rfl
theorem s144_46 : ji_Ev C 144 46 M lv (p1 :: p0 :: st) o ↔ ji_ok8 st ∧ ji_evC (C 120 [p0, p1] M) (fun v M' => ji_Ev C 144 49 M' lv (v.toList ++ st) o) := ev_sta (k := 144) (a := [p1, p0]) rfl (Or.inl cd_4_38) rfl
theorem s144_49 : ji_Ev C 144 49 M lv [] o ↔ o = (none, M) := ev_vret rfl rfl
theorem s145_0 : ji_Ev C 145 0 M (l0 :: some (.int x) :: l) st o ↔ ji_Ev C 145 1 M (l0 :: some (.int x) :: l) (.int x :: st) o := ev_go (S := (1, M, (l0 :: some (.int x) :: l), (.int x :: st))) rfl rfl rfl
theorem s145_1 : ji_Ev C 145 1 M lv (p0 :: st) o ↔ ji_ok8 st ∧ ji_evC (C 143 [p0] M) (fun v M' => ji_Ev C 145 4 M' lv (v.toList ++ st) o) := ev_sta (k := 145) (a := [p0]) rfl (Or.inl cd_8_276) rfl
theorem s145_4 : ji_Ev C 145 4 M lv (.int x :: st) o ↔ if x = 0 then ji_Ev C 145 7 M lv st o else ji_Ev C 145 10 M lv st o := ev_brz (c := .ne) rfl (by decide) rfl
theorem s145_7 : ji_Ev C 145 7 M lv st o ↔ ji_Ev C 145 9 M lv (.int (-2) :: st) o := ev_go (S := (9, M, lv, (.int (-2) :: st))) rfl rfl rfl
theorem s145_9 : ji_Ev C 145 9 M lv [.int x] o ↔ o = (some (.int x), M) := ev_ireti rfl rfl
theorem s145_10 : ji_Ev C 145 10 M (some (.ref a) :: l) st o ↔ ji_Ev C 145 11 M (some (.ref a) :: l) (.ref a :: st) o := ev_go (S := (11, M, (some (.ref a) :: l), (.ref a :: st))) rfl rfl rfl
theorem s145_11 : ji_Ev C 145 11 M lv (.ref a :: st) o ↔ ji_kd M a = some (0, 8) ∧ ji_Ev C 145 14 M lv (ji_rv (ji_gR M a 13) :: st) o := ev_getR (k := 145) rfl fd_8_77 rfl
theorem s145_14 : ji_Ev C 145 14 M (l0 :: some (.int x) :: l) st o ↔ ji_Ev C 145 15 M (l0 :: some (.int x) :: l) (.int x :: st) o := ev_go (S := (15, M, (l0 :: some (.int x) :: l), (.int x :: st))) rfl rfl rfl
theorem s145_15 : ji_Ev C 145 15 M lv (p0 :: .ref a :: st) o ↔ (ji_rcb M 4 (.ref a) = true ∧ ji_ok8 st) ∧ ji_evC (C 146 [.ref a, p0] M) (fun v M' => ji_Ev C 145 18 M' lv (v.toList ++ st) o) := ev_inv (k := 145) rfl cd_8_282 rfl
theorem s145_18 : ji_Ev C 145 18 M lv (.int x :: st) o ↔ if x = 0 then ji_Ev C 145 24 M lv st o else ji_Ev C 145 21 M lv st o := ev_brz (c := .eq) rfl (by decide) rfl
theorem s145_21 : ji_Ev C 145 21 M lv st o ↔ ji_Ev C 145 23 M lv (.int (-11) :: st) o := ev_go (S := (23, M, lv, (.int (-11) :: st))) rfl rfl rfl
theorem s145_23 : ji_Ev C 145 23 M lv [.int x] o ↔ o = (some (.int x), M) := ev_ireti rfl rfl
theorem s145_24 : ji_Ev C 145 24 M (some (.ref a) :: l) st o ↔ ji_Ev C 145 25 M (some (.ref a) :: l) (.ref a :: st) o := ev_go (S := (25, M, (some (.ref a) :: l), (.ref a :: st))) rfl rfl rfl
theorem s145_25 : ji_Ev C 145 25 M lv (.ref a :: st) o ↔ ji_kd M a = some (0, 8) ∧ ji_Ev C 145 28 M lv (ji_rv (ji_gR M a 13) :: st) o := ev_getR (k := 145) rfl fd_8_77 rfl
theorem s145_28 : ji_Ev C 145 28 M (l0 :: some (.int x) :: l) st o ↔ ji_Ev C 145 29 M (l0 :: some (.int x) :: l) (.int x :: st) o := ev_go (S := (29, M, (l0 :: some (.int x) :: l), (.int x :: st))) rfl rfl rfl
theorem s145_29 : ji_Ev C 145 29 M (l0 :: l1 :: some (.int x) :: l) st o ↔ ji_Ev C 145 30 M (l0 :: l1 :: some (.int x) :: l) (.int x :: st) o := ev_go (S := (30, M, (l0 :: l1 :: some (.int x) :: l), (.int x :: st))) rfl rfl rfl
theorem s145_30 : ji_Ev C 145 30 M lv (p1 :: p0 :: .ref a :: st) o ↔ (ji_rcb M 4 (.ref a) = true ∧ ji_ok8 st) ∧ ji_evC (C 148 [.ref a, p0, p1] M) (fun v M' => ji_Ev C 145 33 M' lv (v.toList ++ st) o) := ev_inv (k := 145) rfl cd_8_285 rfl
theorem s145_33 : ji_Ev C 145 33 M lv (.int x :: st) o ↔ if x = 0 then ji_Ev C 145 36 M lv st o else ji_Ev C 145 39 M lv st o := ev_brz (c := .ne) rfl (by decide) rfl
theorem s145_36 : ji_Ev C 145 36 M lv st o ↔ ji_Ev C 145 38 M lv (.int (-12) :: st) o := ev_go (S := (38, M, lv, (.int (-12) :: st))) rfl rfl rfl
theorem s145_38 : ji_Ev C 145 38 M lv [.int x] o ↔ o = (some (.int x), M) := ev_ireti rfl rfl
theorem s145_39 : ji_Ev C 145 39 M (some (.ref a) :: l) st o ↔ ji_Ev C 145 40 M (some (.ref a) :: l) (.ref a :: st) o := ev_go (S := (40, M, (some (.ref a) :: l), (.ref a :: st))) rfl rfl rfl
theorem s145_40 : ji_Ev C 145 40 M lv (.ref a :: st) o ↔ ji_kd M a = some (0, 8) ∧ ji_Ev C 145 43 M lv (ji_rv (ji_gR M a 13) :: st) o := ev_getR (k := 145) rfl fd_8_77 rfl
theorem s145_43 : ji_Ev C 145 43 M (l0 :: some (.int x) :: l) st o ↔ ji_Ev C 145 44 M (l0 :: some (.int x) :: l) (.int x :: st) o := ev_go (S := (44, M, (l0 :: some (.int x) :: l), (.int x :: st))) rfl rfl rfl
theorem s145_44 : ji_Ev C 145 44 M (l0 :: l1 :: some (.int x) :: l) st o ↔ ji_Ev C 145 45 M (l0 :: l1 :: some (.int x) :: l) (.int x :: st) o := ev_go (S := (45, M, (l0 :: l1 :: some (.int x) :: l), (.int x :: st))) rfl rfl rfl
theorem s145_45 : ji_Ev C 145 45 M (l0 :: l1 :: l2 :: some (.int x) :: l) st o ↔ ji_Ev C 145 46 M (l0 :: l1 :: l2 :: some (.int x) :: l) (.int x :: st) o := ev_go (S := (46, M, (l0 :: l1 :: l2 :: some (.int x) :: l), (.int x :: st))) rfl rfl rfl
theorem s145_46 : ji_Ev C 145 46 M lv (p2 :: p1 :: p0 :: .ref a :: st) o ↔ (ji_rcb M 4 (.ref a) = true ∧ ji_ok8 st) ∧ ji_evC (C 149 [.ref a, p0, p1, p2] M) (fun v M' => ji_Ev C 145 49 M' lv (v.toList ++ st) o) := ev_inv (k := 145) rfl cd_8_287 rfl
theorem s145_49 : ji_Ev C 145 49 M lv st o ↔ ji_Ev C 145 50 M lv (.int 1 :: st) o := ev_go (S := (50, M, lv, (.int 1 :: st))) rfl rfl rfl
theorem s145_50 : ji_Ev C 145 50 M lv [.int x] o ↔ o = (some (.int x), M) := ev_ireti rfl rfl
theorem s146_0 : ji_Ev C 146 0 M (some (.ref a) :: l) st o ↔ ji_Ev C 146 1 M (some (.ref a) :: l) (.ref a :: st) o := ev_go (S := (1, M, (some (.ref a) :: l), (.ref a :: st))) rfl rfl rfl
theorem s146_1 : ji_Ev C 146 1 M (l0 :: some (.int x) :: l) st o ↔ ji_Ev C 146 2 M (l0 :: some (.int x) :: l) (.int x :: st) o := ev_go (S := (2, M, (l0 :: some (.int x) :: l), (.int x :: st))) rfl rfl rfl
theorem s146_2 : ji_Ev C 146 2 M lv (p0 :: .ref a :: st) o ↔ (ji_rcb M 4 (.ref a) = true ∧ ji_ok8 st) ∧ ji_evC (C 147 [.ref a, p0] M) (fun v M' => ji_Ev C 146 5 M' lv (v.toList ++ st) o) := ev_inv (k := 146) rfl cd_4_25 rfl
theorem s146_5 : ji_Ev C 146 5 M lv st o ↔ ji_Ev C 146 6 M lv (.int (-1) :: st) o := ev_go (S := (6, M, lv, (.int (-1) :: st))) rfl rfl rfl
theorem s146_6 : ji_Ev C 146 6 M lv (.int y :: .int x :: st) o ↔ if x = y then ji_Ev C 146 9 M lv st o else ji_Ev C 146 13 M lv st o := ev_brc (c := .ne) rfl (by decide) rfl
theorem s146_9 : ji_Ev C 146 9 M lv st o ↔ ji_Ev C 146 10 M lv (.int 1 :: st) o := ev_go (S := (10, M, lv, (.int 1 :: st))) rfl rfl rfl
theorem s146_10 : ji_Ev C 146 10 M lv st o ↔ ji_Ev C 146 14 M lv st o := ev_gt rfl (by decide) rfl
theorem s146_13 : ji_Ev C 146 13 M lv st o ↔ ji_Ev C 146 14 M lv (.int 0 :: st) o := ev_go (S := (14, M, lv, (.int 0 :: st))) rfl rfl rfl
theorem s146_14 : ji_Ev C 146 14 M lv [.int x] o ↔ narrow .boolean (.int x) = .int x ∧ o = (some (.int x), M) := ev_iretb rfl rfl
theorem s147_0 : ji_Ev C 147 0 M (l0 :: some (.int x) :: l) st o ↔ ji_Ev C 147 1 M (l0 :: some (.int x) :: l) (.int x :: st) o := ev_go (S := (1, M, (l0 :: some (.int x) :: l), (.int x :: st))) rfl rfl rfl
theorem s147_1 : ji_Ev C 147 1 M lv (p0 :: st) o ↔ ji_ok8 st ∧ ji_evC (C 143 [p0] M) (fun v M' => ji_Ev C 147 4 M' lv (v.toList ++ st) o) := ev_sta (k := 147) (a := [p0]) rfl (Or.inl cd_4_21) rfl
theorem s147_4 : ji_Ev C 147 4 M lv (.int x :: st) o ↔ if x = 0 then ji_Ev C 147 16 M lv st o else ji_Ev C 147 7 M lv st o := ev_brz (c := .eq) rfl (by decide) rfl
theorem s147_7 : ji_Ev C 147 7 M (some (.ref a) :: l) st o ↔ ji_Ev C 147 8 M (some (.ref a) :: l) (.ref a :: st) o := ev_go (S := (8, M, (some (.ref a) :: l), (.ref a :: st))) rfl rfl rfl
theorem s147_8 : ji_Ev C 147 8 M lv (.ref a :: st) o ↔ ji_kd M a = some (0, 4) ∧ ji_Ev C 147 11 M lv (ji_rv (ji_gR M a 1) :: st) o := ev_getR (k := 147) rfl fd_4_14 rfl
theorem s147_11 : ji_Ev C 147 11 M (l0 :: some (.int x) :: l) st o ↔ ji_Ev C 147 12 M (l0 :: some (.int x) :: l) (.int x :: st) o := ev_go (S := (12, M, (l0 :: some (.int x) :: l), (.int x :: st))) rfl rfl rfl
theorem s147_12 : ji_Ev C 147 12 M lv (.int x :: .ref a :: st) o ↔ ji_evA (ji_kd M a) (fun n => vp_in x n ∧ ji_Ev C 147 13 M lv (.int (ji_gI M a x.toNatClampNeg) :: st) o) := ev_iald rfl
theorem s147_13 : ji_Ev C 147 13 M lv st o ↔ ji_Ev C 147 17 M lv st o := ev_gt rfl (by decide) rfl
theorem s147_16 : ji_Ev C 147 16 M lv st o ↔ ji_Ev C 147 17 M lv (.int (-1) :: st) o := ev_go (S := (17, M, lv, (.int (-1) :: st))) rfl rfl rfl
theorem s147_17 : ji_Ev C 147 17 M lv [.int x] o ↔ o = (some (.int x), M) := ev_ireti rfl rfl
theorem s148_0 : ji_Ev C 148 0 M (l0 :: some (.int x) :: l) st o ↔ ji_Ev C 148 1 M (l0 :: some (.int x) :: l) (.int x :: st) o := ev_go (S := (1, M, (l0 :: some (.int x) :: l), (.int x :: st))) rfl rfl rfl
theorem s148_1 : ji_Ev C 148 1 M lv (p0 :: st) o ↔ ji_ok8 st ∧ ji_evC (C 143 [p0] M) (fun v M' => ji_Ev C 148 4 M' lv (v.toList ++ st) o) := ev_sta (k := 148) (a := [p0]) rfl (Or.inl cd_4_21) rfl
theorem s148_4 : ji_Ev C 148 4 M lv (.int x :: st) o ↔ if x = 0 then ji_Ev C 148 25 M lv st o else ji_Ev C 148 7 M lv st o := ev_brz (c := .eq) rfl (by decide) rfl
theorem s148_7 : ji_Ev C 148 7 M (l0 :: l1 :: some (.int x) :: l) st o ↔ ji_Ev C 148 8 M (l0 :: l1 :: some (.int x) :: l) (.int x :: st) o := ev_go (S := (8, M, (l0 :: l1 :: some (.int x) :: l), (.int x :: st))) rfl rfl rfl
theorem s148_8 : ji_Ev C 148 8 M lv (.int x :: st) o ↔ if x < 0 then ji_Ev C 148 25 M lv st o else ji_Ev C 148 11 M lv st o := ev_brz (c := .lt) rfl (by decide) rfl
theorem s148_11 : ji_Ev C 148 11 M (l0 :: l1 :: some (.int x) :: l) st o ↔ ji_Ev C 148 12 M (l0 :: l1 :: some (.int x) :: l) (.int x :: st) o := ev_go (S := (12, M, (l0 :: l1 :: some (.int x) :: l), (.int x :: st))) rfl rfl rfl
theorem s148_12 : ji_Ev C 148 12 M (some (.ref a) :: l) st o ↔ ji_Ev C 148 13 M (some (.ref a) :: l) (.ref a :: st) o := ev_go (S := (13, M, (some (.ref a) :: l), (.ref a :: st))) rfl rfl rfl
theorem s148_13 : ji_Ev C 148 13 M lv (.ref a :: st) o ↔ ji_kd M a = some (0, 4) ∧ ji_Ev C 148 16 M lv (ji_rv (ji_gR M a 2) :: st) o := ev_getR (k := 148) rfl fd_4_18 rfl
theorem s148_16 : ji_Ev C 148 16 M (l0 :: some (.int x) :: l) st o ↔ ji_Ev C 148 17 M (l0 :: some (.int x) :: l) (.int x :: st) o := ev_go (S := (17, M, (l0 :: some (.int x) :: l), (.int x :: st))) rfl rfl rfl
theorem s148_17 : ji_Ev C 148 17 M lv (.int x :: .ref a :: st) o ↔ ji_evA (ji_kd M a) (fun n => vp_in x n ∧ ji_Ev C 148 18 M lv (.int (ji_gI M a x.toNatClampNeg) :: st) o) := ev_iald rfl
theorem s148_18 : ji_Ev C 148 18 M lv (.int y :: .int x :: st) o ↔ if x < y then ji_Ev C 148 21 M lv st o else ji_Ev C 148 25 M lv st o := ev_brc (c := .ge) rfl (by decide) rfl
theorem s148_21 : ji_Ev C 148 21 M lv st o ↔ ji_Ev C 148 22 M lv (.int 1 :: st) o := ev_go (S := (22, M, lv, (.int 1 :: st))) rfl rfl rfl
theorem s148_22 : ji_Ev C 148 22 M lv st o ↔ ji_Ev C 148 26 M lv st o := ev_gt rfl (by decide) rfl
theorem s148_25 : ji_Ev C 148 25 M lv st o ↔ ji_Ev C 148 26 M lv (.int 0 :: st) o := ev_go (S := (26, M, lv, (.int 0 :: st))) rfl rfl rfl
theorem s148_26 : ji_Ev C 148 26 M lv [.int x] o ↔ narrow .boolean (.int x) = .int x ∧ o = (some (.int x), M) := ev_iretb rfl rfl
theorem s149_0 : ji_Ev C 149 0 M (some (.ref a) :: l) st o ↔ ji_Ev C 149 1 M (some (.ref a) :: l) (.ref a :: st) o := ev_go (S := (1, M, (some (.ref a) :: l), (.ref a :: st))) rfl rfl rfl
theorem s149_1 : ji_Ev C 149 1 M (l0 :: some (.int x) :: l) st o ↔ ji_Ev C 149 2 M (l0 :: some (.int x) :: l) (.int x :: st) o := ev_go (S := (2, M, (l0 :: some (.int x) :: l), (.int x :: st))) rfl rfl rfl
theorem s149_2 : ji_Ev C 149 2 M (l0 :: l1 :: some (.int x) :: l) st o ↔ ji_Ev C 149 3 M (l0 :: l1 :: some (.int x) :: l) (.int x :: st) o := ev_go (S := (3, M, (l0 :: l1 :: some (.int x) :: l), (.int x :: st))) rfl rfl rfl
theorem s149_3 : ji_Ev C 149 3 M lv (p1 :: p0 :: .ref a :: st) o ↔ (ji_rcb M 4 (.ref a) = true ∧ ji_ok8 st) ∧ ji_evC (C 148 [.ref a, p0, p1] M) (fun v M' => ji_Ev C 149 6 M' lv (v.toList ++ st) o) := ev_inv (k := 149) rfl cd_4_44 rfl
theorem s149_6 : ji_Ev C 149 6 M lv (.int x :: st) o ↔ if x = 0 then ji_Ev C 149 47 M lv st o else ji_Ev C 149 9 M lv st o := ev_brz (c := .eq) rfl (by decide) rfl
theorem s149_9 : ji_Ev C 149 9 M (some (.ref a) :: l) st o ↔ ji_Ev C 149 10 M (some (.ref a) :: l) (.ref a :: st) o := ev_go (S := (10, M, (some (.ref a) :: l), (.ref a :: st))) rfl rfl rfl
theorem s149_10 : ji_Ev C 149 10 M lv (.ref a :: st) o ↔ ji_kd M a = some (0, 4) ∧ ji_Ev C 149 13 M lv (ji_rv (ji_gR M a 1) :: st) o := ev_getR (k := 149) rfl fd_4_14 rfl
theorem s149_13 : ji_Ev C 149 13 M (l0 :: some (.int x) :: l) st o ↔ ji_Ev C 149 14 M (l0 :: some (.int x) :: l) (.int x :: st) o := ev_go (S := (14, M, (l0 :: some (.int x) :: l), (.int x :: st))) rfl rfl rfl
theorem s149_14 : ji_Ev C 149 14 M lv (.int x :: .ref a :: st) o ↔ ji_evA (ji_kd M a) (fun n => vp_in x n ∧ ji_Ev C 149 15 M lv (.int (ji_gI M a x.toNatClampNeg) :: st) o) := ev_iald rfl
theorem s149_15 : ji_Ev C 149 15 M lv (.int x :: st) o ↔ 4 < lv.length ∧ ji_Ev C 149 17 M (ji_s1 lv 4 (.int x)) st o := ev_stI rfl rfl rfl
theorem s149_17 : ji_Ev C 149 17 M (some (.ref a) :: l) st o ↔ ji_Ev C 149 18 M (some (.ref a) :: l) (.ref a :: st) o := ev_go (S := (18, M, (some (.ref a) :: l), (.ref a :: st))) rfl rfl rfl
theorem s149_18 : ji_Ev C 149 18 M lv (.ref a :: st) o ↔ ji_kd M a = some (0, 4) ∧ ji_Ev C 149 21 M lv (ji_rv (ji_gR M a 0) :: st) o := ev_getR (k := 149) rfl fd_4_11 rfl
theorem s149_21 : ji_Ev C 149 21 M (l0 :: some (.int x) :: l) st o ↔ ji_Ev C 149 22 M (l0 :: some (.int x) :: l) (.int x :: st) o := ev_go (S := (22, M, (l0 :: some (.int x) :: l), (.int x :: st))) rfl rfl rfl
theorem s149_22 : ji_Ev C 149 22 M lv (.int x :: .ref a :: st) o ↔ ji_evQ (ji_kd M a) (fun n => vp_in x n ∧ ji_Ev C 149 23 M lv (ji_rv (ji_gR M a x.toNatClampNeg) :: st) o) := ev_aald rfl
theorem s149_23 : ji_Ev C 149 23 M (l0 :: l1 :: some (.int x) :: l) st o ↔ ji_Ev C 149 24 M (l0 :: l1 :: some (.int x) :: l) (.int x :: st) o := ev_go (S := (24, M, (l0 :: l1 :: some (.int x) :: l), (.int x :: st))) rfl rfl rfl
theorem s149_24 : ji_Ev C 149 24 M (l0 :: l1 :: l2 :: l3 :: some (.int x) :: l) st o ↔ ji_Ev C 149 26 M (l0 :: l1 :: l2 :: l3 :: some (.int x) :: l) (.int x :: st) o := ev_go (S := (26, M, (l0 :: l1 :: l2 :: l3 :: some (.int x) :: l), (.int x :: st))) rfl rfl rfl
theorem s149_26 : ji_Ev C 149 26 M lv (.int x :: st) o ↔ if x = 0 then ji_Ev C 149 29 M lv st o else ji_Ev C 149 34 M lv st o := ev_brz (c := .ne) rfl (by decide) rfl
theorem s149_29 : ji_Ev C 149 29 M (l0 :: l1 :: l2 :: some (.int x) :: l) st o ↔ ji_Ev C 149 30 M (l0 :: l1 :: l2 :: some (.int x) :: l) (.int x :: st) o := ev_go (S := (30, M, (l0 :: l1 :: l2 :: some (.int x) :: l), (.int x :: st))) rfl rfl rfl
theorem s149_30 : ji_Ev C 149 30 M lv (.int x :: st) o ↔ ji_Ev C 149 31 M lv (.int x.toInt8.toInt32 :: st) o := ev_go (S := (31, M, lv, (.int x.toInt8.toInt32 :: st))) rfl rfl rfl
theorem s149_31 : ji_Ev C 149 31 M lv st o ↔ ji_Ev C 149 46 M lv st o := ev_gt rfl (by decide) rfl
theorem s149_34 : ji_Ev C 149 34 M (l0 :: l1 :: l2 :: l3 :: some (.int x) :: l) st o ↔ ji_Ev C 149 36 M (l0 :: l1 :: l2 :: l3 :: some (.int x) :: l) (.int x :: st) o := ev_go (S := (36, M, (l0 :: l1 :: l2 :: l3 :: some (.int x) :: l), (.int x :: st))) rfl rfl rfl
theorem s149_36 : ji_Ev C 149 36 M lv st o ↔ ji_Ev C 149 37 M lv (.int 1 :: st) o := ev_go (S := (37, M, lv, (.int 1 :: st))) rfl rfl rfl
theorem s149_37 : ji_Ev C 149 37 M lv (.int y :: .int x :: st) o ↔ if x = y then ji_Ev C 149 40 M lv st o else ji_Ev C 149 45 M lv st o := ev_brc (c := .ne) rfl (by decide) rfl
theorem s149_40 : ji_Ev C 149 40 M (l0 :: l1 :: l2 :: some (.int x) :: l) st o ↔ ji_Ev C 149 41 M (l0 :: l1 :: l2 :: some (.int x) :: l) (.int x :: st) o := ev_go (S := (41, M, (l0 :: l1 :: l2 :: some (.int x) :: l), (.int x :: st))) rfl rfl rfl
theorem s149_41 : ji_Ev C 149 41 M lv (.int x :: st) o ↔ ji_Ev C 149 42 M lv (.int x.toInt16.toInt32 :: st) o := ev_go (S := (42, M, lv, (.int x.toInt16.toInt32 :: st))) rfl rfl rfl
theorem s149_42 : ji_Ev C 149 42 M lv st o ↔ ji_Ev C 149 46 M lv st o := ev_gt rfl (by decide) rfl
theorem s149_45 : ji_Ev C 149 45 M (l0 :: l1 :: l2 :: some (.int x) :: l) st o ↔ ji_Ev C 149 46 M (l0 :: l1 :: l2 :: some (.int x) :: l) (.int x :: st) o := ev_go (S := (46, M, (l0 :: l1 :: l2 :: some (.int x) :: l), (.int x :: st))) rfl rfl rfl
theorem s149_46 : ji_Ev C 149 46 M lv (.int y :: .int x :: .ref a :: st) o ↔ ji_evA (ji_kd M a) (fun n => vp_in x n ∧ ji_Ev C 149 47 (ji_sI M a x.toNatClampNeg y) lv st o) := ev_iast rfl
theorem s149_47 : ji_Ev C 149 47 M lv [] o ↔ o = (none, M) := ev_vret rfl rfl
theorem s150_0 : ji_Ev C 150 0 M (l0 :: some (.int x) :: l) st o ↔ ji_Ev C 150 1 M (l0 :: some (.int x) :: l) (.int x :: st) o := ev_go (S := (1, M, (l0 :: some (.int x) :: l), (.int x :: st))) rfl rfl rfl
theorem s150_1 : ji_Ev C 150 1 M lv (p0 :: st) o ↔ ji_ok8 st ∧ ji_evC (C 143 [p0] M) (fun v M' => ji_Ev C 150 4 M' lv (v.toList ++ st) o) := ev_sta (k := 150) (a := [p0]) rfl (Or.inl cd_8_276) rfl
theorem s150_4 : ji_Ev C 150 4 M lv (.int x :: st) o ↔ if x = 0 then ji_Ev C 150 14 M lv st o else ji_Ev C 150 7 M lv st o := ev_brz (c := .eq) rfl (by decide) rfl
theorem s150_7 : ji_Ev C 150 7 M (l0 :: l1 :: l2 :: some (.int x) :: l) st o ↔ ji_Ev C 150 8 M (l0 :: l1 :: l2 :: some (.int x) :: l) (.int x :: st) o := ev_go (S := (8, M, (l0 :: l1 :: l2 :: some (.int x) :: l), (.int x :: st))) rfl rfl rfl
theorem s150_8 : ji_Ev C 150 8 M lv (p0 :: st) o ↔ ji_ok8 st ∧ ji_evC (C 143 [p0] M) (fun v M' => ji_Ev C 150 11 M' lv (v.toList ++ st) o) := ev_sta (k := 150) (a := [p0]) rfl (Or.inl cd_8_276) rfl
theorem s150_11 : ji_Ev C 150 11 M lv (.int x :: st) o ↔ if x = 0 then ji_Ev C 150 14 M lv st o else ji_Ev C 150 17 M lv st o := ev_brz (c := .ne) rfl (by decide) rfl
theorem s150_14 : ji_Ev C 150 14 M lv st o ↔ ji_Ev C 150 16 M lv (.int (-2) :: st) o := ev_go (S := (16, M, lv, (.int (-2) :: st))) rfl rfl rfl
theorem s150_16 : ji_Ev C 150 16 M lv [.int x] o ↔ o = (some (.int x), M) := ev_ireti rfl rfl
theorem s150_17 : ji_Ev C 150 17 M (some (.ref a) :: l) st o ↔ ji_Ev C 150 18 M (some (.ref a) :: l) (.ref a :: st) o := ev_go (S := (18, M, (some (.ref a) :: l), (.ref a :: st))) rfl rfl rfl
theorem s150_18 : ji_Ev C 150 18 M lv (.ref a :: st) o ↔ ji_kd M a = some (0, 8) ∧ ji_Ev C 150 21 M lv (ji_rv (ji_gR M a 13) :: st) o := ev_getR (k := 150) rfl fd_8_77 rfl
theorem s150_21 : ji_Ev C 150 21 M (l0 :: some (.int x) :: l) st o ↔ ji_Ev C 150 22 M (l0 :: some (.int x) :: l) (.int x :: st) o := ev_go (S := (22, M, (l0 :: some (.int x) :: l), (.int x :: st))) rfl rfl rfl
theorem s150_22 : ji_Ev C 150 22 M lv (p0 :: .ref a :: st) o ↔ (ji_rcb M 4 (.ref a) = true ∧ ji_ok8 st) ∧ ji_evC (C 146 [.ref a, p0] M) (fun v M' => ji_Ev C 150 25 M' lv (v.toList ++ st) o) := ev_inv (k := 150) rfl cd_8_282 rfl
theorem s150_25 : ji_Ev C 150 25 M lv (.int x :: st) o ↔ if x = 0 then ji_Ev C 150 28 M lv st o else ji_Ev C 150 39 M lv st o := ev_brz (c := .ne) rfl (by decide) rfl
theorem s150_28 : ji_Ev C 150 28 M (some (.ref a) :: l) st o ↔ ji_Ev C 150 29 M (some (.ref a) :: l) (.ref a :: st) o := ev_go (S := (29, M, (some (.ref a) :: l), (.ref a :: st))) rfl rfl rfl
theorem s150_29 : ji_Ev C 150 29 M lv (.ref a :: st) o ↔ ji_kd M a = some (0, 8) ∧ ji_Ev C 150 32 M lv (ji_rv (ji_gR M a 13) :: st) o := ev_getR (k := 150) rfl fd_8_77 rfl
theorem s150_32 : ji_Ev C 150 32 M (l0 :: l1 :: l2 :: some (.int x) :: l) st o ↔ ji_Ev C 150 33 M (l0 :: l1 :: l2 :: some (.int x) :: l) (.int x :: st) o := ev_go (S := (33, M, (l0 :: l1 :: l2 :: some (.int x) :: l), (.int x :: st))) rfl rfl rfl
theorem s150_33 : ji_Ev C 150 33 M lv (p0 :: .ref a :: st) o ↔ (ji_rcb M 4 (.ref a) = true ∧ ji_ok8 st) ∧ ji_evC (C 146 [.ref a, p0] M) (fun v M' => ji_Ev C 150 36 M' lv (v.toList ++ st) o) := ev_inv (k := 150) rfl cd_8_282 rfl
theorem s150_36 : ji_Ev C 150 36 M lv (.int x :: st) o ↔ if x = 0 then ji_Ev C 150 42 M lv st o else ji_Ev C 150 39 M lv st o := ev_brz (c := .eq) rfl (by decide) rfl
theorem s150_39 : ji_Ev C 150 39 M lv st o ↔ ji_Ev C 150 41 M lv (.int (-11) :: st) o := ev_go (S := (41, M, lv, (.int (-11) :: st))) rfl rfl rfl
theorem s150_41 : ji_Ev C 150 41 M lv [.int x] o ↔ o = (some (.int x), M) := ev_ireti rfl rfl
theorem s150_42 : ji_Ev C 150 42 M (some (.ref a) :: l) st o ↔ ji_Ev C 150 43 M (some (.ref a) :: l) (.ref a :: st) o := ev_go (S := (43, M, (some (.ref a) :: l), (.ref a :: st))) rfl rfl rfl
theorem s150_43 : ji_Ev C 150 43 M lv (.ref a :: st) o ↔ ji_kd M a = some (0, 8) ∧ ji_Ev C 150 46 M lv (ji_rv (ji_gR M a 13) :: st) o := ev_getR (k := 150) rfl fd_8_77 rfl
theorem s150_46 : ji_Ev C 150 46 M (l0 :: some (.int x) :: l) st o ↔ ji_Ev C 150 47 M (l0 :: some (.int x) :: l) (.int x :: st) o := ev_go (S := (47, M, (l0 :: some (.int x) :: l), (.int x :: st))) rfl rfl rfl
theorem s150_47 : ji_Ev C 150 47 M lv (p0 :: .ref a :: st) o ↔ (ji_rcb M 4 (.ref a) = true ∧ ji_ok8 st) ∧ ji_evC (C 147 [.ref a, p0] M) (fun v M' => ji_Ev C 150 50 M' lv (v.toList ++ st) o) := ev_inv (k := 150) rfl cd_8_290 rfl
theorem s150_50 : ji_Ev C 150 50 M (some (.ref a) :: l) st o ↔ ji_Ev C 150 51 M (some (.ref a) :: l) (.ref a :: st) o := ev_go (S := (51, M, (some (.ref a) :: l), (.ref a :: st))) rfl rfl rfl
theorem s150_51 : ji_Ev C 150 51 M lv (.ref a :: st) o ↔ ji_kd M a = some (0, 8) ∧ ji_Ev C 150 54 M lv (ji_rv (ji_gR M a 13) :: st) o := ev_getR (k := 150) rfl fd_8_77 rfl
theorem s150_54 : ji_Ev C 150 54 M (l0 :: l1 :: l2 :: some (.int x) :: l) st o ↔ ji_Ev C 150 55 M (l0 :: l1 :: l2 :: some (.int x) :: l) (.int x :: st) o := ev_go (S := (55, M, (l0 :: l1 :: l2 :: some (.int x) :: l), (.int x :: st))) rfl rfl rfl
theorem s150_55 : ji_Ev C 150 55 M lv (p0 :: .ref a :: st) o ↔ (ji_rcb M 4 (.ref a) = true ∧ ji_ok8 st) ∧ ji_evC (C 147 [.ref a, p0] M) (fun v M' => ji_Ev C 150 58 M' lv (v.toList ++ st) o) := ev_inv (k := 150) rfl cd_8_290 rfl
theorem s150_58 : ji_Ev C 150 58 M lv (.int y :: .int x :: st) o ↔ if x = y then ji_Ev C 150 64 M lv st o else ji_Ev C 150 61 M lv st o := ev_brc (c := .eq) rfl (by decide) rfl
theorem s150_61 : ji_Ev C 150 61 M lv st o ↔ ji_Ev C 150 63 M lv (.int (-13) :: st) o := ev_go (S := (63, M, lv, (.int (-13) :: st))) rfl rfl rfl
theorem s150_63 : ji_Ev C 150 63 M lv [.int x] o ↔ o = (some (.int x), M) := ev_ireti rfl rfl
theorem s150_64 : ji_Ev C 150 64 M (some (.ref a) :: l) st o ↔ ji_Ev C 150 65 M (some (.ref a) :: l) (.ref a :: st) o := ev_go (S := (65, M, (some (.ref a) :: l), (.ref a :: st))) rfl rfl rfl
theorem s150_65 : ji_Ev C 150 65 M lv (.ref a :: st) o ↔ ji_kd M a = some (0, 8) ∧ ji_Ev C 150 68 M lv (ji_rv (ji_gR M a 13) :: st) o := ev_getR (k := 150) rfl fd_8_77 rfl
theorem s150_68 : ji_Ev C 150 68 M (l0 :: some (.int x) :: l) st o ↔ ji_Ev C 150 69 M (l0 :: some (.int x) :: l) (.int x :: st) o := ev_go (S := (69, M, (l0 :: some (.int x) :: l), (.int x :: st))) rfl rfl rfl
theorem s150_69 : ji_Ev C 150 69 M (l0 :: l1 :: some (.int x) :: l) st o ↔ ji_Ev C 150 70 M (l0 :: l1 :: some (.int x) :: l) (.int x :: st) o := ev_go (S := (70, M, (l0 :: l1 :: some (.int x) :: l), (.int x :: st))) rfl rfl rfl
theorem s150_70 : ji_Ev C 150 70 M (l0 :: l1 :: l2 :: l3 :: l4 :: some (.int x) :: l) st o ↔ ji_Ev C 150 72 M (l0 :: l1 :: l2 :: l3 :: l4 :: some (.int x) :: l) (.int x :: st) o := ev_go (S := (72, M, (l0 :: l1 :: l2 :: l3 :: l4 :: some (.int x) :: l), (.int x :: st))) rfl rfl rfl
theorem s150_72 : ji_Ev C 150 72 M lv (p2 :: p1 :: p0 :: .ref a :: st) o ↔ (ji_rcb M 4 (.ref a) = true ∧ ji_ok8 st) ∧ ji_evC (C 151 [.ref a, p0, p1, p2] M) (fun v M' => ji_Ev C 150 75 M' lv (v.toList ++ st) o) := ev_inv (k := 150) rfl cd_8_293 rfl
theorem s150_75 : ji_Ev C 150 75 M lv (.int x :: st) o ↔ if x = 0 then ji_Ev C 150 93 M lv st o else ji_Ev C 150 78 M lv st o := ev_brz (c := .eq) rfl (by decide) rfl
theorem s150_78 : ji_Ev C 150 78 M (some (.ref a) :: l) st o ↔ ji_Ev C 150 79 M (some (.ref a) :: l) (.ref a :: st) o := ev_go (S := (79, M, (some (.ref a) :: l), (.ref a :: st))) rfl rfl rfl
theorem s150_79 : ji_Ev C 150 79 M lv (.ref a :: st) o ↔ ji_kd M a = some (0, 8) ∧ ji_Ev C 150 82 M lv (ji_rv (ji_gR M a 13) :: st) o := ev_getR (k := 150) rfl fd_8_77 rfl
theorem s150_82 : ji_Ev C 150 82 M (l0 :: l1 :: l2 :: some (.int x) :: l) st o ↔ ji_Ev C 150 83 M (l0 :: l1 :: l2 :: some (.int x) :: l) (.int x :: st) o := ev_go (S := (83, M, (l0 :: l1 :: l2 :: some (.int x) :: l), (.int x :: st))) rfl rfl rfl
theorem s150_83 : ji_Ev C 150 83 M (l0 :: l1 :: l2 :: l3 :: some (.int x) :: l) st o ↔ ji_Ev C 150 85 M (l0 :: l1 :: l2 :: l3 :: some (.int x) :: l) (.int x :: st) o := ev_go (S := (85, M, (l0 :: l1 :: l2 :: l3 :: some (.int x) :: l), (.int x :: st))) rfl rfl rfl
theorem s150_85 : ji_Ev C 150 85 M (l0 :: l1 :: l2 :: l3 :: l4 :: some (.int x) :: l) st o ↔ ji_Ev C 150 87 M (l0 :: l1 :: l2 :: l3 :: l4 :: some (.int x) :: l) (.int x :: st) o := ev_go (S := (87, M, (l0 :: l1 :: l2 :: l3 :: l4 :: some (.int x) :: l), (.int x :: st))) rfl rfl rfl
theorem s150_87 : ji_Ev C 150 87 M lv (p2 :: p1 :: p0 :: .ref a :: st) o ↔ (ji_rcb M 4 (.ref a) = true ∧ ji_ok8 st) ∧ ji_evC (C 151 [.ref a, p0, p1, p2] M) (fun v M' => ji_Ev C 150 90 M' lv (v.toList ++ st) o) := ev_inv (k := 150) rfl cd_8_293 rfl
theorem s150_90 : ji_Ev C 150 90 M lv (.int x :: st) o ↔ if x = 0 then ji_Ev C 150 93 M lv st o else ji_Ev C 150 96 M lv st o := ev_brz (c := .ne) rfl (by decide) rfl
theorem s150_93 : ji_Ev C 150 93 M lv st o ↔ ji_Ev C 150 95 M lv (.int (-12) :: st) o := ev_go (S := (95, M, lv, (.int (-12) :: st))) rfl rfl rfl
theorem s150_95 : ji_Ev C 150 95 M lv [.int x] o ↔ o = (some (.int x), M) := ev_ireti rfl rfl
theorem s150_96 : ji_Ev C 150 96 M (some (.ref a) :: l) st o ↔ ji_Ev C 150 97 M (some (.ref a) :: l) (.ref a :: st) o := ev_go (S := (97, M, (some (.ref a) :: l), (.ref a :: st))) rfl rfl rfl
theorem s150_97 : ji_Ev C 150 97 M lv (.ref a :: st) o ↔ ji_kd M a = some (0, 8) ∧ ji_Ev C 150 100 M lv (ji_rv (ji_gR M a 13) :: st) o := ev_getR (k := 150) rfl fd_8_77 rfl
theorem s150_100 : ji_Ev C 150 100 M (l0 :: some (.int x) :: l) st o ↔ ji_Ev C 150 101 M (l0 :: some (.int x) :: l) (.int x :: st) o := ev_go (S := (101, M, (l0 :: some (.int x) :: l), (.int x :: st))) rfl rfl rfl
theorem s150_101 : ji_Ev C 150 101 M (l0 :: l1 :: some (.int x) :: l) st o ↔ ji_Ev C 150 102 M (l0 :: l1 :: some (.int x) :: l) (.int x :: st) o := ev_go (S := (102, M, (l0 :: l1 :: some (.int x) :: l), (.int x :: st))) rfl rfl rfl
theorem s150_102 : ji_Ev C 150 102 M (l0 :: l1 :: l2 :: some (.int x) :: l) st o ↔ ji_Ev C 150 103 M (l0 :: l1 :: l2 :: some (.int x) :: l) (.int x :: st) o := ev_go (S := (103, M, (l0 :: l1 :: l2 :: some (.int x) :: l), (.int x :: st))) rfl rfl rfl
theorem s150_103 : ji_Ev C 150 103 M (l0 :: l1 :: l2 :: l3 :: some (.int x) :: l) st o ↔ ji_Ev C 150 105 M (l0 :: l1 :: l2 :: l3 :: some (.int x) :: l) (.int x :: st) o := ev_go (S := (105, M, (l0 :: l1 :: l2 :: l3 :: some (.int x) :: l), (.int x :: st))) rfl rfl rfl
theorem s150_105 : ji_Ev C 150 105 M (l0 :: l1 :: l2 :: l3 :: l4 :: some (.int x) :: l) st o ↔ ji_Ev C 150 107 M (l0 :: l1 :: l2 :: l3 :: l4 :: some (.int x) :: l) (.int x :: st) o := ev_go (S := (107, M, (l0 :: l1 :: l2 :: l3 :: l4 :: some (.int x) :: l), (.int x :: st))) rfl rfl rfl
theorem s150_107 : ji_Ev C 150 107 M lv (p4 :: p3 :: p2 :: p1 :: p0 :: .ref a :: st) o ↔ (ji_rcb M 4 (.ref a) = true ∧ ji_ok8 st) ∧ ji_evC (C 152 [.ref a, p0, p1, p2, p3, p4] M) (fun v M' => ji_Ev C 150 110 M' lv (v.toList ++ st) o) := ev_inv (k := 150) rfl cd_8_296 rfl
theorem s150_110 : ji_Ev C 150 110 M (l0 :: l1 :: l2 :: l3 :: l4 :: some (.int x) :: l) st o ↔ ji_Ev C 150 112 M (l0 :: l1 :: l2 :: l3 :: l4 :: some (.int x) :: l) (.int x :: st) o := ev_go (S := (112, M, (l0 :: l1 :: l2 :: l3 :: l4 :: some (.int x) :: l), (.int x :: st))) rfl rfl rfl
theorem s150_112 : ji_Ev C 150 112 M lv [.int x] o ↔ o = (some (.int x), M) := ev_ireti rfl rfl
theorem s151_0 : ji_Ev C 151 0 M (l0 :: some (.int x) :: l) st o ↔ ji_Ev C 151 1 M (l0 :: some (.int x) :: l) (.int x :: st) o := ev_go (S := (1, M, (l0 :: some (.int x) :: l), (.int x :: st))) rfl rfl rfl
theorem s151_1 : ji_Ev C 151 1 M lv (p0 :: st) o ↔ ji_ok8 st ∧ ji_evC (C 143 [p0] M) (fun v M' => ji_Ev C 151 4 M' lv (v.toList ++ st) o) := ev_sta (k := 151) (a := [p0]) rfl (Or.inl cd_4_21) rfl
theorem s151_4 : ji_Ev C 151 4 M lv (.int x :: st) o ↔ if x = 0 then ji_Ev C 151 41 M lv st o else ji_Ev C 151 7 M lv st o := ev_brz (c := .eq) rfl (by decide) rfl
theorem s151_7 : ji_Ev C 151 7 M (l0 :: l1 :: some (.int x) :: l) st o ↔ ji_Ev C 151 8 M (l0 :: l1 :: some (.int x) :: l) (.int x :: st) o := ev_go (S := (8, M, (l0 :: l1 :: some (.int x) :: l), (.int x :: st))) rfl rfl rfl
theorem s151_8 : ji_Ev C 151 8 M lv (.int x :: st) o ↔ if x < 0 then ji_Ev C 151 41 M lv st o else ji_Ev C 151 11 M lv st o := ev_brz (c := .lt) rfl (by decide) rfl
theorem s151_11 : ji_Ev C 151 11 M (l0 :: l1 :: l2 :: some (.int x) :: l) st o ↔ ji_Ev C 151 12 M (l0 :: l1 :: l2 :: some (.int x) :: l) (.int x :: st) o := ev_go (S := (12, M, (l0 :: l1 :: l2 :: some (.int x) :: l), (.int x :: st))) rfl rfl rfl
theorem s151_12 : ji_Ev C 151 12 M lv (.int x :: st) o ↔ if x < 0 then ji_Ev C 151 41 M lv st o else ji_Ev C 151 15 M lv st o := ev_brz (c := .lt) rfl (by decide) rfl
theorem s151_15 : ji_Ev C 151 15 M (l0 :: l1 :: some (.int x) :: l) st o ↔ ji_Ev C 151 16 M (l0 :: l1 :: some (.int x) :: l) (.int x :: st) o := ev_go (S := (16, M, (l0 :: l1 :: some (.int x) :: l), (.int x :: st))) rfl rfl rfl
theorem s151_16 : ji_Ev C 151 16 M (some (.ref a) :: l) st o ↔ ji_Ev C 151 17 M (some (.ref a) :: l) (.ref a :: st) o := ev_go (S := (17, M, (some (.ref a) :: l), (.ref a :: st))) rfl rfl rfl
theorem s151_17 : ji_Ev C 151 17 M lv (.ref a :: st) o ↔ ji_kd M a = some (0, 4) ∧ ji_Ev C 151 20 M lv (ji_rv (ji_gR M a 2) :: st) o := ev_getR (k := 151) rfl fd_4_18 rfl
theorem s151_20 : ji_Ev C 151 20 M (l0 :: some (.int x) :: l) st o ↔ ji_Ev C 151 21 M (l0 :: some (.int x) :: l) (.int x :: st) o := ev_go (S := (21, M, (l0 :: some (.int x) :: l), (.int x :: st))) rfl rfl rfl
theorem s151_21 : ji_Ev C 151 21 M lv (.int x :: .ref a :: st) o ↔ ji_evA (ji_kd M a) (fun n => vp_in x n ∧ ji_Ev C 151 22 M lv (.int (ji_gI M a x.toNatClampNeg) :: st) o) := ev_iald rfl
theorem s151_22 : ji_Ev C 151 22 M lv (.int y :: .int x :: st) o ↔ if y < x then ji_Ev C 151 41 M lv st o else ji_Ev C 151 25 M lv st o := ev_brc (c := .gt) rfl (by decide) rfl
theorem s151_25 : ji_Ev C 151 25 M (l0 :: l1 :: l2 :: some (.int x) :: l) st o ↔ ji_Ev C 151 26 M (l0 :: l1 :: l2 :: some (.int x) :: l) (.int x :: st) o := ev_go (S := (26, M, (l0 :: l1 :: l2 :: some (.int x) :: l), (.int x :: st))) rfl rfl rfl
theorem s151_26 : ji_Ev C 151 26 M (some (.ref a) :: l) st o ↔ ji_Ev C 151 27 M (some (.ref a) :: l) (.ref a :: st) o := ev_go (S := (27, M, (some (.ref a) :: l), (.ref a :: st))) rfl rfl rfl
theorem s151_27 : ji_Ev C 151 27 M lv (.ref a :: st) o ↔ ji_kd M a = some (0, 4) ∧ ji_Ev C 151 30 M lv (ji_rv (ji_gR M a 2) :: st) o := ev_getR (k := 151) rfl fd_4_18 rfl
theorem s151_30 : ji_Ev C 151 30 M (l0 :: some (.int x) :: l) st o ↔ ji_Ev C 151 31 M (l0 :: some (.int x) :: l) (.int x :: st) o := ev_go (S := (31, M, (l0 :: some (.int x) :: l), (.int x :: st))) rfl rfl rfl
theorem s151_31 : ji_Ev C 151 31 M lv (.int x :: .ref a :: st) o ↔ ji_evA (ji_kd M a) (fun n => vp_in x n ∧ ji_Ev C 151 32 M lv (.int (ji_gI M a x.toNatClampNeg) :: st) o) := ev_iald rfl
theorem s151_32 : ji_Ev C 151 32 M (l0 :: l1 :: some (.int x) :: l) st o ↔ ji_Ev C 151 33 M (l0 :: l1 :: some (.int x) :: l) (.int x :: st) o := ev_go (S := (33, M, (l0 :: l1 :: some (.int x) :: l), (.int x :: st))) rfl rfl rfl
theorem s151_33 : ji_Ev C 151 33 M lv (.int y :: .int x :: st) o ↔ ji_Ev C 151 34 M lv (.int (x - y) :: st) o := ev_go (S := (34, M, lv, (.int (x - y) :: st))) rfl rfl rfl
theorem s151_34 : ji_Ev C 151 34 M lv (.int y :: .int x :: st) o ↔ if y < x then ji_Ev C 151 41 M lv st o else ji_Ev C 151 37 M lv st o := ev_brc (c := .gt) rfl (by decide) rfl
theorem s151_37 : ji_Ev C 151 37 M lv st o ↔ ji_Ev C 151 38 M lv (.int 1 :: st) o := ev_go (S := (38, M, lv, (.int 1 :: st))) rfl rfl rfl
theorem s151_38 : ji_Ev C 151 38 M lv st o ↔ ji_Ev C 151 42 M lv st o := ev_gt rfl (by decide) rfl
theorem s151_41 : ji_Ev C 151 41 M lv st o ↔ ji_Ev C 151 42 M lv (.int 0 :: st) o := ev_go (S := (42, M, lv, (.int 0 :: st))) rfl rfl rfl
theorem s151_42 : ji_Ev C 151 42 M lv [.int x] o ↔ narrow .boolean (.int x) = .int x ∧ o = (some (.int x), M) := ev_iretb rfl rfl
theorem s152_0 : ji_Ev C 152 0 M (some (.ref a) :: l) st o ↔ ji_Ev C 152 1 M (some (.ref a) :: l) (.ref a :: st) o := ev_go (S := (1, M, (some (.ref a) :: l), (.ref a :: st))) rfl rfl rfl
theorem s152_1 : ji_Ev C 152 1 M (l0 :: some (.int x) :: l) st o ↔ ji_Ev C 152 2 M (l0 :: some (.int x) :: l) (.int x :: st) o := ev_go (S := (2, M, (l0 :: some (.int x) :: l), (.int x :: st))) rfl rfl rfl
theorem s152_2 : ji_Ev C 152 2 M (l0 :: l1 :: some (.int x) :: l) st o ↔ ji_Ev C 152 3 M (l0 :: l1 :: some (.int x) :: l) (.int x :: st) o := ev_go (S := (3, M, (l0 :: l1 :: some (.int x) :: l), (.int x :: st))) rfl rfl rfl
theorem s152_3 : ji_Ev C 152 3 M (l0 :: l1 :: l2 :: l3 :: l4 :: some (.int x) :: l) st o ↔ ji_Ev C 152 5 M (l0 :: l1 :: l2 :: l3 :: l4 :: some (.int x) :: l) (.int x :: st) o := ev_go (S := (5, M, (l0 :: l1 :: l2 :: l3 :: l4 :: some (.int x) :: l), (.int x :: st))) rfl rfl rfl
theorem s152_5 : ji_Ev C 152 5 M lv (p2 :: p1 :: p0 :: .ref a :: st) o ↔ (ji_rcb M 4 (.ref a) = true ∧ ji_ok8 st) ∧ ji_evC (C 151 [.ref a, p0, p1, p2] M) (fun v M' => ji_Ev C 152 8 M' lv (v.toList ++ st) o) := ev_inv (k := 152) rfl cd_4_48 rfl
theorem s152_8 : ji_Ev C 152 8 M lv (.int x :: st) o ↔ if x = 0 then ji_Ev C 152 43 M lv st o else ji_Ev C 152 11 M lv st o := ev_brz (c := .eq) rfl (by decide) rfl
theorem s152_11 : ji_Ev C 152 11 M (some (.ref a) :: l) st o ↔ ji_Ev C 152 12 M (some (.ref a) :: l) (.ref a :: st) o := ev_go (S := (12, M, (some (.ref a) :: l), (.ref a :: st))) rfl rfl rfl
theorem s152_12 : ji_Ev C 152 12 M (l0 :: l1 :: l2 :: some (.int x) :: l) st o ↔ ji_Ev C 152 13 M (l0 :: l1 :: l2 :: some (.int x) :: l) (.int x :: st) o := ev_go (S := (13, M, (l0 :: l1 :: l2 :: some (.int x) :: l), (.int x :: st))) rfl rfl rfl
theorem s152_13 : ji_Ev C 152 13 M (l0 :: l1 :: l2 :: l3 :: some (.int x) :: l) st o ↔ ji_Ev C 152 15 M (l0 :: l1 :: l2 :: l3 :: some (.int x) :: l) (.int x :: st) o := ev_go (S := (15, M, (l0 :: l1 :: l2 :: l3 :: some (.int x) :: l), (.int x :: st))) rfl rfl rfl
theorem s152_15 : ji_Ev C 152 15 M (l0 :: l1 :: l2 :: l3 :: l4 :: some (.int x) :: l) st o ↔ ji_Ev C 152 17 M (l0 :: l1 :: l2 :: l3 :: l4 :: some (.int x) :: l) (.int x :: st) o := ev_go (S := (17, M, (l0 :: l1 :: l2 :: l3 :: l4 :: some (.int x) :: l), (.int x :: st))) rfl rfl rfl
theorem s152_17 : ji_Ev C 152 17 M lv (p2 :: p1 :: p0 :: .ref a :: st) o ↔ (ji_rcb M 4 (.ref a) = true ∧ ji_ok8 st) ∧ ji_evC (C 151 [.ref a, p0, p1, p2] M) (fun v M' => ji_Ev C 152 20 M' lv (v.toList ++ st) o) := ev_inv (k := 152) rfl cd_4_48 rfl
theorem s152_20 : ji_Ev C 152 20 M lv (.int x :: st) o ↔ if x = 0 then ji_Ev C 152 43 M lv st o else ji_Ev C 152 23 M lv st o := ev_brz (c := .eq) rfl (by decide) rfl
theorem s152_23 : ji_Ev C 152 23 M (some (.ref a) :: l) st o ↔ ji_Ev C 152 24 M (some (.ref a) :: l) (.ref a :: st) o := ev_go (S := (24, M, (some (.ref a) :: l), (.ref a :: st))) rfl rfl rfl
theorem s152_24 : ji_Ev C 152 24 M lv (.ref a :: st) o ↔ ji_kd M a = some (0, 4) ∧ ji_Ev C 152 27 M lv (ji_rv (ji_gR M a 0) :: st) o := ev_getR (k := 152) rfl fd_4_11 rfl
theorem s152_27 : ji_Ev C 152 27 M (l0 :: some (.int x) :: l) st o ↔ ji_Ev C 152 28 M (l0 :: some (.int x) :: l) (.int x :: st) o := ev_go (S := (28, M, (l0 :: some (.int x) :: l), (.int x :: st))) rfl rfl rfl
theorem s152_28 : ji_Ev C 152 28 M lv (.int x :: .ref a :: st) o ↔ ji_evQ (ji_kd M a) (fun n => vp_in x n ∧ ji_Ev C 152 29 M lv (ji_rv (ji_gR M a x.toNatClampNeg) :: st) o) := ev_aald rfl
theorem s152_29 : ji_Ev C 152 29 M (l0 :: l1 :: some (.int x) :: l) st o ↔ ji_Ev C 152 30 M (l0 :: l1 :: some (.int x) :: l) (.int x :: st) o := ev_go (S := (30, M, (l0 :: l1 :: some (.int x) :: l), (.int x :: st))) rfl rfl rfl
theorem s152_30 : ji_Ev C 152 30 M (some (.ref a) :: l) st o ↔ ji_Ev C 152 31 M (some (.ref a) :: l) (.ref a :: st) o := ev_go (S := (31, M, (some (.ref a) :: l), (.ref a :: st))) rfl rfl rfl
theorem s152_31 : ji_Ev C 152 31 M lv (.ref a :: st) o ↔ ji_kd M a = some (0, 4) ∧ ji_Ev C 152 34 M lv (ji_rv (ji_gR M a 0) :: st) o := ev_getR (k := 152) rfl fd_4_11 rfl
theorem s152_34 : ji_Ev C 152 34 M (l0 :: l1 :: l2 :: some (.int x) :: l) st o ↔ ji_Ev C 152 35 M (l0 :: l1 :: l2 :: some (.int x) :: l) (.int x :: st) o := ev_go (S := (35, M, (l0 :: l1 :: l2 :: some (.int x) :: l), (.int x :: st))) rfl rfl rfl
theorem s152_35 : ji_Ev C 152 35 M lv (.int x :: .ref a :: st) o ↔ ji_evQ (ji_kd M a) (fun n => vp_in x n ∧ ji_Ev C 152 36 M lv (ji_rv (ji_gR M a x.toNatClampNeg) :: st) o) := ev_aald rfl
theorem s152_36 : ji_Ev C 152 36 M (l0 :: l1 :: l2 :: l3 :: some (.int x) :: l) st o ↔ ji_Ev C 152 38 M (l0 :: l1 :: l2 :: l3 :: some (.int x) :: l) (.int x :: st) o := ev_go (S := (38, M, (l0 :: l1 :: l2 :: l3 :: some (.int x) :: l), (.int x :: st))) rfl rfl rfl
theorem s152_38 : ji_Ev C 152 38 M (l0 :: l1 :: l2 :: l3 :: l4 :: some (.int x) :: l) st o ↔ ji_Ev C 152 40 M (l0 :: l1 :: l2 :: l3 :: l4 :: some (.int x) :: l) (.int x :: st) o := ev_go (S := (40, M, (l0 :: l1 :: l2 :: l3 :: l4 :: some (.int x) :: l), (.int x :: st))) rfl rfl rfl
theorem s152_40 : ji_Ev C 152 40 M lv (.int z :: .int y :: .ref b :: .int x :: .ref a :: st) o ↔ ji_evA (ji_kd M a) (fun n0 => ji_evA (ji_kd M b) (fun n1 => (¬ x < 0 ∧ ¬ y < 0 ∧ ¬ z < 0 ∧ x.toNatClampNeg + z.toNatClampNeg ≤ n0 ∧ y.toNatClampNeg + z.toNatClampNeg ≤ n1 ∧ ji_ok8 st) ∧ ji_Ev C 152 43 (ji_cp M a x.toNatClampNeg b y.toNatClampNeg z.toNatClampNeg) lv st o)) := ev_copy (k := 152) rfl cd_4_52
theorem s152_43 : ji_Ev C 152 43 M lv [] o ↔ o = (none, M) := ev_vret rfl rfl
theorem s153_0 : ji_Ev C 153 0 M (l0 :: some (.int x) :: l) st o ↔ ji_Ev C 153 1 M (l0 :: some (.int x) :: l) (.int x :: st) o := ev_go (S := (1, M, (l0 :: some (.int x) :: l), (.int x :: st))) rfl rfl rfl
theorem s153_1 : ji_Ev C 153 1 M lv (p0 :: st) o ↔ ji_ok8 st ∧ ji_evC (C 143 [p0] M) (fun v M' => ji_Ev C 153 4 M' lv (v.toList ++ st) o) := ev_sta (k := 153) (a := [p0]) rfl (Or.inl cd_8_276) rfl
theorem s153_4 : ji_Ev C 153 4 M lv (.int x :: st) o ↔ if x = 0 then ji_Ev C 153 27 M lv st o else ji_Ev C 153 7 M lv st o := ev_brz (c := .eq) rfl (by decide) rfl
theorem s153_7 : ji_Ev C 153 7 M (l0 :: l1 :: some (.int x) :: l) st o ↔ ji_Ev C 153 8 M (l0 :: l1 :: some (.int x) :: l) (.int x :: st) o := ev_go (S := (8, M, (l0 :: l1 :: some (.int x) :: l), (.int x :: st))) rfl rfl rfl
theorem s153_8 : ji_Ev C 153 8 M lv st o ↔ ji_Ev C 153 9 M lv (.int 0 :: st) o := ev_go (S := (9, M, lv, (.int 0 :: st))) rfl rfl rfl
theorem s153_9 : ji_Ev C 153 9 M lv st o ↔ ji_Ev C 153 10 M lv (.int 2 :: st) o := ev_go (S := (10, M, lv, (.int 2 :: st))) rfl rfl rfl
theorem s153_10 : ji_Ev C 153 10 M lv (p2 :: p1 :: p0 :: st) o ↔ ji_ok8 st ∧ ji_evC (C 43 [p0, p1, p2] M) (fun v M' => ji_Ev C 153 13 M' lv (v.toList ++ st) o) := ev_sta (k := 153) (a := [p2, p1, p0]) rfl (Or.inl cd_8_89) rfl
theorem s153_13 : ji_Ev C 153 13 M lv (.int x :: st) o ↔ if x = 0 then ji_Ev C 153 27 M lv st o else ji_Ev C 153 16 M lv st o := ev_brz (c := .eq) rfl (by decide) rfl
theorem s153_16 : ji_Ev C 153 16 M (l0 :: l1 :: l2 :: l3 :: some (.int x) :: l) st o ↔ ji_Ev C 153 18 M (l0 :: l1 :: l2 :: l3 :: some (.int x) :: l) (.int x :: st) o := ev_go (S := (18, M, (l0 :: l1 :: l2 :: l3 :: some (.int x) :: l), (.int x :: st))) rfl rfl rfl
theorem s153_18 : ji_Ev C 153 18 M lv st o ↔ ji_Ev C 153 19 M lv (.int 0 :: st) o := ev_go (S := (19, M, lv, (.int 0 :: st))) rfl rfl rfl
theorem s153_19 : ji_Ev C 153 19 M lv st o ↔ ji_Ev C 153 21 M lv (.int 20 :: st) o := ev_go (S := (21, M, lv, (.int 20 :: st))) rfl rfl rfl
theorem s153_21 : ji_Ev C 153 21 M lv (p2 :: p1 :: p0 :: st) o ↔ ji_ok8 st ∧ ji_evC (C 43 [p0, p1, p2] M) (fun v M' => ji_Ev C 153 24 M' lv (v.toList ++ st) o) := ev_sta (k := 153) (a := [p2, p1, p0]) rfl (Or.inl cd_8_89) rfl
theorem s153_24 : ji_Ev C 153 24 M lv (.int x :: st) o ↔ if x = 0 then ji_Ev C 153 27 M lv st o else ji_Ev C 153 30 M lv st o := ev_brz (c := .ne) rfl (by decide) rfl
theorem s153_27 : ji_Ev C 153 27 M lv st o ↔ ji_Ev C 153 29 M lv (.int (-2) :: st) o := ev_go (S := (29, M, lv, (.int (-2) :: st))) rfl rfl rfl
theorem s153_29 : ji_Ev C 153 29 M lv [.int x] o ↔ o = (some (.int x), M) := ev_ireti rfl rfl
theorem s153_30 : ji_Ev C 153 30 M (some (.ref a) :: l) st o ↔ ji_Ev C 153 31 M (some (.ref a) :: l) (.ref a :: st) o := ev_go (S := (31, M, (some (.ref a) :: l), (.ref a :: st))) rfl rfl rfl
theorem s153_31 : ji_Ev C 153 31 M lv (.ref a :: st) o ↔ ji_kd M a = some (0, 8) ∧ ji_Ev C 153 34 M lv (ji_rv (ji_gR M a 13) :: st) o := ev_getR (k := 153) rfl fd_8_77 rfl
theorem s153_34 : ji_Ev C 153 34 M (l0 :: some (.int x) :: l) st o ↔ ji_Ev C 153 35 M (l0 :: some (.int x) :: l) (.int x :: st) o := ev_go (S := (35, M, (l0 :: some (.int x) :: l), (.int x :: st))) rfl rfl rfl
theorem s153_35 : ji_Ev C 153 35 M lv (p0 :: .ref a :: st) o ↔ (ji_rcb M 4 (.ref a) = true ∧ ji_ok8 st) ∧ ji_evC (C 146 [.ref a, p0] M) (fun v M' => ji_Ev C 153 38 M' lv (v.toList ++ st) o) := ev_inv (k := 153) rfl cd_8_282 rfl
theorem s153_38 : ji_Ev C 153 38 M lv (.int x :: st) o ↔ if x = 0 then ji_Ev C 153 44 M lv st o else ji_Ev C 153 41 M lv st o := ev_brz (c := .eq) rfl (by decide) rfl
theorem s153_41 : ji_Ev C 153 41 M lv st o ↔ ji_Ev C 153 43 M lv (.int (-11) :: st) o := ev_go (S := (43, M, lv, (.int (-11) :: st))) rfl rfl rfl
theorem s153_43 : ji_Ev C 153 43 M lv [.int x] o ↔ o = (some (.int x), M) := ev_ireti rfl rfl
theorem s153_44 : ji_Ev C 153 44 M (some (.ref a) :: l) st o ↔ ji_Ev C 153 45 M (some (.ref a) :: l) (.ref a :: st) o := ev_go (S := (45, M, (some (.ref a) :: l), (.ref a :: st))) rfl rfl rfl
theorem s153_45 : ji_Ev C 153 45 M lv (.ref a :: st) o ↔ ji_kd M a = some (0, 8) ∧ ji_Ev C 153 48 M lv (ji_rv (ji_gR M a 13) :: st) o := ev_getR (k := 153) rfl fd_8_77 rfl
theorem s153_48 : ji_Ev C 153 48 M (l0 :: some (.int x) :: l) st o ↔ ji_Ev C 153 49 M (l0 :: some (.int x) :: l) (.int x :: st) o := ev_go (S := (49, M, (l0 :: some (.int x) :: l), (.int x :: st))) rfl rfl rfl
theorem s153_49 : ji_Ev C 153 49 M lv (p0 :: .ref a :: st) o ↔ (ji_rcb M 4 (.ref a) = true ∧ ji_ok8 st) ∧ ji_evC (C 147 [.ref a, p0] M) (fun v M' => ji_Ev C 153 52 M' lv (v.toList ++ st) o) := ev_inv (k := 153) rfl cd_8_290 rfl
theorem s153_52 : ji_Ev C 153 52 M (l0 :: l1 :: some (.int x) :: l) st o ↔ ji_Ev C 153 53 M (l0 :: l1 :: some (.int x) :: l) (.int x :: st) o := ev_go (S := (53, M, (l0 :: l1 :: some (.int x) :: l), (.int x :: st))) rfl rfl rfl
theorem s153_53 : ji_Ev C 153 53 M lv (.int y :: .int x :: st) o ↔ if x = y then ji_Ev C 153 59 M lv st o else ji_Ev C 153 56 M lv st o := ev_brc (c := .eq) rfl (by decide) rfl
theorem s153_56 : ji_Ev C 153 56 M lv st o ↔ ji_Ev C 153 58 M lv (.int (-13) :: st) o := ev_go (S := (58, M, lv, (.int (-13) :: st))) rfl rfl rfl
theorem s153_58 : ji_Ev C 153 58 M lv [.int x] o ↔ o = (some (.int x), M) := ev_ireti rfl rfl
theorem s153_59 : ji_Ev C 153 59 M lv st o ↔ ji_Ev C 153 60 M lv (.int 0 :: st) o := ev_go (S := (60, M, lv, (.int 0 :: st))) rfl rfl rfl
theorem s153_60 : ji_Ev C 153 60 M lv (.int x :: st) o ↔ 5 < lv.length ∧ ji_Ev C 153 62 M (ji_s1 lv 5 (.int x)) st o := ev_stI rfl rfl rfl
theorem s153_62 : ji_Ev C 153 62 M lv st o ↔ ji_Ev C 153 63 M lv (.int 0 :: st) o := ev_go (S := (63, M, lv, (.int 0 :: st))) rfl rfl rfl
theorem s153_63 : ji_Ev C 153 63 M lv (.int x :: st) o ↔ 6 < lv.length ∧ ji_Ev C 153 65 M (ji_s1 lv 6 (.int x)) st o := ev_stI rfl rfl rfl
theorem s153_65 : ji_Ev C 153 65 M (l0 :: l1 :: l2 :: l3 :: l4 :: l5 :: some (.int x) :: l) st o ↔ ji_Ev C 153 67 M (l0 :: l1 :: l2 :: l3 :: l4 :: l5 :: some (.int x) :: l) (.int x :: st) o := ev_go (S := (67, M, (l0 :: l1 :: l2 :: l3 :: l4 :: l5 :: some (.int x) :: l), (.int x :: st))) rfl rfl rfl
theorem s153_67 : ji_Ev C 153 67 M (l0 :: l1 :: l2 :: l3 :: some (.int x) :: l) st o ↔ ji_Ev C 153 69 M (l0 :: l1 :: l2 :: l3 :: some (.int x) :: l) (.int x :: st) o := ev_go (S := (69, M, (l0 :: l1 :: l2 :: l3 :: some (.int x) :: l), (.int x :: st))) rfl rfl rfl
theorem s153_69 : ji_Ev C 153 69 M lv (.int y :: .int x :: st) o ↔ if x < y then ji_Ev C 153 72 M lv st o else ji_Ev C 153 149 M lv st o := ev_brc (c := .ge) rfl (by decide) rfl
theorem s153_72 : ji_Ev C 153 72 M (l0 :: l1 :: l2 :: some (.int x) :: l) st o ↔ ji_Ev C 153 73 M (l0 :: l1 :: l2 :: some (.int x) :: l) (.int x :: st) o := ev_go (S := (73, M, (l0 :: l1 :: l2 :: some (.int x) :: l), (.int x :: st))) rfl rfl rfl
theorem s153_73 : ji_Ev C 153 73 M lv st o ↔ ji_Ev C 153 74 M lv (.int 2 :: st) o := ev_go (S := (74, M, lv, (.int 2 :: st))) rfl rfl rfl
theorem s153_74 : ji_Ev C 153 74 M (l0 :: l1 :: l2 :: l3 :: l4 :: l5 :: some (.int x) :: l) st o ↔ ji_Ev C 153 76 M (l0 :: l1 :: l2 :: l3 :: l4 :: l5 :: some (.int x) :: l) (.int x :: st) o := ev_go (S := (76, M, (l0 :: l1 :: l2 :: l3 :: l4 :: l5 :: some (.int x) :: l), (.int x :: st))) rfl rfl rfl
theorem s153_76 : ji_Ev C 153 76 M lv (.int y :: .int x :: st) o ↔ ji_Ev C 153 77 M lv (.int (x * y) :: st) o := ev_go (S := (77, M, lv, (.int (x * y) :: st))) rfl rfl rfl
theorem s153_77 : ji_Ev C 153 77 M lv (.int y :: .int x :: st) o ↔ ji_Ev C 153 78 M lv (.int (x + y) :: st) o := ev_go (S := (78, M, lv, (.int (x + y) :: st))) rfl rfl rfl
theorem s153_78 : ji_Ev C 153 78 M lv (.int x :: st) o ↔ 7 < lv.length ∧ ji_Ev C 153 80 M (ji_s1 lv 7 (.int x)) st o := ev_stI rfl rfl rfl
theorem s153_80 : ji_Ev C 153 80 M (some (.ref a) :: l) st o ↔ ji_Ev C 153 81 M (some (.ref a) :: l) (.ref a :: st) o := ev_go (S := (81, M, (some (.ref a) :: l), (.ref a :: st))) rfl rfl rfl
theorem s153_81 : ji_Ev C 153 81 M lv (.ref a :: st) o ↔ ji_kd M a = some (0, 8) ∧ ji_Ev C 153 84 M lv (ji_rv (ji_gR M a 13) :: st) o := ev_getR (k := 153) rfl fd_8_77 rfl
theorem s153_84 : ji_Ev C 153 84 M (l0 :: some (.int x) :: l) st o ↔ ji_Ev C 153 85 M (l0 :: some (.int x) :: l) (.int x :: st) o := ev_go (S := (85, M, (l0 :: some (.int x) :: l), (.int x :: st))) rfl rfl rfl
theorem s153_85 : ji_Ev C 153 85 M (l0 :: l1 :: l2 :: l3 :: l4 :: l5 :: l6 :: some (.int x) :: l) st o ↔ ji_Ev C 153 87 M (l0 :: l1 :: l2 :: l3 :: l4 :: l5 :: l6 :: some (.int x) :: l) (.int x :: st) o := ev_go (S := (87, M, (l0 :: l1 :: l2 :: l3 :: l4 :: l5 :: l6 :: some (.int x) :: l), (.int x :: st))) rfl rfl rfl
theorem s153_87 : ji_Ev C 153 87 M lv (p1 :: p0 :: .ref a :: st) o ↔ (ji_rcb M 4 (.ref a) = true ∧ ji_ok8 st) ∧ ji_evC (C 148 [.ref a, p0, p1] M) (fun v M' => ji_Ev C 153 90 M' lv (v.toList ++ st) o) := ev_inv (k := 153) rfl cd_8_285 rfl
theorem s153_90 : ji_Ev C 153 90 M lv (.int x :: st) o ↔ if x = 0 then ji_Ev C 153 108 M lv st o else ji_Ev C 153 93 M lv st o := ev_brz (c := .eq) rfl (by decide) rfl
theorem s153_93 : ji_Ev C 153 93 M (some (.ref a) :: l) st o ↔ ji_Ev C 153 94 M (some (.ref a) :: l) (.ref a :: st) o := ev_go (S := (94, M, (some (.ref a) :: l), (.ref a :: st))) rfl rfl rfl
theorem s153_94 : ji_Ev C 153 94 M lv (.ref a :: st) o ↔ ji_kd M a = some (0, 8) ∧ ji_Ev C 153 97 M lv (ji_rv (ji_gR M a 13) :: st) o := ev_getR (k := 153) rfl fd_8_77 rfl
theorem s153_97 : ji_Ev C 153 97 M (l0 :: some (.int x) :: l) st o ↔ ji_Ev C 153 98 M (l0 :: some (.int x) :: l) (.int x :: st) o := ev_go (S := (98, M, (l0 :: some (.int x) :: l), (.int x :: st))) rfl rfl rfl
theorem s153_98 : ji_Ev C 153 98 M (l0 :: l1 :: l2 :: l3 :: l4 :: l5 :: l6 :: some (.int x) :: l) st o ↔ ji_Ev C 153 100 M (l0 :: l1 :: l2 :: l3 :: l4 :: l5 :: l6 :: some (.int x) :: l) (.int x :: st) o := ev_go (S := (100, M, (l0 :: l1 :: l2 :: l3 :: l4 :: l5 :: l6 :: some (.int x) :: l), (.int x :: st))) rfl rfl rfl
theorem s153_100 : ji_Ev C 153 100 M lv st o ↔ ji_Ev C 153 101 M lv (.int 1 :: st) o := ev_go (S := (101, M, lv, (.int 1 :: st))) rfl rfl rfl
theorem s153_101 : ji_Ev C 153 101 M lv (.int y :: .int x :: st) o ↔ ji_Ev C 153 102 M lv (.int (x + y) :: st) o := ev_go (S := (102, M, lv, (.int (x + y) :: st))) rfl rfl rfl
theorem s153_102 : ji_Ev C 153 102 M lv (p1 :: p0 :: .ref a :: st) o ↔ (ji_rcb M 4 (.ref a) = true ∧ ji_ok8 st) ∧ ji_evC (C 148 [.ref a, p0, p1] M) (fun v M' => ji_Ev C 153 105 M' lv (v.toList ++ st) o) := ev_inv (k := 153) rfl cd_8_285 rfl
theorem s153_105 : ji_Ev C 153 105 M lv (.int x :: st) o ↔ if x = 0 then ji_Ev C 153 108 M lv st o else ji_Ev C 153 111 M lv st o := ev_brz (c := .ne) rfl (by decide) rfl
theorem s153_108 : ji_Ev C 153 108 M lv st o ↔ ji_Ev C 153 110 M lv (.int (-12) :: st) o := ev_go (S := (110, M, lv, (.int (-12) :: st))) rfl rfl rfl
theorem s153_110 : ji_Ev C 153 110 M lv [.int x] o ↔ o = (some (.int x), M) := ev_ireti rfl rfl
theorem s153_111 : ji_Ev C 153 111 M (some (.ref a) :: l) st o ↔ ji_Ev C 153 112 M (some (.ref a) :: l) (.ref a :: st) o := ev_go (S := (112, M, (some (.ref a) :: l), (.ref a :: st))) rfl rfl rfl
theorem s153_112 : ji_Ev C 153 112 M (some (.ref a) :: l) st o ↔ ji_Ev C 153 113 M (some (.ref a) :: l) (.ref a :: st) o := ev_go (S := (113, M, (some (.ref a) :: l), (.ref a :: st))) rfl rfl rfl
theorem s153_113 : ji_Ev C 153 113 M lv (.ref a :: st) o ↔ ji_kd M a = some (0, 8) ∧ ji_Ev C 153 116 M lv (ji_rv (ji_gR M a 13) :: st) o := ev_getR (k := 153) rfl fd_8_77 rfl
theorem s153_116 : ji_Ev C 153 116 M (l0 :: some (.int x) :: l) st o ↔ ji_Ev C 153 117 M (l0 :: some (.int x) :: l) (.int x :: st) o := ev_go (S := (117, M, (l0 :: some (.int x) :: l), (.int x :: st))) rfl rfl rfl
theorem s153_117 : ji_Ev C 153 117 M (l0 :: l1 :: l2 :: l3 :: l4 :: l5 :: l6 :: some (.int x) :: l) st o ↔ ji_Ev C 153 119 M (l0 :: l1 :: l2 :: l3 :: l4 :: l5 :: l6 :: some (.int x) :: l) (.int x :: st) o := ev_go (S := (119, M, (l0 :: l1 :: l2 :: l3 :: l4 :: l5 :: l6 :: some (.int x) :: l), (.int x :: st))) rfl rfl rfl
theorem s153_119 : ji_Ev C 153 119 M lv (p1 :: p0 :: .ref a :: st) o ↔ (ji_rcb M 4 (.ref a) = true ∧ ji_ok8 st) ∧ ji_evC (C 154 [.ref a, p0, p1] M) (fun v M' => ji_Ev C 153 122 M' lv (v.toList ++ st) o) := ev_inv (k := 153) rfl cd_8_300 rfl
theorem s153_122 : ji_Ev C 153 122 M (some (.ref a) :: l) st o ↔ ji_Ev C 153 123 M (some (.ref a) :: l) (.ref a :: st) o := ev_go (S := (123, M, (some (.ref a) :: l), (.ref a :: st))) rfl rfl rfl
theorem s153_123 : ji_Ev C 153 123 M lv (.ref a :: st) o ↔ ji_kd M a = some (0, 8) ∧ ji_Ev C 153 126 M lv (ji_rv (ji_gR M a 13) :: st) o := ev_getR (k := 153) rfl fd_8_77 rfl
theorem s153_126 : ji_Ev C 153 126 M (l0 :: some (.int x) :: l) st o ↔ ji_Ev C 153 127 M (l0 :: some (.int x) :: l) (.int x :: st) o := ev_go (S := (127, M, (l0 :: some (.int x) :: l), (.int x :: st))) rfl rfl rfl
theorem s153_127 : ji_Ev C 153 127 M (l0 :: l1 :: l2 :: l3 :: l4 :: l5 :: l6 :: some (.int x) :: l) st o ↔ ji_Ev C 153 129 M (l0 :: l1 :: l2 :: l3 :: l4 :: l5 :: l6 :: some (.int x) :: l) (.int x :: st) o := ev_go (S := (129, M, (l0 :: l1 :: l2 :: l3 :: l4 :: l5 :: l6 :: some (.int x) :: l), (.int x :: st))) rfl rfl rfl
theorem s153_129 : ji_Ev C 153 129 M lv st o ↔ ji_Ev C 153 130 M lv (.int 1 :: st) o := ev_go (S := (130, M, lv, (.int 1 :: st))) rfl rfl rfl
theorem s153_130 : ji_Ev C 153 130 M lv (.int y :: .int x :: st) o ↔ ji_Ev C 153 131 M lv (.int (x + y) :: st) o := ev_go (S := (131, M, lv, (.int (x + y) :: st))) rfl rfl rfl
theorem s153_131 : ji_Ev C 153 131 M lv (p1 :: p0 :: .ref a :: st) o ↔ (ji_rcb M 4 (.ref a) = true ∧ ji_ok8 st) ∧ ji_evC (C 154 [.ref a, p0, p1] M) (fun v M' => ji_Ev C 153 134 M' lv (v.toList ++ st) o) := ev_inv (k := 153) rfl cd_8_300 rfl
theorem s153_134 : ji_Ev C 153 134 M lv (p1 :: p0 :: .ref a :: st) o ↔ (ji_rcb M 8 (.ref a) = true ∧ ji_ok8 st) ∧ ji_evC (C 59 [.ref a, p0, p1] M) (fun v M' => ji_Ev C 153 137 M' lv (v.toList ++ st) o) := ev_inv (k := 153) rfl cd_8_301 rfl
theorem s153_137 : ji_Ev C 153 137 M lv (.int x :: st) o ↔ if x < 0 then ji_Ev C 153 143 M lv st o else ji_Ev C 153 140 M lv st o := ev_brz (c := .lt) rfl (by decide) rfl
theorem s153_140 : ji_Ev C 153 140 M lv st o ↔ ji_evL (lv.getD 5 none) ji_isI (fun v => match v with | .int x => 5 < lv.length ∧ ji_Ev C 153 143 M (ji_s1 lv 5 (.int (x + Int32.ofInt 1))) st o | _ => False) := ev_iinc rfl
theorem s153_143 : ji_Ev C 153 143 M lv st o ↔ ji_evL (lv.getD 6 none) ji_isI (fun v => match v with | .int x => 6 < lv.length ∧ ji_Ev C 153 146 M (ji_s1 lv 6 (.int (x + Int32.ofInt 1))) st o | _ => False) := ev_iinc rfl
theorem s153_146 : ji_Ev C 153 146 M lv st o ↔ ji_Ev C 153 65 M lv st o := ev_gt rfl (by decide) rfl
theorem s153_149 : ji_Ev C 153 149 M (l0 :: l1 :: l2 :: l3 :: l4 :: some (.int x) :: l) st o ↔ ji_Ev C 153 151 M (l0 :: l1 :: l2 :: l3 :: l4 :: some (.int x) :: l) (.int x :: st) o := ev_go (S := (151, M, (l0 :: l1 :: l2 :: l3 :: l4 :: some (.int x) :: l), (.int x :: st))) rfl rfl rfl
theorem s153_151 : ji_Ev C 153 151 M lv [.int x] o ↔ o = (some (.int x), M) := ev_ireti rfl rfl
theorem s154_0 : ji_Ev C 154 0 M (some (.ref a) :: l) st o ↔ ji_Ev C 154 1 M (some (.ref a) :: l) (.ref a :: st) o := ev_go (S := (1, M, (some (.ref a) :: l), (.ref a :: st))) rfl rfl rfl
theorem s154_1 : ji_Ev C 154 1 M (l0 :: some (.int x) :: l) st o ↔ ji_Ev C 154 2 M (l0 :: some (.int x) :: l) (.int x :: st) o := ev_go (S := (2, M, (l0 :: some (.int x) :: l), (.int x :: st))) rfl rfl rfl
theorem s154_2 : ji_Ev C 154 2 M (l0 :: l1 :: some (.int x) :: l) st o ↔ ji_Ev C 154 3 M (l0 :: l1 :: some (.int x) :: l) (.int x :: st) o := ev_go (S := (3, M, (l0 :: l1 :: some (.int x) :: l), (.int x :: st))) rfl rfl rfl
theorem s154_3 : ji_Ev C 154 3 M lv (p1 :: p0 :: .ref a :: st) o ↔ (ji_rcb M 4 (.ref a) = true ∧ ji_ok8 st) ∧ ji_evC (C 148 [.ref a, p0, p1] M) (fun v M' => ji_Ev C 154 6 M' lv (v.toList ++ st) o) := ev_inv (k := 154) rfl cd_4_44 rfl
theorem s154_6 : ji_Ev C 154 6 M lv (.int x :: st) o ↔ if x = 0 then ji_Ev C 154 20 M lv st o else ji_Ev C 154 9 M lv st o := ev_brz (c := .eq) rfl (by decide) rfl
theorem s154_9 : ji_Ev C 154 9 M (some (.ref a) :: l) st o ↔ ji_Ev C 154 10 M (some (.ref a) :: l) (.ref a :: st) o := ev_go (S := (10, M, (some (.ref a) :: l), (.ref a :: st))) rfl rfl rfl
theorem s154_10 : ji_Ev C 154 10 M lv (.ref a :: st) o ↔ ji_kd M a = some (0, 4) ∧ ji_Ev C 154 13 M lv (ji_rv (ji_gR M a 0) :: st) o := ev_getR (k := 154) rfl fd_4_11 rfl
theorem s154_13 : ji_Ev C 154 13 M (l0 :: some (.int x) :: l) st o ↔ ji_Ev C 154 14 M (l0 :: some (.int x) :: l) (.int x :: st) o := ev_go (S := (14, M, (l0 :: some (.int x) :: l), (.int x :: st))) rfl rfl rfl
theorem s154_14 : ji_Ev C 154 14 M lv (.int x :: .ref a :: st) o ↔ ji_evQ (ji_kd M a) (fun n => vp_in x n ∧ ji_Ev C 154 15 M lv (ji_rv (ji_gR M a x.toNatClampNeg) :: st) o) := ev_aald rfl
theorem s154_15 : ji_Ev C 154 15 M (l0 :: l1 :: some (.int x) :: l) st o ↔ ji_Ev C 154 16 M (l0 :: l1 :: some (.int x) :: l) (.int x :: st) o := ev_go (S := (16, M, (l0 :: l1 :: some (.int x) :: l), (.int x :: st))) rfl rfl rfl
theorem s154_16 : ji_Ev C 154 16 M lv (.int x :: .ref a :: st) o ↔ ji_evA (ji_kd M a) (fun n => vp_in x n ∧ ji_Ev C 154 17 M lv (.int (ji_gI M a x.toNatClampNeg) :: st) o) := ev_iald rfl
theorem s154_17 : ji_Ev C 154 17 M lv st o ↔ ji_Ev C 154 21 M lv st o := ev_gt rfl (by decide) rfl
theorem s154_20 : ji_Ev C 154 20 M lv st o ↔ ji_Ev C 154 21 M lv (.int 0 :: st) o := ev_go (S := (21, M, lv, (.int 0 :: st))) rfl rfl rfl
theorem s154_21 : ji_Ev C 154 21 M lv [.int x] o ↔ o = (some (.int x), M) := ev_ireti rfl rfl
theorem s155_0 : ji_Ev C 155 0 M (l0 :: l1 :: some (.int x) :: l) st o ↔ ji_Ev C 155 1 M (l0 :: l1 :: some (.int x) :: l) (.int x :: st) o := ev_go (S := (1, M, (l0 :: l1 :: some (.int x) :: l), (.int x :: st))) rfl rfl rfl
theorem s155_1 : ji_Ev C 155 1 M lv (p0 :: st) o ↔ ji_ok8 st ∧ ji_evC (C 71 [p0] M) (fun v M' => ji_Ev C 155 4 M' lv (v.toList ++ st) o) := ev_sta (k := 155) (a := [p0]) rfl (Or.inl cd_8_143) rfl
theorem s155_4 : ji_Ev C 155 4 M lv (.int x :: st) o ↔ if x = 0 then ji_Ev C 155 7 M lv st o else ji_Ev C 155 10 M lv st o := ev_brz (c := .ne) rfl (by decide) rfl
theorem s155_7 : ji_Ev C 155 7 M lv st o ↔ ji_Ev C 155 9 M lv (.int (-2) :: st) o := ev_go (S := (9, M, lv, (.int (-2) :: st))) rfl rfl rfl
theorem s155_9 : ji_Ev C 155 9 M lv [.int x] o ↔ o = (some (.int x), M) := ev_ireti rfl rfl
theorem s155_10 : ji_Ev C 155 10 M (some (.ref a) :: l) st o ↔ ji_Ev C 155 11 M (some (.ref a) :: l) (.ref a :: st) o := ev_go (S := (11, M, (some (.ref a) :: l), (.ref a :: st))) rfl rfl rfl
theorem s155_11 : ji_Ev C 155 11 M lv (.ref a :: st) o ↔ ji_kd M a = some (0, 8) ∧ ji_Ev C 155 14 M lv (ji_rv (ji_gR M a 0) :: st) o := ev_getR (k := 155) rfl fd_8_10 rfl
theorem s155_14 : ji_Ev C 155 14 M lv (.ref a :: st) o ↔ ji_kd M a = some (0, 5) ∧ ji_Ev C 155 17 M lv (ji_rv (ji_gR M a 0) :: st) o := ev_getR (k := 155) rfl fd_8_111 rfl
theorem s155_17 : ji_Ev C 155 17 M (l0 :: some (.int x) :: l) st o ↔ ji_Ev C 155 18 M (l0 :: some (.int x) :: l) (.int x :: st) o := ev_go (S := (18, M, (l0 :: some (.int x) :: l), (.int x :: st))) rfl rfl rfl
theorem s155_18 : ji_Ev C 155 18 M lv (p0 :: .ref a :: st) o ↔ (ji_rcb M 2 (.ref a) = true ∧ ji_ok8 st) ∧ ji_evC (C 65 [.ref a, p0] M) (fun v M' => ji_Ev C 155 21 M' lv (v.toList ++ st) o) := ev_inv (k := 155) rfl cd_8_121 rfl
theorem s155_21 : ji_Ev C 155 21 M lv (.int x :: st) o ↔ if x = 0 then ji_Ev C 155 24 M lv st o else ji_Ev C 155 27 M lv st o := ev_brz (c := .ne) rfl (by decide) rfl
theorem s155_24 : ji_Ev C 155 24 M lv st o ↔ ji_Ev C 155 26 M lv (.int (-11) :: st) o := ev_go (S := (26, M, lv, (.int (-11) :: st))) rfl rfl rfl
theorem s155_26 : ji_Ev C 155 26 M lv [.int x] o ↔ o = (some (.int x), M) := ev_ireti rfl rfl
theorem s155_27 : ji_Ev C 155 27 M (some (.ref a) :: l) st o ↔ ji_Ev C 155 28 M (some (.ref a) :: l) (.ref a :: st) o := ev_go (S := (28, M, (some (.ref a) :: l), (.ref a :: st))) rfl rfl rfl
theorem s155_28 : ji_Ev C 155 28 M lv (.ref a :: st) o ↔ ji_kd M a = some (0, 8) ∧ ji_Ev C 155 31 M lv (ji_rv (ji_gR M a 0) :: st) o := ev_getR (k := 155) rfl fd_8_10 rfl
theorem s155_31 : ji_Ev C 155 31 M (l0 :: some (.int x) :: l) st o ↔ ji_Ev C 155 32 M (l0 :: some (.int x) :: l) (.int x :: st) o := ev_go (S := (32, M, (l0 :: some (.int x) :: l), (.int x :: st))) rfl rfl rfl
theorem s155_32 : ji_Ev C 155 32 M lv (p0 :: .ref a :: st) o ↔ (ji_rcb M 5 (.ref a) = true ∧ ji_ok8 st) ∧ ji_evC (C 50 [.ref a, p0] M) (fun v M' => ji_Ev C 155 35 M' lv (v.toList ++ st) o) := ev_inv (k := 155) rfl cd_8_134 rfl
theorem s155_35 : ji_Ev C 155 35 M (l0 :: l1 :: some (.int x) :: l) st o ↔ ji_Ev C 155 36 M (l0 :: l1 :: some (.int x) :: l) (.int x :: st) o := ev_go (S := (36, M, (l0 :: l1 :: some (.int x) :: l), (.int x :: st))) rfl rfl rfl
theorem s155_36 : ji_Ev C 155 36 M lv (p1 :: p0 :: st) o ↔ ji_ok8 st ∧ ji_evC (C 83 [p0, p1] M) (fun v M' => ji_Ev C 155 39 M' lv (v.toList ++ st) o) := ev_sta (k := 155) (a := [p1, p0]) rfl (Or.inl cd_8_304) rfl
theorem s155_39 : ji_Ev C 155 39 M lv (.int x :: st) o ↔ if x = 0 then ji_Ev C 155 57 M lv st o else ji_Ev C 155 42 M lv st o := ev_brz (c := .eq) rfl (by decide) rfl
theorem s155_42 : ji_Ev C 155 42 M (some (.ref a) :: l) st o ↔ ji_Ev C 155 43 M (some (.ref a) :: l) (.ref a :: st) o := ev_go (S := (43, M, (some (.ref a) :: l), (.ref a :: st))) rfl rfl rfl
theorem s155_43 : ji_Ev C 155 43 M lv (.ref a :: st) o ↔ ji_kd M a = some (0, 8) ∧ ji_Ev C 155 46 M lv (ji_rv (ji_gR M a 0) :: st) o := ev_getR (k := 155) rfl fd_8_10 rfl
theorem s155_46 : ji_Ev C 155 46 M lv (.ref a :: st) o ↔ ji_kd M a = some (0, 5) ∧ ji_Ev C 155 49 M lv (ji_rv (ji_gR M a 0) :: st) o := ev_getR (k := 155) rfl fd_8_111 rfl
theorem s155_49 : ji_Ev C 155 49 M (l0 :: some (.int x) :: l) st o ↔ ji_Ev C 155 50 M (l0 :: some (.int x) :: l) (.int x :: st) o := ev_go (S := (50, M, (l0 :: some (.int x) :: l), (.int x :: st))) rfl rfl rfl
theorem s155_50 : ji_Ev C 155 50 M lv st o ↔ ji_Ev C 155 51 M lv (.int 3 :: st) o := ev_go (S := (51, M, lv, (.int 3 :: st))) rfl rfl rfl
theorem s155_51 : ji_Ev C 155 51 M lv (p1 :: p0 :: .ref a :: st) o ↔ (ji_rcb M 2 (.ref a) = true ∧ ji_ok8 st) ∧ ji_evC (C 49 [.ref a, p0, p1] M) (fun v M' => ji_Ev C 155 54 M' lv (v.toList ++ st) o) := ev_inv (k := 155) rfl cd_8_140 rfl
theorem s155_54 : ji_Ev C 155 54 M lv st o ↔ ji_Ev C 155 59 M lv st o := ev_gt rfl (by decide) rfl
theorem s155_57 : ji_Ev C 155 57 M lv st o ↔ ji_Ev C 155 59 M lv (.int (-13) :: st) o := ev_go (S := (59, M, lv, (.int (-13) :: st))) rfl rfl rfl
theorem s155_59 : ji_Ev C 155 59 M lv [.int x] o ↔ o = (some (.int x), M) := ev_ireti rfl rfl
end JIR
