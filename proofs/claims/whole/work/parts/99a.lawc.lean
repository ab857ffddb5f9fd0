/-! ===== the law: what an answer is; an argument; a call on either object ===== -/
theorem jl_ex_int {al : Bool} {C : ji_C} {k : Nat} (hk : (ji_m k).2.2.2.1 = some .int) : ∀ (n pc : Nat) (M : ji_M) (lv : ji_L) (st : List Value) (r : Option Value) (M1 : ji_M), ji_ex al C k n pc M lv st = some (r, M1) → ∃ z, r = some (.int z) := by
  intro n
  induction n with
  | zero => intro pc M lv st r M1 h; cases h
  | succ n ih =>
    intro pc M lv st r M1 h
    rw [ji_ex] at h
    split at h
    · cases h
    · rename_i i hi
      split at h
      · exact ih _ _ _ _ _ _ h
      · rename_i r9 hr9
        split at h
        · rename_i hret
          subst h
          generalize i.1 = ins at hret hr9
          cases ins with
          | ireturn =>
            have h : ji_ir k M st = .inr (some (r, M1)) := hr9
            unfold ji_ir at h
            split at h
            · split at h
              · split at h
                · cases h; exact ⟨_, rfl⟩
                · cases h
              · cases h
            · cases h
          | lreturn =>
            have h : ji_lr k M st = .inr (some (r, M1)) := hr9
            unfold ji_lr at h
            rw [hk] at h
            split at h
            · rw [if_neg (by decide)] at h; cases h
            · cases h
          | return_ =>
            have h : ji_vr k M st = .inr (some (r, M1)) := hr9
            unfold ji_vr at h
            rw [hk] at h
            split at h
            · rw [if_neg (by decide)] at h; cases h
            · cases h
          | _ => cases hret
        · cases h
def jl_noir (k : Nat) : Bool := (ji_is.getD k []).all (fun o => match o with | some (.ireturn, _) => false | _ => true)
theorem jl_ex_long {al : Bool} {C : ji_C} {k : Nat} (hk : (ji_m k).2.2.2.1 = some .long) (hno : jl_noir k = true) : ∀ (n pc : Nat) (M : ji_M) (lv : ji_L) (st : List Value) (r : Option Value) (M1 : ji_M), ji_ex al C k n pc M lv st = some (r, M1) → ∃ z, r = some (.long z) := by
  intro n
  induction n with
  | zero => intro pc M lv st r M1 h; cases h
  | succ n ih =>
    intro pc M lv st r M1 h
    rw [ji_ex] at h
    split at h
    · cases h
    · rename_i i hi
      split at h
      · exact ih _ _ _ _ _ _ h
      · rename_i r9 hr9
        split at h
        · rename_i hret
          subst h
          have hir : i.1 ≠ .ireturn := by
            intro e
            unfold ji_ins at hi
            cases hp : (ji_is.getD k [])[pc]? with
            | none => rw [List.getD_eq_getElem?_getD, hp] at hi; cases hi
            | some o =>
              rw [List.getD_eq_getElem?_getD, hp, Option.getD_some] at hi
              have h2 := List.all_eq_true.mp hno _ (List.mem_of_getElem? hp)
              rw [hi] at h2
              obtain ⟨i1, i2⟩ := i
              dsimp only at e
              subst e
              cases h2
          generalize i.1 = ins at hret hr9 hir
          cases ins with
          | ireturn => exact absurd rfl hir
          | lreturn =>
            have h : ji_lr k M st = .inr (some (r, M1)) := hr9
            unfold ji_lr at h
            split at h
            · rw [if_pos hk] at h
              cases h; exact ⟨_, rfl⟩
            · cases h
          | return_ =>
            have h : ji_vr k M st = .inr (some (r, M1)) := hr9
            unfold ji_vr at h
            rw [hk] at h
            split at h
            · rw [if_neg (by decide)] at h; cases h
            · cases h
          | _ => cases hret
        · cases h
theorem jl_int {N d k : Nat} {a : List Value} {M M' : ji_M} {r : Option Value} (hk : (ji_m k).2.2.2.1 = some .int) (h : ji_clN false N d k a M = some (r, M')) : ∃ z, r = some (.int z) := by
  cases d with
  | zero => cases h
  | succ d =>
    rw [ji_clN] at h
    dsimp only at h
    split at h
    · exact jl_ex_int hk _ _ _ _ _ _ _ h
    · cases h
theorem jl_long {N d k : Nat} {a : List Value} {M M' : ji_M} {r : Option Value} (hk : (ji_m k).2.2.2.1 = some .long) (hno : jl_noir k = true) (h : ji_clN false N d k a M = some (r, M')) : ∃ z, r = some (.long z) := by
  cases d with
  | zero => cases h
  | succ d =>
    rw [ji_clN] at h
    dsimp only at h
    split at h
    · exact jl_ex_long hk hno _ _ _ _ _ _ _ h
    · cases h
/-- both objects' answers to one call -/
theorem jl_two {k k' : Nat} {a : List Value} {X N : ji_M} (h : ji_same jx_P k k' a X N) : ∃ v X' N' n n', ji_clN false n 60 k (.ref 0 :: a) X = some (v, X') ∧ ji_clN false n' 60 k' (.ref 0 :: a) N = some (v, N') ∧ ji_Rel jx_P X' N' := by
  obtain ⟨v, X', N', h1, h2, h3⟩ := h 0
  rw [Nat.zero_add] at h1 h2
  obtain ⟨n, h1⟩ := ji_CL_N h1
  obtain ⟨n', h2⟩ := ji_CL_N h2
  exact ⟨v, X', N', n, n', h1, h2, h3⟩
/-- what stands all through the law's frame -/
def jl_Cx (p : Program) (s : State) (m : MethodId) (args : Array Value) (c : Code) (b L : Nat) (xs : Nat → Int32) (x : Nat → Value) (D : va_G) (G : ji_G) : Prop :=
  p.tables.exec = Jvm.exec ∧ c.code = code ∧ c.maxLocals = 4 ∧ s.vm.findClass R_law = some m.cls ∧ (∀ w ∈ lw_tbl, w.before args s = true) ∧ va_X b L xs s s.heap ∧ b < s.heap.size ∧ L ≤ 3072 ∧ ji_K D G x s ∧ ji_XK x (fun q : Nat => s.heap.size ≤ q) s s.heap ∧ ji_xo x
/-- the two objects -/
def jl_I (s : State) (D : va_G) (G : ji_G) (bX bN : Nat) (X N : ji_M) (H : Heap) (locs : List Loc) : Prop :=
  va_P D ji_cl (ji_Wd bX G X) H ∧ va_P D ji_cl (ji_Wd bN G N) H ∧ va_S (fun q : Nat => s.heap.size ≤ q) s.heap H locs ∧ s.heap.size ≤ bX ∧ bX + X.1.length ≤ bN ∧ bN + N.1.length ≤ H.size
def jl_z (xs : Nat → Int32) (x3 : Int32) (k : Int) : Int32 := xs (x3 + Int32.ofInt k).toNatClampNeg
section JLB
variable {p : Program} {l : Launch} {e : Env} {s : State} {m : MethodId} {args : Array Value} {below : List Frame} {meth : Method} {c : Code} {Q : State → Prop}
variable {x : Nat → Value} {D : va_G} {G : ji_G} {k b L : Nat} {xs : Nat → Int32} {X N M' : ji_M} {H : Heap} {locs : List Loc} {cells slots pc bX bN : Nat} {ls : Array Slot} {rest As : List Value} {x3 : Int32}
theorem jl_arg (C : jl_Cx p s m args c b L xs x D G) (I : jl_I s D G bX bN X N H locs) (hl : lv_has ls 4 [(3, .int x3), (2, .ref bN), (1, .ref bX), (0, .ref b)]) {j : Int} (h0 : decode code pc = .ok (.aload_n 0, 1)) (h1 : decode code (pc + 1) = .ok (.iload_n 3, 1)) (h2 : decode code (pc + 2) = .ok (.iconst j, 1)) (h3 : decode code (pc + 3) = .ok (.iadd, 1)) (h4 : decode code (pc + 4) = .ok (.iaload, 1)) (hin : vp_in (x3 + Int32.ofInt j) L)
    (kk : W p l e room_1 s m args below meth c H locs cells slots Q (F0 m (pc + 5) ls (.int (jl_z xs x3 j) :: rest))) : W p l e room_1 s m args below meth c H locs cells slots Q (F0 m pc ls rest) := by
  obtain ⟨hx, hb, hml, hown, hts, hX, hbl, hL, -⟩ := C
  obtain ⟨-, -, hS, -⟩ := I
  refine lv_aload_n hx hb h0 rfl (lv_at hl 3 rfl) ?_
  refine lv_iload_n hx hb h1 rfl (lv_at hl 0 rfl) ?_
  refine lv_iconst hx hb h2 rfl ?_
  refine lv_iadd hx hb h3 ?_
  exact va_sld hx hb hX hbl (Nat.not_le.mpr hbl) hS hin h4 kk
theorem jl_cX {ix Nf : Nat} {a : List Value} {r : Option Value} (C : jl_Cx p s m args c b L xs x D G) (I : jl_I s D G bX bN X N H locs) (hsz : ls.size = 4) (hcl : ji_clN false Nf 60 k (.ref 0 :: a) X = some (r, M')) (hrc : ji_kd X 0 = some (0, 8)) (hnm : ji_nm 8 = (ji_m k).1.cls)
    (hw : ∀ w ∈ [Cond.methodLink R_law ix (ji_m k).1, .instanceMethod (ji_m k).1, .selects (ji_m k).1.cls (ji_m k).1 (ji_m k).1, .initialized (ji_m k).1.cls], w ∈ ji_tt) (hpar : (parseMethodDescriptor (ji_m k).1.desc).map (fun d => d.parameters.length) = some As.length)
    (hAs : a.map (ji_tr bX x) = As) (hrest : (rest.map fun v => v.category).sum ≤ 8) (hd : decode code pc = .ok (.invokevirtual ix, 3)) (hcs : cells ≤ 600000) (hss : slots ≤ 7302250)
    (kk : ∀ (H1 : Heap) (locs1 : List Loc), jl_I s D G bX bN M' N H1 locs1 → W p l e room_1 s m args below meth c H1 locs1 cells slots Q (F0 m (pc + 3) ls ((r.map (ji_tr bX x)).toList ++ rest))) : W p l e room_1 s m args below meth c H locs cells slots Q (F0 m pc ls (As.reverse ++ .ref bX :: rest)) := by
  obtain ⟨hx, hb, hml, hown, hts, hX, hbl, hL, hK, hXK, hxo⟩ := C
  obtain ⟨hP1, hP2, hS, h1, h2, h3⟩ := I
  refine jl_call hx hb hml hown hts hK hXK hxo hP1 hS h1 (by omega) hcl hrc hnm hw hpar hAs hsz hrest hd hcs hss fun H1 locs1 g1 g2 g3 g4 g5 => ?_
  refine kk H1 locs1 ⟨g1, hP2.kept fun i q hq => ?_, g3, h1, by rw [g2]; exact h2, Nat.le_trans h3 g4⟩
  have hlt := (hP2 i q hq).lt
  obtain ⟨κ, -, rfl⟩ := ji_Wd_of hq
  refine g5 _ hlt (fun h => ?_)
  dsimp only at hlt h
  unfold ji_A at h
  omega
theorem jl_cN {ix Nf : Nat} {a : List Value} {r : Option Value} (C : jl_Cx p s m args c b L xs x D G) (I : jl_I s D G bX bN X N H locs) (hsz : ls.size = 4) (hcl : ji_clN false Nf 60 k (.ref 0 :: a) N = some (r, M')) (hrc : ji_kd N 0 = some (0, 9)) (hnm : ji_nm 9 = (ji_m k).1.cls)
    (hw : ∀ w ∈ [Cond.methodLink R_law ix (ji_m k).1, .instanceMethod (ji_m k).1, .selects (ji_m k).1.cls (ji_m k).1 (ji_m k).1, .initialized (ji_m k).1.cls], w ∈ ji_tt) (hpar : (parseMethodDescriptor (ji_m k).1.desc).map (fun d => d.parameters.length) = some As.length)
    (hAs : a.map (ji_tr bN x) = As) (hrest : (rest.map fun v => v.category).sum ≤ 8) (hd : decode code pc = .ok (.invokevirtual ix, 3)) (hcs : cells ≤ 600000) (hss : slots ≤ 7302250)
    (kk : ∀ (H1 : Heap) (locs1 : List Loc), jl_I s D G bX bN X M' H1 locs1 → W p l e room_1 s m args below meth c H1 locs1 cells slots Q (F0 m (pc + 3) ls ((r.map (ji_tr bN x)).toList ++ rest))) : W p l e room_1 s m args below meth c H locs cells slots Q (F0 m pc ls (As.reverse ++ .ref bN :: rest)) := by
  obtain ⟨hx, hb, hml, hown, hts, hX, hbl, hL, hK, hXK, hxo⟩ := C
  obtain ⟨hP1, hP2, hS, h1, h2, h3⟩ := I
  refine jl_call hx hb hml hown hts hK hXK hxo hP2 hS (by omega) h3 hcl hrc hnm hw hpar hAs hsz hrest hd hcs hss fun H1 locs1 g1 g2 g3 g4 g5 => ?_
  refine kk H1 locs1 ⟨hP1.kept fun i q hq => ?_, g1, g3, h1, h2, by rw [g2]; exact Nat.le_trans h3 g4⟩
  have hlt := (hP1 i q hq).lt
  obtain ⟨κ, hκ, rfl⟩ := ji_Wd_of hq
  have hi : i < X.1.length := by
    unfold ji_kd at hκ
    exact (List.getElem?_eq_some_iff.mp hκ).1
  refine g5 _ hlt (fun h => ?_)
  dsimp only at hlt h
  unfold ji_A at h
  omega
end JLB
