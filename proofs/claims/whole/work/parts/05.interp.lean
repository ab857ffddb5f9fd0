/-! ===== THE PURE INTERPRETER: a memory of numbered cells, what an instruction does to it ===== -/
/-- kinds of the cells: (0, its class), (1, length) an int[], (2, length) an int[][], (3, length) a Stock[]; ints, longs, references by cell and place -/
abbrev ji_M : Type := List (Nat × Nat) × (Nat → Nat → Int32) × (Nat → Nat → Int64) × (Nat → Nat → Option Nat)
abbrev ji_L : Type := List (Option Value)
abbrev ji_C : Type := Nat → List Value → ji_M → Option (Option Value × ji_M)
abbrev ji_S : Type := Nat × ji_M × ji_L × List Value
abbrev ji_O : Type := Option (Option Value × ji_M)
def ji_kd (M : ji_M) (i : Nat) : Option (Nat × Nat) := M.1[i]?
def ji_gI (M : ji_M) (i k : Nat) : Int32 := M.2.1 i k
def ji_gL (M : ji_M) (i k : Nat) : Int64 := M.2.2.1 i k
def ji_gR (M : ji_M) (i k : Nat) : Option Nat := M.2.2.2 i k
def ji_sI (M : ji_M) (i k : Nat) (v : Int32) : ji_M := (M.1, fun a b => if a = i ∧ b = k then v else M.2.1 a b, M.2.2.1, M.2.2.2)
def ji_sL (M : ji_M) (i k : Nat) (v : Int64) : ji_M := (M.1, M.2.1, fun a b => if a = i ∧ b = k then v else M.2.2.1 a b, M.2.2.2)
def ji_sR (M : ji_M) (i k : Nat) (v : Option Nat) : ji_M := (M.1, M.2.1, M.2.2.1, fun a b => if a = i ∧ b = k then v else M.2.2.2 a b)
def ji_cp (M : ji_M) (s i d j n : Nat) : ji_M := (M.1, fun a b => if a = d ∧ j ≤ b ∧ b < j + n then M.2.1 s (i + (b - j)) else M.2.1 a b, M.2.2.1, M.2.2.2)
def ji_nO (M : ji_M) (κ : Nat × Nat) : ji_M := (M.1 ++ [κ], fun a b => if M.1.length ≤ a then 0 else M.2.1 a b, fun a b => if M.1.length ≤ a then 0 else M.2.2.1 a b, fun a b => if M.1.length ≤ a then none else M.2.2.2 a b)
def ji_nQ (M : ji_M) (n k : Nat) : ji_M := (M.1 ++ ((2, n) :: List.replicate n (1, k)), fun a b => if M.1.length ≤ a then 0 else M.2.1 a b, fun a b => if M.1.length ≤ a then 0 else M.2.2.1 a b, fun a b => if M.1.length ≤ a then (if a = M.1.length ∧ b < n then some (M.1.length + 1 + b) else none) else M.2.2.2 a b)
def ji_rv (r : Option Nat) : Value := match r with | none => .null | some a => .ref a
def ji_sz (κ : Nat × Nat) : Nat := if κ.1 = 0 then ji_ncl κ.2 else κ.2
def ji_sl (ks : List (Nat × Nat)) : Nat := (ks.map ji_sz).sum
/-- locals -/
def ji_kl (lv : ji_L) (i : Nat) : ji_L := match i with
  | 0 => lv
  | j + 1 => match lv.getD j none with
    | some (.long _) => lv.set j none
    | some (.double _) => lv.set j none
    | _ => lv
def ji_s1 (lv : ji_L) (i : Nat) (v : Value) : ji_L := (ji_kl lv i).set i (some v)
def ji_s2 (lv : ji_L) (i : Nat) (v : Value) : ji_L := ((ji_kl lv i).set i (some v)).set (i + 1) none
def ji_ag : List Value → ji_L
  | [] => []
  | .long x :: r => some (.long x) :: none :: ji_ag r
  | .double x :: r => some (.double x) :: none :: ji_ag r
  | v :: r => some v :: ji_ag r
def ji_en (n : Nat) (a : List Value) : ji_L := ji_ag a ++ List.replicate (n - (ji_ag a).length) none
/-- the tables, asked -/
def ji_fd (o ix : Nat) : Option (Nat × Nat × Nat) := (ji_fl.find? (fun e => e.1 == o && e.2.1 == ix)).map (fun e => (e.2.2.1, e.2.2.2.1, e.2.2.2.2.1))
def ji_cd (o ix : Nat) : Option (Nat × Nat × Nat × Nat) := (ji_cs.find? (fun e => e.1 == o && e.2.1 == ix)).map (fun e => (e.2.2.1, e.2.2.2.1, e.2.2.2.2.1, e.2.2.2.2.2.1))
def ji_nd (o ix : Nat) : Option Nat := (ji_nt.find? (fun e => e.1 == o && e.2.1 == ix)).map (fun e => e.2.2.1)
def ji_md (o ix : Nat) : Bool := (ji_mt.find? (fun e => e.1 == o && e.2.1 == ix)).isSome
def ji_ctd (o ix : Nat) : Option Value := (ji_ct.find? (fun e => e.1 == o && e.2.1 == ix)).map (fun e => e.2.2.1)
def ji_sgd (o ix : Nat) : Option Value := (ji_sg.find? (fun e => e.1 == o && e.2.1 == ix)).map (fun e => e.2.2.1)
def ji_xfd (ix : Nat) : Option Nat := (ji_xf.find? (fun e => e.1 == ix)).map (fun e => e.2.1)
def ji_xad (t : Nat) : Option (List Int32) := (ji_xa.find? (fun e => e.1 == t)).map (fun e => e.2)
def ji_ow (k : Nat) : Nat := (ji_m k).2.2.2.2
def ji_fin (c f : Nat) : Bool := match ji_cl[c]? with | some q => (q.2.1 f).2.2.2 | none => false
/-- may a method write this field -/
def ji_pf (k c f : Nat) : Bool := !ji_fin c f || (decide ((ji_m k).1.name = "<init>") && decide (ji_ow k = c))
def ji_fv (M : ji_M) (a c f : Nat) : Value := match ji_fty c f with
  | 0 => .int (ji_gI M a f)
  | 1 => .long (ji_gL M a f)
  | _ => ji_rv (ji_gR M a f)
def ji_isI : Value → Bool | .int _ => true | _ => false
def ji_isL : Value → Bool | .long _ => true | _ => false
def ji_isA : Value → Bool | .ref _ => true | .retAddr _ => true | _ => false
def ji_go (pc : Nat) (M : ji_M) (lv : ji_L) (st : List Value) : ji_S ⊕ ji_O := .inl (pc, M, lv, st)
def ji_no : ji_S ⊕ ji_O := .inr none
def ji_jm (pc : Nat) (off : Int) (M : ji_M) (lv : ji_L) (st : List Value) : ji_S ⊕ ji_O := if 0 ≤ (pc : Int) + off then ji_go ((pc : Int) + off).toNat M lv st else ji_no
def ji_ld (o : Option Value) (t : Value → Bool) (pc : Nat) (M : ji_M) (lv : ji_L) (st : List Value) : ji_S ⊕ ji_O := match o with
  | some v => if t v = true then ji_go pc M lv (v :: st) else ji_no
  | none => ji_no
def ji_sI1 (i pc : Nat) (M : ji_M) (lv : ji_L) (st : List Value) : ji_S ⊕ ji_O := match st with
  | .int x :: st => if i < lv.length then ji_go pc M (ji_s1 lv i (.int x)) st else ji_no
  | _ => ji_no
def ji_sL1 (i pc : Nat) (M : ji_M) (lv : ji_L) (st : List Value) : ji_S ⊕ ji_O := match st with
  | .long x :: st => if i + 1 < lv.length then ji_go pc M (ji_s2 lv i (.long x)) st else ji_no
  | _ => ji_no
def ji_sA1 (i pc : Nat) (M : ji_M) (lv : ji_L) (st : List Value) : ji_S ⊕ ji_O := match st with
  | .ref x :: st => if i < lv.length then ji_go pc M (ji_s1 lv i (.ref x)) st else ji_no
  | _ => ji_no
def ji_bI (f : Int32 → Int32 → Int32) (pc : Nat) (M : ji_M) (lv : ji_L) (st : List Value) : ji_S ⊕ ji_O := match st with
  | .int y :: .int x :: st => ji_go pc M lv (.int (f x y) :: st)
  | _ => ji_no
def ji_bD (f : Int32 → Int32 → Int32) (pc : Nat) (M : ji_M) (lv : ji_L) (st : List Value) : ji_S ⊕ ji_O := match st with
  | .int y :: .int x :: st => if y = 0 then ji_no else ji_go pc M lv (.int (f x y) :: st)
  | _ => ji_no
def ji_bL (f : Int64 → Int64 → Int64) (pc : Nat) (M : ji_M) (lv : ji_L) (st : List Value) : ji_S ⊕ ji_O := match st with
  | .long y :: .long x :: st => ji_go pc M lv (.long (f x y) :: st)
  | _ => ji_no
def ji_bDL (f : Int64 → Int64 → Int64) (pc : Nat) (M : ji_M) (lv : ji_L) (st : List Value) : ji_S ⊕ ji_O := match st with
  | .long y :: .long x :: st => if y = 0 then ji_no else ji_go pc M lv (.long (f x y) :: st)
  | _ => ji_no
def ji_bS (f : Int64 → Int32 → Int64) (pc : Nat) (M : ji_M) (lv : ji_L) (st : List Value) : ji_S ⊕ ji_O := match st with
  | .int y :: .long x :: st => ji_go pc M lv (.long (f x y) :: st)
  | _ => ji_no
def ji_uI (f : Int32 → Value) (pc : Nat) (M : ji_M) (lv : ji_L) (st : List Value) : ji_S ⊕ ji_O := match st with
  | .int x :: st => ji_go pc M lv (f x :: st)
  | _ => ji_no
def ji_uL (f : Int64 → Value) (pc : Nat) (M : ji_M) (lv : ji_L) (st : List Value) : ji_S ⊕ ji_O := match st with
  | .long x :: st => ji_go pc M lv (f x :: st)
  | _ => ji_no
/-- a comparison's two ways -/
def ji_if {α : Type} (c : ClassFile.Cond) (x y : Int32) (A B : α) : α := match c with
  | .eq => if x = y then A else B
  | .ne => if x = y then B else A
  | .lt => if x < y then A else B
  | .ge => if x < y then B else A
  | .gt => if y < x then A else B
  | .le => if y < x then B else A
def ji_tab (x : Int32) : Int32 → List Int → Int → Int
  | _, [], d => d
  | lo, o :: os, d => if x = lo then o else ji_tab x (lo + 1) os d
def ji_lok2 (x : Int32) : List (Int × Int) → Int → Int
  | [], d => d
  | q :: r, d => if x = Int32.ofInt q.1 then q.2 else ji_lok2 x r d
def ji_out (i : Int32) (n : Nat) : Prop := i < 0 ∨ n ≤ i.toNatClampNeg
def ji_gf (k ix pc : Nat) (M : ji_M) (lv : ji_L) (st : List Value) : ji_S ⊕ ji_O := match st with
  | .ref a :: st => (match ji_fd (ji_ow k) ix with
    | some (c, f, _) => if ji_kd M a = some (0, c) then ji_go (pc + 3) M lv (ji_fv M a c f :: st) else ji_no
    | none => ji_no)
  | .retAddr t :: st => if ji_ow k = 10 ∧ 1 ≤ t ∧ t ≤ 3 then (match ji_xfd ix with
    | some 0 => ji_go (pc + 3) M lv (.retAddr (t + 3) :: st)
    | some _ => ji_go (pc + 3) M lv (.int 0 :: st)
    | none => ji_no) else ji_no
  | _ => ji_no
def ji_wf (M : ji_M) (a c f : Nat) (v : Value) : Option ji_M := match ji_fty c f, v with
  | 0, .int x => some (ji_sI M a f x)
  | 1, .long x => some (ji_sL M a f x)
  | 2, .ref r => some (ji_sR M a f (some r))
  | _, _ => none
def ji_pu (k ix pc : Nat) (M : ji_M) (lv : ji_L) (st : List Value) : ji_S ⊕ ji_O := match st with
  | v :: .ref a :: st => (match ji_fd (ji_ow k) ix with
    | some (c, f, 0) => if ji_kd M a = some (0, c) ∧ ji_pf k c f = true then (match ji_wf M a c f v with
      | some M' => ji_go (pc + 3) M' lv st
      | none => ji_no) else ji_no
    | _ => ji_no)
  | _ => ji_no
def ji_ial (pc : Nat) (M : ji_M) (lv : ji_L) (st : List Value) : ji_S ⊕ ji_O := match st with
  | .int i :: .ref a :: st => (match ji_kd M a with
    | some (1, n) => if i < 0 ∨ n ≤ i.toNatClampNeg then ji_no else ji_go (pc + 1) M lv (.int (ji_gI M a i.toNatClampNeg) :: st)
    | _ => ji_no)
  | .int i :: .retAddr t :: st => if t = 0 then (match ji_xad t with
    | some l => if i < 0 ∨ l.length ≤ i.toNatClampNeg then ji_no else ji_go (pc + 1) M lv (.int (l.getD i.toNatClampNeg 0) :: st)
    | none => ji_no) else ji_no
  | _ => ji_no
def ji_bal (pc : Nat) (M : ji_M) (lv : ji_L) (st : List Value) : ji_S ⊕ ji_O := match st with
  | .int i :: .retAddr t :: st => if 4 ≤ t then (match ji_xad t with
    | some l => if i < 0 ∨ l.length ≤ i.toNatClampNeg then ji_no else ji_go (pc + 1) M lv (.int (l.getD i.toNatClampNeg 0) :: st)
    | none => ji_no) else ji_no
  | _ => ji_no
def ji_ias (pc : Nat) (M : ji_M) (lv : ji_L) (st : List Value) : ji_S ⊕ ji_O := match st with
  | .int v :: .int i :: .ref a :: st => (match ji_kd M a with
    | some (1, n) => if i < 0 ∨ n ≤ i.toNatClampNeg then ji_no else ji_go (pc + 1) (ji_sI M a i.toNatClampNeg v) lv st
    | _ => ji_no)
  | _ => ji_no
def ji_aal (pc : Nat) (M : ji_M) (lv : ji_L) (st : List Value) : ji_S ⊕ ji_O := match st with
  | .int i :: .ref a :: st => (match ji_kd M a with
    | some (2, n) => if i < 0 ∨ n ≤ i.toNatClampNeg then ji_no else ji_go (pc + 1) M lv (ji_rv (ji_gR M a i.toNatClampNeg) :: st)
    | some (3, n) => if i < 0 ∨ n ≤ i.toNatClampNeg then ji_no else ji_go (pc + 1) M lv (ji_rv (ji_gR M a i.toNatClampNeg) :: st)
    | _ => ji_no)
  | _ => ji_no
def ji_aas (pc : Nat) (M : ji_M) (lv : ji_L) (st : List Value) : ji_S ⊕ ji_O := match st with
  | .ref v :: .int i :: .ref a :: st => (match ji_kd M a with
    | some (3, n) => if ji_kd M v = some (0, 5) then (if i < 0 ∨ n ≤ i.toNatClampNeg then ji_no else ji_go (pc + 1) (ji_sR M a i.toNatClampNeg (some v)) lv st) else ji_no
    | _ => ji_no)
  | _ => ji_no
def ji_aln (pc : Nat) (M : ji_M) (lv : ji_L) (st : List Value) : ji_S ⊕ ji_O := match st with
  | .ref a :: st => (match ji_kd M a with
    | some (t, n) => if t = 1 ∨ t = 2 ∨ t = 3 then ji_go (pc + 1) M lv (.int (Int32.ofNat n) :: st) else ji_no
    | none => ji_no)
  | .retAddr t :: st => (match ji_xad t with
    | some l => ji_go (pc + 1) M lv (.int (Int32.ofNat l.length) :: st)
    | none => ji_no)
  | _ => ji_no
def ji_nw1 (al : Bool) (k ix pc : Nat) (M : ji_M) (lv : ji_L) (st : List Value) : ji_S ⊕ ji_O := if al = true then (match ji_nd (ji_ow k) ix with
  | some c => ji_go (pc + 3) (ji_nO M (0, c)) lv (.ref M.1.length :: st)
  | none => ji_no) else ji_no
def ji_na1 (al : Bool) (t pc : Nat) (M : ji_M) (lv : ji_L) (st : List Value) : ji_S ⊕ ji_O := match st with
  | .int n :: st => if al = true ∧ ¬ n < 0 ∧ n.toNatClampNeg ≤ 100000 then ji_go pc (ji_nO M (t, n.toNatClampNeg)) lv (.ref M.1.length :: st) else ji_no
  | _ => ji_no
def ji_nm1 (al : Bool) (k ix pc : Nat) (M : ji_M) (lv : ji_L) (st : List Value) : ji_S ⊕ ji_O := match st with
  | .int n :: .int m :: st => if al = true ∧ ji_md (ji_ow k) ix = true ∧ ¬ n < 0 ∧ n.toNatClampNeg ≤ 100000 ∧ ¬ m < 0 ∧ m.toNatClampNeg ≤ 100000 then ji_go (pc + 4) (ji_nQ M m.toNatClampNeg n.toNatClampNeg) lv (.ref M.1.length :: st) else ji_no
  | _ => ji_no
def ji_w8 (st : List Value) : Prop := (st.map fun v => v.category).sum ≤ 8
def ji_ret (r : Option (Option Value × ji_M)) (pc : Nat) (lv : ji_L) (st : List Value) : ji_S ⊕ ji_O := match r with
  | some (v, M') => ji_go (pc + 3) M' lv (v.toList ++ st)
  | none => ji_no
/-- a receiver of a class -/
def ji_rc (M : ji_M) (rc : Nat) (r : Value) : Prop := match r with
  | .ref a => ji_kd M a = some (0, rc)
  | .retAddr t => rc = 10 ∧ 1 ≤ t ∧ t ≤ 3
  | _ => False
def ji_rcb (M : ji_M) (rc : Nat) (r : Value) : Bool := match r with
  | .ref a => decide (ji_kd M a = some (0, rc))
  | .retAddr t => decide (rc = 10) && decide (1 ≤ t) && decide (t ≤ 3)
  | _ => false
def ji_iv (C : ji_C) (k ix pc : Nat) (M : ji_M) (lv : ji_L) (st : List Value) : ji_S ⊕ ji_O := match ji_cd (ji_ow k) ix with
  | some (0, y, n, rc) => (match st.drop n with
    | r :: st' => if ji_rcb M rc r = true ∧ (st'.map fun v => v.category).sum ≤ 8 then ji_ret (C y (r :: (st.take n).reverse) M) pc lv st' else ji_no
    | [] => ji_no)
  | _ => ji_no
def ji_is9 (C : ji_C) (k ix pc : Nat) (M : ji_M) (lv : ji_L) (st : List Value) : ji_S ⊕ ji_O := match ji_cd (ji_ow k) ix with
  | some (1, y, n, _) => if n ≤ st.length ∧ ((st.drop n).map fun v => v.category).sum ≤ 8 then ji_ret (C y (st.take n).reverse M) pc lv (st.drop n) else ji_no
  | some (4, y, n, _) => if n ≤ st.length ∧ ((st.drop n).map fun v => v.category).sum ≤ 8 then ji_ret (C y (st.take n).reverse M) pc lv (st.drop n) else ji_no
  | some (6, _, _, _) => (match st with
    | .int n :: .int dp :: .ref d :: .int sp :: .ref s :: st' => (match ji_kd M s, ji_kd M d with
      | some (1, n0), some (1, n1) => if ¬ sp < 0 ∧ ¬ dp < 0 ∧ ¬ n < 0 ∧ sp.toNatClampNeg + n.toNatClampNeg ≤ n0 ∧ dp.toNatClampNeg + n.toNatClampNeg ≤ n1 ∧ (st'.map fun v => v.category).sum ≤ 8 then ji_go (pc + 3) (ji_cp M s sp.toNatClampNeg d dp.toNatClampNeg n.toNatClampNeg) lv st' else ji_no
      | _, _ => ji_no)
    | _ => ji_no)
  | some (7, _, _, _) => (match st with
    | .int y :: .int x :: st' => if (st'.map fun v => v.category).sum ≤ 8 then ji_go (pc + 3) M lv (.int (if x < y then y else x) :: st') else ji_no
    | _ => ji_no)
  | some (8, _, _, _) => (match st with
    | .int y :: .int x :: st' => if (st'.map fun v => v.category).sum ≤ 8 then ji_go (pc + 3) M lv (.int (if y < x then y else x) :: st') else ji_no
    | _ => ji_no)
  | some (9, _, _, _) => (match st with
    | .long y :: .long x :: st' => if (st'.map fun v => v.category).sum ≤ 8 then ji_go (pc + 3) M lv (.long (if y < x then y else x) :: st') else ji_no
    | _ => ji_no)
  | _ => ji_no
def ji_ip (C : ji_C) (k ix pc : Nat) (M : ji_M) (lv : ji_L) (st : List Value) : ji_S ⊕ ji_O := match ji_cd (ji_ow k) ix with
  | some (2, y, n, rc) => (match st.drop n with
    | .ref a :: st' => if ji_kd M a = some (0, rc) ∧ (st'.map fun v => v.category).sum ≤ 8 then ji_ret (C y (.ref a :: (st.take n).reverse) M) pc lv st' else ji_no
    | _ => ji_no)
  | some (3, y, n, rc) => (match st.drop n with
    | .ref a :: st' => if ji_kd M a = some (0, rc) ∧ (st'.map fun v => v.category).sum ≤ 8 then ji_ret (C y (.ref a :: (st.take n).reverse) M) pc lv st' else ji_no
    | _ => ji_no)
  | some (5, _, _, _) => (match st with
    | .ref a :: st' => if (st'.map fun v => v.category).sum ≤ 8 then ji_go (pc + 3) M lv st' else ji_no
    | _ => ji_no)
  | _ => ji_no
def ji_ir (k : Nat) (M : ji_M) (st : List Value) : ji_S ⊕ ji_O := match st with
  | [.int v] => (match (ji_m k).2.2.2.1 with
    | some ty => if narrow ty (.int v) = .int v then .inr (some (some (.int v), M)) else ji_no
    | none => ji_no)
  | _ => ji_no
def ji_lr (k : Nat) (M : ji_M) (st : List Value) : ji_S ⊕ ji_O := match st with
  | [.long v] => if (ji_m k).2.2.2.1 = some .long then .inr (some (some (.long v), M)) else ji_no
  | _ => ji_no
def ji_vr (k : Nat) (M : ji_M) (st : List Value) : ji_S ⊕ ji_O := match st with
  | [] => if (ji_m k).2.2.2.1 = none then .inr (some (none, M)) else ji_no
  | _ => ji_no
def ji_du (pc : Nat) (M : ji_M) (lv : ji_L) (st : List Value) : ji_S ⊕ ji_O := match st with
  | v :: st => if v.category = 1 then ji_go pc M lv (v :: v :: st) else ji_no
  | _ => ji_no
def ji_dd2 (pc : Nat) (M : ji_M) (lv : ji_L) (st : List Value) : ji_S ⊕ ji_O := match st with
  | v :: w :: st => if v.category = 1 ∧ w.category = 1 then ji_go pc M lv (v :: w :: v :: w :: st) else ji_no
  | _ => ji_no
def ji_po (pc : Nat) (M : ji_M) (lv : ji_L) (st : List Value) : ji_S ⊕ ji_O := match st with
  | v :: st => if v.category = 1 then ji_go pc M lv st else ji_no
  | _ => ji_no
def ji_ic (i : Nat) (n : Int) (pc : Nat) (M : ji_M) (lv : ji_L) (st : List Value) : ji_S ⊕ ji_O := match lv.getD i none with
  | some (.int x) => if i < lv.length then ji_go (pc + 3) M (ji_s1 lv i (.int (x + Int32.ofInt n))) st else ji_no
  | _ => ji_no
def ji_cI (o : Option Value) (t : Value → Bool) (pc : Nat) (M : ji_M) (lv : ji_L) (st : List Value) : ji_S ⊕ ji_O := ji_ld o t pc M lv st
def ji_tI (v : Value) : Bool := match v with | .int _ => true | .retAddr _ => true | _ => false
def ji_ifz (c : ClassFile.Cond) (off : Int) (pc : Nat) (M : ji_M) (lv : ji_L) (st : List Value) : ji_S ⊕ ji_O := match st with
  | .int x :: st => if 0 ≤ (pc : Int) + off then ji_if c x 0 (ji_go ((pc : Int) + off).toNat M lv st) (ji_go (pc + 3) M lv st) else ji_no
  | _ => ji_no
def ji_ifc (c : ClassFile.Cond) (off : Int) (pc : Nat) (M : ji_M) (lv : ji_L) (st : List Value) : ji_S ⊕ ji_O := match st with
  | .int y :: .int x :: st => if 0 ≤ (pc : Int) + off then ji_if c x y (ji_go ((pc : Int) + off).toNat M lv st) (ji_go (pc + 3) M lv st) else ji_no
  | _ => ji_no
def ji_ts (d lo hi : Int) (offs : Array Int) (pc : Nat) (M : ji_M) (lv : ji_L) (st : List Value) : ji_S ⊕ ji_O := match st with
  | .int x :: st => if -1000000 ≤ lo ∧ lo + (offs.toList.length : Int) = hi + 1 ∧ hi ≤ 1000000 then ji_jm pc (ji_tab x (Int32.ofInt lo) offs.toList d) M lv st else ji_no
  | _ => ji_no
def ji_lks (d : Int) (ps : Array (Int × Int)) (pc : Nat) (M : ji_M) (lv : ji_L) (st : List Value) : ji_S ⊕ ji_O := match st with
  | .int x :: st => if (ps.toList.all fun q => decide ((Int32.ofInt q.1).toInt = q.1)) = true ∧ ((ps.toList.zip (ps.toList.drop 1)).all (fun (a, next) => a.1 < next.1)) = true then ji_jm pc (ji_lok2 x ps.toList d) M lv st else ji_no
  | _ => ji_no
def ji_nx (al : Bool) (C : ji_C) (k : Nat) (ins : Instr) (pc : Nat) (M : ji_M) (lv : ji_L) (st : List Value) : ji_S ⊕ ji_O := match ins with
  | .iload i => ji_ld (lv.getD i none) ji_isI (pc + 2) M lv st
  | .iload_n i => ji_ld (lv.getD i.val none) ji_isI (pc + 1) M lv st
  | .lload i => ji_ld (lv.getD i none) ji_isL (pc + 2) M lv st
  | .lload_n i => ji_ld (lv.getD i.val none) ji_isL (pc + 1) M lv st
  | .aload i => ji_ld (lv.getD i none) ji_isA (pc + 2) M lv st
  | .aload_n i => ji_ld (lv.getD i.val none) ji_isA (pc + 1) M lv st
  | .istore i => ji_sI1 i (pc + 2) M lv st
  | .istore_n i => ji_sI1 i.val (pc + 1) M lv st
  | .lstore i => ji_sL1 i (pc + 2) M lv st
  | .lstore_n i => ji_sL1 i.val (pc + 1) M lv st
  | .astore i => ji_sA1 i (pc + 2) M lv st
  | .astore_n i => ji_sA1 i.val (pc + 1) M lv st
  | .iconst n => ji_go (pc + 1) M lv (.int (Int32.ofInt n) :: st)
  | .bipush n => ji_go (pc + 2) M lv (.int (Int8.ofInt n).toInt32 :: st)
  | .sipush n => ji_go (pc + 3) M lv (.int (Int16.ofInt n).toInt32 :: st)
  | .lconst n => ji_go (pc + 1) M lv (.long (Int64.ofNat n.val) :: st)
  | .ldc ix => ji_cI (ji_ctd (ji_ow k) ix) ji_tI (pc + 2) M lv st
  | .ldc_w ix => ji_cI (ji_ctd (ji_ow k) ix) ji_isI (pc + 3) M lv st
  | .ldc2_w ix => ji_cI (ji_ctd (ji_ow k) ix) ji_isL (pc + 3) M lv st
  | .getstatic ix => ji_cI (ji_sgd (ji_ow k) ix) (fun _ => true) (pc + 3) M lv st
  | .getfield ix => ji_gf k ix pc M lv st
  | .putfield ix => ji_pu k ix pc M lv st
  | .iaload => ji_ial pc M lv st
  | .baload => ji_bal pc M lv st
  | .iastore => ji_ias pc M lv st
  | .aaload => ji_aal pc M lv st
  | .aastore => ji_aas pc M lv st
  | .arraylength => ji_aln pc M lv st
  | .new ix => ji_nw1 al k ix pc M lv st
  | .newarray .int => ji_na1 al 1 (pc + 2) M lv st
  | .anewarray ix => if ji_ow k = 1 ∧ ix = 11 then ji_na1 al 3 (pc + 3) M lv st else ji_no
  | .multianewarray ix 2 => ji_nm1 al k ix pc M lv st
  | .dup => ji_du (pc + 1) M lv st
  | .dup2 => ji_dd2 (pc + 1) M lv st
  | .pop => ji_po (pc + 1) M lv st
  | .iadd => ji_bI (fun x y => x + y) (pc + 1) M lv st
  | .isub => ji_bI (fun x y => x - y) (pc + 1) M lv st
  | .imul => ji_bI (fun x y => x * y) (pc + 1) M lv st
  | .idiv => ji_bD (fun x y => x / y) (pc + 1) M lv st
  | .irem => ji_bD (fun x y => x - x / y * y) (pc + 1) M lv st
  | .iand => ji_bI (fun x y => x &&& y) (pc + 1) M lv st
  | .ior => ji_bI (fun x y => x ||| y) (pc + 1) M lv st
  | .ixor => ji_bI (fun x y => x ^^^ y) (pc + 1) M lv st
  | .ishl => ji_bI (fun x y => x <<< (y &&& 31)) (pc + 1) M lv st
  | .ishr => ji_bI (fun x y => x >>> (y &&& 31)) (pc + 1) M lv st
  | .iushr => ji_bI (fun x y => (x.toUInt32 >>> (y.toUInt32 &&& Int32.toUInt32 31)).toInt32) (pc + 1) M lv st
  | .ineg => ji_uI (fun x => .int (-x)) (pc + 1) M lv st
  | .i2l => ji_uI (fun x => .long x.toInt64) (pc + 1) M lv st
  | .i2b => ji_uI (fun x => .int x.toInt8.toInt32) (pc + 1) M lv st
  | .i2s => ji_uI (fun x => .int x.toInt16.toInt32) (pc + 1) M lv st
  | .i2c => ji_uI (fun x => .int (x.toUInt32 % 65536).toInt32) (pc + 1) M lv st
  | .l2i => ji_uL (fun x => .int x.toInt32) (pc + 1) M lv st
  | .ladd => ji_bL (fun x y => x + y) (pc + 1) M lv st
  | .lsub => ji_bL (fun x y => x - y) (pc + 1) M lv st
  | .lmul => ji_bL (fun x y => x * y) (pc + 1) M lv st
  | .ldiv => ji_bDL (fun x y => x / y) (pc + 1) M lv st
  | .land => ji_bL (fun x y => x &&& y) (pc + 1) M lv st
  | .lor => ji_bL (fun x y => x ||| y) (pc + 1) M lv st
  | .lshl => ji_bS (fun x y => x <<< (y.toInt64 &&& 63)) (pc + 1) M lv st
  | .lshr => ji_bS (fun x y => x >>> (y.toInt64 &&& 63)) (pc + 1) M lv st
  | .lushr => ji_bS (fun x y => (x.toUInt64 >>> (y.toInt64.toUInt64 &&& Int64.toUInt64 63)).toInt64) (pc + 1) M lv st
  | .lcmp => (match st with
    | .long y :: .long x :: st => ji_go (pc + 1) M lv (.int (lg_cmp x y) :: st)
    | _ => ji_no)
  | .iinc i n => ji_ic i n pc M lv st
  | .ifCond c off => ji_ifz c off pc M lv st
  | .if_icmp c off => ji_ifc c off pc M lv st
  | .goto off => ji_jm pc off M lv st
  | .tableswitch d lo hi offs => ji_ts d lo hi offs pc M lv st
  | .lookupswitch d ps => ji_lks d ps pc M lv st
  | .invokevirtual ix => ji_iv C k ix pc M lv st
  | .invokestatic ix => ji_is9 C k ix pc M lv st
  | .invokespecial ix => ji_ip C k ix pc M lv st
  | .ireturn => ji_ir k M st
  | .lreturn => ji_lr k M st
  | .return_ => ji_vr k M st
  | _ => ji_no
def ji_isret : Instr → Bool
  | .ireturn => true
  | .lreturn => true
  | .return_ => true
  | _ => false
/-- a frame of method k, n instructions at most -/
def ji_ex (al : Bool) (C : ji_C) (k : Nat) : Nat → Nat → ji_M → ji_L → List Value → ji_O
  | 0, _, _, _, _ => none
  | n + 1, pc, M, lv, st => match ji_ins k pc with
    | none => none
    | some i => match ji_nx al C k i.1 pc M lv st with
      | .inl s => ji_ex al C k n s.1 s.2.1 s.2.2.1 s.2.2.2
      | .inr r => if ji_isret i.1 = true then r else none
/-- the methods to a depth, N instructions a frame at most -/
def ji_clN (al : Bool) (N : Nat) : Nat → ji_C
  | 0 => fun _ _ _ => none
  | d + 1 => fun k a M => if k < ji_ms.length ∧ (ji_ag a).length ≤ (ji_m k).2.2.1 then ji_ex al (ji_clN al N d) k N 0 M (ji_en (ji_m k).2.2.1 a) [] else none
