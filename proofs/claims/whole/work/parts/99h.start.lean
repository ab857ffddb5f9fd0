/-! ===== the start: what the tables and the statement's premises give ===== -/
theorem jl_inst : (ji_cl.zip [253, 225, 103, 149, 303, 97, 155, 270, 89, 1061]).all (fun q => ji_is1 q.2 (.instantiable q.1.1 q.1.2.2)) = true := by decide +kernel
theorem jl_instn : ji_cl.length = ([253, 225, 103, 149, 303, 97, 155, 270, 89, 1061] : List Nat).length := by decide +kernel
theorem jl_nwp : (ji_nw.zip [130, 127, 195, 282, 284, 202, 162, 204, 126, 128, 98, 150, 254, 271, 304, 232, 156, 692, 629]).all (fun q => decide (ji_w q.2 = some q.1)) = true := by decide +kernel
theorem jl_nwn : ji_nw.length = ([130, 127, 195, 282, 284, 202, 162, 204, 126, 128, 98, 150, 254, 271, 304, 232, 156, 692, 629] : List Nat).length := by decide +kernel
def jl_F : Cond := Jvm.Cond.and given_1 narrow_1
section JLS
variable {s : State} {args : Array Value}
theorem jl_zip {α β : Type} {a : List α} {b : List β} (hl : a.length = b.length) {i : Nat} {x : α} (h : a[i]? = some x) : ∃ y, (x, y) ∈ a.zip b := by
  have hi : i < b.length := by rw [← hl]; exact (List.getElem?_eq_some_iff.mp h).1
  exact ⟨b[i], List.mem_of_getElem? (i := i) (by rw [List.getElem?_zip_eq_some]; exact ⟨h, List.getElem?_eq_getElem hi⟩)⟩
theorem jl_D (hts : ∀ w ∈ lw_tbl, w.before args s = true) : ∃ D : va_G, ∀ (c : Nat) (q : vw_C), ji_cl[c]? = some q → u_Kn s q.1 q.2.1 q.2.2 (D.1 c) (D.2 c) := by
  have h : ∀ c : Nat, ∃ y : ClassId × (Nat → Nat), ∀ q : vw_C, ji_cl[c]? = some q → u_Kn s q.1 q.2.1 q.2.2 y.1 y.2 := by
    intro c
    cases hc : ji_cl[c]? with
    | none => exact ⟨(0, fun _ => 0), fun q h => by cases h⟩
    | some q =>
      obtain ⟨ty, hu, -⟩ := ji_cl_ok hc
      obtain ⟨y, hy⟩ := jl_zip jl_instn hc
      have hi := ji_is1_in (List.all_eq_true.mp jl_inst _ hy)
      obtain ⟨cC, iS, hk⟩ := u_known hts (fun w hw => jl_ttin (hu w hw)) (hts _ (jl_ttin hi))
      exact ⟨(cC, iS), fun q' h => by cases h; exact hk⟩
  obtain ⟨f, hf⟩ := Classical.axiomOfChoice h
  exact ⟨(fun c => (f c).1, fun c => (f c).2), hf⟩
theorem jl_G (hts : ∀ w ∈ lw_tbl, w.before args s = true) : ∃ G : ji_G, ∀ (k : Nat) (q : ClassId × FieldType), (ji_tys G)[k]? = some q → ArrOfT s q.1 q.2 ∧ va_RA s q.1 q.2 := by
  have h1 : (Cond.arrayClass .int).before args s = true := hts _ (jl_ttin (ji_is1_in (p := 124) (by decide +kernel)))
  have h2 : (Cond.arrayOver (.array .int)).before args s = true := hts _ (List.mem_of_getElem? (i := 193) (by decide +kernel))
  have h3 : (Cond.arrayOver (.object "MudLibrary$Stock")).before args s = true := hts _ (List.mem_of_getElem? (i := 231) (by decide +kernel))
  obtain ⟨c1, k1, m1, a1, a2, a3⟩ := Cond.arrayClass_spec h1
  obtain ⟨m2, c2, k2, b1, -, b2, b3, b4⟩ := arrayOverA_spec h2
  obtain ⟨m3, c3, k3, d1, -, d2, d3, d4⟩ := Cond.arrayOver_spec h3
  refine ⟨(c1, c2, c3), fun k q hq => ?_⟩
  match k, hq with
  | 0, hq => cases hq; exact ⟨fun N z => ⟨(fun k h => by cases h), k1, a2, m1, a3⟩, a1⟩
  | 1, hq => cases hq; exact ⟨fun N z => ⟨(fun k h => by cases h), k2, b2, m2, b3⟩, b4⟩
  | 2, hq => cases hq; exact ⟨fun N z => ⟨(fun k h => by cases h), k3, d2, m3, d3⟩, k3, m3, d2, d3, d1, d4⟩
  | k + 3, hq => simp [ji_tys] at hq
theorem jl_nw (hts : ∀ w ∈ lw_tbl, w.before args s = true) : ∀ w ∈ ji_nw, va_Nw w s := by
  intro w hw
  obtain ⟨i, hi⟩ := List.getElem?_of_mem hw
  obtain ⟨y, hy⟩ := jl_zip jl_nwn hi
  have h1 := of_decide_eq_true (List.all_eq_true.mp jl_nwp _ hy)
  have h2 := hts w (List.mem_of_getElem? h1)
  have hk := List.all_eq_true.mp ji_nw_kind w hw
  cases w <;> first | exact h2 | cases hk
/-- a text -/
theorem jl_str {own : String} {ix : Nat} {l : List Int32} (hF : jl_F.before args s = true) (hN : l.length < 2 ^ 31)
    (h1 : Cond.exactly (.string own ix) "java/lang/String" ∈ flatC jl_F) (h2 : Cond.eq (.field (.string own ix) "java/lang/String" "coder" "B") (.int 0) ∈ flatC jl_F) (h3 : Cond.arrayOf (.field (.string own ix) "java/lang/String" "value" "[B") .byte ∈ flatC jl_F) (h4 : Cond.eq (.length (.field (.string own ix) "java/lang/String" "value" "[B")) (.int (Int32.ofNat l.length)) ∈ flatC jl_F)
    (h5 : ∀ j : Nat, j < l.length → Cond.eq (.elem (.field (.string own ix) "java/lang/String" "value" "[B") (.int (Int32.ofNat j))) (.int (l.getD j 0)) ∈ flatC jl_F) :
    ∃ a t : Nat, (Term.string own ix).eval args s none [] s = some (.ref a) ∧ va_O "java/lang/String" a (fun q : Nat => s.heap.size ≤ q) s s.heap ∧ va_OF "java/lang/String" "coder" "B" (.int 0) a (fun q : Nat => s.heap.size ≤ q) s s.heap ∧ va_OF "java/lang/String" "value" "[B" (.ref t) a (fun q : Nat => s.heap.size ≤ q) s s.heap ∧ va_T .byte t l.length (fun j => .int (l.getD j 0)) (fun q : Nat => s.heap.size ≤ q) s s.heap := by
  have hA : ∀ a : Nat, a < s.heap.size → ¬ (fun q : Nat => s.heap.size ≤ q) a := fun a h => Nat.not_le.mpr h
  have hs := flat_of_before _ hF
  obtain ⟨a, c, cA, kA, q1, q2, q3, q4, q5, q6, -⟩ := Cond.exactly_spec (args := args) (first := s) (o := none) (s := s) (idx := []) (t := .string own ix) (cls := "java/lang/String") (hs _ h1)
  obtain ⟨t, ht, hT⟩ := va_Tof (f := fun j => .int (l.getD j 0)) (A := fun q : Nat => s.heap.size ≤ q) hN (hs _ h3) (va_eqt (hs _ h4)) (fun j hj => va_eqt (hs _ (h5 j hj))) hA
  exact ⟨a, t, q1, ⟨cA, q3, q5, by rw [q6]; exact q2, hA a (Array.getElem?_eq_some_iff.mp q3).1⟩, vk_OFof q1 (va_eqt (hs _ h2)) hA, vk_OFof q1 ht hA, hT⟩
end JLS
