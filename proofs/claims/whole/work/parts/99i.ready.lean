/-! ===== the start: the machine's own cells ===== -/
def jl_l0 : List Int32 := [-1, 0, 0, 0, 1, 3]
def jl_l4 : List Int32 := [102, 105, 114, 115, 116, 32, 109, 111, 117, 108, 100, 32, 43, 32, 119, 111, 114, 116, 104, 32, 59, 32, 109, 97, 121, 32, 105, 110, 107, 32, 60, 32, 50, 32, 59, 32, 118, 97, 108, 117, 101, 32, 119, 111, 114, 116, 104, 32, 59]
def jl_l5 : List Int32 := [109, 111, 117, 108, 100, 32, 105, 110, 107, 32, 32, 32, 112, 97, 112, 101, 114, 32, 119, 111, 114, 116, 104, 32, 97, 103, 101, 32, 32, 32, 115, 105, 122, 101, 32, 32, 102, 105, 114, 115, 116, 32, 109, 97, 121, 32, 32, 32, 118, 97, 108, 117, 101, 32, 111, 114, 32, 32, 32, 32, 97, 110, 100, 32, 32, 32, 110, 111, 116, 32, 32, 32]
def jl_l6 : List Int32 := [40, 41, 59, 43, 45, 42, 60, 61]
section JLT
variable {s : State} {args : Array Value}
theorem jl_h4 : ∀ j : Nat, j < 49 → Cond.eq (.elem (.field (.string "MudLibrary$Rules" 33) "java/lang/String" "value" "[B") (.int (Int32.ofNat j))) (.int (jl_l4.getD j 0)) ∈ flatC jl_F := by decide +kernel
theorem jl_h5 : ∀ j : Nat, j < 72 → Cond.eq (.elem (.field (.string "MudLibrary$TextReader" 85) "java/lang/String" "value" "[B") (.int (Int32.ofNat j))) (.int (jl_l5.getD j 0)) ∈ flatC jl_F := by decide +kernel
theorem jl_h6 : ∀ j : Nat, j < 8 → Cond.eq (.elem (.field (.string "MudLibrary$TextReader" 72) "java/lang/String" "value" "[B") (.int (Int32.ofNat j))) (.int (jl_l6.getD j 0)) ∈ flatC jl_F := by decide +kernel
theorem jl_xad {t : Nat} {l : List Int32} (h : ji_xad t = some l) : (t = 0 ∧ l = jl_l0) ∨ (t = 4 ∧ l = jl_l4) ∨ (t = 5 ∧ l = jl_l5) ∨ (t = 6 ∧ l = jl_l6) := by
  unfold ji_xad at h
  cases he : ji_xa.find? (fun e => e.1 == t) with
  | none => rw [he] at h; cases h
  | some e =>
    rw [he] at h
    cases h
    have h1 := List.mem_of_find?_eq_some he
    have h2 := List.find?_some he
    have h3 : e.1 = t := by simpa using h2
    subst h3
    have h4 : e = (0, jl_l0) ∨ e = (4, jl_l4) ∨ e = (5, jl_l5) ∨ e = (6, jl_l6) := by
      have h5 : e ∈ [(0, jl_l0), (4, jl_l4), (5, jl_l5), (6, jl_l6)] := h1
      simpa only [List.mem_cons, List.not_mem_nil, or_false] using h5
    rcases h4 with rfl | rfl | rfl | rfl
    · exact Or.inl ⟨rfl, rfl⟩
    · exact Or.inr (Or.inl ⟨rfl, rfl⟩)
    · exact Or.inr (Or.inr (Or.inl ⟨rfl, rfl⟩))
    · exact Or.inr (Or.inr (Or.inr ⟨rfl, rfl⟩))
def jl_x (t0 a1 a2 a3 t1 t2 t3 : Nat) (v : Value) : Nat → Value := fun k => [.ref t0, .ref a1, .ref a2, .ref a3, .ref t1, .ref t2, .ref t3, v].getD k .null
theorem jl_xo {t0 a1 a2 a3 t1 t2 t3 : Nat} {v : Value} (hv : v = .null ∨ ∃ a, v = .ref a) : ji_xo (jl_x t0 a1 a2 a3 t1 t2 t3 v) := by
  intro t
  match t with
  | 0 => exact Or.inr ⟨_, rfl⟩
  | 1 => exact Or.inr ⟨_, rfl⟩
  | 2 => exact Or.inr ⟨_, rfl⟩
  | 3 => exact Or.inr ⟨_, rfl⟩
  | 4 => exact Or.inr ⟨_, rfl⟩
  | 5 => exact Or.inr ⟨_, rfl⟩
  | 6 => exact Or.inr ⟨_, rfl⟩
  | 7 => exact hv
  | t + 8 => exact Or.inl rfl
theorem jl_h0 : ∀ j : Nat, j < 6 → Cond.eq (.elem (.static "MudLibrary$Stock" "UNDER" "[I") (.int (Int32.ofNat j))) (.int (jl_l0.getD j 0)) ∈ flatC jl_F := by decide +kernel
theorem jl_ready (hF : jl_F.before args s = true) (hts : ∀ w ∈ lw_tbl, w.before args s = true) : ∃ (x : Nat → Value) (D : va_G) (G : ji_G), ji_K D G x s ∧ ji_XK x (fun q : Nat => s.heap.size ≤ q) s s.heap ∧ ji_xo x := by
  have hA : ∀ a : Nat, a < s.heap.size → ¬ (fun q : Nat => s.heap.size ≤ q) a := fun a h => Nat.not_le.mpr h
  have hs := flat_of_before _ hF
  obtain ⟨D, hD⟩ := jl_D hts
  obtain ⟨G, hG⟩ := jl_G hts
  obtain ⟨a1, t1, e1, o1, c1, v1, T1⟩ := jl_str (own := "MudLibrary$Rules") (ix := 33) (l := jl_l4) hF (by decide +kernel) (by decide +kernel) (by decide +kernel) (by decide +kernel) (by decide +kernel) jl_h4
  obtain ⟨a2, t2, e2, o2, c2, v2, T2⟩ := jl_str (own := "MudLibrary$TextReader") (ix := 85) (l := jl_l5) hF (by decide +kernel) (by decide +kernel) (by decide +kernel) (by decide +kernel) (by decide +kernel) jl_h5
  obtain ⟨a3, t3, e3, o3, c3, v3, T3⟩ := jl_str (own := "MudLibrary$TextReader") (ix := 72) (l := jl_l6) hF (by decide +kernel) (by decide +kernel) (by decide +kernel) (by decide +kernel) (by decide +kernel) jl_h6
  obtain ⟨t0, e0, T0⟩ := va_Tof (tm := .static "MudLibrary$Stock" "UNDER" "[I") (ty := .int) (N := 6) (f := fun j => .int (jl_l0.getD j 0)) (A := fun q : Nat => s.heap.size ≤ q) (by decide +kernel) (hs _ (by decide +kernel)) (va_eqt (hs _ (by decide +kernel))) (fun j hj => va_eqt (hs _ (jl_h0 j hj))) hA
  have z0 := va_Zref (A := fun q : Nat => s.heap.size ≤ q) (hts _ (List.mem_of_getElem? (i := 727) (by decide +kernel))) (hts _ (List.mem_of_getElem? (i := 70) (by decide +kernel))) e0 hA
  have z1 := va_Zof (C := "java/lang/String") (n := "COMPACT_STRINGS") (d := "Z") (v := .int 1) (A := fun q : Nat => s.heap.size ≤ q) (hts _ (List.mem_of_getElem? (i := 333) (by decide +kernel))) (hts _ (List.mem_of_getElem? (i := 79) (by decide +kernel))) (va_eqi (hs _ (by decide +kernel))) hA
  obtain ⟨v, hv, z7⟩ : ∃ v : Value, (v = .null ∨ ∃ a, v = .ref a) ∧ va_Z "jdk/internal/util/Preconditions" "SIOOBE_FORMATTER" "Ljava/util/function/BiFunction;" v (fun q : Nat => s.heap.size ≤ q) s s.heap := by
    rcases va_Zqof (C := "jdk/internal/util/Preconditions") (n := "SIOOBE_FORMATTER") (d := "Ljava/util/function/BiFunction;") (A := fun q : Nat => s.heap.size ≤ q) (hts _ (List.mem_of_getElem? (i := 349) (by decide +kernel))) (hts _ (List.mem_of_getElem? (i := 81) (by decide +kernel))) (hs _ (by decide +kernel)) hA with h | ⟨t, h⟩
    · exact ⟨.null, Or.inl rfl, h⟩
    · exact ⟨.ref t, Or.inr ⟨t, rfl⟩, h⟩
  have r1 := vk_R.of (A := args) (hts (.stringRef "MudLibrary$Rules" 33 "first mould + worth ; may ink < 2 ; value worth ;") (List.mem_of_getElem? (i := 323) (by decide +kernel))) e1
  have r2 := vk_R.of (A := args) (hts (.stringRef "MudLibrary$TextReader" 85 "mould ink   paper worth age   size  first may   value or    and   not   ") (List.mem_of_getElem? (i := 403) (by decide +kernel))) e2
  have r3 := vk_R.of (A := args) (hts (.stringRef "MudLibrary$TextReader" 72 "();+-*<=") (List.mem_of_getElem? (i := 413) (by decide +kernel))) e3
  refine ⟨jl_x t0 a1 a2 a3 t1 t2 t3 v, D, G, ⟨⟨hD, hG⟩, jl_nw hts, ?_, va_AO.of (hts _ (List.mem_of_getElem? (i := 231) (by decide +kernel))), fun k t ht => ?_⟩, ⟨z0, z1, z7, fun k k1 k3 => ?_, fun t l h => ?_⟩, jl_xo hv⟩
  · exact hts (.arrayOver (.array .int)) (List.mem_of_getElem? (i := 193) (by decide +kernel))
  · match k, ht with
    | 0, ht => cases ht; exact ⟨a1, rfl, r1⟩
    | 1, ht => cases ht; exact ⟨a2, rfl, r2⟩
    | 2, ht => cases ht; exact ⟨a3, rfl, r3⟩
    | k + 3, ht => simp [ji_st] at ht
  · rcases (show k = 1 ∨ k = 2 ∨ k = 3 by omega) with rfl | rfl | rfl
    · exact ⟨a1, rfl, o1, c1, v1⟩
    · exact ⟨a2, rfl, o2, c2, v2⟩
    · exact ⟨a3, rfl, o3, c3, v3⟩
  · rcases jl_xad h with ⟨rfl, rfl⟩ | ⟨rfl, rfl⟩ | ⟨rfl, rfl⟩ | ⟨rfl, rfl⟩
    · exact ⟨t0, rfl, T0⟩
    · exact ⟨t1, rfl, T1⟩
    · exact ⟨t2, rfl, T2⟩
    · exact ⟨t3, rfl, T3⟩
end JLT
