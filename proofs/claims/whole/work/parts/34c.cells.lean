/-! ===== cells as wholes ===== -/
def ji_sC (M : ji_M) (a : Nat) (f : ji_F) : ji_M := (M.1, fun i k => if i = a then f k else M.2.1 i k, M.2.2.1, M.2.2.2)
def ji_up (f : ji_F) (k : Nat) (v : Int32) : ji_F := fun j => if j = k then v else f j
section JIV
variable {M : ji_M} {a b k : Nat} {f g : ji_F} {v : Int32}
theorem up_eq : ji_up f k v k = v := if_pos rfl
theorem up_at {j : Nat} (h : j = k) : ji_up f k v j = v := if_pos h
theorem up_ne {j : Nat} (h : j ≠ k) : ji_up f k v j = f j := if_neg h
theorem kd_sC : ji_kd (ji_sC M a f) b = ji_kd M b := rfl
theorem gR_sC : ji_gR (ji_sC M a f) b k = ji_gR M b k := rfl
theorem gL_sC : ji_gL (ji_sC M a f) b k = ji_gL M b k := rfl
theorem gI_sC : ji_gI (ji_sC M a f) a k = f k := if_pos rfl
theorem gI_sCn (h : b ≠ a) : ji_gI (ji_sC M a f) b k = ji_gI M b k := if_neg h
theorem gF_sC : ji_gI (ji_sC M a f) a = f := funext fun _ => if_pos rfl
theorem gF_sCn (h : b ≠ a) : ji_gI (ji_sC M a f) b = ji_gI M b := funext fun _ => if_neg h
theorem gF_sI (h : b ≠ a) : ji_gI (ji_sI M a k v) b = ji_gI M b := funext fun _ => if_neg (fun q => h q.1)
theorem gF_sL {u : Int64} : ji_gI (ji_sL M a k u) b = ji_gI M b := rfl
theorem gF_sR {u : Option Nat} : ji_gI (ji_sR M a k u) b = ji_gI M b := rfl
theorem gF_sIe : ji_gI (ji_sI M a k v) a = ji_up (ji_gI M a) k v := funext fun j => by
  by_cases h : j = k
  · rw [up_at h]; exact if_pos ⟨rfl, h⟩
  · rw [up_ne h]; exact if_neg (fun q => h q.2)
theorem ji_M_ext {M M' : ji_M} (h1 : M.1 = M'.1) (h2 : ∀ a b, ji_gI M a b = ji_gI M' a b) (h3 : ∀ a b, ji_gL M a b = ji_gL M' a b) (h4 : ∀ a b, ji_gR M a b = ji_gR M' a b) : M = M' := by
  obtain ⟨m1, m2, m3, m4⟩ := M
  obtain ⟨n1, n2, n3, n4⟩ := M'
  have e1 : m1 = n1 := h1
  have e2 : m2 = n2 := funext fun a => funext fun b => h2 a b
  have e3 : m3 = n3 := funext fun a => funext fun b => h3 a b
  have e4 : m4 = n4 := funext fun a => funext fun b => h4 a b
  rw [e1, e2, e3, e4]
theorem sI_sC : ji_sI (ji_sC M a f) a k v = ji_sC M a (ji_up f k v) := by
  refine ji_M_ext rfl (fun i j => ?_) (fun _ _ => rfl) (fun _ _ => rfl)
  by_cases h : i = a
  · subst h
    rw [gI_sC, gF_sIe, gF_sC]
  · rw [gI_sCn h, gI_ne h, gI_sCn h]
theorem sI_as : ji_sI M a k v = ji_sC M a (ji_up (ji_gI M a) k v) := by
  refine ji_M_ext rfl (fun i j => ?_) (fun _ _ => rfl) (fun _ _ => rfl)
  by_cases h : i = a
  · subst h
    rw [gI_sC, gF_sIe]
  · rw [gI_sCn h, gI_ne h]
theorem sC_sC : ji_sC (ji_sC M a f) a g = ji_sC M a g := by
  refine ji_M_ext rfl (fun i j => ?_) (fun _ _ => rfl) (fun _ _ => rfl)
  by_cases h : i = a
  · subst h
    rw [gI_sC, gI_sC]
  · rw [gI_sCn h, gI_sCn h, gI_sCn h]
theorem sC_self : ji_sC M a (ji_gI M a) = M := by
  refine ji_M_ext rfl (fun i j => ?_) (fun _ _ => rfl) (fun _ _ => rfl)
  by_cases h : i = a
  · subst h
    rw [gI_sC]
  · rw [gI_sCn h]
theorem sC_id (h : f = ji_gI M a) : ji_sC M a f = M := by rw [h, sC_self]
theorem sC_comm (hab : a ≠ b) : ji_sC (ji_sC M a f) b g = ji_sC (ji_sC M b g) a f := by
  refine ji_M_ext rfl (fun i j => ?_) (fun _ _ => rfl) (fun _ _ => rfl)
  by_cases h : i = a
  · subst h
    rw [gI_sC, gI_sCn hab, gI_sC]
  · by_cases h2 : i = b
    · subst h2
      rw [gI_sC, gI_sCn h, gI_sC]
    · rw [gI_sCn h2, gI_sCn h, gI_sCn h, gI_sCn h2]
theorem sI_sC_comm (hab : b ≠ a) : ji_sI (ji_sC M a f) b k v = ji_sC (ji_sI M b k v) a f := by
  rw [sI_as, sI_as, gF_sCn hab, sC_comm (Ne.symm hab)]
theorem ji_XF_sC (h : ji_XF M) (hk : ∀ e ∈ ji_XI, ¬ (e.1 = a)) : ji_XF (ji_sC M a f) := ⟨h.1, h.2.1, fun e he => (gI_sCn (hk e he)).trans (h.2.2 e he)⟩
theorem ji_MF_sC (h : ji_MF M) : ji_MF (ji_sC M a f) := h
end JIV
/-! what may change beside the relation -/
def ji_xs (a b : Nat) : Bool := Nat.beq a 22 || Nat.beq a 23 || Nat.beq a 26 || Nat.beq a 28 || Nat.beq a 29 || Nat.beq a 30 || Nat.beq a 32 || Nat.beq a 33 || Nat.beq a 35 || Nat.beq a 36 || Nat.beq a 38 || Nat.beq a 39 || Nat.beq a 41 || Nat.beq a 42 || Nat.beq a 44 || Nat.beq a 45 || Nat.beq a 47 || Nat.beq a 54 || Nat.beq a 56 || Nat.beq a 57 || Nat.beq a 58 || Nat.beq a 59 || Nat.beq a 60 || Nat.beq a 61 || Nat.beq a 63 || Nat.beq a 64 || Nat.beq a 65 || Nat.beq a 66 || Nat.beq a 67 || Nat.beq a 68 || Nat.beq a 69 || Nat.beq a 78 || Nat.beq a 79 || Nat.beq a 80 || Nat.beq a 81 || (Nat.beq a 31 && Nat.beq b 3) || (Nat.beq a 34 && Nat.beq b 3) || (Nat.beq a 37 && Nat.beq b 3) || (Nat.beq a 40 && Nat.beq b 3) || (Nat.beq a 43 && Nat.beq b 3) || (Nat.beq a 46 && Nat.beq b 3) || (Nat.beq a 4 && Nat.beq b 5) || (Nat.beq a 5 && !(Nat.beq b 1))
def ji_ns (a b : Nat) : Bool := Nat.beq a 9 || Nat.beq a 12 || Nat.beq a 13 || Nat.beq a 14 || Nat.beq a 15 || Nat.beq a 20 || Nat.beq a 21 || Nat.beq a 22 || Nat.beq a 23 || Nat.beq a 24 || Nat.beq a 25 || Nat.beq a 26 || Nat.beq a 27 || Nat.beq a 34 || Nat.beq a 35 || Nat.beq a 49 || Nat.beq a 50 || Nat.beq a 51 || Nat.beq a 55 || (Nat.beq a 0 && !(Nat.beq b 0 || Nat.beq b 1 || Nat.beq b 2 || Nat.beq b 3 || Nat.beq b 4 || Nat.beq b 15 || Nat.beq b 16 || Nat.beq b 17 || Nat.beq b 33 || Nat.beq b 46 || Nat.beq b 50 || Nat.beq b 51 || Nat.beq b 57 || Nat.beq b 58 || Nat.beq b 59 || Nat.beq b 71))
def ji_offX (X X' : ji_M) : Prop := X'.1 = X.1 ∧ (∀ a b, ji_xs a b = false → ji_gI X' a b = ji_gI X a b) ∧ ∀ e ∈ ji_XR, ji_gR X' e.1 e.2.1 = ji_gR X e.1 e.2.1
def ji_offN (N N' : ji_M) : Prop := N'.1 = N.1 ∧ (∀ a b, ji_ns a b = false → ji_gI N' a b = ji_gI N a b) ∧ ji_gL N' 0 5 = ji_gL N 0 5 ∧ ∀ a b, ji_gR N' a b = ji_gR N a b
section JIV
variable {X X' X'' N N' N'' : ji_M} {P : ji_P} {a b k : Nat} {f g : ji_F} {v : Int32}
theorem ji_offX_r : ji_offX X X := ⟨rfl, fun _ _ _ => rfl, fun _ _ => rfl⟩
theorem ji_offN_r : ji_offN N N := ⟨rfl, fun _ _ _ => rfl, rfl, fun _ _ => rfl⟩
theorem ji_offX_t (h : ji_offX X X') (h' : ji_offX X' X'') : ji_offX X X'' := ⟨h'.1.trans h.1, fun a b q => (h'.2.1 a b q).trans (h.2.1 a b q), fun e he => (h'.2.2 e he).trans (h.2.2 e he)⟩
theorem ji_offN_t (h : ji_offN N N') (h' : ji_offN N' N'') : ji_offN N N'' := ⟨h'.1.trans h.1, fun a b q => (h'.2.1 a b q).trans (h.2.1 a b q), h'.2.2.1.trans h.2.2.1, fun a b => (h'.2.2.2 a b).trans (h.2.2.2 a b)⟩
theorem ji_offX_sI (h : ji_offX X X') (hs : ji_xs a k = true) : ji_offX X (ji_sI X' a k v) := by
  refine ⟨h.1, fun i j q => ?_, h.2.2⟩
  rw [gI_sI, if_neg, h.2.1 i j q]
  rintro ⟨rfl, rfl⟩
  rw [hs] at q
  cases q
theorem ji_offX_sC (h : ji_offX X X') (hs : ∀ k, ji_xs a k = true) : ji_offX X (ji_sC X' a f) := by
  refine ⟨h.1, fun i j q => ?_, h.2.2⟩
  rw [gI_sCn, h.2.1 i j q]
  rintro rfl
  rw [hs] at q
  cases q
theorem ji_offX_sL {u : Int64} (h : ji_offX X X') : ji_offX X (ji_sL X' a k u) := h
theorem ji_offX_sR {u : Option Nat} (h : ji_offX X X') (hk : ∀ e ∈ ji_XR, ¬ (e.1 = a ∧ e.2.1 = k)) : ji_offX X (ji_sR X' a k u) := ⟨h.1, h.2.1, fun e he => (if_neg (hk e he)).trans (h.2.2 e he)⟩
theorem ji_offX_cp {s i j n : Nat} (h : ji_offX X X') (hs : ∀ k, ji_xs a k = true) : ji_offX X (ji_cp X' s i a j n) := by
  refine ⟨h.1, fun p q hq => ?_, h.2.2⟩
  rw [gI_cp, if_neg, h.2.1 p q hq]
  rintro ⟨rfl, -⟩
  rw [hs] at hq
  cases hq
theorem ji_offN_sI (h : ji_offN N N') (hs : ji_ns a k = true) : ji_offN N (ji_sI N' a k v) := by
  refine ⟨h.1, fun i j q => ?_, h.2.2⟩
  rw [gI_sI, if_neg, h.2.1 i j q]
  rintro ⟨rfl, rfl⟩
  rw [hs] at q
  cases q
theorem ji_offN_sC (h : ji_offN N N') (hs : ∀ k, ji_ns a k = true) : ji_offN N (ji_sC N' a f) := by
  refine ⟨h.1, fun i j q => ?_, h.2.2⟩
  rw [gI_sCn, h.2.1 i j q]
  rintro rfl
  rw [hs] at q
  cases q
theorem ji_offX_XF (h : ji_offX X X') (hX : ji_XF X) : ji_XF X' := by
  refine ⟨h.1.trans hX.1, fun e he => (h.2.2 e he).trans (hX.2.1 e he), fun e he => ?_⟩
  have q : ∀ e ∈ ji_XI, ji_xs e.1 e.2.1 = false := by decide +kernel
  exact (h.2.1 e.1 e.2.1 (q e he)).trans (hX.2.2 e he)
theorem ji_offN_MF (h : ji_offN N N') (hN : ji_MF N) : ji_MF N' := ⟨h.1.trans hN.1, fun e he => (h.2.2.2 e.1 e.2.1).trans (hN.2 e he)⟩
theorem ji_offX_F (h : ji_offX X X') (hs : ∀ k, ji_xs a k = false) : ji_gI X' a = ji_gI X a := funext fun k => h.2.1 a k (hs k)
theorem ji_offN_F (h : ji_offN N N') (hs : ∀ k, ji_ns a k = false) : ji_gI N' a = ji_gI N a := funext fun k => h.2.1 a k (hs k)
theorem ji_Rel_offX (R : ji_Rel P X N) (h : ji_offX X X') : ji_Rel P X' N := by
  have e := h.2.1
  have f := fun a hs => ji_offX_F (a := a) h hs
  have r := fun _ : Nat => (rfl : false = false)
  have hF := ji_offX_XF h R.xf
  unfold ji_Rel at R ⊢
  rw [e 1 1 rfl, e 1 2 rfl, e 1 3 rfl, e 1 4 rfl, e 1 5 rfl, e 2 3 rfl, e 4 6 rfl, e 4 7 rfl, e 5 1 rfl, e 24 3 rfl, e 48 3 rfl, e 50 3 rfl, e 52 3 rfl, e 70 3 rfl, e 72 3 rfl, e 74 3 rfl, e 76 3 rfl, f 3 r, f 6 r, f 9 r, f 10 r, f 11 r, f 12 r, f 13 r, f 14 r, f 16 r, f 17 r, f 18 r, f 19 r, f 20 r, f 21 r, f 25 r, f 49 r, f 51 r, f 53 r, f 71 r, f 73 r, f 75 r, f 77 r, f 88 r, f 89 r, f 84 r, f 85 r, f 86 r, f 87 r]
  exact ⟨hF, R.2⟩
theorem ji_Rel_offN (R : ji_Rel P X N) (h : ji_offN N N') : ji_Rel P X N' := by
  have e := h.2.1
  have f := fun a hs => ji_offN_F (a := a) h hs
  have r := fun _ : Nat => (rfl : false = false)
  have hF := ji_offN_MF h R.mf
  unfold ji_Rel at R ⊢
  rw [e 0 0 rfl, e 0 1 rfl, e 0 2 rfl, e 0 3 rfl, e 0 4 rfl, e 0 15 rfl, e 0 16 rfl, e 0 17 rfl, e 0 33 rfl, e 0 46 rfl, e 0 50 rfl, e 0 51 rfl, e 0 57 rfl, e 0 58 rfl, e 0 59 rfl, e 0 71 rfl, h.2.2.1, f 1 r, f 2 r, f 3 r, f 4 r, f 5 r, f 6 r, f 7 r, f 8 r, f 10 r, f 11 r, f 16 r, f 17 r, f 18 r, f 19 r, f 28 r, f 29 r, f 30 r, f 31 r, f 33 r, f 36 r, f 37 r, f 38 r, f 39 r, f 40 r, f 41 r, f 42 r, f 43 r, f 44 r, f 45 r, f 46 r, f 47 r, f 48 r, f 52 r, f 53 r, f 54 r]
  exact ⟨R.1, hF, R.2.2⟩
theorem ji_Rel_off (R : ji_Rel P X N) (h : ji_offX X X') (h' : ji_offN N N') : ji_Rel P X' N' := ji_Rel_offN (ji_Rel_offX R h) h'
end JIV
