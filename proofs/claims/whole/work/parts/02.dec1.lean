/-! what the tables say of the claim's own words, decided -/
def ji_w (p : Nat) : Option Cond := lw_tbl[p]?
def ji_tt : List Cond := lw_tbl.filter goodWord
theorem ji_tt_in {w : Cond} {p : Nat} (h : ji_w p = some w) (hg : goodWord w = true) : w ∈ ji_tt := List.mem_filter.mpr ⟨List.mem_of_getElem? h, hg⟩
theorem ji_tt_good {w : Cond} (h : w ∈ ji_tt) : w ∈ lw_tbl ∧ goodWord w = true := List.mem_filter.mp h
def ji_nm (c : Nat) : String := ji_cn.getD c ""
def ji_is1 (p : Nat) (w : Cond) : Bool := decide (ji_w p = some w) && goodWord w
theorem ji_is1_in {w : Cond} {p : Nat} (h : ji_is1 p w = true) : w ∈ ji_tt := by
  simp only [ji_is1, Bool.and_eq_true, decide_eq_true_eq] at h
  exact ji_tt_in h.1 h.2
/-- a method's instructions are those of its bytes -/
def ji_dchk (c : ByteArray) (l : List (Option (Instr × Nat))) (n : Nat) : Bool := match l with
  | [] => true
  | none :: r => ji_dchk c r (n + 1)
  | some x :: r => (match decode c n with | .ok y => decide (y = x) | .error _ => false) && ji_dchk c r (n + 1)
theorem ji_dchk_at {c : ByteArray} {x : Instr × Nat} : ∀ (l : List (Option (Instr × Nat))) (n k : Nat), ji_dchk c l n = true → l[k]? = some (some x) → decode c (n + k) = .ok x := by
  intro l
  induction l with
  | nil => intro n k _ h; simp at h
  | cons a r ih =>
    intro n k hc h
    have hr : ji_dchk c r (n + 1) = true := by
      cases a with
      | none => exact hc
      | some z => simp only [ji_dchk, Bool.and_eq_true] at hc; exact hc.2
    cases k with
    | succ k =>
      have := ih (n + 1) k hr (by simpa using h)
      rw [show n + (k + 1) = n + 1 + k by omega]
      exact this
    | zero =>
      have ha : a = some x := by simpa using h
      subst ha
      simp only [ji_dchk, Bool.and_eq_true] at hc
      have h1 := hc.1
      show decode c n = .ok x
      cases hd : decode c n with
      | ok y => rw [hd] at h1; simp only [decide_eq_true_eq] at h1; rw [h1]
      | error e => rw [hd] at h1; cases h1
theorem ji_d0 : ji_dchk prog_1_method_1_code ji_i0 0 = true := by decide +kernel
theorem ji_d1 : ji_dchk prog_7_method_1_code ji_i1 0 = true := by decide +kernel
theorem ji_d2 : ji_dchk prog_4_method_1_code ji_i2 0 = true := by decide +kernel
theorem ji_d3 : ji_dchk prog_5_method_1_code ji_i3 0 = true := by decide +kernel
theorem ji_d4 : ji_dchk prog_8_method_1_code ji_i4 0 = true := by decide +kernel
theorem ji_d5 : ji_dchk prog_3_method_1_code ji_i5 0 = true := by decide +kernel
theorem ji_d6 : ji_dchk prog_2_method_1_code ji_i6 0 = true := by decide +kernel
theorem ji_d7 : ji_dchk prog_9_method_1_code ji_i7 0 = true := by decide +kernel
theorem ji_d8 : ji_dchk prog_6_method_1_code ji_i8 0 = true := by decide +kernel
theorem ji_d9 : ji_dchk prog_5_method_2_code ji_i9 0 = true := by decide +kernel
theorem ji_d10 : ji_dchk prog_15_method_54_code ji_i10 0 = true := by decide +kernel
theorem ji_d11 : ji_dchk prog_15_method_152_code ji_i11 0 = true := by decide +kernel
theorem ji_d12 : ji_dchk prog_15_method_56_code ji_i12 0 = true := by decide +kernel
theorem ji_d13 : ji_dchk prog_15_method_154_code ji_i13 0 = true := by decide +kernel
theorem ji_d14 : ji_dchk prog_16_method_2_code ji_i14 0 = true := by decide +kernel
theorem ji_d15 : ji_dchk prog_15_method_155_code ji_i15 0 = true := by decide +kernel
theorem ji_d16 : ji_dchk prog_20_method_11_code ji_i16 0 = true := by decide +kernel
theorem ji_d17 : ji_dchk prog_8_method_3_code ji_i17 0 = true := by decide +kernel
theorem ji_d18 : ji_dchk prog_5_method_3_code ji_i18 0 = true := by decide +kernel
theorem ji_d19 : ji_dchk prog_8_method_4_code ji_i19 0 = true := by decide +kernel
theorem ji_d20 : ji_dchk prog_8_method_8_code ji_i20 0 = true := by decide +kernel
theorem ji_d21 : ji_dchk prog_8_method_5_code ji_i21 0 = true := by decide +kernel
theorem ji_d22 : ji_dchk prog_8_method_6_code ji_i22 0 = true := by decide +kernel
theorem ji_d23 : ji_dchk prog_8_method_9_code ji_i23 0 = true := by decide +kernel
theorem ji_d24 : ji_dchk prog_8_method_10_code ji_i24 0 = true := by decide +kernel
theorem ji_d25 : ji_dchk prog_8_method_7_code ji_i25 0 = true := by decide +kernel
theorem ji_d26 : ji_dchk prog_8_method_11_code ji_i26 0 = true := by decide +kernel
theorem ji_d27 : ji_dchk prog_15_method_79_code ji_i27 0 = true := by decide +kernel
theorem ji_d28 : ji_dchk prog_15_method_80_code ji_i28 0 = true := by decide +kernel
theorem ji_d29 : ji_dchk prog_16_method_22_code ji_i29 0 = true := by decide +kernel
theorem ji_d30 : ji_dchk prog_16_method_4_code ji_i30 0 = true := by decide +kernel
theorem ji_d31 : ji_dchk prog_16_method_23_code ji_i31 0 = true := by decide +kernel
theorem ji_d32 : ji_dchk prog_8_method_13_code ji_i32 0 = true := by decide +kernel
theorem ji_d33 : ji_dchk prog_8_method_12_code ji_i33 0 = true := by decide +kernel
theorem ji_d34 : ji_dchk prog_8_method_16_code ji_i34 0 = true := by decide +kernel
theorem ji_d35 : ji_dchk prog_8_method_17_code ji_i35 0 = true := by decide +kernel
theorem ji_d36 : ji_dchk prog_8_method_18_code ji_i36 0 = true := by decide +kernel
theorem ji_d37 : ji_dchk prog_8_method_15_code ji_i37 0 = true := by decide +kernel
theorem ji_d38 : ji_dchk prog_8_method_14_code ji_i38 0 = true := by decide +kernel
theorem ji_d39 : ji_dchk prog_8_method_19_code ji_i39 0 = true := by decide +kernel
theorem ji_d40 : ji_dchk prog_8_method_20_code ji_i40 0 = true := by decide +kernel
theorem ji_d41 : ji_dchk prog_8_method_21_code ji_i41 0 = true := by decide +kernel
theorem ji_d42 : ji_dchk prog_1_method_2_code ji_i42 0 = true := by decide +kernel
theorem ji_d43 : ji_dchk prog_1_method_40_code ji_i43 0 = true := by decide +kernel
theorem ji_d44 : ji_dchk prog_7_method_12_code ji_i44 0 = true := by decide +kernel
theorem ji_d45 : ji_dchk prog_1_method_3_code ji_i45 0 = true := by decide +kernel
theorem ji_d46 : ji_dchk prog_7_method_23_code ji_i46 0 = true := by decide +kernel
theorem ji_d47 : ji_dchk prog_4_method_2_code ji_i47 0 = true := by decide +kernel
theorem ji_d48 : ji_dchk prog_7_method_24_code ji_i48 0 = true := by decide +kernel
theorem ji_d49 : ji_dchk prog_4_method_5_code ji_i49 0 = true := by decide +kernel
theorem ji_d50 : ji_dchk prog_7_method_14_code ji_i50 0 = true := by decide +kernel
theorem ji_d51 : ji_dchk prog_7_method_10_code ji_i51 0 = true := by decide +kernel
theorem ji_d52 : ji_dchk prog_7_method_25_code ji_i52 0 = true := by decide +kernel
theorem ji_d53 : ji_dchk prog_7_method_6_code ji_i53 0 = true := by decide +kernel
theorem ji_d54 : ji_dchk prog_7_method_11_code ji_i54 0 = true := by decide +kernel
theorem ji_d55 : ji_dchk prog_7_method_7_code ji_i55 0 = true := by decide +kernel
theorem ji_d56 : ji_dchk prog_7_method_8_code ji_i56 0 = true := by decide +kernel
theorem ji_d57 : ji_dchk prog_4_method_6_code ji_i57 0 = true := by decide +kernel
theorem ji_d58 : ji_dchk prog_7_method_21_code ji_i58 0 = true := by decide +kernel
theorem ji_d59 : ji_dchk prog_1_method_4_code ji_i59 0 = true := by decide +kernel
theorem ji_d60 : ji_dchk prog_7_method_3_code ji_i60 0 = true := by decide +kernel
theorem ji_d61 : ji_dchk prog_4_method_3_code ji_i61 0 = true := by decide +kernel
theorem ji_d62 : ji_dchk prog_7_method_13_code ji_i62 0 = true := by decide +kernel
theorem ji_d63 : ji_dchk prog_4_method_7_code ji_i63 0 = true := by decide +kernel
theorem ji_d64 : ji_dchk prog_1_method_5_code ji_i64 0 = true := by decide +kernel
theorem ji_d65 : ji_dchk prog_4_method_4_code ji_i65 0 = true := by decide +kernel
theorem ji_d66 : ji_dchk prog_7_method_15_code ji_i66 0 = true := by decide +kernel
theorem ji_d67 : ji_dchk prog_7_method_16_code ji_i67 0 = true := by decide +kernel
theorem ji_d68 : ji_dchk prog_7_method_9_code ji_i68 0 = true := by decide +kernel
theorem ji_d69 : ji_dchk prog_7_method_17_code ji_i69 0 = true := by decide +kernel
theorem ji_d70 : ji_dchk prog_1_method_6_code ji_i70 0 = true := by decide +kernel
theorem ji_d71 : ji_dchk prog_7_method_2_code ji_i71 0 = true := by decide +kernel
theorem ji_d72 : ji_dchk prog_7_method_5_code ji_i72 0 = true := by decide +kernel
theorem ji_d73 : ji_dchk prog_1_method_17_code ji_i73 0 = true := by decide +kernel
theorem ji_d74 : ji_dchk prog_5_method_6_code ji_i74 0 = true := by decide +kernel
theorem ji_d75 : ji_dchk prog_5_method_4_code ji_i75 0 = true := by decide +kernel
theorem ji_d76 : ji_dchk prog_5_method_7_code ji_i76 0 = true := by decide +kernel
theorem ji_d77 : ji_dchk prog_7_method_26_code ji_i77 0 = true := by decide +kernel
theorem ji_d78 : ji_dchk prog_5_method_8_code ji_i78 0 = true := by decide +kernel
theorem ji_d79 : ji_dchk prog_5_method_9_code ji_i79 0 = true := by decide +kernel
theorem ji_d80 : ji_dchk prog_1_method_16_code ji_i80 0 = true := by decide +kernel
theorem ji_d81 : ji_dchk prog_7_method_20_code ji_i81 0 = true := by decide +kernel
theorem ji_d82 : ji_dchk prog_7_method_19_code ji_i82 0 = true := by decide +kernel
theorem ji_d83 : ji_dchk prog_7_method_4_code ji_i83 0 = true := by decide +kernel
theorem ji_d84 : ji_dchk prog_1_method_7_code ji_i84 0 = true := by decide +kernel
theorem ji_d85 : ji_dchk prog_1_method_8_code ji_i85 0 = true := by decide +kernel
theorem ji_d86 : ji_dchk prog_5_method_13_code ji_i86 0 = true := by decide +kernel
theorem ji_d87 : ji_dchk prog_5_method_14_code ji_i87 0 = true := by decide +kernel
theorem ji_d88 : ji_dchk prog_1_method_9_code ji_i88 0 = true := by decide +kernel
theorem ji_d89 : ji_dchk prog_5_method_12_code ji_i89 0 = true := by decide +kernel
theorem ji_d90 : ji_dchk prog_5_method_11_code ji_i90 0 = true := by decide +kernel
theorem ji_d91 : ji_dchk prog_5_method_10_code ji_i91 0 = true := by decide +kernel
theorem ji_d92 : ji_dchk prog_1_method_10_code ji_i92 0 = true := by decide +kernel
theorem ji_d93 : ji_dchk prog_8_method_2_code ji_i93 0 = true := by decide +kernel
theorem ji_d94 : ji_dchk prog_1_method_11_code ji_i94 0 = true := by decide +kernel
theorem ji_d95 : ji_dchk prog_1_method_12_code ji_i95 0 = true := by decide +kernel
theorem ji_d96 : ji_dchk prog_5_method_5_code ji_i96 0 = true := by decide +kernel
theorem ji_d97 : ji_dchk prog_1_method_13_code ji_i97 0 = true := by decide +kernel
theorem ji_d98 : ji_dchk prog_1_method_14_code ji_i98 0 = true := by decide +kernel
theorem ji_d99 : ji_dchk prog_1_method_15_code ji_i99 0 = true := by decide +kernel
theorem ji_d100 : ji_dchk prog_1_method_18_code ji_i100 0 = true := by decide +kernel
theorem ji_d101 : ji_dchk prog_13_method_49_code ji_i101 0 = true := by decide +kernel
theorem ji_d102 : ji_dchk prog_1_method_41_code ji_i102 0 = true := by decide +kernel
theorem ji_d103 : ji_dchk prog_3_method_2_code ji_i103 0 = true := by decide +kernel
theorem ji_d104 : ji_dchk prog_7_method_27_code ji_i104 0 = true := by decide +kernel
theorem ji_d105 : ji_dchk prog_4_method_8_code ji_i105 0 = true := by decide +kernel
theorem ji_d106 : ji_dchk prog_3_method_3_code ji_i106 0 = true := by decide +kernel
theorem ji_d107 : ji_dchk prog_3_method_4_code ji_i107 0 = true := by decide +kernel
theorem ji_d108 : ji_dchk prog_7_method_22_code ji_i108 0 = true := by decide +kernel
theorem ji_d109 : ji_dchk prog_3_method_5_code ji_i109 0 = true := by decide +kernel
theorem ji_d110 : ji_dchk prog_3_method_6_code ji_i110 0 = true := by decide +kernel
theorem ji_d111 : ji_dchk prog_1_method_19_code ji_i111 0 = true := by decide +kernel
theorem ji_d112 : ji_dchk prog_1_method_20_code ji_i112 0 = true := by decide +kernel
theorem ji_d113 : ji_dchk prog_1_method_21_code ji_i113 0 = true := by decide +kernel
