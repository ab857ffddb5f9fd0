/-! ===== rows that simp goes through once ===== -/
def ji_xIL (κ : Option (Nat × Nat)) (C : ji_C) (k pc : Nat) (M : ji_M) (lv : ji_L) (st : List Value) (o : Option Value × ji_M) (x : Int32) (a : Nat) : Prop := ji_evA κ (fun n => vp_in x n ∧ ji_Ev C k pc M lv (.int (ji_gI M a x.toNatClampNeg) :: st) o)
def ji_xIS (κ : Option (Nat × Nat)) (C : ji_C) (k pc : Nat) (M : ji_M) (lv : ji_L) (st : List Value) (o : Option Value × ji_M) (y x : Int32) (a : Nat) : Prop := ji_evA κ (fun n => vp_in x n ∧ ji_Ev C k pc (ji_sI M a x.toNatClampNeg y) lv st o)
def ji_xQL (κ : Option (Nat × Nat)) (C : ji_C) (k pc : Nat) (M : ji_M) (lv : ji_L) (st : List Value) (o : Option Value × ji_M) (x : Int32) (a : Nat) : Prop := ji_evQ κ (fun n => vp_in x n ∧ ji_Ev C k pc M lv (ji_rv (ji_gR M a x.toNatClampNeg) :: st) o)
def ji_xAN (κ : Option (Nat × Nat)) (C : ji_C) (k pc : Nat) (M : ji_M) (lv : ji_L) (st : List Value) (o : Option Value × ji_M) : Prop := ji_evN κ (fun n => ji_Ev C k pc M lv (.int (Int32.ofNat n) :: st) o)
def ji_xCP (κ κ' : Option (Nat × Nat)) (C : ji_C) (k pc : Nat) (M : ji_M) (lv : ji_L) (st : List Value) (o : Option Value × ji_M) (x y z : Int32) (a b : Nat) : Prop := ji_evA κ (fun n0 => ji_evA κ' (fun n1 => (¬ x < 0 ∧ ¬ y < 0 ∧ ¬ z < 0 ∧ x.toNatClampNeg + z.toNatClampNeg ≤ n0 ∧ y.toNatClampNeg + z.toNatClampNeg ≤ n1 ∧ ji_ok8 st) ∧ ji_Ev C k pc (ji_cp M a x.toNatClampNeg b y.toNatClampNeg z.toNatClampNeg) lv st o))
def ji_xC (r : Option (Option Value × ji_M)) (C : ji_C) (k pc : Nat) (lv : ji_L) (st : List Value) (o : Option Value × ji_M) : Prop := ji_evC r (fun v M' => ji_Ev C k pc M' lv (v.toList ++ st) o)
def ji_xNC (v : Option Value) (i : Nat) (n : Int) (C : ji_C) (k pc : Nat) (M : ji_M) (lv : ji_L) (st : List Value) (o : Option Value × ji_M) : Prop := ji_evL v ji_isI (fun v => match v with | .int x => i < lv.length ∧ ji_Ev C k pc M (ji_s1 lv i (.int (x + Int32.ofInt n))) st o | _ => False)
section JIR
variable {C : ji_C} {k pc n n0 n1 i : Nat} {c : Int} {M : ji_M} {lv : ji_L} {st : List Value} {o : Option Value × ji_M} {x y z : Int32} {a b : Nat} {v : Option Value}
theorem xIL_1 : ji_xIL (some (1, n)) C k pc M lv st o x a ↔ vp_in x n ∧ ji_Ev C k pc M lv (.int (ji_gI M a x.toNatClampNeg) :: st) o := Iff.rfl
theorem xIS_1 : ji_xIS (some (1, n)) C k pc M lv st o y x a ↔ vp_in x n ∧ ji_Ev C k pc (ji_sI M a x.toNatClampNeg y) lv st o := Iff.rfl
theorem xQL_2 : ji_xQL (some (2, n)) C k pc M lv st o x a ↔ vp_in x n ∧ ji_Ev C k pc M lv (ji_rv (ji_gR M a x.toNatClampNeg) :: st) o := Iff.rfl
theorem xQL_3 : ji_xQL (some (3, n)) C k pc M lv st o x a ↔ vp_in x n ∧ ji_Ev C k pc M lv (ji_rv (ji_gR M a x.toNatClampNeg) :: st) o := Iff.rfl
theorem xAN_1 : ji_xAN (some (1, n)) C k pc M lv st o ↔ ji_Ev C k pc M lv (.int (Int32.ofNat n) :: st) o := Iff.rfl
theorem xAN_2 : ji_xAN (some (2, n)) C k pc M lv st o ↔ ji_Ev C k pc M lv (.int (Int32.ofNat n) :: st) o := Iff.rfl
theorem xAN_3 : ji_xAN (some (3, n)) C k pc M lv st o ↔ ji_Ev C k pc M lv (.int (Int32.ofNat n) :: st) o := Iff.rfl
theorem xCP_1 : ji_xCP (some (1, n0)) (some (1, n1)) C k pc M lv st o x y z a b ↔ (¬ x < 0 ∧ ¬ y < 0 ∧ ¬ z < 0 ∧ x.toNatClampNeg + z.toNatClampNeg ≤ n0 ∧ y.toNatClampNeg + z.toNatClampNeg ≤ n1 ∧ ji_ok8 st) ∧ ji_Ev C k pc (ji_cp M a x.toNatClampNeg b y.toNatClampNeg z.toNatClampNeg) lv st o := Iff.rfl
theorem xC_s : ji_xC (some (v, M)) C k pc lv st o ↔ ji_Ev C k pc M lv (v.toList ++ st) o := Iff.rfl
theorem xNC_I : ji_xNC (some (.int x)) i c C k pc M lv st o ↔ i < lv.length ∧ ji_Ev C k pc M (ji_s1 lv i (.int (x + Int32.ofInt c))) st o := ⟨fun h => h.2, fun h => ⟨rfl, h⟩⟩
theorem ji_oI1 {x : Int32} : x + Int32.ofInt 1 = x + 1 := rfl
theorem ji_oIm {x : Int32} : x + Int32.ofInt (-1) = x + (-1) := rfl
end JIR
section JIR
variable {C : ji_C} {M : ji_M} {lv l : ji_L} {l0 l1 l2 l3 l4 l5 l6 l7 l8 l9 l10 l11 : Option Value} {st : List Value} {o : Option Value × ji_M} {x y z : Int32} {u v : Int64} {a b : Nat} {p0 p1 p2 p3 p4 p5 : Value}
theorem q9_5x : ji_Ev C 9 5 M lv (.retAddr a :: st) o ↔ (ji_rcb M 10 (.retAddr a) = true ∧ ji_ok8 st) ∧ ji_xC (C 10 [.retAddr a] M) C 9 8 lv st o := s9_5x
theorem q9_18x : ji_Ev C 9 18 M lv (p0 :: .retAddr a :: st) o ↔ (ji_rcb M 10 (.retAddr a) = true ∧ ji_ok8 st) ∧ ji_xC (C 12 [.retAddr a, p0] M) C 9 21 lv st o := s9_18x
theorem q9_21 : ji_Ev C 9 21 M lv (p0 :: .ref a :: st) o ↔ (ji_rcb M 6 (.ref a) = true ∧ ji_ok8 st) ∧ ji_xC (C 17 [.ref a, p0] M) C 9 24 lv st o := s9_21
theorem q9_24 : ji_Ev C 9 24 M lv st o ↔ ji_xNC (lv.getD 1 none) 1 1 C 9 27 M lv st o := s9_24
theorem q10_4 : ji_Ev C 10 4 M lv (.ref a :: st) o ↔ ji_xAN (ji_kd M a) C 10 5 M lv st o := s10_4
theorem q10_6x : ji_Ev C 10 6 M lv (.retAddr a :: st) o ↔ (ji_rcb M 10 (.retAddr a) = true ∧ ji_ok8 st) ∧ ji_xC (C 11 [.retAddr a] M) C 10 9 lv st o := s10_6x
theorem q12_1x : ji_Ev C 12 1 M lv (.retAddr a :: st) o ↔ (ji_rcb M 10 (.retAddr a) = true ∧ ji_ok8 st) ∧ ji_xC (C 13 [.retAddr a] M) C 12 4 lv st o := s12_1x
theorem q12_12 : ji_Ev C 12 12 M lv (p1 :: p0 :: st) o ↔ ji_ok8 st ∧ ji_xC (C 14 [p0, p1] M) C 12 15 lv st o := s12_12
theorem q14_2 : ji_Ev C 14 2 M lv (.ref a :: st) o ↔ ji_xAN (ji_kd M a) C 14 3 M lv st o := s14_2
theorem q14_3 : ji_Ev C 14 3 M lv (p1 :: p0 :: st) o ↔ ji_ok8 st ∧ ji_xC (C 15 [p0, p1] M) C 14 6 lv st o := s14_3
theorem q15_5 : ji_Ev C 15 5 M lv (p2 :: p1 :: p0 :: st) o ↔ ji_ok8 st ∧ ji_xC (C 16 [p0, p1, p2] M) C 15 8 lv st o := s15_5
theorem q17_19 : ji_Ev C 17 19 M lv (.int y :: .int x :: .ref a :: st) o ↔ ji_xIS (ji_kd M a) C 17 20 M lv st o y x a := s17_19
theorem q18_24 : ji_Ev C 18 24 M lv (.int x :: .ref a :: st) o ↔ ji_xQL (ji_kd M a) C 18 25 M lv st o x a := s18_24
theorem q18_33 : ji_Ev C 18 33 M lv (.int x :: .ref a :: st) o ↔ ji_xQL (ji_kd M a) C 18 34 M lv st o x a := s18_33
theorem q18_34 : ji_Ev C 18 34 M lv (p1 :: p0 :: .ref a :: st) o ↔ (ji_rcb M 6 (.ref a) = true ∧ ji_ok8 st) ∧ ji_xC (C 19 [.ref a, p0, p1] M) C 18 37 lv st o := s18_34
theorem q19_26 : ji_Ev C 19 26 M lv (.ref a :: st) o ↔ (ji_rcb M 6 (.ref a) = true ∧ ji_ok8 st) ∧ ji_xC (C 20 [.ref a] M) C 19 29 lv st o := s19_26
theorem q19_38 : ji_Ev C 19 38 M lv (.ref a :: st) o ↔ ji_xAN (ji_kd M a) C 19 39 M lv st o := s19_38
theorem q19_48 : ji_Ev C 19 48 M lv (p0 :: .ref a :: st) o ↔ (ji_rcb M 6 (.ref a) = true ∧ ji_ok8 st) ∧ ji_xC (C 32 [.ref a, p0] M) C 19 51 lv st o := s19_48
theorem q19_52 : ji_Ev C 19 52 M lv (.ref a :: st) o ↔ (ji_rcb M 6 (.ref a) = true ∧ ji_ok8 st) ∧ ji_xC (C 34 [.ref a] M) C 19 55 lv st o := s19_52
theorem q19_58 : ji_Ev C 19 58 M lv (p0 :: .ref a :: st) o ↔ (ji_rcb M 6 (.ref a) = true ∧ ji_ok8 st) ∧ ji_xC (C 32 [.ref a, p0] M) C 19 61 lv st o := s19_58
theorem q19_67 : ji_Ev C 19 67 M lv (.int y :: .int x :: .ref a :: st) o ↔ ji_xIS (ji_kd M a) C 19 68 M lv st o y x a := s19_67
theorem q19_68 : ji_Ev C 19 68 M lv st o ↔ ji_xNC (lv.getD 3 none) 3 1 C 19 71 M lv st o := s19_68
theorem q19_78 : ji_Ev C 19 78 M lv (p0 :: .ref a :: st) o ↔ (ji_rcb M 6 (.ref a) = true ∧ ji_ok8 st) ∧ ji_xC (C 32 [.ref a, p0] M) C 19 81 lv st o := s19_78
theorem q20_16 : ji_Ev C 20 16 M lv (p0 :: .ref a :: st) o ↔ (ji_rcb M 6 (.ref a) = true ∧ ji_ok8 st) ∧ ji_xC (C 21 [.ref a, p0] M) C 20 19 lv st o := s20_16
theorem q20_29 : ji_Ev C 20 29 M lv (p0 :: .ref a :: st) o ↔ (ji_rcb M 6 (.ref a) = true ∧ ji_ok8 st) ∧ ji_xC (C 21 [.ref a, p0] M) C 20 32 lv st o := s20_29
theorem q20_63 : ji_Ev C 20 63 M lv (p0 :: .ref a :: st) o ↔ (ji_rcb M 6 (.ref a) = true ∧ ji_ok8 st) ∧ ji_xC (C 21 [.ref a, p0] M) C 20 66 lv st o := s20_63
theorem q20_89 : ji_Ev C 20 89 M lv (p0 :: st) o ↔ ji_ok8 st ∧ ji_xC (C 22 [p0] M) C 20 92 lv st o := s20_89
theorem q20_96 : ji_Ev C 20 96 M lv (.ref a :: st) o ↔ (ji_rcb M 6 (.ref a) = true ∧ ji_ok8 st) ∧ ji_xC (C 23 [.ref a] M) C 20 99 lv st o := s20_96
theorem q20_103 : ji_Ev C 20 103 M lv (p0 :: st) o ↔ ji_ok8 st ∧ ji_xC (C 25 [p0] M) C 20 106 lv st o := s20_103
theorem q20_110 : ji_Ev C 20 110 M lv (.ref a :: st) o ↔ (ji_rcb M 6 (.ref a) = true ∧ ji_ok8 st) ∧ ji_xC (C 26 [.ref a] M) C 20 113 lv st o := s20_110
theorem q20_121x : ji_Ev C 20 121 M lv (p0 :: .retAddr a :: st) o ↔ (ji_rcb M 10 (.retAddr a) = true ∧ ji_ok8 st) ∧ ji_xC (C 27 [.retAddr a, p0] M) C 20 124 lv st o := s20_121x
theorem q21_24 : ji_Ev C 21 24 M lv (.int x :: .ref a :: st) o ↔ ji_xIL (ji_kd M a) C 21 25 M lv st o x a := s21_24
theorem q23_16 : ji_Ev C 23 16 M lv (p0 :: .ref a :: st) o ↔ (ji_rcb M 6 (.ref a) = true ∧ ji_ok8 st) ∧ ji_xC (C 21 [.ref a, p0] M) C 23 19 lv st o := s23_16
theorem q23_19 : ji_Ev C 23 19 M lv (p0 :: st) o ↔ ji_ok8 st ∧ ji_xC (C 22 [p0] M) C 23 22 lv st o := s23_19
theorem q23_55 : ji_Ev C 23 55 M lv (p0 :: .ref a :: st) o ↔ (ji_rcb M 6 (.ref a) = true ∧ ji_ok8 st) ∧ ji_xC (C 24 [.ref a, p0] M) C 23 58 lv st o := s23_55
theorem q23_90 : ji_Ev C 23 90 M lv st o ↔ ji_xNC (lv.getD 1 none) 1 1 C 23 93 M lv st o := s23_90
theorem q24_31x : ji_Ev C 24 31 M lv (.retAddr a :: st) o ↔ (ji_rcb M 10 (.retAddr a) = true ∧ ji_ok8 st) ∧ ji_xC (C 10 [.retAddr a] M) C 24 34 lv st o := s24_31x
theorem q24_59 : ji_Ev C 24 59 M lv (.ref a :: st) o ↔ ji_xAN (ji_kd M a) C 24 60 M lv st o := s24_59
theorem q24_69x : ji_Ev C 24 69 M lv (p0 :: .retAddr a :: st) o ↔ (ji_rcb M 10 (.retAddr a) = true ∧ ji_ok8 st) ∧ ji_xC (C 12 [.retAddr a, p0] M) C 24 72 lv st o := s24_69x
theorem q24_83 : ji_Ev C 24 83 M lv (.int x :: .ref a :: st) o ↔ ji_xIL (ji_kd M a) C 24 84 M lv st o x a := s24_83
theorem q24_89 : ji_Ev C 24 89 M lv st o ↔ ji_xNC (lv.getD 4 none) 4 1 C 24 92 M lv st o := s24_89
theorem q24_100x : ji_Ev C 24 100 M lv (p0 :: .retAddr a :: st) o ↔ (ji_rcb M 10 (.retAddr a) = true ∧ ji_ok8 st) ∧ ji_xC (C 12 [.retAddr a, p0] M) C 24 103 lv st o := s24_100x
theorem q26_21 : ji_Ev C 26 21 M lv (p0 :: .ref a :: st) o ↔ (ji_rcb M 6 (.ref a) = true ∧ ji_ok8 st) ∧ ji_xC (C 21 [.ref a, p0] M) C 26 24 lv st o := s26_21
theorem q26_24 : ji_Ev C 26 24 M lv (p0 :: st) o ↔ ji_ok8 st ∧ ji_xC (C 25 [p0] M) C 26 27 lv st o := s26_24
theorem q26_43 : ji_Ev C 26 43 M lv (p0 :: .ref a :: st) o ↔ (ji_rcb M 6 (.ref a) = true ∧ ji_ok8 st) ∧ ji_xC (C 21 [.ref a, p0] M) C 26 46 lv st o := s26_43
theorem q27_3x : ji_Ev C 27 3 M lv (p1 :: p0 :: .retAddr a :: st) o ↔ (ji_rcb M 10 (.retAddr a) = true ∧ ji_ok8 st) ∧ ji_xC (C 28 [.retAddr a, p0, p1] M) C 27 6 lv st o := s27_3x
theorem q28_1x : ji_Ev C 28 1 M lv (.retAddr a :: st) o ↔ (ji_rcb M 10 (.retAddr a) = true ∧ ji_ok8 st) ∧ ji_xC (C 13 [.retAddr a] M) C 28 4 lv st o := s28_1x
theorem q28_14x : ji_Ev C 28 14 M lv (.retAddr a :: st) o ↔ (ji_rcb M 10 (.retAddr a) = true ∧ ji_ok8 st) ∧ ji_xC (C 10 [.retAddr a] M) C 28 17 lv st o := s28_14x
theorem q28_17 : ji_Ev C 28 17 M lv (p3 :: p2 :: p1 :: p0 :: st) o ↔ ji_ok8 st ∧ ji_xC (C 29 [p0, p1, p2, p3] M) C 28 20 lv st o := s28_17
theorem q28_30x : ji_Ev C 28 30 M lv (.retAddr a :: st) o ↔ (ji_rcb M 10 (.retAddr a) = true ∧ ji_ok8 st) ∧ ji_xC (C 10 [.retAddr a] M) C 28 33 lv st o := s28_30x
theorem q29_1 : ji_Ev C 29 1 M lv (p0 :: st) o ↔ ji_ok8 st ∧ ji_xC (C 30 [p0] M) C 29 4 lv st o := s29_1
theorem q29_17 : ji_Ev C 29 17 M lv (.ref a :: st) o ↔ ji_xAN (ji_kd M a) C 29 18 M lv st o := s29_17
theorem q29_33 : ji_Ev C 29 33 M lv (p3 :: p2 :: p1 :: p0 :: st) o ↔ ji_ok8 st ∧ ji_xC (C 31 [p0, p1, p2, p3] M) C 29 36 lv st o := s29_33
theorem q31_25 : ji_Ev C 31 25 M lv st o ↔ ji_xNC (lv.getD 5 none) 5 1 C 31 28 M lv st o := s31_25
theorem q32_9 : ji_Ev C 32 9 M lv (.ref a :: st) o ↔ (ji_rcb M 6 (.ref a) = true ∧ ji_ok8 st) ∧ ji_xC (C 33 [.ref a] M) C 32 12 lv st o := s32_9
theorem q32_23 : ji_Ev C 32 23 M lv (.ref a :: st) o ↔ (ji_rcb M 6 (.ref a) = true ∧ ji_ok8 st) ∧ ji_xC (C 20 [.ref a] M) C 32 26 lv st o := s32_23
theorem q34_1 : ji_Ev C 34 1 M lv (.ref a :: st) o ↔ (ji_rcb M 6 (.ref a) = true ∧ ji_ok8 st) ∧ ji_xC (C 35 [.ref a] M) C 34 4 lv st o := s34_1
theorem q34_24 : ji_Ev C 34 24 M lv (.ref a :: st) o ↔ (ji_rcb M 6 (.ref a) = true ∧ ji_ok8 st) ∧ ji_xC (C 20 [.ref a] M) C 34 27 lv st o := s34_24
theorem q34_28 : ji_Ev C 34 28 M lv (.ref a :: st) o ↔ (ji_rcb M 6 (.ref a) = true ∧ ji_ok8 st) ∧ ji_xC (C 35 [.ref a] M) C 34 31 lv st o := s34_28
theorem q34_34 : ji_Ev C 34 34 M lv (p0 :: .ref a :: st) o ↔ (ji_rcb M 6 (.ref a) = true ∧ ji_ok8 st) ∧ ji_xC (C 38 [.ref a, p0] M) C 34 37 lv st o := s34_34
theorem q34_37 : ji_Ev C 34 37 M lv st o ↔ ji_xNC (lv.getD 1 none) 1 1 C 34 40 M lv st o := s34_37
theorem q35_1 : ji_Ev C 35 1 M lv (.ref a :: st) o ↔ (ji_rcb M 6 (.ref a) = true ∧ ji_ok8 st) ∧ ji_xC (C 36 [.ref a] M) C 35 4 lv st o := s35_1
theorem q35_24 : ji_Ev C 35 24 M lv (.ref a :: st) o ↔ (ji_rcb M 6 (.ref a) = true ∧ ji_ok8 st) ∧ ji_xC (C 20 [.ref a] M) C 35 27 lv st o := s35_24
theorem q35_28 : ji_Ev C 35 28 M lv (.ref a :: st) o ↔ (ji_rcb M 6 (.ref a) = true ∧ ji_ok8 st) ∧ ji_xC (C 36 [.ref a] M) C 35 31 lv st o := s35_28
theorem q35_34 : ji_Ev C 35 34 M lv (p0 :: .ref a :: st) o ↔ (ji_rcb M 6 (.ref a) = true ∧ ji_ok8 st) ∧ ji_xC (C 38 [.ref a, p0] M) C 35 37 lv st o := s35_34
theorem q35_37 : ji_Ev C 35 37 M lv st o ↔ ji_xNC (lv.getD 1 none) 1 1 C 35 40 M lv st o := s35_37
theorem q36_23 : ji_Ev C 36 23 M lv (.ref a :: st) o ↔ (ji_rcb M 6 (.ref a) = true ∧ ji_ok8 st) ∧ ji_xC (C 37 [.ref a] M) C 36 26 lv st o := s36_23
theorem q36_30 : ji_Ev C 36 30 M lv (.ref a :: st) o ↔ (ji_rcb M 6 (.ref a) = true ∧ ji_ok8 st) ∧ ji_xC (C 20 [.ref a] M) C 36 33 lv st o := s36_30
theorem q36_33 : ji_Ev C 36 33 M lv st o ↔ ji_xNC (lv.getD 2 none) 2 1 C 36 36 M lv st o := s36_33
theorem q36_40 : ji_Ev C 36 40 M lv (.ref a :: st) o ↔ (ji_rcb M 6 (.ref a) = true ∧ ji_ok8 st) ∧ ji_xC (C 39 [.ref a] M) C 36 43 lv st o := s36_40
theorem q36_79 : ji_Ev C 36 79 M lv (.ref a :: st) o ↔ (ji_rcb M 6 (.ref a) = true ∧ ji_ok8 st) ∧ ji_xC (C 20 [.ref a] M) C 36 82 lv st o := s36_79
theorem q36_83 : ji_Ev C 36 83 M lv (.ref a :: st) o ↔ (ji_rcb M 6 (.ref a) = true ∧ ji_ok8 st) ∧ ji_xC (C 39 [.ref a] M) C 36 86 lv st o := s36_83
theorem q36_88 : ji_Ev C 36 88 M lv (p0 :: .ref a :: st) o ↔ (ji_rcb M 6 (.ref a) = true ∧ ji_ok8 st) ∧ ji_xC (C 38 [.ref a, p0] M) C 36 91 lv st o := s36_88
theorem q36_102 : ji_Ev C 36 102 M lv (p0 :: .ref a :: st) o ↔ (ji_rcb M 6 (.ref a) = true ∧ ji_ok8 st) ∧ ji_xC (C 38 [.ref a, p0] M) C 36 105 lv st o := s36_102
theorem q37_9 : ji_Ev C 37 9 M lv (.ref a :: st) o ↔ (ji_rcb M 6 (.ref a) = true ∧ ji_ok8 st) ∧ ji_xC (C 33 [.ref a] M) C 37 12 lv st o := s37_9
theorem q38_8 : ji_Ev C 38 8 M lv (.ref a :: st) o ↔ ji_xAN (ji_kd M a) C 38 9 M lv st o := s38_8
theorem q38_21 : ji_Ev C 38 21 M lv (.int y :: .int x :: .ref a :: st) o ↔ ji_xIS (ji_kd M a) C 38 22 M lv st o y x a := s38_21
theorem q39_1 : ji_Ev C 39 1 M lv (.ref a :: st) o ↔ (ji_rcb M 6 (.ref a) = true ∧ ji_ok8 st) ∧ ji_xC (C 40 [.ref a] M) C 39 4 lv st o := s39_1
theorem q39_49 : ji_Ev C 39 49 M lv (.ref a :: st) o ↔ (ji_rcb M 6 (.ref a) = true ∧ ji_ok8 st) ∧ ji_xC (C 20 [.ref a] M) C 39 52 lv st o := s39_49
theorem q39_53 : ji_Ev C 39 53 M lv (.ref a :: st) o ↔ (ji_rcb M 6 (.ref a) = true ∧ ji_ok8 st) ∧ ji_xC (C 40 [.ref a] M) C 39 56 lv st o := s39_53
theorem q39_58 : ji_Ev C 39 58 M lv (p0 :: .ref a :: st) o ↔ (ji_rcb M 6 (.ref a) = true ∧ ji_ok8 st) ∧ ji_xC (C 38 [.ref a, p0] M) C 39 61 lv st o := s39_58
theorem q39_61 : ji_Ev C 39 61 M lv st o ↔ ji_xNC (lv.getD 1 none) 1 1 C 39 64 M lv st o := s39_61
theorem q40_1 : ji_Ev C 40 1 M lv (.ref a :: st) o ↔ (ji_rcb M 6 (.ref a) = true ∧ ji_ok8 st) ∧ ji_xC (C 41 [.ref a] M) C 40 4 lv st o := s40_1
theorem q40_23 : ji_Ev C 40 23 M lv (.ref a :: st) o ↔ (ji_rcb M 6 (.ref a) = true ∧ ji_ok8 st) ∧ ji_xC (C 20 [.ref a] M) C 40 26 lv st o := s40_23
theorem q40_27 : ji_Ev C 40 27 M lv (.ref a :: st) o ↔ (ji_rcb M 6 (.ref a) = true ∧ ji_ok8 st) ∧ ji_xC (C 41 [.ref a] M) C 40 30 lv st o := s40_27
theorem q40_33 : ji_Ev C 40 33 M lv (p0 :: .ref a :: st) o ↔ (ji_rcb M 6 (.ref a) = true ∧ ji_ok8 st) ∧ ji_xC (C 38 [.ref a, p0] M) C 40 36 lv st o := s40_33
theorem q40_36 : ji_Ev C 40 36 M lv st o ↔ ji_xNC (lv.getD 1 none) 1 1 C 40 39 M lv st o := s40_36
theorem q41_22 : ji_Ev C 41 22 M lv (.ref a :: st) o ↔ (ji_rcb M 6 (.ref a) = true ∧ ji_ok8 st) ∧ ji_xC (C 37 [.ref a] M) C 41 25 lv st o := s41_22
theorem q41_29 : ji_Ev C 41 29 M lv (.ref a :: st) o ↔ (ji_rcb M 6 (.ref a) = true ∧ ji_ok8 st) ∧ ji_xC (C 20 [.ref a] M) C 41 32 lv st o := s41_29
theorem q41_32 : ji_Ev C 41 32 M lv st o ↔ ji_xNC (lv.getD 2 none) 2 1 C 41 35 M lv st o := s41_32
theorem q41_81 : ji_Ev C 41 81 M lv (p0 :: .ref a :: st) o ↔ (ji_rcb M 6 (.ref a) = true ∧ ji_ok8 st) ∧ ji_xC (C 38 [.ref a, p0] M) C 41 84 lv st o := s41_81
theorem q41_85 : ji_Ev C 41 85 M lv (.ref a :: st) o ↔ (ji_rcb M 6 (.ref a) = true ∧ ji_ok8 st) ∧ ji_xC (C 20 [.ref a] M) C 41 88 lv st o := s41_85
theorem q41_98 : ji_Ev C 41 98 M lv (p0 :: .ref a :: st) o ↔ (ji_rcb M 6 (.ref a) = true ∧ ji_ok8 st) ∧ ji_xC (C 38 [.ref a, p0] M) C 41 101 lv st o := s41_98
theorem q41_102 : ji_Ev C 41 102 M lv (.ref a :: st) o ↔ (ji_rcb M 6 (.ref a) = true ∧ ji_ok8 st) ∧ ji_xC (C 20 [.ref a] M) C 41 105 lv st o := s41_102
theorem q41_109 : ji_Ev C 41 109 M lv (.ref a :: st) o ↔ (ji_rcb M 6 (.ref a) = true ∧ ji_ok8 st) ∧ ji_xC (C 37 [.ref a] M) C 41 112 lv st o := s41_109
theorem q41_116 : ji_Ev C 41 116 M lv (.ref a :: st) o ↔ (ji_rcb M 6 (.ref a) = true ∧ ji_ok8 st) ∧ ji_xC (C 20 [.ref a] M) C 41 119 lv st o := s41_116
theorem q41_120 : ji_Ev C 41 120 M lv (.ref a :: st) o ↔ (ji_rcb M 6 (.ref a) = true ∧ ji_ok8 st) ∧ ji_xC (C 34 [.ref a] M) C 41 123 lv st o := s41_120
theorem q41_136 : ji_Ev C 41 136 M lv (p0 :: .ref a :: st) o ↔ (ji_rcb M 6 (.ref a) = true ∧ ji_ok8 st) ∧ ji_xC (C 32 [.ref a, p0] M) C 41 139 lv st o := s41_136
theorem q41_143 : ji_Ev C 41 143 M lv (.ref a :: st) o ↔ (ji_rcb M 6 (.ref a) = true ∧ ji_ok8 st) ∧ ji_xC (C 33 [.ref a] M) C 41 146 lv st o := s41_143
theorem q41_157 : ji_Ev C 41 157 M lv (p0 :: .ref a :: st) o ↔ (ji_rcb M 6 (.ref a) = true ∧ ji_ok8 st) ∧ ji_xC (C 38 [.ref a, p0] M) C 41 160 lv st o := s41_157
theorem q42_26 : ji_Ev C 42 26 M lv (p2 :: p1 :: p0 :: st) o ↔ ji_ok8 st ∧ ji_xC (C 43 [p0, p1, p2] M) C 42 29 lv st o := s42_26
theorem q42_35 : ji_Ev C 42 35 M lv (p2 :: p1 :: p0 :: st) o ↔ ji_ok8 st ∧ ji_xC (C 43 [p0, p1, p2] M) C 42 38 lv st o := s42_35
theorem q42_51 : ji_Ev C 42 51 M lv (p1 :: p0 :: .ref a :: st) o ↔ (ji_rcb M 5 (.ref a) = true ∧ ji_ok8 st) ∧ ji_xC (C 44 [.ref a, p0, p1] M) C 42 54 lv st o := s42_51
theorem q45_4 : ji_Ev C 45 4 M lv (p2 :: p1 :: p0 :: st) o ↔ ji_ok8 st ∧ ji_xC (C 43 [p0, p1, p2] M) C 45 7 lv st o := s45_4
theorem q45_36 : ji_Ev C 45 36 M lv (p0 :: .ref a :: st) o ↔ (ji_rcb M 5 (.ref a) = true ∧ ji_ok8 st) ∧ ji_xC (C 46 [.ref a, p0] M) C 45 39 lv st o := s45_36
theorem q46_7 : ji_Ev C 46 7 M lv (.ref a :: st) o ↔ (ji_rcb M 2 (.ref a) = true ∧ ji_ok8 st) ∧ ji_xC (C 47 [.ref a] M) C 46 10 lv st o := s46_7
theorem q46_16 : ji_Ev C 46 16 M lv (p1 :: p0 :: .ref a :: st) o ↔ (ji_rcb M 5 (.ref a) = true ∧ ji_ok8 st) ∧ ji_xC (C 48 [.ref a, p0, p1] M) C 46 19 lv st o := s46_16
theorem q46_19 : ji_Ev C 46 19 M lv st o ↔ ji_xNC (lv.getD 2 none) 2 1 C 46 22 M lv st o := s46_19
theorem q48_26 : ji_Ev C 48 26 M lv (p1 :: p0 :: .ref a :: st) o ↔ (ji_rcb M 2 (.ref a) = true ∧ ji_ok8 st) ∧ ji_xC (C 49 [.ref a, p0, p1] M) C 48 29 lv st o := s48_26
theorem q48_31 : ji_Ev C 48 31 M lv (p0 :: .ref a :: st) o ↔ (ji_rcb M 5 (.ref a) = true ∧ ji_ok8 st) ∧ ji_xC (C 50 [.ref a, p0] M) C 48 34 lv st o := s48_31
theorem q48_34 : ji_Ev C 48 34 M lv (p0 :: st) o ↔ ji_ok8 st ∧ ji_xC (C 51 [p0] M) C 48 37 lv st o := s48_34
theorem q48_62 : ji_Ev C 48 62 M lv (p1 :: p0 :: .ref a :: st) o ↔ (ji_rcb M 5 (.ref a) = true ∧ ji_ok8 st) ∧ ji_xC (C 52 [.ref a, p0, p1] M) C 48 65 lv st o := s48_62
theorem q48_80 : ji_Ev C 48 80 M lv (p0 :: .ref a :: st) o ↔ (ji_rcb M 5 (.ref a) = true ∧ ji_ok8 st) ∧ ji_xC (C 50 [.ref a, p0] M) C 48 83 lv st o := s48_80
theorem q48_94 : ji_Ev C 48 94 M lv (p2 :: p1 :: p0 :: .ref a :: st) o ↔ (ji_rcb M 5 (.ref a) = true ∧ ji_ok8 st) ∧ ji_xC (C 58 [.ref a, p0, p1, p2] M) C 48 97 lv st o := s48_94
theorem q49_46 : ji_Ev C 49 46 M lv (.int x :: .ref a :: st) o ↔ ji_xIL (ji_kd M a) C 49 47 M lv st o x a := s49_46
theorem q50_6 : ji_Ev C 50 6 M lv (p1 :: p0 :: .ref a :: st) o ↔ (ji_rcb M 2 (.ref a) = true ∧ ji_ok8 st) ∧ ji_xC (C 49 [.ref a, p0, p1] M) C 50 9 lv st o := s50_6
theorem q52_6 : ji_Ev C 52 6 M lv (p1 :: p0 :: .ref a :: st) o ↔ (ji_rcb M 2 (.ref a) = true ∧ ji_ok8 st) ∧ ji_xC (C 49 [.ref a, p0, p1] M) C 52 9 lv st o := s52_6
theorem q52_16 : ji_Ev C 52 16 M lv (p1 :: p0 :: .ref a :: st) o ↔ (ji_rcb M 2 (.ref a) = true ∧ ji_ok8 st) ∧ ji_xC (C 49 [.ref a, p0, p1] M) C 52 19 lv st o := s52_16
theorem q52_26 : ji_Ev C 52 26 M lv (p1 :: p0 :: st) o ↔ ji_ok8 st ∧ ji_xC (C 53 [p0, p1] M) C 52 29 lv st o := s52_26
theorem q52_35 : ji_Ev C 52 35 M lv (p1 :: p0 :: st) o ↔ ji_ok8 st ∧ ji_xC (C 54 [p0, p1] M) C 52 38 lv st o := s52_35
theorem q52_73 : ji_Ev C 52 73 M lv (p1 :: p0 :: .ref a :: st) o ↔ (ji_rcb M 2 (.ref a) = true ∧ ji_ok8 st) ∧ ji_xC (C 49 [.ref a, p0, p1] M) C 52 76 lv st o := s52_73
theorem q52_79 : ji_Ev C 52 79 M lv (p0 :: st) o ↔ ji_ok8 st ∧ ji_xC (C 55 [p0] M) C 52 82 lv st o := s52_79
theorem q52_99 : ji_Ev C 52 99 M lv (p1 :: p0 :: .ref a :: st) o ↔ (ji_rcb M 2 (.ref a) = true ∧ ji_ok8 st) ∧ ji_xC (C 49 [.ref a, p0, p1] M) C 52 102 lv st o := s52_99
theorem q52_102 : ji_Ev C 52 102 M lv (p1 :: p0 :: st) o ↔ ji_ok8 st ∧ ji_xC (C 56 [p0, p1] M) C 52 105 lv st o := s52_102
theorem q52_129 : ji_Ev C 52 129 M lv (p2 :: p1 :: p0 :: .ref a :: st) o ↔ (ji_rcb M 2 (.ref a) = true ∧ ji_ok8 st) ∧ ji_xC (C 57 [.ref a, p0, p1, p2] M) C 52 132 lv st o := s52_129
theorem q52_147 : ji_Ev C 52 147 M lv (p2 :: p1 :: p0 :: .ref a :: st) o ↔ (ji_rcb M 2 (.ref a) = true ∧ ji_ok8 st) ∧ ji_xC (C 57 [.ref a, p0, p1, p2] M) C 52 150 lv st o := s52_147
theorem q57_37 : ji_Ev C 57 37 M lv (.int y :: .int x :: .ref a :: st) o ↔ ji_xIS (ji_kd M a) C 57 38 M lv st o y x a := s57_37
theorem q58_7 : ji_Ev C 58 7 M lv (p2 :: p1 :: p0 :: .ref a :: st) o ↔ (ji_rcb M 2 (.ref a) = true ∧ ji_ok8 st) ∧ ji_xC (C 57 [.ref a, p0, p1, p2] M) C 58 10 lv st o := s58_7
theorem q58_18 : ji_Ev C 58 18 M lv (p2 :: p1 :: p0 :: .ref a :: st) o ↔ (ji_rcb M 2 (.ref a) = true ∧ ji_ok8 st) ∧ ji_xC (C 57 [.ref a, p0, p1, p2] M) C 58 21 lv st o := s58_18
theorem q59_1 : ji_Ev C 59 1 M lv (p0 :: st) o ↔ ji_ok8 st ∧ ji_xC (C 60 [p0] M) C 59 4 lv st o := s59_1
theorem q59_12 : ji_Ev C 59 12 M lv (p2 :: p1 :: p0 :: st) o ↔ ji_ok8 st ∧ ji_xC (C 43 [p0, p1, p2] M) C 59 15 lv st o := s59_12
theorem q59_28 : ji_Ev C 59 28 M lv (.ref a :: st) o ↔ (ji_rcb M 2 (.ref a) = true ∧ ji_ok8 st) ∧ ji_xC (C 61 [.ref a] M) C 59 31 lv st o := s59_28
theorem q59_45 : ji_Ev C 59 45 M lv (p1 :: p0 :: .ref a :: st) o ↔ (ji_rcb M 5 (.ref a) = true ∧ ji_ok8 st) ∧ ji_xC (C 62 [.ref a, p0, p1] M) C 59 48 lv st o := s59_45
theorem q60_5 : ji_Ev C 60 5 M lv (p2 :: p1 :: p0 :: st) o ↔ ji_ok8 st ∧ ji_xC (C 43 [p0, p1, p2] M) C 60 8 lv st o := s60_5
theorem q62_21 : ji_Ev C 62 21 M lv (p3 :: p2 :: p1 :: p0 :: .ref a :: st) o ↔ (ji_rcb M 2 (.ref a) = true ∧ ji_ok8 st) ∧ ji_xC (C 63 [.ref a, p0, p1, p2, p3] M) C 62 24 lv st o := s62_21
theorem q62_32 : ji_Ev C 62 32 M lv (p2 :: p1 :: p0 :: .ref a :: st) o ↔ (ji_rcb M 2 (.ref a) = true ∧ ji_ok8 st) ∧ ji_xC (C 57 [.ref a, p0, p1, p2] M) C 62 35 lv st o := s62_32
theorem q62_42 : ji_Ev C 62 42 M lv (p2 :: p1 :: p0 :: .ref a :: st) o ↔ (ji_rcb M 2 (.ref a) = true ∧ ji_ok8 st) ∧ ji_xC (C 57 [.ref a, p0, p1, p2] M) C 62 45 lv st o := s62_42
theorem q62_53 : ji_Ev C 62 53 M lv (p2 :: p1 :: p0 :: .ref a :: st) o ↔ (ji_rcb M 2 (.ref a) = true ∧ ji_ok8 st) ∧ ji_xC (C 57 [.ref a, p0, p1, p2] M) C 62 56 lv st o := s62_53
theorem q62_67 : ji_Ev C 62 67 M lv (p2 :: p1 :: p0 :: .ref a :: st) o ↔ (ji_rcb M 2 (.ref a) = true ∧ ji_ok8 st) ∧ ji_xC (C 57 [.ref a, p0, p1, p2] M) C 62 70 lv st o := s62_67
theorem q63_1 : ji_Ev C 63 1 M lv (.ref a :: st) o ↔ (ji_rcb M 2 (.ref a) = true ∧ ji_ok8 st) ∧ ji_xC (C 61 [.ref a] M) C 63 4 lv st o := s63_1
theorem q63_28 : ji_Ev C 63 28 M lv (p2 :: p1 :: p0 :: .ref a :: st) o ↔ (ji_rcb M 2 (.ref a) = true ∧ ji_ok8 st) ∧ ji_xC (C 57 [.ref a, p0, p1, p2] M) C 63 31 lv st o := s63_28
theorem q63_40 : ji_Ev C 63 40 M lv (p2 :: p1 :: p0 :: .ref a :: st) o ↔ (ji_rcb M 2 (.ref a) = true ∧ ji_ok8 st) ∧ ji_xC (C 57 [.ref a, p0, p1, p2] M) C 63 43 lv st o := s63_40
theorem q63_52 : ji_Ev C 63 52 M lv (p2 :: p1 :: p0 :: .ref a :: st) o ↔ (ji_rcb M 2 (.ref a) = true ∧ ji_ok8 st) ∧ ji_xC (C 57 [.ref a, p0, p1, p2] M) C 63 55 lv st o := s63_52
theorem q63_65 : ji_Ev C 63 65 M lv (p2 :: p1 :: p0 :: .ref a :: st) o ↔ (ji_rcb M 2 (.ref a) = true ∧ ji_ok8 st) ∧ ji_xC (C 57 [.ref a, p0, p1, p2] M) C 63 68 lv st o := s63_65
theorem q64_8 : ji_Ev C 64 8 M lv (p0 :: .ref a :: st) o ↔ (ji_rcb M 2 (.ref a) = true ∧ ji_ok8 st) ∧ ji_xC (C 65 [.ref a, p0] M) C 64 11 lv st o := s64_8
theorem q64_18 : ji_Ev C 64 18 M lv (p2 :: p1 :: p0 :: st) o ↔ ji_ok8 st ∧ ji_xC (C 43 [p0, p1, p2] M) C 64 21 lv st o := s64_18
theorem q64_65 : ji_Ev C 64 65 M lv (p0 :: .ref a :: st) o ↔ (ji_rcb M 5 (.ref a) = true ∧ ji_ok8 st) ∧ ji_xC (C 66 [.ref a, p0] M) C 64 68 lv st o := s64_65
theorem q64_74 : ji_Ev C 64 74 M lv (p0 :: .ref a :: st) o ↔ (ji_rcb M 5 (.ref a) = true ∧ ji_ok8 st) ∧ ji_xC (C 67 [.ref a, p0] M) C 64 77 lv st o := s64_74
theorem q64_83 : ji_Ev C 64 83 M lv (p0 :: .ref a :: st) o ↔ (ji_rcb M 5 (.ref a) = true ∧ ji_ok8 st) ∧ ji_xC (C 69 [.ref a, p0] M) C 64 86 lv st o := s64_83
theorem q64_92 : ji_Ev C 64 92 M lv (p0 :: .ref a :: st) o ↔ (ji_rcb M 5 (.ref a) = true ∧ ji_ok8 st) ∧ ji_xC (C 50 [.ref a, p0] M) C 64 95 lv st o := s64_92
theorem q64_95 : ji_Ev C 64 95 M lv (p0 :: st) o ↔ ji_ok8 st ∧ ji_xC (C 55 [p0] M) C 64 98 lv st o := s64_95
theorem q64_108 : ji_Ev C 64 108 M lv (p1 :: p0 :: .ref a :: st) o ↔ (ji_rcb M 2 (.ref a) = true ∧ ji_ok8 st) ∧ ji_xC (C 49 [.ref a, p0, p1] M) C 64 111 lv st o := s64_108
theorem q66_2 : ji_Ev C 66 2 M lv (p0 :: .ref a :: st) o ↔ (ji_rcb M 5 (.ref a) = true ∧ ji_ok8 st) ∧ ji_xC (C 50 [.ref a, p0] M) C 66 5 lv st o := s66_2
theorem q66_11 : ji_Ev C 66 11 M lv (p1 :: p0 :: .ref a :: st) o ↔ (ji_rcb M 2 (.ref a) = true ∧ ji_ok8 st) ∧ ji_xC (C 49 [.ref a, p0, p1] M) C 66 14 lv st o := s66_11
theorem q66_14 : ji_Ev C 66 14 M lv (p1 :: p0 :: st) o ↔ ji_ok8 st ∧ ji_xC (C 56 [p0, p1] M) C 66 17 lv st o := s66_14
theorem q67_2 : ji_Ev C 67 2 M lv (p0 :: .ref a :: st) o ↔ (ji_rcb M 5 (.ref a) = true ∧ ji_ok8 st) ∧ ji_xC (C 50 [.ref a, p0] M) C 67 5 lv st o := s67_2
theorem q67_11 : ji_Ev C 67 11 M lv (p1 :: p0 :: .ref a :: st) o ↔ (ji_rcb M 2 (.ref a) = true ∧ ji_ok8 st) ∧ ji_xC (C 49 [.ref a, p0, p1] M) C 67 14 lv st o := s67_11
theorem q67_14 : ji_Ev C 67 14 M lv (p1 :: p0 :: st) o ↔ ji_ok8 st ∧ ji_xC (C 68 [p0, p1] M) C 67 17 lv st o := s67_14
theorem q69_2 : ji_Ev C 69 2 M lv (p0 :: .ref a :: st) o ↔ (ji_rcb M 5 (.ref a) = true ∧ ji_ok8 st) ∧ ji_xC (C 50 [.ref a, p0] M) C 69 5 lv st o := s69_2
theorem q69_9 : ji_Ev C 69 9 M lv (p1 :: p0 :: st) o ↔ ji_ok8 st ∧ ji_xC (C 53 [p0, p1] M) C 69 12 lv st o := s69_9
theorem q70_8 : ji_Ev C 70 8 M lv (p0 :: .ref a :: st) o ↔ (ji_rcb M 2 (.ref a) = true ∧ ji_ok8 st) ∧ ji_xC (C 65 [.ref a, p0] M) C 70 11 lv st o := s70_8
theorem q70_15 : ji_Ev C 70 15 M lv (p0 :: st) o ↔ ji_ok8 st ∧ ji_xC (C 71 [p0] M) C 70 18 lv st o := s70_15
theorem q70_29 : ji_Ev C 70 29 M lv (p0 :: .ref a :: st) o ↔ (ji_rcb M 5 (.ref a) = true ∧ ji_ok8 st) ∧ ji_xC (C 50 [.ref a, p0] M) C 70 32 lv st o := s70_29
theorem q70_35 : ji_Ev C 70 35 M lv (p1 :: p0 :: st) o ↔ ji_ok8 st ∧ ji_xC (C 72 [p0, p1] M) C 70 38 lv st o := s70_35
theorem q70_48 : ji_Ev C 70 48 M lv (p0 :: .ref a :: st) o ↔ (ji_rcb M 8 (.ref a) = true ∧ ji_ok8 st) ∧ ji_xC (C 73 [.ref a, p0] M) C 70 51 lv st o := s70_48
theorem q70_63 : ji_Ev C 70 63 M lv (p1 :: p0 :: .ref a :: st) o ↔ (ji_rcb M 5 (.ref a) = true ∧ ji_ok8 st) ∧ ji_xC (C 81 [.ref a, p0, p1] M) C 70 66 lv st o := s70_63
theorem q70_85 : ji_Ev C 70 85 M lv (p2 :: p1 :: p0 :: .ref a :: st) o ↔ (ji_rcb M 5 (.ref a) = true ∧ ji_ok8 st) ∧ ji_xC (C 58 [.ref a, p0, p1, p2] M) C 70 88 lv st o := s70_85
theorem q71_3 : ji_Ev C 71 3 M lv (p2 :: p1 :: p0 :: st) o ↔ ji_ok8 st ∧ ji_xC (C 43 [p0, p1, p2] M) C 71 6 lv st o := s71_3
theorem q73_10 : ji_Ev C 73 10 M lv (p2 :: p1 :: p0 :: .ref a :: st) o ↔ (ji_rcb M 3 (.ref a) = true ∧ ji_ok8 st) ∧ ji_xC (C 74 [.ref a, p0, p1, p2] M) C 73 13 lv st o := s73_10
theorem q73_26 : ji_Ev C 73 26 M lv (p1 :: p0 :: .ref a :: st) o ↔ (ji_rcb M 2 (.ref a) = true ∧ ji_ok8 st) ∧ ji_xC (C 49 [.ref a, p0, p1] M) C 73 29 lv st o := s73_26
theorem q73_38 : ji_Ev C 73 38 M lv (p1 :: p0 :: .ref a :: st) o ↔ (ji_rcb M 2 (.ref a) = true ∧ ji_ok8 st) ∧ ji_xC (C 49 [.ref a, p0, p1] M) C 73 41 lv st o := s73_38
theorem q73_48 : ji_Ev C 73 48 M lv (p2 :: p1 :: p0 :: .ref a :: st) o ↔ (ji_rcb M 8 (.ref a) = true ∧ ji_ok8 st) ∧ ji_xC (C 80 [.ref a, p0, p1, p2] M) C 73 51 lv st o := s73_48
theorem q74_5 : ji_Ev C 74 5 M lv (p0 :: .ref a :: st) o ↔ (ji_rcb M 3 (.ref a) = true ∧ ji_ok8 st) ∧ ji_xC (C 75 [.ref a, p0] M) C 74 8 lv st o := s74_5
theorem q74_14 : ji_Ev C 74 14 M lv (p2 :: p1 :: p0 :: st) o ↔ ji_ok8 st ∧ ji_xC (C 43 [p0, p1, p2] M) C 74 17 lv st o := s74_14
theorem q74_30 : ji_Ev C 74 30 M lv (.int x :: .ref a :: st) o ↔ ji_xQL (ji_kd M a) C 74 31 M lv st o x a := s74_30
theorem q74_35 : ji_Ev C 74 35 M lv (.ref a :: st) o ↔ ji_xAN (ji_kd M a) C 74 36 M lv st o := s74_35
theorem q74_44 : ji_Ev C 74 44 M lv (.int x :: .ref a :: st) o ↔ ji_xQL (ji_kd M a) C 74 45 M lv st o x a := s74_44
theorem q74_46 : ji_Ev C 74 46 M lv (.int x :: .ref a :: st) o ↔ ji_xIL (ji_kd M a) C 74 47 M lv st o x a := s74_46
theorem q74_74 : ji_Ev C 74 74 M lv (.int x :: .ref a :: st) o ↔ ji_xQL (ji_kd M a) C 74 75 M lv st o x a := s74_74
theorem q74_78 : ji_Ev C 74 78 M lv (.int x :: .ref a :: st) o ↔ ji_xIL (ji_kd M a) C 74 79 M lv st o x a := s74_78
theorem q74_95 : ji_Ev C 74 95 M lv (.int x :: .ref a :: st) o ↔ ji_xIL (ji_kd M a) C 74 96 M lv st o x a := s74_95
theorem q74_106 : ji_Ev C 74 106 M lv (p0 :: .ref a :: st) o ↔ (ji_rcb M 3 (.ref a) = true ∧ ji_ok8 st) ∧ ji_xC (C 76 [.ref a, p0] M) C 74 109 lv st o := s74_106
theorem q74_126 : ji_Ev C 74 126 M lv (p1 :: p0 :: .ref a :: st) o ↔ (ji_rcb M 5 (.ref a) = true ∧ ji_ok8 st) ∧ ji_xC (C 77 [.ref a, p0, p1] M) C 74 129 lv st o := s74_126
theorem q74_129 : ji_Ev C 74 129 M lv (p0 :: .ref a :: st) o ↔ (ji_rcb M 3 (.ref a) = true ∧ ji_ok8 st) ∧ ji_xC (C 76 [.ref a, p0] M) C 74 132 lv st o := s74_129
theorem q74_144 : ji_Ev C 74 144 M lv (.ref a :: st) o ↔ (ji_rcb M 3 (.ref a) = true ∧ ji_ok8 st) ∧ ji_xC (C 78 [.ref a] M) C 74 147 lv st o := s74_144
theorem q74_155 : ji_Ev C 74 155 M lv (p0 :: .ref a :: st) o ↔ (ji_rcb M 3 (.ref a) = true ∧ ji_ok8 st) ∧ ji_xC (C 76 [.ref a, p0] M) C 74 158 lv st o := s74_155
theorem q74_170 : ji_Ev C 74 170 M lv (.ref a :: st) o ↔ (ji_rcb M 3 (.ref a) = true ∧ ji_ok8 st) ∧ ji_xC (C 78 [.ref a] M) C 74 173 lv st o := s74_170
theorem q74_174 : ji_Ev C 74 174 M lv (p0 :: .ref a :: st) o ↔ (ji_rcb M 3 (.ref a) = true ∧ ji_ok8 st) ∧ ji_xC (C 76 [.ref a, p0] M) C 74 177 lv st o := s74_174
theorem q74_181 : ji_Ev C 74 181 M lv (.ref a :: st) o ↔ (ji_rcb M 3 (.ref a) = true ∧ ji_ok8 st) ∧ ji_xC (C 78 [.ref a] M) C 74 184 lv st o := s74_181
theorem q74_190 : ji_Ev C 74 190 M lv (.ref a :: st) o ↔ (ji_rcb M 3 (.ref a) = true ∧ ji_ok8 st) ∧ ji_xC (C 78 [.ref a] M) C 74 193 lv st o := s74_190
theorem q74_195 : ji_Ev C 74 195 M lv (p2 :: p1 :: p0 :: st) o ↔ ji_ok8 st ∧ ji_xC (C 79 [p0, p1, p2] M) C 74 198 lv st o := s74_195
theorem q74_198 : ji_Ev C 74 198 M lv (p0 :: .ref a :: st) o ↔ (ji_rcb M 3 (.ref a) = true ∧ ji_ok8 st) ∧ ji_xC (C 76 [.ref a, p0] M) C 74 201 lv st o := s74_198
theorem q74_201 : ji_Ev C 74 201 M lv st o ↔ ji_xNC (lv.getD 6 none) 6 1 C 74 204 M lv st o := s74_201
theorem q74_208 : ji_Ev C 74 208 M lv (.ref a :: st) o ↔ (ji_rcb M 3 (.ref a) = true ∧ ji_ok8 st) ∧ ji_xC (C 78 [.ref a] M) C 74 211 lv st o := s74_208
theorem q76_8 : ji_Ev C 76 8 M lv (.ref a :: st) o ↔ ji_xAN (ji_kd M a) C 76 9 M lv st o := s76_8
theorem q76_21 : ji_Ev C 76 21 M lv (.int y :: .int x :: .ref a :: st) o ↔ ji_xIS (ji_kd M a) C 76 22 M lv st o y x a := s76_21
theorem q77_42 : ji_Ev C 77 42 M lv (p1 :: p0 :: .ref a :: st) o ↔ (ji_rcb M 2 (.ref a) = true ∧ ji_ok8 st) ∧ ji_xC (C 49 [.ref a, p0, p1] M) C 77 45 lv st o := s77_42
theorem q77_52 : ji_Ev C 77 52 M lv (p1 :: p0 :: .ref a :: st) o ↔ (ji_rcb M 2 (.ref a) = true ∧ ji_ok8 st) ∧ ji_xC (C 49 [.ref a, p0, p1] M) C 77 55 lv st o := s77_52
theorem q77_62 : ji_Ev C 77 62 M lv (p1 :: p0 :: .ref a :: st) o ↔ (ji_rcb M 2 (.ref a) = true ∧ ji_ok8 st) ∧ ji_xC (C 49 [.ref a, p0, p1] M) C 77 65 lv st o := s77_62
theorem q77_72 : ji_Ev C 77 72 M lv (p1 :: p0 :: .ref a :: st) o ↔ (ji_rcb M 2 (.ref a) = true ∧ ji_ok8 st) ∧ ji_xC (C 49 [.ref a, p0, p1] M) C 77 75 lv st o := s77_72
theorem q77_87 : ji_Ev C 77 87 M lv (p1 :: p0 :: .ref a :: st) o ↔ (ji_rcb M 2 (.ref a) = true ∧ ji_ok8 st) ∧ ji_xC (C 49 [.ref a, p0, p1] M) C 77 90 lv st o := s77_87
theorem q77_98 : ji_Ev C 77 98 M lv (p1 :: p0 :: .ref a :: st) o ↔ (ji_rcb M 2 (.ref a) = true ∧ ji_ok8 st) ∧ ji_xC (C 49 [.ref a, p0, p1] M) C 77 101 lv st o := s77_98
theorem q78_27 : ji_Ev C 78 27 M lv (.int x :: .ref a :: st) o ↔ ji_xIL (ji_kd M a) C 78 28 M lv st o x a := s78_27
theorem q80_4 : ji_Ev C 80 4 M lv (.ref a :: st) o ↔ (ji_rcb M 2 (.ref a) = true ∧ ji_ok8 st) ∧ ji_xC (C 47 [.ref a] M) C 80 7 lv st o := s80_4
theorem q80_23 : ji_Ev C 80 23 M lv (p1 :: p0 :: .ref a :: st) o ↔ (ji_rcb M 2 (.ref a) = true ∧ ji_ok8 st) ∧ ji_xC (C 49 [.ref a, p0, p1] M) C 80 26 lv st o := s80_23
theorem q80_37 : ji_Ev C 80 37 M lv (p1 :: p0 :: .ref a :: st) o ↔ (ji_rcb M 2 (.ref a) = true ∧ ji_ok8 st) ∧ ji_xC (C 49 [.ref a, p0, p1] M) C 80 40 lv st o := s80_37
theorem q80_51 : ji_Ev C 80 51 M lv (p1 :: p0 :: .ref a :: st) o ↔ (ji_rcb M 2 (.ref a) = true ∧ ji_ok8 st) ∧ ji_xC (C 49 [.ref a, p0, p1] M) C 80 54 lv st o := s80_51
theorem q80_65 : ji_Ev C 80 65 M lv (p1 :: p0 :: .ref a :: st) o ↔ (ji_rcb M 2 (.ref a) = true ∧ ji_ok8 st) ∧ ji_xC (C 49 [.ref a, p0, p1] M) C 80 68 lv st o := s80_65
theorem q80_78 : ji_Ev C 80 78 M lv st o ↔ ji_xNC (lv.getD 4 none) 4 (-1) C 80 81 M lv st o := s80_78
theorem q81_7 : ji_Ev C 81 7 M lv (p1 :: p0 :: .ref a :: st) o ↔ (ji_rcb M 2 (.ref a) = true ∧ ji_ok8 st) ∧ ji_xC (C 49 [.ref a, p0, p1] M) C 81 10 lv st o := s81_7
theorem q81_10 : ji_Ev C 81 10 M lv (p1 :: p0 :: st) o ↔ ji_ok8 st ∧ ji_xC (C 68 [p0, p1] M) C 81 13 lv st o := s81_10
theorem q81_22 : ji_Ev C 81 22 M lv (p1 :: p0 :: .ref a :: st) o ↔ (ji_rcb M 5 (.ref a) = true ∧ ji_ok8 st) ∧ ji_xC (C 82 [.ref a, p0, p1] M) C 81 25 lv st o := s81_22
theorem q81_42 : ji_Ev C 81 42 M lv (p1 :: p0 :: st) o ↔ ji_ok8 st ∧ ji_xC (C 83 [p0, p1] M) C 81 45 lv st o := s81_42
theorem q81_51 : ji_Ev C 81 51 M lv (p1 :: p0 :: .ref a :: st) o ↔ (ji_rcb M 5 (.ref a) = true ∧ ji_ok8 st) ∧ ji_xC (C 82 [.ref a, p0, p1] M) C 81 54 lv st o := s81_51
theorem q82_11 : ji_Ev C 82 11 M lv (.ref a :: st) o ↔ (ji_rcb M 2 (.ref a) = true ∧ ji_ok8 st) ∧ ji_xC (C 47 [.ref a] M) C 82 14 lv st o := s82_11
theorem q82_24 : ji_Ev C 82 24 M lv (p1 :: p0 :: .ref a :: st) o ↔ (ji_rcb M 2 (.ref a) = true ∧ ji_ok8 st) ∧ ji_xC (C 49 [.ref a, p0, p1] M) C 82 27 lv st o := s82_24
theorem q82_38 : ji_Ev C 82 38 M lv (p1 :: p0 :: st) o ↔ ji_ok8 st ∧ ji_xC (C 83 [p0, p1] M) C 82 41 lv st o := s82_38
theorem q82_54 : ji_Ev C 82 54 M lv (p1 :: p0 :: .ref a :: st) o ↔ (ji_rcb M 2 (.ref a) = true ∧ ji_ok8 st) ∧ ji_xC (C 49 [.ref a, p0, p1] M) C 82 57 lv st o := s82_54
theorem q82_57 : ji_Ev C 82 57 M lv (p1 :: p0 :: st) o ↔ ji_ok8 st ∧ ji_xC (C 68 [p0, p1] M) C 82 60 lv st o := s82_57
theorem q82_62 : ji_Ev C 82 62 M lv st o ↔ ji_xNC (lv.getD 4 none) 4 1 C 82 65 M lv st o := s82_62
theorem q83_8 : ji_Ev C 83 8 M lv (.ref a :: st) o ↔ ji_xAN (ji_kd M a) C 83 9 M lv st o := s83_8
theorem q83_20 : ji_Ev C 83 20 M lv (.ref a :: st) o ↔ ji_xAN (ji_kd M a) C 83 21 M lv st o := s83_20
theorem q83_35 : ji_Ev C 83 35 M lv (.int x :: .ref a :: st) o ↔ ji_xIL (ji_kd M a) C 83 36 M lv st o x a := s83_35
theorem q83_37 : ji_Ev C 83 37 M lv st o ↔ ji_xNC (lv.getD 3 none) 3 1 C 83 40 M lv st o := s83_37
theorem q84_8 : ji_Ev C 84 8 M lv (p0 :: .ref a :: st) o ↔ (ji_rcb M 2 (.ref a) = true ∧ ji_ok8 st) ∧ ji_xC (C 65 [.ref a, p0] M) C 84 11 lv st o := s84_8
theorem q84_26 : ji_Ev C 84 26 M lv (p1 :: p0 :: .ref a :: st) o ↔ (ji_rcb M 2 (.ref a) = true ∧ ji_ok8 st) ∧ ji_xC (C 49 [.ref a, p0, p1] M) C 84 29 lv st o := s84_26
theorem q84_34 : ji_Ev C 84 34 M lv (p0 :: .ref a :: st) o ↔ (ji_rcb M 5 (.ref a) = true ∧ ji_ok8 st) ∧ ji_xC (C 69 [.ref a, p0] M) C 84 37 lv st o := s84_34
theorem q84_37 : ji_Ev C 84 37 M lv (p1 :: p0 :: st) o ↔ ji_ok8 st ∧ ji_xC (C 54 [p0, p1] M) C 84 40 lv st o := s84_37
theorem q85_9 : ji_Ev C 85 9 M lv (p1 :: p0 :: .ref a :: st) o ↔ (ji_rcb M 3 (.ref a) = true ∧ ji_ok8 st) ∧ ji_xC (C 86 [.ref a, p0, p1] M) C 85 12 lv st o := s85_9
theorem q86_4 : ji_Ev C 86 4 M lv (.ref a :: st) o ↔ ji_xAN (ji_kd M a) C 86 5 M lv st o := s86_4
theorem q86_9 : ji_Ev C 86 9 M lv (.ref a :: st) o ↔ (ji_rcb M 2 (.ref a) = true ∧ ji_ok8 st) ∧ ji_xC (C 47 [.ref a] M) C 86 12 lv st o := s86_9
theorem q86_36 : ji_Ev C 86 36 M lv (p2 :: p1 :: p0 :: .ref a :: st) o ↔ (ji_rcb M 3 (.ref a) = true ∧ ji_ok8 st) ∧ ji_xC (C 74 [.ref a, p0, p1, p2] M) C 86 39 lv st o := s86_36
theorem q86_39 : ji_Ev C 86 39 M lv (.int y :: .int x :: .ref a :: st) o ↔ ji_xIS (ji_kd M a) C 86 40 M lv st o y x a := s86_39
theorem q86_40 : ji_Ev C 86 40 M lv st o ↔ ji_xNC (lv.getD 4 none) 4 1 C 86 43 M lv st o := s86_40
theorem q86_58 : ji_Ev C 86 58 M lv (p0 :: .ref a :: st) o ↔ (ji_rcb M 5 (.ref a) = true ∧ ji_ok8 st) ∧ ji_xC (C 50 [.ref a, p0] M) C 86 61 lv st o := s86_58
theorem q86_69 : ji_Ev C 86 69 M lv (p2 :: p1 :: p0 :: .ref a :: st) o ↔ (ji_rcb M 3 (.ref a) = true ∧ ji_ok8 st) ∧ ji_xC (C 87 [.ref a, p0, p1, p2] M) C 86 72 lv st o := s86_69
theorem q86_79 : ji_Ev C 86 79 M lv st o ↔ ji_xNC (lv.getD 4 none) 4 1 C 86 82 M lv st o := s86_79
theorem q87_18 : ji_Ev C 87 18 M lv (.int x :: .ref a :: st) o ↔ ji_xIL (ji_kd M a) C 87 19 M lv st o x a := s87_18
theorem q87_24 : ji_Ev C 87 24 M lv (.int x :: .ref a :: st) o ↔ ji_xIL (ji_kd M a) C 87 25 M lv st o x a := s87_24
theorem q87_34 : ji_Ev C 87 34 M lv (.int x :: .ref a :: st) o ↔ ji_xIL (ji_kd M a) C 87 35 M lv st o x a := s87_34
theorem q87_40 : ji_Ev C 87 40 M lv (.int x :: .ref a :: st) o ↔ ji_xIL (ji_kd M a) C 87 41 M lv st o x a := s87_40
theorem q87_67 : ji_Ev C 87 67 M lv (p0 :: .ref a :: st) o ↔ (ji_rcb M 5 (.ref a) = true ∧ ji_ok8 st) ∧ ji_xC (C 50 [.ref a, p0] M) C 87 70 lv st o := s87_67
theorem q87_81 : ji_Ev C 87 81 M lv st o ↔ ji_xNC (lv.getD 5 none) 5 1 C 87 84 M lv st o := s87_81
theorem q88_13 : ji_Ev C 88 13 M lv (p0 :: .ref a :: st) o ↔ (ji_rcb M 3 (.ref a) = true ∧ ji_ok8 st) ∧ ji_xC (C 89 [.ref a, p0] M) C 88 16 lv st o := s88_13
theorem q88_25 : ji_Ev C 88 25 M lv (p0 :: .ref a :: st) o ↔ (ji_rcb M 2 (.ref a) = true ∧ ji_ok8 st) ∧ ji_xC (C 65 [.ref a, p0] M) C 88 28 lv st o := s88_25
theorem q88_40 : ji_Ev C 88 40 M lv (p1 :: p0 :: .ref a :: st) o ↔ (ji_rcb M 3 (.ref a) = true ∧ ji_ok8 st) ∧ ji_xC (C 91 [.ref a, p0, p1] M) C 88 43 lv st o := s88_40
theorem q89_11 : ji_Ev C 89 11 M lv (.ref a :: st) o ↔ (ji_rcb M 2 (.ref a) = true ∧ ji_ok8 st) ∧ ji_xC (C 47 [.ref a] M) C 89 14 lv st o := s89_11
theorem q89_23 : ji_Ev C 89 23 M lv (p2 :: p1 :: p0 :: .ref a :: st) o ↔ (ji_rcb M 3 (.ref a) = true ∧ ji_ok8 st) ∧ ji_xC (C 74 [.ref a, p0, p1, p2] M) C 89 26 lv st o := s89_23
theorem q89_34 : ji_Ev C 89 34 M lv (p1 :: p0 :: .ref a :: st) o ↔ (ji_rcb M 2 (.ref a) = true ∧ ji_ok8 st) ∧ ji_xC (C 49 [.ref a, p0, p1] M) C 89 37 lv st o := s89_34
theorem q89_37 : ji_Ev C 89 37 M lv (p1 :: p0 :: st) o ↔ ji_ok8 st ∧ ji_xC (C 90 [p0, p1] M) C 89 40 lv st o := s89_37
theorem q89_42 : ji_Ev C 89 42 M lv st o ↔ ji_xNC (lv.getD 4 none) 4 1 C 89 45 M lv st o := s89_42
theorem q91_4 : ji_Ev C 91 4 M lv (p2 :: p1 :: p0 :: .ref a :: st) o ↔ (ji_rcb M 3 (.ref a) = true ∧ ji_ok8 st) ∧ ji_xC (C 74 [.ref a, p0, p1, p2] M) C 91 7 lv st o := s91_4
theorem q91_14 : ji_Ev C 91 14 M lv (p1 :: p0 :: .ref a :: st) o ↔ (ji_rcb M 2 (.ref a) = true ∧ ji_ok8 st) ∧ ji_xC (C 49 [.ref a, p0, p1] M) C 91 17 lv st o := s91_14
theorem q91_17 : ji_Ev C 91 17 M lv (p1 :: p0 :: st) o ↔ ji_ok8 st ∧ ji_xC (C 90 [p0, p1] M) C 91 20 lv st o := s91_17
theorem q92_4 : ji_Ev C 92 4 M lv (p2 :: p1 :: p0 :: st) o ↔ ji_ok8 st ∧ ji_xC (C 43 [p0, p1, p2] M) C 92 7 lv st o := s92_4
theorem q92_22 : ji_Ev C 92 22 M lv (p1 :: p0 :: .ref a :: st) o ↔ (ji_rcb M 6 (.ref a) = true ∧ ji_ok8 st) ∧ ji_xC (C 93 [.ref a, p0, p1] M) C 92 25 lv st o := s92_22
theorem q93_37 : ji_Ev C 93 37 M lv (p0 :: .ref a :: st) o ↔ (ji_rcb M 6 (.ref a) = true ∧ ji_ok8 st) ∧ ji_xC (C 17 [.ref a, p0] M) C 93 40 lv st o := s93_37
theorem q93_40 : ji_Ev C 93 40 M lv st o ↔ ji_xNC (lv.getD 4 none) 4 1 C 93 43 M lv st o := s93_40
theorem q94_4 : ji_Ev C 94 4 M lv (.ref a :: st) o ↔ (ji_rcb M 3 (.ref a) = true ∧ ji_ok8 st) ∧ ji_xC (C 18 [.ref a] M) C 94 7 lv st o := s94_4
theorem q95_5 : ji_Ev C 95 5 M lv (p0 :: .ref a :: st) o ↔ (ji_rcb M 3 (.ref a) = true ∧ ji_ok8 st) ∧ ji_xC (C 75 [.ref a, p0] M) C 95 8 lv st o := s95_5
theorem q95_16 : ji_Ev C 95 16 M lv (p0 :: .ref a :: st) o ↔ (ji_rcb M 3 (.ref a) = true ∧ ji_ok8 st) ∧ ji_xC (C 96 [.ref a, p0] M) C 95 19 lv st o := s95_16
theorem q97_8 : ji_Ev C 97 8 M lv (p0 :: .ref a :: st) o ↔ (ji_rcb M 2 (.ref a) = true ∧ ji_ok8 st) ∧ ji_xC (C 65 [.ref a, p0] M) C 97 11 lv st o := s97_8
theorem q97_17 : ji_Ev C 97 17 M lv (p2 :: p1 :: p0 :: st) o ↔ ji_ok8 st ∧ ji_xC (C 43 [p0, p1, p2] M) C 97 20 lv st o := s97_17
theorem q97_37 : ji_Ev C 97 37 M lv (p2 :: p1 :: p0 :: .ref a :: st) o ↔ (ji_rcb M 3 (.ref a) = true ∧ ji_ok8 st) ∧ ji_xC (C 74 [.ref a, p0, p1, p2] M) C 97 40 lv st o := s97_37
theorem q98_3 : ji_Ev C 98 3 M lv (p2 :: p1 :: p0 :: st) o ↔ ji_ok8 st ∧ ji_xC (C 43 [p0, p1, p2] M) C 98 6 lv st o := s98_3
theorem q98_12 : ji_Ev C 98 12 M lv (p2 :: p1 :: p0 :: st) o ↔ ji_ok8 st ∧ ji_xC (C 43 [p0, p1, p2] M) C 98 15 lv st o := s98_12
theorem q98_21 : ji_Ev C 98 21 M lv (p2 :: p1 :: p0 :: st) o ↔ ji_ok8 st ∧ ji_xC (C 43 [p0, p1, p2] M) C 98 24 lv st o := s98_21
theorem q98_34 : ji_Ev C 98 34 M lv (.ref a :: st) o ↔ (ji_rcb M 2 (.ref a) = true ∧ ji_ok8 st) ∧ ji_xC (C 61 [.ref a] M) C 98 37 lv st o := s98_34
theorem q98_59 : ji_Ev C 98 59 M lv (p3 :: p2 :: p1 :: p0 :: .ref a :: st) o ↔ (ji_rcb M 2 (.ref a) = true ∧ ji_ok8 st) ∧ ji_xC (C 63 [.ref a, p0, p1, p2, p3] M) C 98 62 lv st o := s98_59
theorem q99_3 : ji_Ev C 99 3 M lv (p2 :: p1 :: p0 :: st) o ↔ ji_ok8 st ∧ ji_xC (C 43 [p0, p1, p2] M) C 99 6 lv st o := s99_3
theorem q99_12 : ji_Ev C 99 12 M lv (p2 :: p1 :: p0 :: st) o ↔ ji_ok8 st ∧ ji_xC (C 43 [p0, p1, p2] M) C 99 15 lv st o := s99_12
theorem q99_27 : ji_Ev C 99 27 M lv (p2 :: p1 :: p0 :: st) o ↔ ji_ok8 st ∧ ji_xC (C 43 [p0, p1, p2] M) C 99 30 lv st o := s99_27
theorem q99_40 : ji_Ev C 99 40 M lv (p2 :: p1 :: p0 :: .ref a :: st) o ↔ (ji_rcb M 8 (.ref a) = true ∧ ji_ok8 st) ∧ ji_xC (C 80 [.ref a, p0, p1, p2] M) C 99 43 lv st o := s99_40
theorem q100_1 : ji_Ev C 100 1 M lv (p0 :: st) o ↔ ji_ok8 st ∧ ji_xC (C 101 [p0] M) C 100 4 lv st o := s100_1
theorem q100_14 : ji_Ev C 100 14 M lv (.ref a :: st) o ↔ (ji_rcb M 2 (.ref a) = true ∧ ji_ok8 st) ∧ ji_xC (C 47 [.ref a] M) C 100 17 lv st o := s100_14
theorem q100_17 : ji_Ev C 100 17 M lv (p1 :: p0 :: st) o ↔ ji_ok8 st ∧ ji_xC (C 102 [p0, p1] M) C 100 20 lv st o := s100_17
theorem q100_33 : ji_Ev C 100 33 M lv (p2 :: p1 :: p0 :: st) o ↔ ji_ok8 st ∧ ji_xC (C 43 [p0, p1, p2] M) C 100 36 lv st o := s100_33
theorem q100_69 : ji_Ev C 100 69 M lv (p2 :: p1 :: p0 :: st) o ↔ ji_ok8 st ∧ ji_xC (C 43 [p0, p1, p2] M) C 100 72 lv st o := s100_69
theorem q100_91 : ji_Ev C 100 91 M lv (p3 :: p2 :: p1 :: p0 :: .ref a :: st) o ↔ (ji_rcb M 1 (.ref a) = true ∧ ji_ok8 st) ∧ ji_xC (C 103 [.ref a, p0, p1, p2, p3] M) C 100 94 lv st o := s100_91
theorem q100_103 : ji_Ev C 100 103 M lv (.ref a :: st) o ↔ (ji_rcb M 1 (.ref a) = true ∧ ji_ok8 st) ∧ ji_xC (C 109 [.ref a] M) C 100 106 lv st o := s100_103
theorem q100_114 : ji_Ev C 100 114 M lv (p0 :: .ref a :: st) o ↔ (ji_rcb M 1 (.ref a) = true ∧ ji_ok8 st) ∧ ji_xC (C 110 [.ref a, p0] M) C 100 117 lv st o := s100_114
theorem q103_23 : ji_Ev C 103 23 M lv (.int x :: .ref a :: st) o ↔ ji_xQL (ji_kd M a) C 103 24 M lv st o x a := s103_23
theorem q103_25 : ji_Ev C 103 25 M lv (p0 :: .ref a :: st) o ↔ (ji_rcb M 5 (.ref a) = true ∧ ji_ok8 st) ∧ ji_xC (C 104 [.ref a, p0] M) C 103 28 lv st o := s103_25
theorem q103_31 : ji_Ev C 103 31 M lv (p2 :: p1 :: p0 :: st) o ↔ ji_ok8 st ∧ ji_xC (C 106 [p0, p1, p2] M) C 103 34 lv st o := s103_31
theorem q104_8 : ji_Ev C 104 8 M lv (p0 :: .ref a :: st) o ↔ (ji_rcb M 2 (.ref a) = true ∧ ji_ok8 st) ∧ ji_xC (C 105 [.ref a, p0] M) C 104 11 lv st o := s104_8
theorem q105_4 : ji_Ev C 105 4 M lv (.ref a :: st) o ↔ ji_xAN (ji_kd M a) C 105 5 M lv st o := s105_4
theorem q105_9 : ji_Ev C 105 9 M lv (.ref a :: st) o ↔ ji_xAN (ji_kd M a) C 105 10 M lv st o := s105_9
theorem q105_27 : ji_Ev C 105 27 M lv (.ref a :: st) o ↔ ji_xAN (ji_kd M a) C 105 28 M lv st o := s105_27
theorem q105_28 : ji_Ev C 105 28 M lv (.int z :: .int y :: .ref b :: .int x :: .ref a :: st) o ↔ ji_xCP (ji_kd M a) (ji_kd M b) C 105 31 M lv st o x y z a b := s105_28
theorem q106_19 : ji_Ev C 106 19 M lv (.int x :: .ref a :: st) o ↔ ji_xQL (ji_kd M a) C 106 20 M lv st o x a := s106_19
theorem q106_20 : ji_Ev C 106 20 M lv (p0 :: .ref a :: st) o ↔ (ji_rcb M 3 (.ref a) = true ∧ ji_ok8 st) ∧ ji_xC (C 89 [.ref a, p0] M) C 106 23 lv st o := s106_20
theorem q106_23 : ji_Ev C 106 23 M lv (p0 :: .ref a :: st) o ↔ (ji_rcb M 1 (.ref a) = true ∧ ji_ok8 st) ∧ ji_xC (C 107 [.ref a, p0] M) C 106 26 lv st o := s106_23
theorem q106_32 : ji_Ev C 106 32 M lv (.int x :: .ref a :: st) o ↔ ji_xQL (ji_kd M a) C 106 33 M lv st o x a := s106_32
theorem q106_41 : ji_Ev C 106 41 M lv (.int x :: .ref a :: st) o ↔ ji_xQL (ji_kd M a) C 106 42 M lv st o x a := s106_41
theorem q106_53 : ji_Ev C 106 53 M lv (.ref a :: st) o ↔ (ji_rcb M 2 (.ref a) = true ∧ ji_ok8 st) ∧ ji_xC (C 47 [.ref a] M) C 106 56 lv st o := s106_53
theorem q106_72 : ji_Ev C 106 72 M lv (p0 :: .ref a :: st) o ↔ (ji_rcb M 5 (.ref a) = true ∧ ji_ok8 st) ∧ ji_xC (C 104 [.ref a, p0] M) C 106 75 lv st o := s106_72
theorem q106_79 : ji_Ev C 106 79 M lv (p0 :: .ref a :: st) o ↔ (ji_rcb M 5 (.ref a) = true ∧ ji_ok8 st) ∧ ji_xC (C 108 [.ref a, p0] M) C 106 82 lv st o := s106_79
theorem q106_88 : ji_Ev C 106 88 M lv (p0 :: .ref a :: st) o ↔ (ji_rcb M 5 (.ref a) = true ∧ ji_ok8 st) ∧ ji_xC (C 46 [.ref a, p0] M) C 106 91 lv st o := s106_88
theorem q106_98 : ji_Ev C 106 98 M lv (.int y :: .int x :: .ref a :: st) o ↔ ji_xIS (ji_kd M a) C 106 99 M lv st o y x a := s106_98
theorem q106_111 : ji_Ev C 106 111 M lv (p2 :: p1 :: p0 :: st) o ↔ ji_ok8 st ∧ ji_xC (C 106 [p0, p1, p2] M) C 106 114 lv st o := s106_111
theorem q106_114 : ji_Ev C 106 114 M lv st o ↔ ji_xNC (lv.getD 5 none) 5 1 C 106 117 M lv st o := s106_114
theorem q107_25 : ji_Ev C 107 25 M lv (.int z :: .int y :: .ref b :: .int x :: .ref a :: st) o ↔ ji_xCP (ji_kd M a) (ji_kd M b) C 107 28 M lv st o x y z a b := s107_25
theorem q108_2 : ji_Ev C 108 2 M lv (p0 :: .ref a :: st) o ↔ (ji_rcb M 5 (.ref a) = true ∧ ji_ok8 st) ∧ ji_xC (C 50 [.ref a, p0] M) C 108 5 lv st o := s108_2
theorem q108_6 : ji_Ev C 108 6 M lv (p1 :: p0 :: st) o ↔ ji_ok8 st ∧ ji_xC (C 72 [p0, p1] M) C 108 9 lv st o := s108_6
theorem q108_15 : ji_Ev C 108 15 M lv (p1 :: p0 :: .ref a :: st) o ↔ (ji_rcb M 5 (.ref a) = true ∧ ji_ok8 st) ∧ ji_xC (C 81 [.ref a, p0, p1] M) C 108 18 lv st o := s108_15
theorem q108_28 : ji_Ev C 108 28 M lv (p2 :: p1 :: p0 :: .ref a :: st) o ↔ (ji_rcb M 5 (.ref a) = true ∧ ji_ok8 st) ∧ ji_xC (C 58 [.ref a, p0, p1, p2] M) C 108 31 lv st o := s108_28
theorem q110_14 : ji_Ev C 110 14 M lv (.int x :: .ref a :: st) o ↔ ji_xIL (ji_kd M a) C 110 15 M lv st o x a := s110_14
theorem q111_4 : ji_Ev C 111 4 M lv (p2 :: p1 :: p0 :: st) o ↔ ji_ok8 st ∧ ji_xC (C 43 [p0, p1, p2] M) C 111 7 lv st o := s111_4
theorem q111_14 : ji_Ev C 111 14 M lv (p2 :: p1 :: p0 :: st) o ↔ ji_ok8 st ∧ ji_xC (C 43 [p0, p1, p2] M) C 111 17 lv st o := s111_14
theorem q111_27 : ji_Ev C 111 27 M lv (.ref a :: st) o ↔ (ji_rcb M 2 (.ref a) = true ∧ ji_ok8 st) ∧ ji_xC (C 61 [.ref a] M) C 111 30 lv st o := s111_27
theorem q111_52 : ji_Ev C 111 52 M lv (p3 :: p2 :: p1 :: p0 :: .ref a :: st) o ↔ (ji_rcb M 2 (.ref a) = true ∧ ji_ok8 st) ∧ ji_xC (C 63 [.ref a, p0, p1, p2, p3] M) C 111 55 lv st o := s111_52
theorem q112_5 : ji_Ev C 112 5 M lv (.ref a :: st) o ↔ (ji_rcb M 2 (.ref a) = true ∧ ji_ok8 st) ∧ ji_xC (C 47 [.ref a] M) C 112 8 lv st o := s112_5
theorem q112_8 : ji_Ev C 112 8 M lv (p1 :: p0 :: st) o ↔ ji_ok8 st ∧ ji_xC (C 102 [p0, p1] M) C 112 11 lv st o := s112_8
theorem q112_26 : ji_Ev C 112 26 M lv (.ref a :: st) o ↔ (ji_rcb M 2 (.ref a) = true ∧ ji_ok8 st) ∧ ji_xC (C 47 [.ref a] M) C 112 29 lv st o := s112_26
theorem q112_44 : ji_Ev C 112 44 M lv (p0 :: .ref a :: st) o ↔ (ji_rcb M 8 (.ref a) = true ∧ ji_ok8 st) ∧ ji_xC (C 113 [.ref a, p0] M) C 112 47 lv st o := s112_44
theorem q112_49 : ji_Ev C 112 49 M lv st o ↔ ji_xNC (lv.getD 3 none) 3 1 C 112 52 M lv st o := s112_49
theorem q113_13 : ji_Ev C 113 13 M lv (p1 :: p0 :: .ref a :: st) o ↔ (ji_rcb M 2 (.ref a) = true ∧ ji_ok8 st) ∧ ji_xC (C 49 [.ref a, p0, p1] M) C 113 16 lv st o := s113_13
theorem q113_30 : ji_Ev C 113 30 M lv (p1 :: p0 :: .ref a :: st) o ↔ (ji_rcb M 2 (.ref a) = true ∧ ji_ok8 st) ∧ ji_xC (C 49 [.ref a, p0, p1] M) C 113 33 lv st o := s113_30
theorem q113_39 : ji_Ev C 113 39 M lv (p1 :: p0 :: .ref a :: st) o ↔ (ji_rcb M 2 (.ref a) = true ∧ ji_ok8 st) ∧ ji_xC (C 49 [.ref a, p0, p1] M) C 113 42 lv st o := s113_39
theorem q114_5 : ji_Ev C 114 5 M lv (p2 :: p1 :: p0 :: st) o ↔ ji_ok8 st ∧ ji_xC (C 43 [p0, p1, p2] M) C 114 8 lv st o := s114_5
theorem q114_18 : ji_Ev C 114 18 M lv (.ref a :: st) o ↔ (ji_rcb M 2 (.ref a) = true ∧ ji_ok8 st) ∧ ji_xC (C 61 [.ref a] M) C 114 21 lv st o := s114_18
theorem q114_37 : ji_Ev C 114 37 M lv (p3 :: p2 :: p1 :: p0 :: .ref a :: st) o ↔ (ji_rcb M 2 (.ref a) = true ∧ ji_ok8 st) ∧ ji_xC (C 63 [.ref a, p0, p1, p2, p3] M) C 114 40 lv st o := s114_37
theorem q115_8 : ji_Ev C 115 8 M lv (p0 :: .ref a :: st) o ↔ (ji_rcb M 2 (.ref a) = true ∧ ji_ok8 st) ∧ ji_xC (C 65 [.ref a, p0] M) C 115 11 lv st o := s115_8
theorem q115_19 : ji_Ev C 115 19 M lv (p2 :: p1 :: p0 :: st) o ↔ ji_ok8 st ∧ ji_xC (C 43 [p0, p1, p2] M) C 115 22 lv st o := s115_19
theorem q115_32 : ji_Ev C 115 32 M lv (.ref a :: st) o ↔ (ji_rcb M 2 (.ref a) = true ∧ ji_ok8 st) ∧ ji_xC (C 61 [.ref a] M) C 115 35 lv st o := s115_32
theorem q115_51 : ji_Ev C 115 51 M lv (p3 :: p2 :: p1 :: p0 :: .ref a :: st) o ↔ (ji_rcb M 2 (.ref a) = true ∧ ji_ok8 st) ∧ ji_xC (C 63 [.ref a, p0, p1, p2, p3] M) C 115 54 lv st o := s115_51
theorem q116_5 : ji_Ev C 116 5 M lv (p0 :: .ref a :: st) o ↔ (ji_rcb M 2 (.ref a) = true ∧ ji_ok8 st) ∧ ji_xC (C 65 [.ref a, p0] M) C 116 8 lv st o := s116_5
theorem q116_16 : ji_Ev C 116 16 M lv (p0 :: .ref a :: st) o ↔ (ji_rcb M 2 (.ref a) = true ∧ ji_ok8 st) ∧ ji_xC (C 65 [.ref a, p0] M) C 116 19 lv st o := s116_16
theorem q116_31 : ji_Ev C 116 31 M lv (p1 :: p0 :: .ref a :: st) o ↔ (ji_rcb M 2 (.ref a) = true ∧ ji_ok8 st) ∧ ji_xC (C 49 [.ref a, p0, p1] M) C 116 34 lv st o := s116_31
theorem q116_40 : ji_Ev C 116 40 M lv (p1 :: p0 :: .ref a :: st) o ↔ (ji_rcb M 2 (.ref a) = true ∧ ji_ok8 st) ∧ ji_xC (C 49 [.ref a, p0, p1] M) C 116 43 lv st o := s116_40
theorem q116_43 : ji_Ev C 116 43 M lv (p1 :: p0 :: st) o ↔ ji_ok8 st ∧ ji_xC (C 117 [p0, p1] M) C 116 46 lv st o := s116_43
theorem q117_38 : ji_Ev C 117 38 M lv st o ↔ ji_xNC (lv.getD 4 none) 4 1 C 117 41 M lv st o := s117_38
theorem q117_68 : ji_Ev C 117 68 M lv st o ↔ ji_xNC (lv.getD 5 none) 5 1 C 117 71 M lv st o := s117_68
theorem q118_10 : ji_Ev C 118 10 M lv (p0 :: .ref a :: st) o ↔ (ji_rcb M 2 (.ref a) = true ∧ ji_ok8 st) ∧ ji_xC (C 65 [.ref a, p0] M) C 118 13 lv st o := s118_10
theorem q118_31 : ji_Ev C 118 31 M lv (p1 :: p0 :: .ref a :: st) o ↔ (ji_rcb M 0 (.ref a) = true ∧ ji_ok8 st) ∧ ji_xC (C 119 [.ref a, p0, p1] M) C 118 34 lv st o := s118_31
theorem q118_43 : ji_Ev C 118 43 M lv (.ref a :: st) o ↔ (ji_rcb M 0 (.ref a) = true ∧ ji_ok8 st) ∧ ji_xC (C 124 [.ref a] M) C 118 46 lv st o := s118_43
theorem q118_54 : ji_Ev C 118 54 M lv (p0 :: .ref a :: st) o ↔ (ji_rcb M 0 (.ref a) = true ∧ ji_ok8 st) ∧ ji_xC (C 125 [.ref a, p0] M) C 118 57 lv st o := s118_54
theorem q119_3 : ji_Ev C 119 3 M lv (.ref a :: st) o ↔ (ji_rcb M 2 (.ref a) = true ∧ ji_ok8 st) ∧ ji_xC (C 47 [.ref a] M) C 119 6 lv st o := s119_3
theorem q119_14 : ji_Ev C 119 14 M lv (.ref a :: st) o ↔ (ji_rcb M 2 (.ref a) = true ∧ ji_ok8 st) ∧ ji_xC (C 47 [.ref a] M) C 119 17 lv st o := s119_14
theorem q119_28 : ji_Ev C 119 28 M lv (.int x :: .ref a :: st) o ↔ ji_xQL (ji_kd M a) C 119 29 M lv st o x a := s119_28
theorem q119_30 : ji_Ev C 119 30 M lv (p1 :: p0 :: st) o ↔ ji_ok8 st ∧ ji_xC (C 120 [p0, p1] M) C 119 33 lv st o := s119_30
theorem q119_61 : ji_Ev C 119 61 M lv (.int x :: .ref a :: st) o ↔ ji_xQL (ji_kd M a) C 119 62 M lv st o x a := s119_61
theorem q119_68 : ji_Ev C 119 68 M lv (p1 :: p0 :: .ref a :: st) o ↔ (ji_rcb M 2 (.ref a) = true ∧ ji_ok8 st) ∧ ji_xC (C 49 [.ref a, p0, p1] M) C 119 71 lv st o := s119_68
theorem q119_75 : ji_Ev C 119 75 M lv (p1 :: p0 :: .ref a :: st) o ↔ (ji_rcb M 2 (.ref a) = true ∧ ji_ok8 st) ∧ ji_xC (C 49 [.ref a, p0, p1] M) C 119 78 lv st o := s119_75
theorem q119_78 : ji_Ev C 119 78 M lv (p1 :: p0 :: st) o ↔ ji_ok8 st ∧ ji_xC (C 117 [p0, p1] M) C 119 81 lv st o := s119_78
theorem q119_81 : ji_Ev C 119 81 M lv (.int y :: .int x :: .ref a :: st) o ↔ ji_xIS (ji_kd M a) C 119 82 M lv st o y x a := s119_81
theorem q119_82 : ji_Ev C 119 82 M lv st o ↔ ji_xNC (lv.getD 5 none) 5 1 C 119 85 M lv st o := s119_82
theorem q119_104 : ji_Ev C 119 104 M lv (.int x :: .ref a :: st) o ↔ ji_xQL (ji_kd M a) C 119 105 M lv st o x a := s119_104
theorem q119_112 : ji_Ev C 119 112 M lv (p1 :: p0 :: .ref a :: st) o ↔ (ji_rcb M 0 (.ref a) = true ∧ ji_ok8 st) ∧ ji_xC (C 121 [.ref a, p0, p1] M) C 119 115 lv st o := s119_112
theorem q119_115 : ji_Ev C 119 115 M lv (.int y :: .int x :: .ref a :: st) o ↔ ji_xIS (ji_kd M a) C 119 116 M lv st o y x a := s119_115
theorem q119_116 : ji_Ev C 119 116 M lv st o ↔ ji_xNC (lv.getD 5 none) 5 1 C 119 119 M lv st o := s119_116
theorem q119_122 : ji_Ev C 119 122 M lv st o ↔ ji_xNC (lv.getD 4 none) 4 (-1) C 119 125 M lv st o := s119_122
theorem q120_3 : ji_Ev C 120 3 M lv (.ref a :: st) o ↔ ji_xAN (ji_kd M a) C 120 4 M lv st o := s120_3
theorem q120_13 : ji_Ev C 120 13 M lv (.int y :: .int x :: .ref a :: st) o ↔ ji_xIS (ji_kd M a) C 120 14 M lv st o y x a := s120_13
theorem q120_14 : ji_Ev C 120 14 M lv st o ↔ ji_xNC (lv.getD 2 none) 2 1 C 120 17 M lv st o := s120_14
theorem q121_7 : ji_Ev C 121 7 M lv (.int x :: .ref a :: st) o ↔ ji_xQL (ji_kd M a) C 121 8 M lv st o x a := s121_7
theorem q121_9 : ji_Ev C 121 9 M lv (.int x :: .ref a :: st) o ↔ ji_xIL (ji_kd M a) C 121 10 M lv st o x a := s121_9
theorem q121_28 : ji_Ev C 121 28 M lv (p2 :: p1 :: p0 :: .ref a :: st) o ↔ (ji_rcb M 0 (.ref a) = true ∧ ji_ok8 st) ∧ ji_xC (C 122 [.ref a, p0, p1, p2] M) C 121 31 lv st o := s121_28
theorem q121_40 : ji_Ev C 121 40 M lv (p2 :: p1 :: p0 :: .ref a :: st) o ↔ (ji_rcb M 0 (.ref a) = true ∧ ji_ok8 st) ∧ ji_xC (C 123 [.ref a, p0, p1, p2] M) C 121 43 lv st o := s121_40
theorem q121_47 : ji_Ev C 121 47 M lv st o ↔ ji_xNC (lv.getD 4 none) 4 1 C 121 50 M lv st o := s121_47
theorem q122_13 : ji_Ev C 122 13 M lv (.int x :: .ref a :: st) o ↔ ji_xQL (ji_kd M a) C 122 14 M lv st o x a := s122_13
theorem q122_15 : ji_Ev C 122 15 M lv (.int x :: .ref a :: st) o ↔ ji_xIL (ji_kd M a) C 122 16 M lv st o x a := s122_15
theorem q123_5 : ji_Ev C 123 5 M lv (.int x :: .ref a :: st) o ↔ ji_xQL (ji_kd M a) C 123 6 M lv st o x a := s123_5
theorem q123_7 : ji_Ev C 123 7 M lv (.int x :: .ref a :: st) o ↔ ji_xIL (ji_kd M a) C 123 8 M lv st o x a := s123_7
theorem q123_15 : ji_Ev C 123 15 M lv (.int x :: .ref a :: st) o ↔ ji_xQL (ji_kd M a) C 123 16 M lv st o x a := s123_15
theorem q123_21 : ji_Ev C 123 21 M lv (.int x :: .ref a :: st) o ↔ ji_xIL (ji_kd M a) C 123 22 M lv st o x a := s123_21
theorem q124_5 : ji_Ev C 124 5 M lv (.int x :: .ref a :: st) o ↔ ji_xQL (ji_kd M a) C 124 6 M lv st o x a := s124_5
theorem q124_7 : ji_Ev C 124 7 M lv (.int x :: .ref a :: st) o ↔ ji_xIL (ji_kd M a) C 124 8 M lv st o x a := s124_7
theorem q125_24 : ji_Ev C 125 24 M lv (p1 :: p0 :: .ref a :: st) o ↔ (ji_rcb M 0 (.ref a) = true ∧ ji_ok8 st) ∧ ji_xC (C 126 [.ref a, p0, p1] M) C 125 27 lv st o := s125_24
theorem q125_43 : ji_Ev C 125 43 M lv st o ↔ ji_xNC (lv.getD 4 none) 4 1 C 125 46 M lv st o := s125_43
theorem q126_14 : ji_Ev C 126 14 M lv (p2 :: p1 :: p0 :: .ref a :: st) o ↔ (ji_rcb M 0 (.ref a) = true ∧ ji_ok8 st) ∧ ji_xC (C 122 [.ref a, p0, p1, p2] M) C 126 17 lv st o := s126_14
theorem q126_24 : ji_Ev C 126 24 M lv (p2 :: p1 :: p0 :: .ref a :: st) o ↔ (ji_rcb M 0 (.ref a) = true ∧ ji_ok8 st) ∧ ji_xC (C 123 [.ref a, p0, p1, p2] M) C 126 27 lv st o := s126_24
theorem q126_32 : ji_Ev C 126 32 M lv (.int x :: .ref a :: st) o ↔ ji_xQL (ji_kd M a) C 126 33 M lv st o x a := s126_32
theorem q126_34 : ji_Ev C 126 34 M lv (.int x :: .ref a :: st) o ↔ ji_xIL (ji_kd M a) C 126 35 M lv st o x a := s126_34
theorem q126_40 : ji_Ev C 126 40 M lv st o ↔ ji_xNC (lv.getD 3 none) 3 1 C 126 43 M lv st o := s126_40
theorem q127_3 : ji_Ev C 127 3 M lv (p2 :: p1 :: p0 :: st) o ↔ ji_ok8 st ∧ ji_xC (C 43 [p0, p1, p2] M) C 127 6 lv st o := s127_3
theorem q127_14 : ji_Ev C 127 14 M lv (p2 :: p1 :: p0 :: st) o ↔ ji_ok8 st ∧ ji_xC (C 43 [p0, p1, p2] M) C 127 17 lv st o := s127_14
theorem q127_25 : ji_Ev C 127 25 M lv (p2 :: p1 :: p0 :: st) o ↔ ji_ok8 st ∧ ji_xC (C 43 [p0, p1, p2] M) C 127 28 lv st o := s127_25
theorem q127_38 : ji_Ev C 127 38 M lv (.ref a :: st) o ↔ (ji_rcb M 2 (.ref a) = true ∧ ji_ok8 st) ∧ ji_xC (C 61 [.ref a] M) C 127 41 lv st o := s127_38
theorem q127_63 : ji_Ev C 127 63 M lv (p3 :: p2 :: p1 :: p0 :: .ref a :: st) o ↔ (ji_rcb M 2 (.ref a) = true ∧ ji_ok8 st) ∧ ji_xC (C 63 [.ref a, p0, p1, p2, p3] M) C 127 66 lv st o := s127_63
theorem q128_3 : ji_Ev C 128 3 M lv (p2 :: p1 :: p0 :: st) o ↔ ji_ok8 st ∧ ji_xC (C 43 [p0, p1, p2] M) C 128 6 lv st o := s128_3
theorem q128_18 : ji_Ev C 128 18 M lv (p2 :: p1 :: p0 :: st) o ↔ ji_ok8 st ∧ ji_xC (C 43 [p0, p1, p2] M) C 128 21 lv st o := s128_18
theorem q128_27 : ji_Ev C 128 27 M lv (p2 :: p1 :: p0 :: st) o ↔ ji_ok8 st ∧ ji_xC (C 43 [p0, p1, p2] M) C 128 30 lv st o := s128_27
theorem q128_53 : ji_Ev C 128 53 M lv (.ref a :: st) o ↔ (ji_rcb M 2 (.ref a) = true ∧ ji_ok8 st) ∧ ji_xC (C 47 [.ref a] M) C 128 56 lv st o := s128_53
theorem q128_66 : ji_Ev C 128 66 M lv (p1 :: p0 :: .ref a :: st) o ↔ (ji_rcb M 2 (.ref a) = true ∧ ji_ok8 st) ∧ ji_xC (C 49 [.ref a, p0, p1] M) C 128 69 lv st o := s128_66
theorem q128_80 : ji_Ev C 128 80 M lv (p1 :: p0 :: .ref a :: st) o ↔ (ji_rcb M 2 (.ref a) = true ∧ ji_ok8 st) ∧ ji_xC (C 49 [.ref a, p0, p1] M) C 128 83 lv st o := s128_80
theorem q128_96 : ji_Ev C 128 96 M lv (p1 :: p0 :: .ref a :: st) o ↔ (ji_rcb M 2 (.ref a) = true ∧ ji_ok8 st) ∧ ji_xC (C 49 [.ref a, p0, p1] M) C 128 99 lv st o := s128_96
theorem q128_113 : ji_Ev C 128 113 M lv (p1 :: p0 :: .ref a :: st) o ↔ (ji_rcb M 2 (.ref a) = true ∧ ji_ok8 st) ∧ ji_xC (C 49 [.ref a, p0, p1] M) C 128 116 lv st o := s128_113
theorem q128_121 : ji_Ev C 128 121 M lv st o ↔ ji_xNC (lv.getD 6 none) 6 1 C 128 124 M lv st o := s128_121
theorem q128_170 : ji_Ev C 128 170 M lv (p0 :: .ref a :: st) o ↔ (ji_rcb M 5 (.ref a) = true ∧ ji_ok8 st) ∧ ji_xC (C 129 [.ref a, p0] M) C 128 173 lv st o := s128_170
theorem q129_9 : ji_Ev C 129 9 M lv (.ref a :: st) o ↔ (ji_rcb M 2 (.ref a) = true ∧ ji_ok8 st) ∧ ji_xC (C 47 [.ref a] M) C 129 12 lv st o := s129_9
theorem q129_22 : ji_Ev C 129 22 M lv (p1 :: p0 :: .ref a :: st) o ↔ (ji_rcb M 2 (.ref a) = true ∧ ji_ok8 st) ∧ ji_xC (C 49 [.ref a, p0, p1] M) C 129 25 lv st o := s129_22
theorem q129_36 : ji_Ev C 129 36 M lv st o ↔ ji_xNC (lv.getD 3 none) 3 1 C 129 39 M lv st o := s129_36
theorem q130_5 : ji_Ev C 130 5 M lv (p2 :: p1 :: p0 :: st) o ↔ ji_ok8 st ∧ ji_xC (C 43 [p0, p1, p2] M) C 130 8 lv st o := s130_5
theorem q130_14 : ji_Ev C 130 14 M lv (p2 :: p1 :: p0 :: st) o ↔ ji_ok8 st ∧ ji_xC (C 43 [p0, p1, p2] M) C 130 17 lv st o := s130_14
theorem q130_27 : ji_Ev C 130 27 M lv (.ref a :: st) o ↔ (ji_rcb M 2 (.ref a) = true ∧ ji_ok8 st) ∧ ji_xC (C 61 [.ref a] M) C 130 30 lv st o := s130_27
theorem q130_46 : ji_Ev C 130 46 M lv (p3 :: p2 :: p1 :: p0 :: .ref a :: st) o ↔ (ji_rcb M 2 (.ref a) = true ∧ ji_ok8 st) ∧ ji_xC (C 63 [.ref a, p0, p1, p2, p3] M) C 130 49 lv st o := s130_46
theorem q131_4 : ji_Ev C 131 4 M lv (p2 :: p1 :: p0 :: st) o ↔ ji_ok8 st ∧ ji_xC (C 43 [p0, p1, p2] M) C 131 7 lv st o := s131_4
theorem q131_35 : ji_Ev C 131 35 M lv (p2 :: p1 :: p0 :: st) o ↔ ji_ok8 st ∧ ji_xC (C 43 [p0, p1, p2] M) C 131 38 lv st o := s131_35
theorem q131_62 : ji_Ev C 131 62 M lv (p2 :: p1 :: p0 :: st) o ↔ ji_ok8 st ∧ ji_xC (C 43 [p0, p1, p2] M) C 131 65 lv st o := s131_62
theorem q131_85 : ji_Ev C 131 85 M lv (.ref a :: st) o ↔ (ji_rcb M 2 (.ref a) = true ∧ ji_ok8 st) ∧ ji_xC (C 61 [.ref a] M) C 131 88 lv st o := s131_85
theorem q131_104 : ji_Ev C 131 104 M lv (p3 :: p2 :: p1 :: p0 :: .ref a :: st) o ↔ (ji_rcb M 2 (.ref a) = true ∧ ji_ok8 st) ∧ ji_xC (C 63 [.ref a, p0, p1, p2, p3] M) C 131 107 lv st o := s131_104
theorem q132_5 : ji_Ev C 132 5 M lv (p0 :: .ref a :: st) o ↔ (ji_rcb M 2 (.ref a) = true ∧ ji_ok8 st) ∧ ji_xC (C 65 [.ref a, p0] M) C 132 8 lv st o := s132_5
theorem q132_27 : ji_Ev C 132 27 M lv (.ref a :: st) o ↔ (ji_rcb M 2 (.ref a) = true ∧ ji_ok8 st) ∧ ji_xC (C 47 [.ref a] M) C 132 30 lv st o := s132_27
theorem q132_37 : ji_Ev C 132 37 M lv (p1 :: p0 :: .ref a :: st) o ↔ (ji_rcb M 8 (.ref a) = true ∧ ji_ok8 st) ∧ ji_xC (C 133 [.ref a, p0, p1] M) C 132 40 lv st o := s132_37
theorem q132_50 : ji_Ev C 132 50 M lv (p1 :: p0 :: .ref a :: st) o ↔ (ji_rcb M 2 (.ref a) = true ∧ ji_ok8 st) ∧ ji_xC (C 49 [.ref a, p0, p1] M) C 132 53 lv st o := s132_50
theorem q132_87 : ji_Ev C 132 87 M lv st o ↔ ji_xNC (lv.getD 4 none) 4 1 C 132 90 M lv st o := s132_87
theorem q133_6 : ji_Ev C 133 6 M lv (p1 :: p0 :: .ref a :: st) o ↔ (ji_rcb M 2 (.ref a) = true ∧ ji_ok8 st) ∧ ji_xC (C 49 [.ref a, p0, p1] M) C 133 9 lv st o := s133_6
theorem q133_16 : ji_Ev C 133 16 M lv (p1 :: p0 :: .ref a :: st) o ↔ (ji_rcb M 2 (.ref a) = true ∧ ji_ok8 st) ∧ ji_xC (C 49 [.ref a, p0, p1] M) C 133 19 lv st o := s133_16
theorem q133_27 : ji_Ev C 133 27 M lv (p1 :: p0 :: .ref a :: st) o ↔ (ji_rcb M 2 (.ref a) = true ∧ ji_ok8 st) ∧ ji_xC (C 49 [.ref a, p0, p1] M) C 133 30 lv st o := s133_27
theorem q133_36 : ji_Ev C 133 36 M lv (p1 :: p0 :: .ref a :: st) o ↔ (ji_rcb M 2 (.ref a) = true ∧ ji_ok8 st) ∧ ji_xC (C 49 [.ref a, p0, p1] M) C 133 39 lv st o := s133_36
theorem q134_5 : ji_Ev C 134 5 M lv (p2 :: p1 :: p0 :: st) o ↔ ji_ok8 st ∧ ji_xC (C 43 [p0, p1, p2] M) C 134 8 lv st o := s134_5
theorem q134_16 : ji_Ev C 134 16 M lv (p2 :: p1 :: p0 :: st) o ↔ ji_ok8 st ∧ ji_xC (C 43 [p0, p1, p2] M) C 134 19 lv st o := s134_16
theorem q134_29 : ji_Ev C 134 29 M lv (.ref a :: st) o ↔ (ji_rcb M 2 (.ref a) = true ∧ ji_ok8 st) ∧ ji_xC (C 61 [.ref a] M) C 134 32 lv st o := s134_29
theorem q134_48 : ji_Ev C 134 48 M lv (p3 :: p2 :: p1 :: p0 :: .ref a :: st) o ↔ (ji_rcb M 2 (.ref a) = true ∧ ji_ok8 st) ∧ ji_xC (C 63 [.ref a, p0, p1, p2, p3] M) C 134 51 lv st o := s134_48
theorem q135_3 : ji_Ev C 135 3 M lv (p2 :: p1 :: p0 :: st) o ↔ ji_ok8 st ∧ ji_xC (C 43 [p0, p1, p2] M) C 135 6 lv st o := s135_3
theorem q135_14 : ji_Ev C 135 14 M lv (p2 :: p1 :: p0 :: st) o ↔ ji_ok8 st ∧ ji_xC (C 43 [p0, p1, p2] M) C 135 17 lv st o := s135_14
theorem q135_30 : ji_Ev C 135 30 M lv (.ref a :: st) o ↔ (ji_rcb M 2 (.ref a) = true ∧ ji_ok8 st) ∧ ji_xC (C 47 [.ref a] M) C 135 33 lv st o := s135_30
theorem q135_35 : ji_Ev C 135 35 M lv (p2 :: p1 :: p0 :: st) o ↔ ji_ok8 st ∧ ji_xC (C 43 [p0, p1, p2] M) C 135 38 lv st o := s135_35
theorem q135_53 : ji_Ev C 135 53 M lv (p2 :: p1 :: p0 :: .ref a :: st) o ↔ (ji_rcb M 7 (.ref a) = true ∧ ji_ok8 st) ∧ ji_xC (C 136 [.ref a, p0, p1, p2] M) C 135 56 lv st o := s135_53
theorem q135_105 : ji_Ev C 135 105 M lv (p0 :: .ref a :: st) o ↔ (ji_rcb M 7 (.ref a) = true ∧ ji_ok8 st) ∧ ji_xC (C 140 [.ref a, p0] M) C 135 108 lv st o := s135_105
theorem q136_34 : ji_Ev C 136 34 M lv (p1 :: p0 :: st) o ↔ ji_ok8 st ∧ ji_xC (C 120 [p0, p1] M) C 136 37 lv st o := s136_34
theorem q136_41 : ji_Ev C 136 41 M lv (p3 :: p2 :: p1 :: p0 :: st) o ↔ ji_ok8 st ∧ ji_xC (C 137 [p0, p1, p2, p3] M) C 136 44 lv st o := s136_41
theorem q137_5 : ji_Ev C 137 5 M lv (.ref a :: st) o ↔ (ji_rcb M 2 (.ref a) = true ∧ ji_ok8 st) ∧ ji_xC (C 47 [.ref a] M) C 137 8 lv st o := s137_5
theorem q137_20 : ji_Ev C 137 20 M lv (p1 :: p0 :: .ref a :: st) o ↔ (ji_rcb M 7 (.ref a) = true ∧ ji_ok8 st) ∧ ji_xC (C 138 [.ref a, p0, p1] M) C 137 23 lv st o := s137_20
theorem q137_30 : ji_Ev C 137 30 M lv (p1 :: p0 :: .ref a :: st) o ↔ (ji_rcb M 2 (.ref a) = true ∧ ji_ok8 st) ∧ ji_xC (C 49 [.ref a, p0, p1] M) C 137 33 lv st o := s137_30
theorem q137_41 : ji_Ev C 137 41 M lv (p1 :: p0 :: .ref a :: st) o ↔ (ji_rcb M 2 (.ref a) = true ∧ ji_ok8 st) ∧ ji_xC (C 49 [.ref a, p0, p1] M) C 137 44 lv st o := s137_41
theorem q137_63 : ji_Ev C 137 63 M lv (p1 :: p0 :: .ref a :: st) o ↔ (ji_rcb M 7 (.ref a) = true ∧ ji_ok8 st) ∧ ji_xC (C 139 [.ref a, p0, p1] M) C 137 66 lv st o := s137_63
theorem q137_76 : ji_Ev C 137 76 M lv (.int x :: .ref a :: st) o ↔ ji_xIL (ji_kd M a) C 137 77 M lv st o x a := s137_76
theorem q137_80 : ji_Ev C 137 80 M lv (.int y :: .int x :: .ref a :: st) o ↔ ji_xIS (ji_kd M a) C 137 81 M lv st o y x a := s137_80
theorem q137_88 : ji_Ev C 137 88 M lv (.int y :: .int x :: .ref a :: st) o ↔ ji_xIS (ji_kd M a) C 137 89 M lv st o y x a := s137_88
theorem q137_109 : ji_Ev C 137 109 M lv (p3 :: p2 :: p1 :: p0 :: st) o ↔ ji_ok8 st ∧ ji_xC (C 137 [p0, p1, p2, p3] M) C 137 112 lv st o := s137_109
theorem q137_119 : ji_Ev C 137 119 M lv (.int x :: .ref a :: st) o ↔ ji_xIL (ji_kd M a) C 137 120 M lv st o x a := s137_119
theorem q137_123 : ji_Ev C 137 123 M lv (.int y :: .int x :: .ref a :: st) o ↔ ji_xIS (ji_kd M a) C 137 124 M lv st o y x a := s137_123
theorem q137_124 : ji_Ev C 137 124 M lv st o ↔ ji_xNC (lv.getD 6 none) 6 1 C 137 127 M lv st o := s137_124
theorem q137_136 : ji_Ev C 137 136 M lv (.int y :: .int x :: .ref a :: st) o ↔ ji_xIS (ji_kd M a) C 137 137 M lv st o y x a := s137_136
theorem q137_143 : ji_Ev C 137 143 M lv (p3 :: p2 :: p1 :: p0 :: st) o ↔ ji_ok8 st ∧ ji_xC (C 137 [p0, p1, p2, p3] M) C 137 146 lv st o := s137_143
theorem q138_46 : ji_Ev C 138 46 M lv (.int z :: .int y :: .ref b :: .int x :: .ref a :: st) o ↔ ji_xCP (ji_kd M a) (ji_kd M b) C 138 49 M lv st o x y z a b := s138_46
theorem q139_26 : ji_Ev C 139 26 M lv (.int x :: .ref a :: st) o ↔ ji_xIL (ji_kd M a) C 139 27 M lv st o x a := s139_26
theorem q139_42 : ji_Ev C 139 42 M lv st o ↔ ji_xNC (lv.getD 4 none) 4 1 C 139 45 M lv st o := s139_42
theorem q140_15 : ji_Ev C 140 15 M lv (.int x :: .ref a :: st) o ↔ ji_xIL (ji_kd M a) C 140 16 M lv st o x a := s140_15
theorem q141_91 : ji_Ev C 141 91 M lv (.ref a :: st) o ↔ (ji_rcb M 2 (.ref a) = true ∧ ji_ok8 st) ∧ ji_xC (C 47 [.ref a] M) C 141 94 lv st o := s141_91
theorem q141_126 : ji_Ev C 141 126 M lv (.ref a :: st) o ↔ (ji_rcb M 2 (.ref a) = true ∧ ji_ok8 st) ∧ ji_xC (C 47 [.ref a] M) C 141 129 lv st o := s141_126
theorem q141_134 : ji_Ev C 141 134 M lv (.ref a :: st) o ↔ (ji_rcb M 2 (.ref a) = true ∧ ji_ok8 st) ∧ ji_xC (C 47 [.ref a] M) C 141 137 lv st o := s141_134
theorem q141_142 : ji_Ev C 141 142 M lv (.ref a :: st) o ↔ (ji_rcb M 2 (.ref a) = true ∧ ji_ok8 st) ∧ ji_xC (C 47 [.ref a] M) C 141 145 lv st o := s141_142
theorem q141_150 : ji_Ev C 141 150 M lv (.ref a :: st) o ↔ (ji_rcb M 2 (.ref a) = true ∧ ji_ok8 st) ∧ ji_xC (C 47 [.ref a] M) C 141 153 lv st o := s141_150
theorem q141_158 : ji_Ev C 141 158 M lv (.ref a :: st) o ↔ (ji_rcb M 2 (.ref a) = true ∧ ji_ok8 st) ∧ ji_xC (C 47 [.ref a] M) C 141 161 lv st o := s141_158
theorem q141_166 : ji_Ev C 141 166 M lv (.ref a :: st) o ↔ (ji_rcb M 2 (.ref a) = true ∧ ji_ok8 st) ∧ ji_xC (C 47 [.ref a] M) C 141 169 lv st o := s141_166
theorem q141_174 : ji_Ev C 141 174 M lv (.ref a :: st) o ↔ (ji_rcb M 2 (.ref a) = true ∧ ji_ok8 st) ∧ ji_xC (C 47 [.ref a] M) C 141 177 lv st o := s141_174
theorem q141_182 : ji_Ev C 141 182 M lv (.ref a :: st) o ↔ (ji_rcb M 2 (.ref a) = true ∧ ji_ok8 st) ∧ ji_xC (C 47 [.ref a] M) C 141 185 lv st o := s141_182
theorem q141_192 : ji_Ev C 141 192 M lv (p1 :: p0 :: .ref a :: st) o ↔ (ji_rcb M 5 (.ref a) = true ∧ ji_ok8 st) ∧ ji_xC (C 82 [.ref a, p0, p1] M) C 141 195 lv st o := s141_192
theorem q141_202 : ji_Ev C 141 202 M lv (p1 :: p0 :: .ref a :: st) o ↔ (ji_rcb M 5 (.ref a) = true ∧ ji_ok8 st) ∧ ji_xC (C 82 [.ref a, p0, p1] M) C 141 205 lv st o := s141_202
theorem q142_1 : ji_Ev C 142 1 M lv (p0 :: st) o ↔ ji_ok8 st ∧ ji_xC (C 143 [p0] M) C 142 4 lv st o := s142_1
theorem q142_10 : ji_Ev C 142 10 M lv (p2 :: p1 :: p0 :: st) o ↔ ji_ok8 st ∧ ji_xC (C 43 [p0, p1, p2] M) C 142 13 lv st o := s142_10
theorem q142_52 : ji_Ev C 142 52 M lv (p2 :: p1 :: p0 :: .ref a :: st) o ↔ (ji_rcb M 4 (.ref a) = true ∧ ji_ok8 st) ∧ ji_xC (C 144 [.ref a, p0, p1, p2] M) C 142 55 lv st o := s142_52
theorem q144_1 : ji_Ev C 144 1 M lv (p0 :: st) o ↔ ji_ok8 st ∧ ji_xC (C 143 [p0] M) C 144 4 lv st o := s144_1
theorem q144_13 : ji_Ev C 144 13 M lv (.int y :: .int x :: .ref a :: st) o ↔ ji_xIS (ji_kd M a) C 144 14 M lv st o y x a := s144_13
theorem q144_38 : ji_Ev C 144 38 M lv (.int y :: .int x :: .ref a :: st) o ↔ ji_xIS (ji_kd M a) C 144 39 M lv st o y x a := s144_38
theorem q144_44 : ji_Ev C 144 44 M lv (.int x :: .ref a :: st) o ↔ ji_xQL (ji_kd M a) C 144 45 M lv st o x a := s144_44
theorem q144_46 : ji_Ev C 144 46 M lv (p1 :: p0 :: st) o ↔ ji_ok8 st ∧ ji_xC (C 120 [p0, p1] M) C 144 49 lv st o := s144_46
theorem q145_1 : ji_Ev C 145 1 M lv (p0 :: st) o ↔ ji_ok8 st ∧ ji_xC (C 143 [p0] M) C 145 4 lv st o := s145_1
theorem q145_15 : ji_Ev C 145 15 M lv (p0 :: .ref a :: st) o ↔ (ji_rcb M 4 (.ref a) = true ∧ ji_ok8 st) ∧ ji_xC (C 146 [.ref a, p0] M) C 145 18 lv st o := s145_15
theorem q145_30 : ji_Ev C 145 30 M lv (p1 :: p0 :: .ref a :: st) o ↔ (ji_rcb M 4 (.ref a) = true ∧ ji_ok8 st) ∧ ji_xC (C 148 [.ref a, p0, p1] M) C 145 33 lv st o := s145_30
theorem q145_46 : ji_Ev C 145 46 M lv (p2 :: p1 :: p0 :: .ref a :: st) o ↔ (ji_rcb M 4 (.ref a) = true ∧ ji_ok8 st) ∧ ji_xC (C 149 [.ref a, p0, p1, p2] M) C 145 49 lv st o := s145_46
theorem q146_2 : ji_Ev C 146 2 M lv (p0 :: .ref a :: st) o ↔ (ji_rcb M 4 (.ref a) = true ∧ ji_ok8 st) ∧ ji_xC (C 147 [.ref a, p0] M) C 146 5 lv st o := s146_2
theorem q147_1 : ji_Ev C 147 1 M lv (p0 :: st) o ↔ ji_ok8 st ∧ ji_xC (C 143 [p0] M) C 147 4 lv st o := s147_1
theorem q147_12 : ji_Ev C 147 12 M lv (.int x :: .ref a :: st) o ↔ ji_xIL (ji_kd M a) C 147 13 M lv st o x a := s147_12
theorem q148_1 : ji_Ev C 148 1 M lv (p0 :: st) o ↔ ji_ok8 st ∧ ji_xC (C 143 [p0] M) C 148 4 lv st o := s148_1
theorem q148_17 : ji_Ev C 148 17 M lv (.int x :: .ref a :: st) o ↔ ji_xIL (ji_kd M a) C 148 18 M lv st o x a := s148_17
theorem q149_3 : ji_Ev C 149 3 M lv (p1 :: p0 :: .ref a :: st) o ↔ (ji_rcb M 4 (.ref a) = true ∧ ji_ok8 st) ∧ ji_xC (C 148 [.ref a, p0, p1] M) C 149 6 lv st o := s149_3
theorem q149_14 : ji_Ev C 149 14 M lv (.int x :: .ref a :: st) o ↔ ji_xIL (ji_kd M a) C 149 15 M lv st o x a := s149_14
theorem q149_22 : ji_Ev C 149 22 M lv (.int x :: .ref a :: st) o ↔ ji_xQL (ji_kd M a) C 149 23 M lv st o x a := s149_22
theorem q149_46 : ji_Ev C 149 46 M lv (.int y :: .int x :: .ref a :: st) o ↔ ji_xIS (ji_kd M a) C 149 47 M lv st o y x a := s149_46
theorem q150_1 : ji_Ev C 150 1 M lv (p0 :: st) o ↔ ji_ok8 st ∧ ji_xC (C 143 [p0] M) C 150 4 lv st o := s150_1
theorem q150_8 : ji_Ev C 150 8 M lv (p0 :: st) o ↔ ji_ok8 st ∧ ji_xC (C 143 [p0] M) C 150 11 lv st o := s150_8
theorem q150_22 : ji_Ev C 150 22 M lv (p0 :: .ref a :: st) o ↔ (ji_rcb M 4 (.ref a) = true ∧ ji_ok8 st) ∧ ji_xC (C 146 [.ref a, p0] M) C 150 25 lv st o := s150_22
theorem q150_33 : ji_Ev C 150 33 M lv (p0 :: .ref a :: st) o ↔ (ji_rcb M 4 (.ref a) = true ∧ ji_ok8 st) ∧ ji_xC (C 146 [.ref a, p0] M) C 150 36 lv st o := s150_33
theorem q150_47 : ji_Ev C 150 47 M lv (p0 :: .ref a :: st) o ↔ (ji_rcb M 4 (.ref a) = true ∧ ji_ok8 st) ∧ ji_xC (C 147 [.ref a, p0] M) C 150 50 lv st o := s150_47
theorem q150_55 : ji_Ev C 150 55 M lv (p0 :: .ref a :: st) o ↔ (ji_rcb M 4 (.ref a) = true ∧ ji_ok8 st) ∧ ji_xC (C 147 [.ref a, p0] M) C 150 58 lv st o := s150_55
theorem q150_72 : ji_Ev C 150 72 M lv (p2 :: p1 :: p0 :: .ref a :: st) o ↔ (ji_rcb M 4 (.ref a) = true ∧ ji_ok8 st) ∧ ji_xC (C 151 [.ref a, p0, p1, p2] M) C 150 75 lv st o := s150_72
theorem q150_87 : ji_Ev C 150 87 M lv (p2 :: p1 :: p0 :: .ref a :: st) o ↔ (ji_rcb M 4 (.ref a) = true ∧ ji_ok8 st) ∧ ji_xC (C 151 [.ref a, p0, p1, p2] M) C 150 90 lv st o := s150_87
theorem q150_107 : ji_Ev C 150 107 M lv (p4 :: p3 :: p2 :: p1 :: p0 :: .ref a :: st) o ↔ (ji_rcb M 4 (.ref a) = true ∧ ji_ok8 st) ∧ ji_xC (C 152 [.ref a, p0, p1, p2, p3, p4] M) C 150 110 lv st o := s150_107
theorem q151_1 : ji_Ev C 151 1 M lv (p0 :: st) o ↔ ji_ok8 st ∧ ji_xC (C 143 [p0] M) C 151 4 lv st o := s151_1
theorem q151_21 : ji_Ev C 151 21 M lv (.int x :: .ref a :: st) o ↔ ji_xIL (ji_kd M a) C 151 22 M lv st o x a := s151_21
theorem q151_31 : ji_Ev C 151 31 M lv (.int x :: .ref a :: st) o ↔ ji_xIL (ji_kd M a) C 151 32 M lv st o x a := s151_31
theorem q152_5 : ji_Ev C 152 5 M lv (p2 :: p1 :: p0 :: .ref a :: st) o ↔ (ji_rcb M 4 (.ref a) = true ∧ ji_ok8 st) ∧ ji_xC (C 151 [.ref a, p0, p1, p2] M) C 152 8 lv st o := s152_5
theorem q152_17 : ji_Ev C 152 17 M lv (p2 :: p1 :: p0 :: .ref a :: st) o ↔ (ji_rcb M 4 (.ref a) = true ∧ ji_ok8 st) ∧ ji_xC (C 151 [.ref a, p0, p1, p2] M) C 152 20 lv st o := s152_17
theorem q152_28 : ji_Ev C 152 28 M lv (.int x :: .ref a :: st) o ↔ ji_xQL (ji_kd M a) C 152 29 M lv st o x a := s152_28
theorem q152_35 : ji_Ev C 152 35 M lv (.int x :: .ref a :: st) o ↔ ji_xQL (ji_kd M a) C 152 36 M lv st o x a := s152_35
theorem q152_40 : ji_Ev C 152 40 M lv (.int z :: .int y :: .ref b :: .int x :: .ref a :: st) o ↔ ji_xCP (ji_kd M a) (ji_kd M b) C 152 43 M lv st o x y z a b := s152_40
theorem q153_1 : ji_Ev C 153 1 M lv (p0 :: st) o ↔ ji_ok8 st ∧ ji_xC (C 143 [p0] M) C 153 4 lv st o := s153_1
theorem q153_10 : ji_Ev C 153 10 M lv (p2 :: p1 :: p0 :: st) o ↔ ji_ok8 st ∧ ji_xC (C 43 [p0, p1, p2] M) C 153 13 lv st o := s153_10
theorem q153_21 : ji_Ev C 153 21 M lv (p2 :: p1 :: p0 :: st) o ↔ ji_ok8 st ∧ ji_xC (C 43 [p0, p1, p2] M) C 153 24 lv st o := s153_21
theorem q153_35 : ji_Ev C 153 35 M lv (p0 :: .ref a :: st) o ↔ (ji_rcb M 4 (.ref a) = true ∧ ji_ok8 st) ∧ ji_xC (C 146 [.ref a, p0] M) C 153 38 lv st o := s153_35
theorem q153_49 : ji_Ev C 153 49 M lv (p0 :: .ref a :: st) o ↔ (ji_rcb M 4 (.ref a) = true ∧ ji_ok8 st) ∧ ji_xC (C 147 [.ref a, p0] M) C 153 52 lv st o := s153_49
theorem q153_87 : ji_Ev C 153 87 M lv (p1 :: p0 :: .ref a :: st) o ↔ (ji_rcb M 4 (.ref a) = true ∧ ji_ok8 st) ∧ ji_xC (C 148 [.ref a, p0, p1] M) C 153 90 lv st o := s153_87
theorem q153_102 : ji_Ev C 153 102 M lv (p1 :: p0 :: .ref a :: st) o ↔ (ji_rcb M 4 (.ref a) = true ∧ ji_ok8 st) ∧ ji_xC (C 148 [.ref a, p0, p1] M) C 153 105 lv st o := s153_102
theorem q153_119 : ji_Ev C 153 119 M lv (p1 :: p0 :: .ref a :: st) o ↔ (ji_rcb M 4 (.ref a) = true ∧ ji_ok8 st) ∧ ji_xC (C 154 [.ref a, p0, p1] M) C 153 122 lv st o := s153_119
theorem q153_131 : ji_Ev C 153 131 M lv (p1 :: p0 :: .ref a :: st) o ↔ (ji_rcb M 4 (.ref a) = true ∧ ji_ok8 st) ∧ ji_xC (C 154 [.ref a, p0, p1] M) C 153 134 lv st o := s153_131
theorem q153_134 : ji_Ev C 153 134 M lv (p1 :: p0 :: .ref a :: st) o ↔ (ji_rcb M 8 (.ref a) = true ∧ ji_ok8 st) ∧ ji_xC (C 59 [.ref a, p0, p1] M) C 153 137 lv st o := s153_134
theorem q153_140 : ji_Ev C 153 140 M lv st o ↔ ji_xNC (lv.getD 5 none) 5 1 C 153 143 M lv st o := s153_140
theorem q153_143 : ji_Ev C 153 143 M lv st o ↔ ji_xNC (lv.getD 6 none) 6 1 C 153 146 M lv st o := s153_143
theorem q154_3 : ji_Ev C 154 3 M lv (p1 :: p0 :: .ref a :: st) o ↔ (ji_rcb M 4 (.ref a) = true ∧ ji_ok8 st) ∧ ji_xC (C 148 [.ref a, p0, p1] M) C 154 6 lv st o := s154_3
theorem q154_14 : ji_Ev C 154 14 M lv (.int x :: .ref a :: st) o ↔ ji_xQL (ji_kd M a) C 154 15 M lv st o x a := s154_14
theorem q154_16 : ji_Ev C 154 16 M lv (.int x :: .ref a :: st) o ↔ ji_xIL (ji_kd M a) C 154 17 M lv st o x a := s154_16
theorem q155_1 : ji_Ev C 155 1 M lv (p0 :: st) o ↔ ji_ok8 st ∧ ji_xC (C 71 [p0] M) C 155 4 lv st o := s155_1
theorem q155_18 : ji_Ev C 155 18 M lv (p0 :: .ref a :: st) o ↔ (ji_rcb M 2 (.ref a) = true ∧ ji_ok8 st) ∧ ji_xC (C 65 [.ref a, p0] M) C 155 21 lv st o := s155_18
theorem q155_32 : ji_Ev C 155 32 M lv (p0 :: .ref a :: st) o ↔ (ji_rcb M 5 (.ref a) = true ∧ ji_ok8 st) ∧ ji_xC (C 50 [.ref a, p0] M) C 155 35 lv st o := s155_32
theorem q155_36 : ji_Ev C 155 36 M lv (p1 :: p0 :: st) o ↔ ji_ok8 st ∧ ji_xC (C 83 [p0, p1] M) C 155 39 lv st o := s155_36
theorem q155_51 : ji_Ev C 155 51 M lv (p1 :: p0 :: .ref a :: st) o ↔ (ji_rcb M 2 (.ref a) = true ∧ ji_ok8 st) ∧ ji_xC (C 49 [.ref a, p0, p1] M) C 155 54 lv st o := s155_51
theorem q157_4 : ji_Ev C 157 4 M lv (p2 :: p1 :: p0 :: .ref a :: st) o ↔ (ji_rcb M 9 (.ref a) = true ∧ ji_ok8 st) ∧ ji_xC (C 158 [.ref a, p0, p1, p2] M) C 157 7 lv st o := s157_4
theorem q157_36 : ji_Ev C 157 36 M lv (p2 :: p1 :: p0 :: .ref a :: st) o ↔ (ji_rcb M 9 (.ref a) = true ∧ ji_ok8 st) ∧ ji_xC (C 158 [.ref a, p0, p1, p2] M) C 157 39 lv st o := s157_36
theorem q159_5 : ji_Ev C 159 5 M lv (p2 :: p1 :: p0 :: .ref a :: st) o ↔ (ji_rcb M 9 (.ref a) = true ∧ ji_ok8 st) ∧ ji_xC (C 158 [.ref a, p0, p1, p2] M) C 159 8 lv st o := s159_5
theorem q159_37 : ji_Ev C 159 37 M lv (.ref a :: st) o ↔ (ji_rcb M 9 (.ref a) = true ∧ ji_ok8 st) ∧ ji_xC (C 160 [.ref a] M) C 159 40 lv st o := s159_37
theorem q159_40 : ji_Ev C 159 40 M lv st o ↔ ji_xNC (lv.getD 2 none) 2 1 C 159 43 M lv st o := s159_40
theorem q160_17 : ji_Ev C 160 17 M lv (p0 :: .ref a :: st) o ↔ (ji_rcb M 9 (.ref a) = true ∧ ji_ok8 st) ∧ ji_xC (C 161 [.ref a, p0] M) C 160 20 lv st o := s160_17
theorem q160_31 : ji_Ev C 160 31 M lv (.int x :: .ref a :: st) o ↔ ji_xIL (ji_kd M a) C 160 32 M lv st o x a := s160_31
theorem q160_38 : ji_Ev C 160 38 M lv (.int x :: .ref a :: st) o ↔ ji_xIL (ji_kd M a) C 160 39 M lv st o x a := s160_38
theorem q160_39 : ji_Ev C 160 39 M lv (p0 :: .ref a :: st) o ↔ (ji_rcb M 9 (.ref a) = true ∧ ji_ok8 st) ∧ ji_xC (C 162 [.ref a, p0] M) C 160 42 lv st o := s160_39
theorem q160_43 : ji_Ev C 160 43 M lv (.int y :: .int x :: .ref a :: st) o ↔ ji_xIS (ji_kd M a) C 160 44 M lv st o y x a := s160_43
theorem q160_49 : ji_Ev C 160 49 M lv (.int x :: .ref a :: st) o ↔ ji_xIL (ji_kd M a) C 160 50 M lv st o x a := s160_49
theorem q160_64 : ji_Ev C 160 64 M lv (.int y :: .int x :: .ref a :: st) o ↔ ji_xIS (ji_kd M a) C 160 65 M lv st o y x a := s160_64
theorem q160_70 : ji_Ev C 160 70 M lv (.int x :: .ref a :: st) o ↔ ji_xIL (ji_kd M a) C 160 71 M lv st o x a := s160_70
theorem q160_82 : ji_Ev C 160 82 M lv (.int x :: .ref a :: st) o ↔ ji_xIL (ji_kd M a) C 160 83 M lv st o x a := s160_82
theorem q160_89 : ji_Ev C 160 89 M lv (.int x :: .ref a :: st) o ↔ ji_xIL (ji_kd M a) C 160 90 M lv st o x a := s160_89
theorem q160_90 : ji_Ev C 160 90 M lv (p0 :: .ref a :: st) o ↔ (ji_rcb M 9 (.ref a) = true ∧ ji_ok8 st) ∧ ji_xC (C 163 [.ref a, p0] M) C 160 93 lv st o := s160_90
theorem q160_94 : ji_Ev C 160 94 M lv (.int y :: .int x :: .ref a :: st) o ↔ ji_xIS (ji_kd M a) C 160 95 M lv st o y x a := s160_94
theorem q160_100 : ji_Ev C 160 100 M lv (.int x :: .ref a :: st) o ↔ ji_xIL (ji_kd M a) C 160 101 M lv st o x a := s160_100
theorem q160_115 : ji_Ev C 160 115 M lv (.int y :: .int x :: .ref a :: st) o ↔ ji_xIS (ji_kd M a) C 160 116 M lv st o y x a := s160_115
theorem q160_127 : ji_Ev C 160 127 M lv (.int x :: .ref a :: st) o ↔ ji_xIL (ji_kd M a) C 160 128 M lv st o x a := s160_127
theorem q160_135 : ji_Ev C 160 135 M lv (.int x :: .ref a :: st) o ↔ ji_xIL (ji_kd M a) C 160 136 M lv st o x a := s160_135
theorem q160_155 : ji_Ev C 160 155 M lv (.int x :: .ref a :: st) o ↔ ji_xIL (ji_kd M a) C 160 156 M lv st o x a := s160_155
theorem q160_171 : ji_Ev C 160 171 M lv (.int x :: .ref a :: st) o ↔ ji_xIL (ji_kd M a) C 160 172 M lv st o x a := s160_171
theorem q160_198 : ji_Ev C 160 198 M lv (.int y :: .int x :: .ref a :: st) o ↔ ji_xIS (ji_kd M a) C 160 199 M lv st o y x a := s160_198
theorem q160_210 : ji_Ev C 160 210 M lv (.int y :: .int x :: .ref a :: st) o ↔ ji_xIS (ji_kd M a) C 160 211 M lv st o y x a := s160_210
theorem q160_211 : ji_Ev C 160 211 M lv st o ↔ ji_xNC (lv.getD 1 none) 1 1 C 160 214 M lv st o := s160_211
theorem q161_5 : ji_Ev C 161 5 M lv (.int x :: .ref a :: st) o ↔ ji_xIL (ji_kd M a) C 161 6 M lv st o x a := s161_5
theorem q161_15 : ji_Ev C 161 15 M lv (.int x :: .ref a :: st) o ↔ ji_xIL (ji_kd M a) C 161 16 M lv st o x a := s161_15
theorem q161_29 : ji_Ev C 161 29 M lv (.int x :: .ref a :: st) o ↔ ji_xIL (ji_kd M a) C 161 30 M lv st o x a := s161_29
theorem q161_43 : ji_Ev C 161 43 M lv (.int x :: .ref a :: st) o ↔ ji_xIL (ji_kd M a) C 161 44 M lv st o x a := s161_43
theorem q164_6 : ji_Ev C 164 6 M lv (p2 :: p1 :: p0 :: .ref a :: st) o ↔ (ji_rcb M 9 (.ref a) = true ∧ ji_ok8 st) ∧ ji_xC (C 158 [.ref a, p0, p1, p2] M) C 164 9 lv st o := s164_6
theorem q164_22 : ji_Ev C 164 22 M lv (p2 :: p1 :: p0 :: .ref a :: st) o ↔ (ji_rcb M 9 (.ref a) = true ∧ ji_ok8 st) ∧ ji_xC (C 158 [.ref a, p0, p1, p2] M) C 164 25 lv st o := s164_22
theorem q164_41 : ji_Ev C 164 41 M lv (p2 :: p1 :: p0 :: .ref a :: st) o ↔ (ji_rcb M 9 (.ref a) = true ∧ ji_ok8 st) ∧ ji_xC (C 158 [.ref a, p0, p1, p2] M) C 164 44 lv st o := s164_41
theorem q164_75 : ji_Ev C 164 75 M lv (.int y :: .int x :: .ref a :: st) o ↔ ji_xIS (ji_kd M a) C 164 76 M lv st o y x a := s164_75
theorem q164_91 : ji_Ev C 164 91 M lv (.int y :: .int x :: .ref a :: st) o ↔ ji_xIS (ji_kd M a) C 164 92 M lv st o y x a := s164_91
theorem q164_104 : ji_Ev C 164 104 M lv (.int y :: .int x :: .ref a :: st) o ↔ ji_xIS (ji_kd M a) C 164 105 M lv st o y x a := s164_104
theorem q164_114 : ji_Ev C 164 114 M lv (.int y :: .int x :: .ref a :: st) o ↔ ji_xIS (ji_kd M a) C 164 115 M lv st o y x a := s164_114
theorem q164_124 : ji_Ev C 164 124 M lv (.int y :: .int x :: .ref a :: st) o ↔ ji_xIS (ji_kd M a) C 164 125 M lv st o y x a := s164_124
theorem q164_134 : ji_Ev C 164 134 M lv (.int y :: .int x :: .ref a :: st) o ↔ ji_xIS (ji_kd M a) C 164 135 M lv st o y x a := s164_134
theorem q164_144 : ji_Ev C 164 144 M lv (.int y :: .int x :: .ref a :: st) o ↔ ji_xIS (ji_kd M a) C 164 145 M lv st o y x a := s164_144
theorem q164_157 : ji_Ev C 164 157 M lv (.int y :: .int x :: .ref a :: st) o ↔ ji_xIS (ji_kd M a) C 164 158 M lv st o y x a := s164_157
theorem q165_2 : ji_Ev C 165 2 M lv (p0 :: .ref a :: st) o ↔ (ji_rcb M 9 (.ref a) = true ∧ ji_ok8 st) ∧ ji_xC (C 166 [.ref a, p0] M) C 165 5 lv st o := s165_2
theorem q165_81 : ji_Ev C 165 81 M lv (.int x :: .ref a :: st) o ↔ ji_xIL (ji_kd M a) C 165 82 M lv st o x a := s165_81
theorem q165_88 : ji_Ev C 165 88 M lv (.int x :: .ref a :: st) o ↔ ji_xIL (ji_kd M a) C 165 89 M lv st o x a := s165_88
theorem q165_95 : ji_Ev C 165 95 M lv (.int x :: .ref a :: st) o ↔ ji_xIL (ji_kd M a) C 165 96 M lv st o x a := s165_95
theorem q165_102 : ji_Ev C 165 102 M lv (.int x :: .ref a :: st) o ↔ ji_xIL (ji_kd M a) C 165 103 M lv st o x a := s165_102
theorem q165_109 : ji_Ev C 165 109 M lv (.int x :: .ref a :: st) o ↔ ji_xIL (ji_kd M a) C 165 110 M lv st o x a := s165_109
theorem q165_116 : ji_Ev C 165 116 M lv (.int x :: .ref a :: st) o ↔ ji_xIL (ji_kd M a) C 165 117 M lv st o x a := s165_116
theorem q165_123 : ji_Ev C 165 123 M lv (.int x :: .ref a :: st) o ↔ ji_xIL (ji_kd M a) C 165 124 M lv st o x a := s165_123
theorem q165_130 : ji_Ev C 165 130 M lv (.int x :: .ref a :: st) o ↔ ji_xIL (ji_kd M a) C 165 131 M lv st o x a := s165_130
theorem q165_134 : ji_Ev C 165 134 M lv (p0 :: .ref a :: st) o ↔ (ji_rcb M 9 (.ref a) = true ∧ ji_ok8 st) ∧ ji_xC (C 161 [.ref a, p0] M) C 165 137 lv st o := s165_134
theorem q165_145 : ji_Ev C 165 145 M lv (.int x :: .ref a :: st) o ↔ ji_xIL (ji_kd M a) C 165 146 M lv st o x a := s165_145
theorem q165_146 : ji_Ev C 165 146 M lv (p1 :: p0 :: .ref a :: st) o ↔ (ji_rcb M 9 (.ref a) = true ∧ ji_ok8 st) ∧ ji_xC (C 167 [.ref a, p0, p1] M) C 165 149 lv st o := s165_146
theorem q165_156 : ji_Ev C 165 156 M lv (.int x :: .ref a :: st) o ↔ ji_xIL (ji_kd M a) C 165 157 M lv st o x a := s165_156
theorem q165_157 : ji_Ev C 165 157 M lv (p0 :: .ref a :: st) o ↔ (ji_rcb M 9 (.ref a) = true ∧ ji_ok8 st) ∧ ji_xC (C 162 [.ref a, p0] M) C 165 160 lv st o := s165_157
theorem q165_167 : ji_Ev C 165 167 M lv (.int x :: .ref a :: st) o ↔ ji_xIL (ji_kd M a) C 165 168 M lv st o x a := s165_167
theorem q165_168 : ji_Ev C 165 168 M lv (p0 :: .ref a :: st) o ↔ (ji_rcb M 9 (.ref a) = true ∧ ji_ok8 st) ∧ ji_xC (C 163 [.ref a, p0] M) C 165 171 lv st o := s165_168
theorem q166_9 : ji_Ev C 166 9 M lv (p2 :: p1 :: p0 :: .ref a :: st) o ↔ (ji_rcb M 9 (.ref a) = true ∧ ji_ok8 st) ∧ ji_xC (C 158 [.ref a, p0, p1, p2] M) C 166 12 lv st o := s166_9
theorem q167_15 : ji_Ev C 167 15 M lv (.int x :: .ref a :: st) o ↔ ji_xIL (ji_kd M a) C 167 16 M lv st o x a := s167_15
theorem q167_35 : ji_Ev C 167 35 M lv (.int x :: .ref a :: st) o ↔ ji_xIL (ji_kd M a) C 167 36 M lv st o x a := s167_35
theorem q167_50 : ji_Ev C 167 50 M lv (.int x :: .ref a :: st) o ↔ ji_xIL (ji_kd M a) C 167 51 M lv st o x a := s167_50
theorem q168_2 : ji_Ev C 168 2 M lv (p0 :: .ref a :: st) o ↔ (ji_rcb M 9 (.ref a) = true ∧ ji_ok8 st) ∧ ji_xC (C 166 [.ref a, p0] M) C 168 5 lv st o := s168_2
theorem q168_12 : ji_Ev C 168 12 M lv (p2 :: p1 :: p0 :: .ref a :: st) o ↔ (ji_rcb M 9 (.ref a) = true ∧ ji_ok8 st) ∧ ji_xC (C 158 [.ref a, p0, p1, p2] M) C 168 15 lv st o := s168_12
theorem q168_27 : ji_Ev C 168 27 M lv (.int x :: .ref a :: st) o ↔ ji_xIL (ji_kd M a) C 168 28 M lv st o x a := s168_27
theorem q168_29 : ji_Ev C 168 29 M lv (p1 :: p0 :: .ref a :: st) o ↔ (ji_rcb M 9 (.ref a) = true ∧ ji_ok8 st) ∧ ji_xC (C 169 [.ref a, p0, p1] M) C 168 32 lv st o := s168_29
theorem q168_42 : ji_Ev C 168 42 M lv (p0 :: .ref a :: st) o ↔ (ji_rcb M 9 (.ref a) = true ∧ ji_ok8 st) ∧ ji_xC (C 170 [.ref a, p0] M) C 168 45 lv st o := s168_42
theorem q168_54 : ji_Ev C 168 54 M lv (p1 :: p0 :: .ref a :: st) o ↔ (ji_rcb M 9 (.ref a) = true ∧ ji_ok8 st) ∧ ji_xC (C 188 [.ref a, p0, p1] M) C 168 57 lv st o := s168_54
theorem q168_68 : ji_Ev C 168 68 M lv (.int x :: .ref a :: st) o ↔ ji_xIL (ji_kd M a) C 168 69 M lv st o x a := s168_68
theorem q168_76 : ji_Ev C 168 76 M lv (.int y :: .int x :: .ref a :: st) o ↔ ji_xIS (ji_kd M a) C 168 77 M lv st o y x a := s168_76
theorem q168_86 : ji_Ev C 168 86 M lv (.int y :: .int x :: .ref a :: st) o ↔ ji_xIS (ji_kd M a) C 168 87 M lv st o y x a := s168_86
theorem q170_7 : ji_Ev C 170 7 M lv (p2 :: p1 :: p0 :: .ref a :: st) o ↔ (ji_rcb M 9 (.ref a) = true ∧ ji_ok8 st) ∧ ji_xC (C 171 [.ref a, p0, p1, p2] M) C 170 10 lv st o := s170_7
theorem q170_19 : ji_Ev C 170 19 M lv (.int x :: .ref a :: st) o ↔ ji_xIL (ji_kd M a) C 170 20 M lv st o x a := s170_19
theorem q170_25 : ji_Ev C 170 25 M lv (.int x :: .ref a :: st) o ↔ ji_xIL (ji_kd M a) C 170 26 M lv st o x a := s170_25
theorem q170_30 : ji_Ev C 170 30 M lv (p2 :: p1 :: p0 :: .ref a :: st) o ↔ (ji_rcb M 9 (.ref a) = true ∧ ji_ok8 st) ∧ ji_xC (C 187 [.ref a, p0, p1, p2] M) C 170 33 lv st o := s170_30
theorem q171_13 : ji_Ev C 171 13 M lv (.int x :: .ref a :: st) o ↔ ji_xIL (ji_kd M a) C 171 14 M lv st o x a := s171_13
theorem q171_19 : ji_Ev C 171 19 M lv (.int x :: .ref a :: st) o ↔ ji_xIL (ji_kd M a) C 171 20 M lv st o x a := s171_19
theorem q171_34 : ji_Ev C 171 34 M lv (.int x :: .ref a :: st) o ↔ ji_xIL (ji_kd M a) C 171 35 M lv st o x a := s171_34
theorem q171_52 : ji_Ev C 171 52 M lv (.int x :: .ref a :: st) o ↔ ji_xIL (ji_kd M a) C 171 53 M lv st o x a := s171_52
theorem q171_64 : ji_Ev C 171 64 M lv (.int x :: .ref a :: st) o ↔ ji_xIL (ji_kd M a) C 171 65 M lv st o x a := s171_64
theorem q171_65 : ji_Ev C 171 65 M lv (.int y :: .int x :: .ref a :: st) o ↔ ji_xIS (ji_kd M a) C 171 66 M lv st o y x a := s171_65
theorem q171_76 : ji_Ev C 171 76 M lv (.int x :: .ref a :: st) o ↔ ji_xIL (ji_kd M a) C 171 77 M lv st o x a := s171_76
theorem q171_77 : ji_Ev C 171 77 M lv (.int y :: .int x :: .ref a :: st) o ↔ ji_xIS (ji_kd M a) C 171 78 M lv st o y x a := s171_77
theorem q171_88 : ji_Ev C 171 88 M lv (.int x :: .ref a :: st) o ↔ ji_xIL (ji_kd M a) C 171 89 M lv st o x a := s171_88
theorem q171_89 : ji_Ev C 171 89 M lv (.int y :: .int x :: .ref a :: st) o ↔ ji_xIS (ji_kd M a) C 171 90 M lv st o y x a := s171_89
theorem q171_100 : ji_Ev C 171 100 M lv (.int x :: .ref a :: st) o ↔ ji_xIL (ji_kd M a) C 171 101 M lv st o x a := s171_100
theorem q171_101 : ji_Ev C 171 101 M lv (.int y :: .int x :: .ref a :: st) o ↔ ji_xIS (ji_kd M a) C 171 102 M lv st o y x a := s171_101
theorem q171_116 : ji_Ev C 171 116 M lv (.int x :: .ref a :: st) o ↔ ji_xIL (ji_kd M a) C 171 117 M lv st o x a := s171_116
theorem q171_118 : ji_Ev C 171 118 M lv (.int y :: .int x :: .ref a :: st) o ↔ ji_xIS (ji_kd M a) C 171 119 M lv st o y x a := s171_118
theorem q171_129 : ji_Ev C 171 129 M lv (.int x :: .ref a :: st) o ↔ ji_xIL (ji_kd M a) C 171 130 M lv st o x a := s171_129
theorem q171_130 : ji_Ev C 171 130 M lv (.int y :: .int x :: .ref a :: st) o ↔ ji_xIS (ji_kd M a) C 171 131 M lv st o y x a := s171_130
theorem q171_133 : ji_Ev C 171 133 M lv (p0 :: .ref a :: st) o ↔ (ji_rcb M 9 (.ref a) = true ∧ ji_ok8 st) ∧ ji_xC (C 172 [.ref a, p0] M) C 171 136 lv st o := s171_133
theorem q171_144 : ji_Ev C 171 144 M lv (.int x :: .ref a :: st) o ↔ ji_xIL (ji_kd M a) C 171 145 M lv st o x a := s171_144
theorem q172_15 : ji_Ev C 172 15 M lv (.int x :: .ref a :: st) o ↔ ji_xIL (ji_kd M a) C 172 16 M lv st o x a := s172_15
theorem q172_25 : ji_Ev C 172 25 M lv (.ref a :: st) o ↔ (ji_rcb M 9 (.ref a) = true ∧ ji_ok8 st) ∧ ji_xC (C 173 [.ref a] M) C 172 28 lv st o := s172_25
theorem q172_37 : ji_Ev C 172 37 M lv (p0 :: .ref a :: st) o ↔ (ji_rcb M 9 (.ref a) = true ∧ ji_ok8 st) ∧ ji_xC (C 178 [.ref a, p0] M) C 172 40 lv st o := s172_37
theorem q172_46 : ji_Ev C 172 46 M lv (.ref a :: st) o ↔ (ji_rcb M 9 (.ref a) = true ∧ ji_ok8 st) ∧ ji_xC (C 173 [.ref a] M) C 172 49 lv st o := s172_46
theorem q172_50 : ji_Ev C 172 50 M lv (.ref a :: st) o ↔ (ji_rcb M 9 (.ref a) = true ∧ ji_ok8 st) ∧ ji_xC (C 179 [.ref a] M) C 172 53 lv st o := s172_50
theorem q172_77 : ji_Ev C 172 77 M lv (.int x :: .ref a :: st) o ↔ ji_xIL (ji_kd M a) C 172 78 M lv st o x a := s172_77
theorem q172_78 : ji_Ev C 172 78 M lv (.int y :: .int x :: .ref a :: st) o ↔ ji_xIS (ji_kd M a) C 172 79 M lv st o y x a := s172_78
theorem q172_80 : ji_Ev C 172 80 M lv (.ref a :: st) o ↔ (ji_rcb M 9 (.ref a) = true ∧ ji_ok8 st) ∧ ji_xC (C 173 [.ref a] M) C 172 83 lv st o := s172_80
theorem q172_83 : ji_Ev C 172 83 M lv st o ↔ ji_xNC (lv.getD 2 none) 2 1 C 172 86 M lv st o := s172_83
theorem q173_5 : ji_Ev C 173 5 M lv (p0 :: .ref a :: st) o ↔ (ji_rcb M 9 (.ref a) = true ∧ ji_ok8 st) ∧ ji_xC (C 174 [.ref a, p0] M) C 173 8 lv st o := s173_5
theorem q173_18 : ji_Ev C 173 18 M lv (p0 :: .ref a :: st) o ↔ (ji_rcb M 9 (.ref a) = true ∧ ji_ok8 st) ∧ ji_xC (C 174 [.ref a, p0] M) C 173 21 lv st o := s173_18
theorem q173_52 : ji_Ev C 173 52 M lv (p0 :: .ref a :: st) o ↔ (ji_rcb M 9 (.ref a) = true ∧ ji_ok8 st) ∧ ji_xC (C 174 [.ref a, p0] M) C 173 55 lv st o := s173_52
theorem q173_77 : ji_Ev C 173 77 M lv (p0 :: .ref a :: st) o ↔ (ji_rcb M 9 (.ref a) = true ∧ ji_ok8 st) ∧ ji_xC (C 175 [.ref a, p0] M) C 173 80 lv st o := s173_77
theorem q173_94 : ji_Ev C 173 94 M lv (p0 :: .ref a :: st) o ↔ (ji_rcb M 9 (.ref a) = true ∧ ji_ok8 st) ∧ ji_xC (C 174 [.ref a, p0] M) C 173 97 lv st o := s173_94
theorem q173_97 : ji_Ev C 173 97 M lv (p0 :: .ref a :: st) o ↔ (ji_rcb M 9 (.ref a) = true ∧ ji_ok8 st) ∧ ji_xC (C 175 [.ref a, p0] M) C 173 100 lv st o := s173_97
theorem q173_120 : ji_Ev C 173 120 M lv (p0 :: .ref a :: st) o ↔ (ji_rcb M 9 (.ref a) = true ∧ ji_ok8 st) ∧ ji_xC (C 174 [.ref a, p0] M) C 173 123 lv st o := s173_120
theorem q173_136 : ji_Ev C 173 136 M lv st o ↔ ji_xNC (lv.getD 4 none) 4 1 C 173 139 M lv st o := s173_136
theorem q173_166 : ji_Ev C 173 166 M lv (p0 :: .ref a :: st) o ↔ (ji_rcb M 9 (.ref a) = true ∧ ji_ok8 st) ∧ ji_xC (C 176 [.ref a, p0] M) C 173 169 lv st o := s173_166
theorem q173_206 : ji_Ev C 173 206 M lv (p0 :: .ref a :: st) o ↔ (ji_rcb M 9 (.ref a) = true ∧ ji_ok8 st) ∧ ji_xC (C 177 [.ref a, p0] M) C 173 209 lv st o := s173_206
theorem q173_223 : ji_Ev C 173 223 M lv (p0 :: .ref a :: st) o ↔ (ji_rcb M 9 (.ref a) = true ∧ ji_ok8 st) ∧ ji_xC (C 174 [.ref a, p0] M) C 173 226 lv st o := s173_223
theorem q173_226 : ji_Ev C 173 226 M lv (p0 :: .ref a :: st) o ↔ (ji_rcb M 9 (.ref a) = true ∧ ji_ok8 st) ∧ ji_xC (C 177 [.ref a, p0] M) C 173 229 lv st o := s173_226
theorem q173_258 : ji_Ev C 173 258 M lv (p0 :: .ref a :: st) o ↔ (ji_rcb M 9 (.ref a) = true ∧ ji_ok8 st) ∧ ji_xC (C 174 [.ref a, p0] M) C 173 261 lv st o := s173_258
theorem q174_18 : ji_Ev C 174 18 M lv (.int x :: .ref a :: st) o ↔ ji_xIL (ji_kd M a) C 174 19 M lv st o x a := s174_18
theorem q175_6 : ji_Ev C 175 6 M lv (p2 :: p1 :: p0 :: .ref a :: st) o ↔ (ji_rcb M 9 (.ref a) = true ∧ ji_ok8 st) ∧ ji_xC (C 158 [.ref a, p0, p1, p2] M) C 175 9 lv st o := s175_6
theorem q177_6 : ji_Ev C 177 6 M lv (p2 :: p1 :: p0 :: .ref a :: st) o ↔ (ji_rcb M 9 (.ref a) = true ∧ ji_ok8 st) ∧ ji_xC (C 158 [.ref a, p0, p1, p2] M) C 177 9 lv st o := s177_6
theorem q179_47 : ji_Ev C 179 47 M lv (p0 :: .ref a :: st) o ↔ (ji_rcb M 9 (.ref a) = true ∧ ji_ok8 st) ∧ ji_xC (C 178 [.ref a, p0] M) C 179 50 lv st o := s179_47
theorem q179_86 : ji_Ev C 179 86 M lv (p0 :: .ref a :: st) o ↔ (ji_rcb M 9 (.ref a) = true ∧ ji_ok8 st) ∧ ji_xC (C 180 [.ref a, p0] M) C 179 89 lv st o := s179_86
theorem q179_156 : ji_Ev C 179 156 M lv (.int x :: .ref a :: st) o ↔ ji_xIL (ji_kd M a) C 179 157 M lv st o x a := s179_156
theorem q179_157 : ji_Ev C 179 157 M lv (p0 :: .ref a :: st) o ↔ (ji_rcb M 9 (.ref a) = true ∧ ji_ok8 st) ∧ ji_xC (C 181 [.ref a, p0] M) C 179 160 lv st o := s179_157
theorem q179_172 : ji_Ev C 179 172 M lv (.ref a :: st) o ↔ (ji_rcb M 9 (.ref a) = true ∧ ji_ok8 st) ∧ ji_xC (C 185 [.ref a] M) C 179 175 lv st o := s179_172
theorem q179_179 : ji_Ev C 179 179 M lv (.ref a :: st) o ↔ (ji_rcb M 9 (.ref a) = true ∧ ji_ok8 st) ∧ ji_xC (C 185 [.ref a] M) C 179 182 lv st o := s179_179
theorem q179_185 : ji_Ev C 179 185 M lv (p0 :: .ref a :: st) o ↔ (ji_rcb M 9 (.ref a) = true ∧ ji_ok8 st) ∧ ji_xC (C 186 [.ref a, p0] M) C 179 188 lv st o := s179_185
theorem q179_218 : ji_Ev C 179 218 M lv (p0 :: .ref a :: st) o ↔ (ji_rcb M 9 (.ref a) = true ∧ ji_ok8 st) ∧ ji_xC (C 182 [.ref a, p0] M) C 179 221 lv st o := s179_218
theorem q179_264 : ji_Ev C 179 264 M lv (p0 :: .ref a :: st) o ↔ (ji_rcb M 9 (.ref a) = true ∧ ji_ok8 st) ∧ ji_xC (C 182 [.ref a, p0] M) C 179 267 lv st o := s179_264
theorem q179_268 : ji_Ev C 179 268 M lv (.ref a :: st) o ↔ (ji_rcb M 9 (.ref a) = true ∧ ji_ok8 st) ∧ ji_xC (C 173 [.ref a] M) C 179 271 lv st o := s179_268
theorem q180_29 : ji_Ev C 180 29 M lv (.int y :: .int x :: .ref a :: st) o ↔ ji_xIS (ji_kd M a) C 180 30 M lv st o y x a := s180_29
theorem q180_41 : ji_Ev C 180 41 M lv (.ref a :: st) o ↔ (ji_rcb M 9 (.ref a) = true ∧ ji_ok8 st) ∧ ji_xC (C 173 [.ref a] M) C 180 44 lv st o := s180_41
theorem q181_9 : ji_Ev C 181 9 M lv (.int y :: .int x :: .ref a :: st) o ↔ ji_xIS (ji_kd M a) C 181 10 M lv st o y x a := s181_9
theorem q181_23 : ji_Ev C 181 23 M lv (p0 :: .ref a :: st) o ↔ (ji_rcb M 9 (.ref a) = true ∧ ji_ok8 st) ∧ ji_xC (C 182 [.ref a, p0] M) C 181 26 lv st o := s181_23
theorem q181_27 : ji_Ev C 181 27 M lv (.ref a :: st) o ↔ (ji_rcb M 9 (.ref a) = true ∧ ji_ok8 st) ∧ ji_xC (C 173 [.ref a] M) C 181 30 lv st o := s181_27
theorem q182_18 : ji_Ev C 182 18 M lv (.int x :: .ref a :: st) o ↔ ji_xIL (ji_kd M a) C 182 19 M lv st o x a := s182_18
theorem q182_19 : ji_Ev C 182 19 M lv (p0 :: .ref a :: st) o ↔ (ji_rcb M 9 (.ref a) = true ∧ ji_ok8 st) ∧ ji_xC (C 183 [.ref a, p0] M) C 182 22 lv st o := s182_19
theorem q182_45 : ji_Ev C 182 45 M lv (.int x :: .ref a :: st) o ↔ ji_xIL (ji_kd M a) C 182 46 M lv st o x a := s182_45
theorem q182_46 : ji_Ev C 182 46 M lv (p0 :: .ref a :: st) o ↔ (ji_rcb M 9 (.ref a) = true ∧ ji_ok8 st) ∧ ji_xC (C 184 [.ref a, p0] M) C 182 49 lv st o := s182_46
theorem q184_38 : ji_Ev C 184 38 M lv (.int x :: .ref a :: st) o ↔ ji_xIL (ji_kd M a) C 184 39 M lv st o x a := s184_38
theorem q184_53 : ji_Ev C 184 53 M lv (.int x :: .ref a :: st) o ↔ ji_xIL (ji_kd M a) C 184 54 M lv st o x a := s184_53
theorem q184_62 : ji_Ev C 184 62 M lv (.int y :: .int x :: .ref a :: st) o ↔ ji_xIS (ji_kd M a) C 184 63 M lv st o y x a := s184_62
theorem q184_94 : ji_Ev C 184 94 M lv (.int x :: .ref a :: st) o ↔ ji_xIL (ji_kd M a) C 184 95 M lv st o x a := s184_94
theorem q184_104 : ji_Ev C 184 104 M lv (.int x :: .ref a :: st) o ↔ ji_xIL (ji_kd M a) C 184 105 M lv st o x a := s184_104
theorem q184_225 : ji_Ev C 184 225 M lv (.int y :: .int x :: .ref a :: st) o ↔ ji_xIS (ji_kd M a) C 184 226 M lv st o y x a := s184_225
theorem q185_54 : ji_Ev C 185 54 M lv (p0 :: .ref a :: st) o ↔ (ji_rcb M 9 (.ref a) = true ∧ ji_ok8 st) ∧ ji_xC (C 178 [.ref a, p0] M) C 185 57 lv st o := s185_54
theorem q185_67 : ji_Ev C 185 67 M lv (p0 :: .ref a :: st) o ↔ (ji_rcb M 9 (.ref a) = true ∧ ji_ok8 st) ∧ ji_xC (C 178 [.ref a, p0] M) C 185 70 lv st o := s185_67
theorem q186_19 : ji_Ev C 186 19 M lv (p0 :: .ref a :: st) o ↔ (ji_rcb M 9 (.ref a) = true ∧ ji_ok8 st) ∧ ji_xC (C 183 [.ref a, p0] M) C 186 22 lv st o := s186_19
theorem q186_22 : ji_Ev C 186 22 M lv (p0 :: .ref a :: st) o ↔ (ji_rcb M 9 (.ref a) = true ∧ ji_ok8 st) ∧ ji_xC (C 182 [.ref a, p0] M) C 186 25 lv st o := s186_22
theorem q186_55 : ji_Ev C 186 55 M lv (.int x :: .ref a :: st) o ↔ ji_xIL (ji_kd M a) C 186 56 M lv st o x a := s186_55
theorem q186_56 : ji_Ev C 186 56 M lv (p0 :: .ref a :: st) o ↔ (ji_rcb M 9 (.ref a) = true ∧ ji_ok8 st) ∧ ji_xC (C 183 [.ref a, p0] M) C 186 59 lv st o := s186_56
theorem q186_74 : ji_Ev C 186 74 M lv (.int y :: .int x :: .ref a :: st) o ↔ ji_xIS (ji_kd M a) C 186 75 M lv st o y x a := s186_74
theorem q186_86 : ji_Ev C 186 86 M lv (.ref a :: st) o ↔ (ji_rcb M 9 (.ref a) = true ∧ ji_ok8 st) ∧ ji_xC (C 173 [.ref a] M) C 186 89 lv st o := s186_86
theorem q187_21 : ji_Ev C 187 21 M lv (.int x :: .ref a :: st) o ↔ ji_xIL (ji_kd M a) C 187 22 M lv st o x a := s187_21
theorem q187_32 : ji_Ev C 187 32 M lv (.int x :: .ref a :: st) o ↔ ji_xIL (ji_kd M a) C 187 33 M lv st o x a := s187_32
theorem q187_43 : ji_Ev C 187 43 M lv (.int x :: .ref a :: st) o ↔ ji_xIL (ji_kd M a) C 187 44 M lv st o x a := s187_43
theorem q187_54 : ji_Ev C 187 54 M lv (.int x :: .ref a :: st) o ↔ ji_xIL (ji_kd M a) C 187 55 M lv st o x a := s187_54
theorem q187_66 : ji_Ev C 187 66 M lv st o ↔ ji_xNC (lv.getD 5 none) 5 1 C 187 69 M lv st o := s187_66
theorem q188_8 : ji_Ev C 188 8 M lv (p1 :: p0 :: .ref a :: st) o ↔ (ji_rcb M 9 (.ref a) = true ∧ ji_ok8 st) ∧ ji_xC (C 189 [.ref a, p0, p1] M) C 188 11 lv st o := s188_8
theorem q188_14 : ji_Ev C 188 14 M lv (p1 :: p0 :: .ref a :: st) o ↔ (ji_rcb M 9 (.ref a) = true ∧ ji_ok8 st) ∧ ji_xC (C 167 [.ref a, p0, p1] M) C 188 17 lv st o := s188_14
theorem q188_33 : ji_Ev C 188 33 M lv (p0 :: .ref a :: st) o ↔ (ji_rcb M 9 (.ref a) = true ∧ ji_ok8 st) ∧ ji_xC (C 190 [.ref a, p0] M) C 188 36 lv st o := s188_33
theorem q188_42 : ji_Ev C 188 42 M lv (p1 :: p0 :: .ref a :: st) o ↔ (ji_rcb M 9 (.ref a) = true ∧ ji_ok8 st) ∧ ji_xC (C 189 [.ref a, p0, p1] M) C 188 45 lv st o := s188_42
theorem q188_48 : ji_Ev C 188 48 M lv (p1 :: p0 :: .ref a :: st) o ↔ (ji_rcb M 9 (.ref a) = true ∧ ji_ok8 st) ∧ ji_xC (C 167 [.ref a, p0, p1] M) C 188 51 lv st o := s188_48
theorem q189_30 : ji_Ev C 189 30 M lv (.int x :: .ref a :: st) o ↔ ji_xIL (ji_kd M a) C 189 31 M lv st o x a := s189_30
theorem q189_45 : ji_Ev C 189 45 M lv (.int x :: .ref a :: st) o ↔ ji_xIL (ji_kd M a) C 189 46 M lv st o x a := s189_45
theorem q189_46 : ji_Ev C 189 46 M lv (p0 :: .ref a :: st) o ↔ (ji_rcb M 9 (.ref a) = true ∧ ji_ok8 st) ∧ ji_xC (C 190 [.ref a, p0] M) C 189 49 lv st o := s189_46
theorem q189_62 : ji_Ev C 189 62 M lv (.int x :: .ref a :: st) o ↔ ji_xIL (ji_kd M a) C 189 63 M lv st o x a := s189_62
theorem q189_63 : ji_Ev C 189 63 M lv (p1 :: p0 :: .ref a :: st) o ↔ (ji_rcb M 9 (.ref a) = true ∧ ji_ok8 st) ∧ ji_xC (C 167 [.ref a, p0, p1] M) C 189 66 lv st o := s189_63
theorem q189_68 : ji_Ev C 189 68 M lv st o ↔ ji_xNC (lv.getD 4 none) 4 1 C 189 71 M lv st o := s189_68
theorem q191_2 : ji_Ev C 191 2 M lv (p0 :: .ref a :: st) o ↔ (ji_rcb M 9 (.ref a) = true ∧ ji_ok8 st) ∧ ji_xC (C 166 [.ref a, p0] M) C 191 5 lv st o := s191_2
theorem q191_16 : ji_Ev C 191 16 M lv (.int x :: .ref a :: st) o ↔ ji_xIL (ji_kd M a) C 191 17 M lv st o x a := s191_16
theorem q191_30 : ji_Ev C 191 30 M lv (.int x :: .ref a :: st) o ↔ ji_xIL (ji_kd M a) C 191 31 M lv st o x a := s191_30
theorem q191_31 : ji_Ev C 191 31 M lv (p0 :: .ref a :: st) o ↔ (ji_rcb M 9 (.ref a) = true ∧ ji_ok8 st) ∧ ji_xC (C 162 [.ref a, p0] M) C 191 34 lv st o := s191_31
theorem q191_50 : ji_Ev C 191 50 M lv (.int x :: .ref a :: st) o ↔ ji_xIL (ji_kd M a) C 191 51 M lv st o x a := s191_50
theorem q192_28 : ji_Ev C 192 28 M lv (p2 :: p1 :: p0 :: .ref a :: st) o ↔ (ji_rcb M 9 (.ref a) = true ∧ ji_ok8 st) ∧ ji_xC (C 171 [.ref a, p0, p1, p2] M) C 192 31 lv st o := s192_28
theorem q192_31 : ji_Ev C 192 31 M lv (.int y :: .int x :: .ref a :: st) o ↔ ji_xIS (ji_kd M a) C 192 32 M lv st o y x a := s192_31
theorem q192_32 : ji_Ev C 192 32 M lv st o ↔ ji_xNC (lv.getD 2 none) 2 1 C 192 35 M lv st o := s192_32
theorem q192_53 : ji_Ev C 192 53 M lv (.int x :: .ref a :: st) o ↔ ji_xIL (ji_kd M a) C 192 54 M lv st o x a := s192_53
theorem q192_81 : ji_Ev C 192 81 M lv (.int x :: .ref a :: st) o ↔ ji_xIL (ji_kd M a) C 192 82 M lv st o x a := s192_81
theorem q192_91 : ji_Ev C 192 91 M lv (.int x :: .ref a :: st) o ↔ ji_xIL (ji_kd M a) C 192 92 M lv st o x a := s192_91
theorem q192_97 : ji_Ev C 192 97 M lv (.int x :: .ref a :: st) o ↔ ji_xIL (ji_kd M a) C 192 98 M lv st o x a := s192_97
theorem q192_107 : ji_Ev C 192 107 M lv (.int x :: .ref a :: st) o ↔ ji_xIL (ji_kd M a) C 192 108 M lv st o x a := s192_107
theorem q192_113 : ji_Ev C 192 113 M lv (.int x :: .ref a :: st) o ↔ ji_xIL (ji_kd M a) C 192 114 M lv st o x a := s192_113
theorem q192_130 : ji_Ev C 192 130 M lv st o ↔ ji_xNC (lv.getD 4 none) 4 1 C 192 133 M lv st o := s192_130
theorem q192_143 : ji_Ev C 192 143 M lv st o ↔ ji_xNC (lv.getD 2 none) 2 1 C 192 146 M lv st o := s192_143
theorem q193_6 : ji_Ev C 193 6 M lv (.ref a :: st) o ↔ (ji_rcb M 9 (.ref a) = true ∧ ji_ok8 st) ∧ ji_xC (C 194 [.ref a] M) C 193 9 lv st o := s193_6
theorem q193_14 : ji_Ev C 193 14 M lv (p0 :: .ref a :: st) o ↔ (ji_rcb M 9 (.ref a) = true ∧ ji_ok8 st) ∧ ji_xC (C 166 [.ref a, p0] M) C 193 17 lv st o := s193_14
theorem q193_22 : ji_Ev C 193 22 M lv (p0 :: .ref a :: st) o ↔ (ji_rcb M 9 (.ref a) = true ∧ ji_ok8 st) ∧ ji_xC (C 195 [.ref a, p0] M) C 193 25 lv st o := s193_22
theorem q194_15 : ji_Ev C 194 15 M lv (p0 :: .ref a :: st) o ↔ (ji_rcb M 9 (.ref a) = true ∧ ji_ok8 st) ∧ ji_xC (C 195 [.ref a, p0] M) C 194 18 lv st o := s194_15
theorem q194_20 : ji_Ev C 194 20 M lv st o ↔ ji_xNC (lv.getD 3 none) 3 1 C 194 23 M lv st o := s194_20
theorem q195_7 : ji_Ev C 195 7 M lv (p2 :: p1 :: p0 :: .ref a :: st) o ↔ (ji_rcb M 9 (.ref a) = true ∧ ji_ok8 st) ∧ ji_xC (C 171 [.ref a, p0, p1, p2] M) C 195 10 lv st o := s195_7
theorem q195_26 : ji_Ev C 195 26 M lv (.int x :: .ref a :: st) o ↔ ji_xIL (ji_kd M a) C 195 27 M lv st o x a := s195_26
theorem q196_5 : ji_Ev C 196 5 M lv (p2 :: p1 :: p0 :: .ref a :: st) o ↔ (ji_rcb M 9 (.ref a) = true ∧ ji_ok8 st) ∧ ji_xC (C 158 [.ref a, p0, p1, p2] M) C 196 8 lv st o := s196_5
theorem q196_59 : ji_Ev C 196 59 M lv (.int y :: .int x :: .ref a :: st) o ↔ ji_xIS (ji_kd M a) C 196 60 M lv st o y x a := s196_59
theorem q196_70 : ji_Ev C 196 70 M lv st o ↔ ji_xNC (lv.getD 4 none) 4 1 C 196 73 M lv st o := s196_70
theorem q197_22 : ji_Ev C 197 22 M lv (.int y :: .int x :: .ref a :: st) o ↔ ji_xIS (ji_kd M a) C 197 23 M lv st o y x a := s197_22
theorem q197_31 : ji_Ev C 197 31 M lv (p0 :: .ref a :: st) o ↔ (ji_rcb M 9 (.ref a) = true ∧ ji_ok8 st) ∧ ji_xC (C 172 [.ref a, p0] M) C 197 34 lv st o := s197_31
theorem q197_59 : ji_Ev C 197 59 M lv (.int x :: .ref a :: st) o ↔ ji_xIL (ji_kd M a) C 197 60 M lv st o x a := s197_59
theorem q197_60 : ji_Ev C 197 60 M lv (.int y :: .int x :: .ref a :: st) o ↔ ji_xIS (ji_kd M a) C 197 61 M lv st o y x a := s197_60
theorem q197_70 : ji_Ev C 197 70 M lv (.int x :: .ref a :: st) o ↔ ji_xIL (ji_kd M a) C 197 71 M lv st o x a := s197_70
theorem q197_97 : ji_Ev C 197 97 M lv (.int x :: .ref a :: st) o ↔ ji_xIL (ji_kd M a) C 197 98 M lv st o x a := s197_97
theorem q197_98 : ji_Ev C 197 98 M lv (.int y :: .int x :: .ref a :: st) o ↔ ji_xIS (ji_kd M a) C 197 99 M lv st o y x a := s197_98
theorem q197_99 : ji_Ev C 197 99 M lv st o ↔ ji_xNC (lv.getD 1 none) 1 1 C 197 102 M lv st o := s197_99
theorem q198_9 : ji_Ev C 198 9 M lv (p2 :: p1 :: p0 :: .ref a :: st) o ↔ (ji_rcb M 9 (.ref a) = true ∧ ji_ok8 st) ∧ ji_xC (C 158 [.ref a, p0, p1, p2] M) C 198 12 lv st o := s198_9
theorem q199_2 : ji_Ev C 199 2 M lv (p0 :: .ref a :: st) o ↔ (ji_rcb M 9 (.ref a) = true ∧ ji_ok8 st) ∧ ji_xC (C 166 [.ref a, p0] M) C 199 5 lv st o := s199_2
theorem q199_12 : ji_Ev C 199 12 M lv (p2 :: p1 :: p0 :: .ref a :: st) o ↔ (ji_rcb M 9 (.ref a) = true ∧ ji_ok8 st) ∧ ji_xC (C 158 [.ref a, p0, p1, p2] M) C 199 15 lv st o := s199_12
theorem q199_25 : ji_Ev C 199 25 M lv (p2 :: p1 :: p0 :: .ref a :: st) o ↔ (ji_rcb M 9 (.ref a) = true ∧ ji_ok8 st) ∧ ji_xC (C 171 [.ref a, p0, p1, p2] M) C 199 28 lv st o := s199_25
theorem q200_4 : ji_Ev C 200 4 M lv (p2 :: p1 :: p0 :: .ref a :: st) o ↔ (ji_rcb M 9 (.ref a) = true ∧ ji_ok8 st) ∧ ji_xC (C 158 [.ref a, p0, p1, p2] M) C 200 7 lv st o := s200_4
theorem q200_14 : ji_Ev C 200 14 M lv (p2 :: p1 :: p0 :: .ref a :: st) o ↔ (ji_rcb M 9 (.ref a) = true ∧ ji_ok8 st) ∧ ji_xC (C 158 [.ref a, p0, p1, p2] M) C 200 17 lv st o := s200_14
theorem q200_24 : ji_Ev C 200 24 M lv (p2 :: p1 :: p0 :: .ref a :: st) o ↔ (ji_rcb M 9 (.ref a) = true ∧ ji_ok8 st) ∧ ji_xC (C 158 [.ref a, p0, p1, p2] M) C 200 27 lv st o := s200_24
theorem q200_54 : ji_Ev C 200 54 M lv (.int y :: .int x :: .ref a :: st) o ↔ ji_xIS (ji_kd M a) C 200 55 M lv st o y x a := s200_54
theorem q200_64 : ji_Ev C 200 64 M lv (.int y :: .int x :: .ref a :: st) o ↔ ji_xIS (ji_kd M a) C 200 65 M lv st o y x a := s200_64
theorem q200_74 : ji_Ev C 200 74 M lv (.int y :: .int x :: .ref a :: st) o ↔ ji_xIS (ji_kd M a) C 200 75 M lv st o y x a := s200_74
theorem q200_87 : ji_Ev C 200 87 M lv (.int y :: .int x :: .ref a :: st) o ↔ ji_xIS (ji_kd M a) C 200 88 M lv st o y x a := s200_87
theorem q201_4 : ji_Ev C 201 4 M lv (p2 :: p1 :: p0 :: .ref a :: st) o ↔ (ji_rcb M 9 (.ref a) = true ∧ ji_ok8 st) ∧ ji_xC (C 158 [.ref a, p0, p1, p2] M) C 201 7 lv st o := s201_4
theorem q201_14 : ji_Ev C 201 14 M lv (p2 :: p1 :: p0 :: .ref a :: st) o ↔ (ji_rcb M 9 (.ref a) = true ∧ ji_ok8 st) ∧ ji_xC (C 158 [.ref a, p0, p1, p2] M) C 201 17 lv st o := s201_14
theorem q201_27 : ji_Ev C 201 27 M lv (p2 :: p1 :: p0 :: .ref a :: st) o ↔ (ji_rcb M 9 (.ref a) = true ∧ ji_ok8 st) ∧ ji_xC (C 158 [.ref a, p0, p1, p2] M) C 201 30 lv st o := s201_27
theorem q201_40 : ji_Ev C 201 40 M lv (p2 :: p1 :: p0 :: .ref a :: st) o ↔ (ji_rcb M 9 (.ref a) = true ∧ ji_ok8 st) ∧ ji_xC (C 187 [.ref a, p0, p1, p2] M) C 201 43 lv st o := s201_40
theorem q202_21 : ji_Ev C 202 21 M lv (p2 :: p1 :: p0 :: .ref a :: st) o ↔ (ji_rcb M 9 (.ref a) = true ∧ ji_ok8 st) ∧ ji_xC (C 158 [.ref a, p0, p1, p2] M) C 202 24 lv st o := s202_21
theorem q202_71 : ji_Ev C 202 71 M lv (.int y :: .int x :: .ref a :: st) o ↔ ji_xIS (ji_kd M a) C 202 72 M lv st o y x a := s202_71
theorem q202_72 : ji_Ev C 202 72 M lv st o ↔ ji_xNC (lv.getD 4 none) 4 1 C 202 75 M lv st o := s202_72
theorem q202_75 : ji_Ev C 202 75 M lv st o ↔ ji_xNC (lv.getD 5 none) 5 1 C 202 78 M lv st o := s202_75
theorem q202_106 : ji_Ev C 202 106 M lv (p2 :: p1 :: p0 :: .ref a :: st) o ↔ (ji_rcb M 9 (.ref a) = true ∧ ji_ok8 st) ∧ ji_xC (C 158 [.ref a, p0, p1, p2] M) C 202 109 lv st o := s202_106
theorem q202_134 : ji_Ev C 202 134 M lv st o ↔ ji_xNC (lv.getD 6 none) 6 1 C 202 137 M lv st o := s202_134
theorem q202_160 : ji_Ev C 202 160 M lv (p1 :: p0 :: .ref a :: st) o ↔ (ji_rcb M 9 (.ref a) = true ∧ ji_ok8 st) ∧ ji_xC (C 203 [.ref a, p0, p1] M) C 202 163 lv st o := s202_160
theorem q202_167 : ji_Ev C 202 167 M lv (p1 :: p0 :: .ref a :: st) o ↔ (ji_rcb M 9 (.ref a) = true ∧ ji_ok8 st) ∧ ji_xC (C 204 [.ref a, p0, p1] M) C 202 170 lv st o := s202_167
theorem q202_216 : ji_Ev C 202 216 M lv (.int x :: .ref a :: st) o ↔ ji_xIL (ji_kd M a) C 202 217 M lv st o x a := s202_216
theorem q202_217 : ji_Ev C 202 217 M lv (.int y :: .int x :: .ref a :: st) o ↔ ji_xIS (ji_kd M a) C 202 218 M lv st o y x a := s202_217
theorem q202_218 : ji_Ev C 202 218 M lv st o ↔ ji_xNC (lv.getD 11 none) 11 1 C 202 221 M lv st o := s202_218
theorem q202_224 : ji_Ev C 202 224 M lv st o ↔ ji_xNC (lv.getD 8 none) 8 1 C 202 227 M lv st o := s202_224
theorem q202_239 : ji_Ev C 202 239 M lv (.int x :: .ref a :: st) o ↔ ji_xIL (ji_kd M a) C 202 240 M lv st o x a := s202_239
theorem q203_24 : ji_Ev C 203 24 M lv (.int y :: .int x :: .ref a :: st) o ↔ ji_xIS (ji_kd M a) C 203 25 M lv st o y x a := s203_24
theorem q203_32 : ji_Ev C 203 32 M lv st o ↔ ji_xNC (lv.getD 4 none) 4 (-1) C 203 35 M lv st o := s203_32
theorem q203_56 : ji_Ev C 203 56 M lv (.int x :: .ref a :: st) o ↔ ji_xIL (ji_kd M a) C 203 57 M lv st o x a := s203_56
theorem q203_99 : ji_Ev C 203 99 M lv st o ↔ ji_xNC (lv.getD 7 none) 7 1 C 203 102 M lv st o := s203_99
theorem q203_126 : ji_Ev C 203 126 M lv (.int x :: .ref a :: st) o ↔ ji_xIL (ji_kd M a) C 203 127 M lv st o x a := s203_126
theorem q203_127 : ji_Ev C 203 127 M lv (.int y :: .int x :: .ref a :: st) o ↔ ji_xIS (ji_kd M a) C 203 128 M lv st o y x a := s203_127
theorem q203_128 : ji_Ev C 203 128 M lv st o ↔ ji_xNC (lv.getD 5 none) 5 1 C 203 131 M lv st o := s203_128
theorem q204_35 : ji_Ev C 204 35 M lv (.int x :: .ref a :: st) o ↔ ji_xIL (ji_kd M a) C 204 36 M lv st o x a := s204_35
theorem q204_36 : ji_Ev C 204 36 M lv (.int y :: .int x :: .ref a :: st) o ↔ ji_xIS (ji_kd M a) C 204 37 M lv st o y x a := s204_36
theorem q204_49 : ji_Ev C 204 49 M lv (.int x :: .ref a :: st) o ↔ ji_xIL (ji_kd M a) C 204 50 M lv st o x a := s204_49
theorem q204_50 : ji_Ev C 204 50 M lv (.int y :: .int x :: .ref a :: st) o ↔ ji_xIS (ji_kd M a) C 204 51 M lv st o y x a := s204_50
theorem q204_63 : ji_Ev C 204 63 M lv (.int x :: .ref a :: st) o ↔ ji_xIL (ji_kd M a) C 204 64 M lv st o x a := s204_63
theorem q204_64 : ji_Ev C 204 64 M lv (.int y :: .int x :: .ref a :: st) o ↔ ji_xIS (ji_kd M a) C 204 65 M lv st o y x a := s204_64
theorem q204_77 : ji_Ev C 204 77 M lv (.int x :: .ref a :: st) o ↔ ji_xIL (ji_kd M a) C 204 78 M lv st o x a := s204_77
theorem q204_78 : ji_Ev C 204 78 M lv (.int y :: .int x :: .ref a :: st) o ↔ ji_xIS (ji_kd M a) C 204 79 M lv st o y x a := s204_78
theorem q204_79 : ji_Ev C 204 79 M lv st o ↔ ji_xNC (lv.getD 6 none) 6 1 C 204 82 M lv st o := s204_79
theorem q204_100 : ji_Ev C 204 100 M lv (.int x :: .ref a :: st) o ↔ ji_xIL (ji_kd M a) C 204 101 M lv st o x a := s204_100
theorem q204_110 : ji_Ev C 204 110 M lv (.int x :: .ref a :: st) o ↔ ji_xIL (ji_kd M a) C 204 111 M lv st o x a := s204_110
theorem q204_112 : ji_Ev C 204 112 M lv (p1 :: p0 :: .ref a :: st) o ↔ (ji_rcb M 9 (.ref a) = true ∧ ji_ok8 st) ∧ ji_xC (C 169 [.ref a, p0, p1] M) C 204 115 lv st o := s204_112
theorem q204_122 : ji_Ev C 204 122 M lv (p1 :: p0 :: .ref a :: st) o ↔ (ji_rcb M 9 (.ref a) = true ∧ ji_ok8 st) ∧ ji_xC (C 188 [.ref a, p0, p1] M) C 204 125 lv st o := s204_122
theorem q204_135 : ji_Ev C 204 135 M lv (.int y :: .int x :: .ref a :: st) o ↔ ji_xIS (ji_kd M a) C 204 136 M lv st o y x a := s204_135
theorem q204_146 : ji_Ev C 204 146 M lv (.int y :: .int x :: .ref a :: st) o ↔ ji_xIS (ji_kd M a) C 204 147 M lv st o y x a := s204_146
theorem q204_157 : ji_Ev C 204 157 M lv (.ref a :: st) o ↔ (ji_rcb M 9 (.ref a) = true ∧ ji_ok8 st) ∧ ji_xC (C 160 [.ref a] M) C 204 160 lv st o := s204_157
theorem q204_160 : ji_Ev C 204 160 M lv st o ↔ ji_xNC (lv.getD 8 none) 8 1 C 204 163 M lv st o := s204_160
theorem q204_166 : ji_Ev C 204 166 M lv st o ↔ ji_xNC (lv.getD 6 none) 6 1 C 204 169 M lv st o := s204_166
theorem q204_173 : ji_Ev C 204 173 M lv (.ref a :: st) o ↔ (ji_rcb M 9 (.ref a) = true ∧ ji_ok8 st) ∧ ji_xC (C 194 [.ref a] M) C 204 176 lv st o := s204_173
theorem q204_213 : ji_Ev C 204 213 M lv (.int x :: .ref a :: st) o ↔ ji_xIL (ji_kd M a) C 204 214 M lv st o x a := s204_213
theorem q204_214 : ji_Ev C 204 214 M lv (.int y :: .int x :: .ref a :: st) o ↔ ji_xIS (ji_kd M a) C 204 215 M lv st o y x a := s204_214
theorem q204_227 : ji_Ev C 204 227 M lv (.int x :: .ref a :: st) o ↔ ji_xIL (ji_kd M a) C 204 228 M lv st o x a := s204_227
theorem q204_228 : ji_Ev C 204 228 M lv (.int y :: .int x :: .ref a :: st) o ↔ ji_xIS (ji_kd M a) C 204 229 M lv st o y x a := s204_228
theorem q204_241 : ji_Ev C 204 241 M lv (.int x :: .ref a :: st) o ↔ ji_xIL (ji_kd M a) C 204 242 M lv st o x a := s204_241
theorem q204_242 : ji_Ev C 204 242 M lv (.int y :: .int x :: .ref a :: st) o ↔ ji_xIS (ji_kd M a) C 204 243 M lv st o y x a := s204_242
theorem q204_255 : ji_Ev C 204 255 M lv (.int x :: .ref a :: st) o ↔ ji_xIL (ji_kd M a) C 204 256 M lv st o x a := s204_255
theorem q204_256 : ji_Ev C 204 256 M lv (.int y :: .int x :: .ref a :: st) o ↔ ji_xIS (ji_kd M a) C 204 257 M lv st o y x a := s204_256
theorem q204_257 : ji_Ev C 204 257 M lv st o ↔ ji_xNC (lv.getD 8 none) 8 1 C 204 260 M lv st o := s204_257
theorem q205_5 : ji_Ev C 205 5 M lv (p2 :: p1 :: p0 :: .ref a :: st) o ↔ (ji_rcb M 9 (.ref a) = true ∧ ji_ok8 st) ∧ ji_xC (C 158 [.ref a, p0, p1, p2] M) C 205 8 lv st o := s205_5
theorem q205_16 : ji_Ev C 205 16 M lv (p2 :: p1 :: p0 :: .ref a :: st) o ↔ (ji_rcb M 9 (.ref a) = true ∧ ji_ok8 st) ∧ ji_xC (C 158 [.ref a, p0, p1, p2] M) C 205 19 lv st o := s205_16
theorem q205_46 : ji_Ev C 205 46 M lv (.int y :: .int x :: .ref a :: st) o ↔ ji_xIS (ji_kd M a) C 205 47 M lv st o y x a := s205_46
theorem q205_56 : ji_Ev C 205 56 M lv (.int y :: .int x :: .ref a :: st) o ↔ ji_xIS (ji_kd M a) C 205 57 M lv st o y x a := s205_56
theorem q205_69 : ji_Ev C 205 69 M lv (.int y :: .int x :: .ref a :: st) o ↔ ji_xIS (ji_kd M a) C 205 70 M lv st o y x a := s205_69
theorem q206_11 : ji_Ev C 206 11 M lv (p2 :: p1 :: p0 :: .ref a :: st) o ↔ (ji_rcb M 9 (.ref a) = true ∧ ji_ok8 st) ∧ ji_xC (C 158 [.ref a, p0, p1, p2] M) C 206 14 lv st o := s206_11
theorem q206_37 : ji_Ev C 206 37 M lv (.int x :: .ref a :: st) o ↔ ji_xIL (ji_kd M a) C 206 38 M lv st o x a := s206_37
theorem q206_43 : ji_Ev C 206 43 M lv (.int x :: .ref a :: st) o ↔ ji_xIL (ji_kd M a) C 206 44 M lv st o x a := s206_43
theorem q206_53 : ji_Ev C 206 53 M lv (.int x :: .ref a :: st) o ↔ ji_xIL (ji_kd M a) C 206 54 M lv st o x a := s206_53
theorem q206_92 : ji_Ev C 206 92 M lv st o ↔ ji_xNC (lv.getD 3 none) 3 1 C 206 95 M lv st o := s206_92
theorem q207_6 : ji_Ev C 207 6 M lv (p2 :: p1 :: p0 :: .ref a :: st) o ↔ (ji_rcb M 9 (.ref a) = true ∧ ji_ok8 st) ∧ ji_xC (C 158 [.ref a, p0, p1, p2] M) C 207 9 lv st o := s207_6
theorem q207_52 : ji_Ev C 207 52 M lv (.int y :: .int x :: .ref a :: st) o ↔ ji_xIS (ji_kd M a) C 207 53 M lv st o y x a := s207_52
theorem q207_58 : ji_Ev C 207 58 M lv st o ↔ ji_xNC (lv.getD 3 none) 3 1 C 207 61 M lv st o := s207_58
theorem q208_2 : ji_Ev C 208 2 M lv (p0 :: .ref a :: st) o ↔ (ji_rcb M 9 (.ref a) = true ∧ ji_ok8 st) ∧ ji_xC (C 166 [.ref a, p0] M) C 208 5 lv st o := s208_2
theorem q208_14 : ji_Ev C 208 14 M lv (p2 :: p1 :: p0 :: .ref a :: st) o ↔ (ji_rcb M 9 (.ref a) = true ∧ ji_ok8 st) ∧ ji_xC (C 158 [.ref a, p0, p1, p2] M) C 208 17 lv st o := s208_14
theorem q208_63 : ji_Ev C 208 63 M lv (.int y :: .int x :: .ref a :: st) o ↔ ji_xIS (ji_kd M a) C 208 64 M lv st o y x a := s208_63
theorem q208_69 : ji_Ev C 208 69 M lv st o ↔ ji_xNC (lv.getD 4 none) 4 1 C 208 72 M lv st o := s208_69
theorem q208_84 : ji_Ev C 208 84 M lv (.int y :: .int x :: .ref a :: st) o ↔ ji_xIS (ji_kd M a) C 208 85 M lv st o y x a := s208_84
theorem q209_9 : ji_Ev C 209 9 M lv (p2 :: p1 :: p0 :: .ref a :: st) o ↔ (ji_rcb M 9 (.ref a) = true ∧ ji_ok8 st) ∧ ji_xC (C 158 [.ref a, p0, p1, p2] M) C 209 12 lv st o := s209_9
theorem q209_24 : ji_Ev C 209 24 M lv (p2 :: p1 :: p0 :: .ref a :: st) o ↔ (ji_rcb M 9 (.ref a) = true ∧ ji_ok8 st) ∧ ji_xC (C 158 [.ref a, p0, p1, p2] M) C 209 27 lv st o := s209_24
theorem q209_33 : ji_Ev C 209 33 M lv (p1 :: p0 :: .ref a :: st) o ↔ (ji_rcb M 9 (.ref a) = true ∧ ji_ok8 st) ∧ ji_xC (C 210 [.ref a, p0, p1] M) C 209 36 lv st o := s209_33
theorem q210_7 : ji_Ev C 210 7 M lv (.int x :: .ref a :: st) o ↔ ji_xIL (ji_kd M a) C 210 8 M lv st o x a := s210_7
theorem q210_20 : ji_Ev C 210 20 M lv (.int x :: .ref a :: st) o ↔ ji_xIL (ji_kd M a) C 210 21 M lv st o x a := s210_20
theorem q210_28 : ji_Ev C 210 28 M lv (.int x :: .ref a :: st) o ↔ ji_xIL (ji_kd M a) C 210 29 M lv st o x a := s210_28
theorem q210_56 : ji_Ev C 210 56 M lv (.int x :: .ref a :: st) o ↔ ji_xIL (ji_kd M a) C 210 57 M lv st o x a := s210_56
theorem q210_67 : ji_Ev C 210 67 M lv (.int x :: .ref a :: st) o ↔ ji_xIL (ji_kd M a) C 210 68 M lv st o x a := s210_67
theorem q210_78 : ji_Ev C 210 78 M lv st o ↔ ji_xNC (lv.getD 4 none) 4 1 C 210 81 M lv st o := s210_78
theorem q211_9 : ji_Ev C 211 9 M lv (p2 :: p1 :: p0 :: .ref a :: st) o ↔ (ji_rcb M 9 (.ref a) = true ∧ ji_ok8 st) ∧ ji_xC (C 158 [.ref a, p0, p1, p2] M) C 211 12 lv st o := s211_9
theorem q211_19 : ji_Ev C 211 19 M lv (.ref a :: st) o ↔ (ji_rcb M 9 (.ref a) = true ∧ ji_ok8 st) ∧ ji_xC (C 212 [.ref a] M) C 211 22 lv st o := s211_19
theorem q211_37 : ji_Ev C 211 37 M lv (.int x :: .ref a :: st) o ↔ ji_xIL (ji_kd M a) C 211 38 M lv st o x a := s211_37
theorem q211_54 : ji_Ev C 211 54 M lv (.int x :: .ref a :: st) o ↔ ji_xIL (ji_kd M a) C 211 55 M lv st o x a := s211_54
theorem q212_23 : ji_Ev C 212 23 M lv st o ↔ ji_xNC (lv.getD 3 none) 3 1 C 212 26 M lv st o := s212_23
theorem q212_67 : ji_Ev C 212 67 M lv (.int y :: .int x :: .ref a :: st) o ↔ ji_xIS (ji_kd M a) C 212 68 M lv st o y x a := s212_67
theorem q212_79 : ji_Ev C 212 79 M lv st o ↔ ji_xNC (lv.getD 5 none) 5 (-1) C 212 82 M lv st o := s212_79
theorem q212_117 : ji_Ev C 212 117 M lv (.int x :: .ref a :: st) o ↔ ji_xIL (ji_kd M a) C 212 118 M lv st o x a := s212_117
theorem q212_147 : ji_Ev C 212 147 M lv (p1 :: p0 :: .ref a :: st) o ↔ (ji_rcb M 9 (.ref a) = true ∧ ji_ok8 st) ∧ ji_xC (C 210 [.ref a, p0, p1] M) C 212 150 lv st o := s212_147
theorem q212_176 : ji_Ev C 212 176 M lv (p1 :: p0 :: .ref a :: st) o ↔ (ji_rcb M 9 (.ref a) = true ∧ ji_ok8 st) ∧ ji_xC (C 210 [.ref a, p0, p1] M) C 212 179 lv st o := s212_176
theorem q212_182 : ji_Ev C 212 182 M lv st o ↔ ji_xNC (lv.getD 8 none) 8 1 C 212 185 M lv st o := s212_182
theorem q212_229 : ji_Ev C 212 229 M lv (.int x :: .ref a :: st) o ↔ ji_xIL (ji_kd M a) C 212 230 M lv st o x a := s212_229
theorem q212_230 : ji_Ev C 212 230 M lv (.int y :: .int x :: .ref a :: st) o ↔ ji_xIS (ji_kd M a) C 212 231 M lv st o y x a := s212_230
theorem q212_231 : ji_Ev C 212 231 M lv st o ↔ ji_xNC (lv.getD 8 none) 8 1 C 212 234 M lv st o := s212_231
theorem q212_237 : ji_Ev C 212 237 M lv st o ↔ ji_xNC (lv.getD 3 none) 3 1 C 212 240 M lv st o := s212_237
theorem q213_4 : ji_Ev C 213 4 M lv (p2 :: p1 :: p0 :: .ref a :: st) o ↔ (ji_rcb M 9 (.ref a) = true ∧ ji_ok8 st) ∧ ji_xC (C 158 [.ref a, p0, p1, p2] M) C 213 7 lv st o := s213_4
theorem q213_16 : ji_Ev C 213 16 M lv (p2 :: p1 :: p0 :: .ref a :: st) o ↔ (ji_rcb M 9 (.ref a) = true ∧ ji_ok8 st) ∧ ji_xC (C 158 [.ref a, p0, p1, p2] M) C 213 19 lv st o := s213_16
theorem q213_28 : ji_Ev C 213 28 M lv (p2 :: p1 :: p0 :: .ref a :: st) o ↔ (ji_rcb M 9 (.ref a) = true ∧ ji_ok8 st) ∧ ji_xC (C 158 [.ref a, p0, p1, p2] M) C 213 31 lv st o := s213_28
theorem q213_58 : ji_Ev C 213 58 M lv (.int y :: .int x :: .ref a :: st) o ↔ ji_xIS (ji_kd M a) C 213 59 M lv st o y x a := s213_58
theorem q213_68 : ji_Ev C 213 68 M lv (.int y :: .int x :: .ref a :: st) o ↔ ji_xIS (ji_kd M a) C 213 69 M lv st o y x a := s213_68
theorem q213_78 : ji_Ev C 213 78 M lv (.int y :: .int x :: .ref a :: st) o ↔ ji_xIS (ji_kd M a) C 213 79 M lv st o y x a := s213_78
theorem q213_91 : ji_Ev C 213 91 M lv (.int y :: .int x :: .ref a :: st) o ↔ ji_xIS (ji_kd M a) C 213 92 M lv st o y x a := s213_91
theorem q214_4 : ji_Ev C 214 4 M lv (p2 :: p1 :: p0 :: .ref a :: st) o ↔ (ji_rcb M 9 (.ref a) = true ∧ ji_ok8 st) ∧ ji_xC (C 158 [.ref a, p0, p1, p2] M) C 214 7 lv st o := s214_4
theorem q214_17 : ji_Ev C 214 17 M lv (p2 :: p1 :: p0 :: .ref a :: st) o ↔ (ji_rcb M 9 (.ref a) = true ∧ ji_ok8 st) ∧ ji_xC (C 158 [.ref a, p0, p1, p2] M) C 214 20 lv st o := s214_17
theorem q214_27 : ji_Ev C 214 27 M lv (p2 :: p1 :: p0 :: .ref a :: st) o ↔ (ji_rcb M 9 (.ref a) = true ∧ ji_ok8 st) ∧ ji_xC (C 158 [.ref a, p0, p1, p2] M) C 214 30 lv st o := s214_27
theorem q214_62 : ji_Ev C 214 62 M lv (.int x :: .ref a :: st) o ↔ ji_xIL (ji_kd M a) C 214 63 M lv st o x a := s214_62
theorem q214_73 : ji_Ev C 214 73 M lv (.int x :: .ref a :: st) o ↔ ji_xIL (ji_kd M a) C 214 74 M lv st o x a := s214_73
theorem q214_87 : ji_Ev C 214 87 M lv (.int x :: .ref a :: st) o ↔ ji_xIL (ji_kd M a) C 214 88 M lv st o x a := s214_87
theorem q214_99 : ji_Ev C 214 99 M lv (.int x :: .ref a :: st) o ↔ ji_xIL (ji_kd M a) C 214 100 M lv st o x a := s214_99
theorem q214_113 : ji_Ev C 214 113 M lv (.int x :: .ref a :: st) o ↔ ji_xIL (ji_kd M a) C 214 114 M lv st o x a := s214_113
theorem q214_125 : ji_Ev C 214 125 M lv (.int x :: .ref a :: st) o ↔ ji_xIL (ji_kd M a) C 214 126 M lv st o x a := s214_125
theorem q214_133 : ji_Ev C 214 133 M lv st o ↔ ji_xNC (lv.getD 6 none) 6 1 C 214 136 M lv st o := s214_133
theorem q214_192 : ji_Ev C 214 192 M lv (.int x :: .ref a :: st) o ↔ ji_xIL (ji_kd M a) C 214 193 M lv st o x a := s214_192
theorem q214_205 : ji_Ev C 214 205 M lv st o ↔ ji_xNC (lv.getD 7 none) 7 1 C 214 208 M lv st o := s214_205
theorem q215_6 : ji_Ev C 215 6 M lv (p2 :: p1 :: p0 :: .ref a :: st) o ↔ (ji_rcb M 9 (.ref a) = true ∧ ji_ok8 st) ∧ ji_xC (C 158 [.ref a, p0, p1, p2] M) C 215 9 lv st o := s215_6
theorem q215_16 : ji_Ev C 215 16 M lv (p2 :: p1 :: p0 :: .ref a :: st) o ↔ (ji_rcb M 9 (.ref a) = true ∧ ji_ok8 st) ∧ ji_xC (C 158 [.ref a, p0, p1, p2] M) C 215 19 lv st o := s215_16
theorem q215_46 : ji_Ev C 215 46 M lv (.int y :: .int x :: .ref a :: st) o ↔ ji_xIS (ji_kd M a) C 215 47 M lv st o y x a := s215_46
theorem q215_56 : ji_Ev C 215 56 M lv (.int y :: .int x :: .ref a :: st) o ↔ ji_xIS (ji_kd M a) C 215 57 M lv st o y x a := s215_56
theorem q216_4 : ji_Ev C 216 4 M lv (p2 :: p1 :: p0 :: .ref a :: st) o ↔ (ji_rcb M 9 (.ref a) = true ∧ ji_ok8 st) ∧ ji_xC (C 158 [.ref a, p0, p1, p2] M) C 216 7 lv st o := s216_4
theorem q216_16 : ji_Ev C 216 16 M lv (p2 :: p1 :: p0 :: .ref a :: st) o ↔ (ji_rcb M 9 (.ref a) = true ∧ ji_ok8 st) ∧ ji_xC (C 158 [.ref a, p0, p1, p2] M) C 216 19 lv st o := s216_16
theorem q216_41 : ji_Ev C 216 41 M lv (p2 :: p1 :: p0 :: .ref a :: st) o ↔ (ji_rcb M 9 (.ref a) = true ∧ ji_ok8 st) ∧ ji_xC (C 158 [.ref a, p0, p1, p2] M) C 216 44 lv st o := s216_41
theorem q216_82 : ji_Ev C 216 82 M lv (.int y :: .int x :: .ref a :: st) o ↔ ji_xIS (ji_kd M a) C 216 83 M lv st o y x a := s216_82
theorem q216_96 : ji_Ev C 216 96 M lv (.int y :: .int x :: .ref a :: st) o ↔ ji_xIS (ji_kd M a) C 216 97 M lv st o y x a := s216_96
theorem q216_110 : ji_Ev C 216 110 M lv (.int y :: .int x :: .ref a :: st) o ↔ ji_xIS (ji_kd M a) C 216 111 M lv st o y x a := s216_110
theorem q216_123 : ji_Ev C 216 123 M lv (.int y :: .int x :: .ref a :: st) o ↔ ji_xIS (ji_kd M a) C 216 124 M lv st o y x a := s216_123
theorem q216_136 : ji_Ev C 216 136 M lv (.int y :: .int x :: .ref a :: st) o ↔ ji_xIS (ji_kd M a) C 216 137 M lv st o y x a := s216_136
theorem q217_9 : ji_Ev C 217 9 M lv (p2 :: p1 :: p0 :: .ref a :: st) o ↔ (ji_rcb M 9 (.ref a) = true ∧ ji_ok8 st) ∧ ji_xC (C 158 [.ref a, p0, p1, p2] M) C 217 12 lv st o := s217_9
theorem q217_41 : ji_Ev C 217 41 M lv (.int x :: .ref a :: st) o ↔ ji_xIL (ji_kd M a) C 217 42 M lv st o x a := s217_41
theorem q217_47 : ji_Ev C 217 47 M lv (.int x :: .ref a :: st) o ↔ ji_xIL (ji_kd M a) C 217 48 M lv st o x a := s217_47
theorem q217_57 : ji_Ev C 217 57 M lv (.int x :: .ref a :: st) o ↔ ji_xIL (ji_kd M a) C 217 58 M lv st o x a := s217_57
theorem q217_64 : ji_Ev C 217 64 M lv (.int x :: .ref a :: st) o ↔ ji_xIL (ji_kd M a) C 217 65 M lv st o x a := s217_64
theorem q217_71 : ji_Ev C 217 71 M lv (.int x :: .ref a :: st) o ↔ ji_xIL (ji_kd M a) C 217 72 M lv st o x a := s217_71
theorem q217_74 : ji_Ev C 217 74 M lv (p2 :: p1 :: p0 :: .ref a :: st) o ↔ (ji_rcb M 9 (.ref a) = true ∧ ji_ok8 st) ∧ ji_xC (C 158 [.ref a, p0, p1, p2] M) C 217 77 lv st o := s217_74
theorem q217_89 : ji_Ev C 217 89 M lv (.int x :: .ref a :: st) o ↔ ji_xIL (ji_kd M a) C 217 90 M lv st o x a := s217_89
theorem q217_100 : ji_Ev C 217 100 M lv (.int x :: .ref a :: st) o ↔ ji_xIL (ji_kd M a) C 217 101 M lv st o x a := s217_100
theorem q217_112 : ji_Ev C 217 112 M lv (.int x :: .ref a :: st) o ↔ ji_xIL (ji_kd M a) C 217 113 M lv st o x a := s217_112
theorem q217_123 : ji_Ev C 217 123 M lv (.int x :: .ref a :: st) o ↔ ji_xIL (ji_kd M a) C 217 124 M lv st o x a := s217_123
theorem q217_129 : ji_Ev C 217 129 M lv st o ↔ ji_xNC (lv.getD 4 none) 4 1 C 217 132 M lv st o := s217_129
theorem q218_6 : ji_Ev C 218 6 M lv (p2 :: p1 :: p0 :: .ref a :: st) o ↔ (ji_rcb M 9 (.ref a) = true ∧ ji_ok8 st) ∧ ji_xC (C 158 [.ref a, p0, p1, p2] M) C 218 9 lv st o := s218_6
theorem q218_18 : ji_Ev C 218 18 M lv (p2 :: p1 :: p0 :: .ref a :: st) o ↔ (ji_rcb M 9 (.ref a) = true ∧ ji_ok8 st) ∧ ji_xC (C 158 [.ref a, p0, p1, p2] M) C 218 21 lv st o := s218_18
theorem q218_48 : ji_Ev C 218 48 M lv (.int y :: .int x :: .ref a :: st) o ↔ ji_xIS (ji_kd M a) C 218 49 M lv st o y x a := s218_48
theorem q218_58 : ji_Ev C 218 58 M lv (.int y :: .int x :: .ref a :: st) o ↔ ji_xIS (ji_kd M a) C 218 59 M lv st o y x a := s218_58
theorem q219_4 : ji_Ev C 219 4 M lv (p2 :: p1 :: p0 :: .ref a :: st) o ↔ (ji_rcb M 9 (.ref a) = true ∧ ji_ok8 st) ∧ ji_xC (C 158 [.ref a, p0, p1, p2] M) C 219 7 lv st o := s219_4
theorem q219_16 : ji_Ev C 219 16 M lv (p2 :: p1 :: p0 :: .ref a :: st) o ↔ (ji_rcb M 9 (.ref a) = true ∧ ji_ok8 st) ∧ ji_xC (C 158 [.ref a, p0, p1, p2] M) C 219 19 lv st o := s219_16
theorem q219_35 : ji_Ev C 219 35 M lv (p2 :: p1 :: p0 :: .ref a :: st) o ↔ (ji_rcb M 9 (.ref a) = true ∧ ji_ok8 st) ∧ ji_xC (C 158 [.ref a, p0, p1, p2] M) C 219 38 lv st o := s219_35
theorem q219_66 : ji_Ev C 219 66 M lv st o ↔ ji_xNC (lv.getD 5 none) 5 1 C 219 69 M lv st o := s219_66
theorem q219_117 : ji_Ev C 219 117 M lv (.int y :: .int x :: .ref a :: st) o ↔ ji_xIS (ji_kd M a) C 219 118 M lv st o y x a := s219_117
theorem q219_126 : ji_Ev C 219 126 M lv st o ↔ ji_xNC (lv.getD 9 none) 9 (-1) C 219 129 M lv st o := s219_126
theorem q219_158 : ji_Ev C 219 158 M lv (.int x :: .ref a :: st) o ↔ ji_xIL (ji_kd M a) C 219 159 M lv st o x a := s219_158
theorem q219_166 : ji_Ev C 219 166 M lv (.int x :: .ref a :: st) o ↔ ji_xIL (ji_kd M a) C 219 167 M lv st o x a := s219_166
theorem q219_180 : ji_Ev C 219 180 M lv (.int x :: .ref a :: st) o ↔ ji_xIL (ji_kd M a) C 219 181 M lv st o x a := s219_180
theorem q219_191 : ji_Ev C 219 191 M lv (.int x :: .ref a :: st) o ↔ ji_xIL (ji_kd M a) C 219 192 M lv st o x a := s219_191
theorem q219_199 : ji_Ev C 219 199 M lv st o ↔ ji_xNC (lv.getD 11 none) 11 1 C 219 202 M lv st o := s219_199
theorem q219_229 : ji_Ev C 219 229 M lv (p1 :: p0 :: .ref a :: st) o ↔ (ji_rcb M 9 (.ref a) = true ∧ ji_ok8 st) ∧ ji_xC (C 220 [.ref a, p0, p1] M) C 219 232 lv st o := s219_229
theorem q219_270 : ji_Ev C 219 270 M lv (.int x :: .ref a :: st) o ↔ ji_xIL (ji_kd M a) C 219 271 M lv st o x a := s219_270
theorem q219_271 : ji_Ev C 219 271 M lv (.int y :: .int x :: .ref a :: st) o ↔ ji_xIS (ji_kd M a) C 219 272 M lv st o y x a := s219_271
theorem q219_272 : ji_Ev C 219 272 M lv st o ↔ ji_xNC (lv.getD 11 none) 11 1 C 219 275 M lv st o := s219_272
theorem q219_278 : ji_Ev C 219 278 M lv st o ↔ ji_xNC (lv.getD 7 none) 7 1 C 219 281 M lv st o := s219_278
theorem q219_310 : ji_Ev C 219 310 M lv (.int x :: .ref a :: st) o ↔ ji_xIL (ji_kd M a) C 219 311 M lv st o x a := s219_310
theorem q219_324 : ji_Ev C 219 324 M lv (.int x :: .ref a :: st) o ↔ ji_xIL (ji_kd M a) C 219 325 M lv st o x a := s219_324
theorem q220_13 : ji_Ev C 220 13 M lv (.int y :: .int x :: .ref a :: st) o ↔ ji_xIS (ji_kd M a) C 220 14 M lv st o y x a := s220_13
theorem q220_14 : ji_Ev C 220 14 M lv st o ↔ ji_xNC (lv.getD 3 none) 3 1 C 220 17 M lv st o := s220_14
theorem q220_35 : ji_Ev C 220 35 M lv (.int x :: .ref a :: st) o ↔ ji_xIL (ji_kd M a) C 220 36 M lv st o x a := s220_35
theorem q220_49 : ji_Ev C 220 49 M lv (.int x :: .ref a :: st) o ↔ ji_xIL (ji_kd M a) C 220 50 M lv st o x a := s220_49
theorem q220_51 : ji_Ev C 220 51 M lv (.int x :: .ref a :: st) o ↔ ji_xIL (ji_kd M a) C 220 52 M lv st o x a := s220_51
theorem q220_57 : ji_Ev C 220 57 M lv (.int x :: .ref a :: st) o ↔ ji_xIL (ji_kd M a) C 220 58 M lv st o x a := s220_57
theorem q220_59 : ji_Ev C 220 59 M lv (.int y :: .int x :: .ref a :: st) o ↔ ji_xIS (ji_kd M a) C 220 60 M lv st o y x a := s220_59
theorem q220_60 : ji_Ev C 220 60 M lv st o ↔ ji_xNC (lv.getD 3 none) 3 1 C 220 63 M lv st o := s220_60
theorem q220_85 : ji_Ev C 220 85 M lv (.int x :: .ref a :: st) o ↔ ji_xIL (ji_kd M a) C 220 86 M lv st o x a := s220_85
theorem q220_95 : ji_Ev C 220 95 M lv st o ↔ ji_xNC (lv.getD 4 none) 4 1 C 220 98 M lv st o := s220_95
theorem q221_144 : ji_Ev C 221 144 M lv (p1 :: p0 :: .ref a :: st) o ↔ (ji_rcb M 9 (.ref a) = true ∧ ji_ok8 st) ∧ ji_xC (C 189 [.ref a, p0, p1] M) C 221 147 lv st o := s221_144
theorem q221_151 : ji_Ev C 221 151 M lv (p1 :: p0 :: .ref a :: st) o ↔ (ji_rcb M 9 (.ref a) = true ∧ ji_ok8 st) ∧ ji_xC (C 189 [.ref a, p0, p1] M) C 221 154 lv st o := s221_151
theorem q222_2 : ji_Ev C 222 2 M lv (p0 :: .ref a :: st) o ↔ (ji_rcb M 9 (.ref a) = true ∧ ji_ok8 st) ∧ ji_xC (C 223 [.ref a, p0] M) C 222 5 lv st o := s222_2
theorem q222_12 : ji_Ev C 222 12 M lv (p2 :: p1 :: p0 :: .ref a :: st) o ↔ (ji_rcb M 9 (.ref a) = true ∧ ji_ok8 st) ∧ ji_xC (C 158 [.ref a, p0, p1, p2] M) C 222 15 lv st o := s222_12
theorem q222_48 : ji_Ev C 222 48 M lv (.int y :: .int x :: .ref a :: st) o ↔ ji_xIS (ji_kd M a) C 222 49 M lv st o y x a := s222_48
theorem q222_63 : ji_Ev C 222 63 M lv (.int y :: .int x :: .ref a :: st) o ↔ ji_xIS (ji_kd M a) C 222 64 M lv st o y x a := s222_63
theorem q222_86 : ji_Ev C 222 86 M lv (.int y :: .int x :: .ref a :: st) o ↔ ji_xIS (ji_kd M a) C 222 87 M lv st o y x a := s222_86
theorem q222_87 : ji_Ev C 222 87 M lv st o ↔ ji_xNC (lv.getD 4 none) 4 1 C 222 90 M lv st o := s222_87
theorem q223_4 : ji_Ev C 223 4 M lv (p2 :: p1 :: p0 :: .ref a :: st) o ↔ (ji_rcb M 9 (.ref a) = true ∧ ji_ok8 st) ∧ ji_xC (C 158 [.ref a, p0, p1, p2] M) C 223 7 lv st o := s223_4
theorem q224_2 : ji_Ev C 224 2 M lv (p0 :: .ref a :: st) o ↔ (ji_rcb M 9 (.ref a) = true ∧ ji_ok8 st) ∧ ji_xC (C 223 [.ref a, p0] M) C 224 5 lv st o := s224_2
theorem q224_16 : ji_Ev C 224 16 M lv (.int x :: .ref a :: st) o ↔ ji_xIL (ji_kd M a) C 224 17 M lv st o x a := s224_16
theorem q224_31 : ji_Ev C 224 31 M lv (.int x :: .ref a :: st) o ↔ ji_xIL (ji_kd M a) C 224 32 M lv st o x a := s224_31
theorem q224_34 : ji_Ev C 224 34 M lv (p2 :: p1 :: p0 :: .ref a :: st) o ↔ (ji_rcb M 9 (.ref a) = true ∧ ji_ok8 st) ∧ ji_xC (C 158 [.ref a, p0, p1, p2] M) C 224 37 lv st o := s224_34
theorem q224_58 : ji_Ev C 224 58 M lv (.int x :: .ref a :: st) o ↔ ji_xIL (ji_kd M a) C 224 59 M lv st o x a := s224_58
theorem q224_72 : ji_Ev C 224 72 M lv (.int x :: .ref a :: st) o ↔ ji_xIL (ji_kd M a) C 224 73 M lv st o x a := s224_72
theorem q224_83 : ji_Ev C 224 83 M lv (.int y :: .int x :: .ref a :: st) o ↔ ji_xIS (ji_kd M a) C 224 84 M lv st o y x a := s224_83
theorem q225_2 : ji_Ev C 225 2 M lv (p0 :: .ref a :: st) o ↔ (ji_rcb M 9 (.ref a) = true ∧ ji_ok8 st) ∧ ji_xC (C 223 [.ref a, p0] M) C 225 5 lv st o := s225_2
theorem q225_10 : ji_Ev C 225 10 M lv (p0 :: .ref a :: st) o ↔ (ji_rcb M 9 (.ref a) = true ∧ ji_ok8 st) ∧ ji_xC (C 223 [.ref a, p0] M) C 225 13 lv st o := s225_10
theorem q225_24 : ji_Ev C 225 24 M lv (.int x :: .ref a :: st) o ↔ ji_xIL (ji_kd M a) C 225 25 M lv st o x a := s225_24
theorem q225_33 : ji_Ev C 225 33 M lv (.int x :: .ref a :: st) o ↔ ji_xIL (ji_kd M a) C 225 34 M lv st o x a := s225_33
theorem q225_45 : ji_Ev C 225 45 M lv (.int x :: .ref a :: st) o ↔ ji_xIL (ji_kd M a) C 225 46 M lv st o x a := s225_45
theorem q225_51 : ji_Ev C 225 51 M lv (.int x :: .ref a :: st) o ↔ ji_xIL (ji_kd M a) C 225 52 M lv st o x a := s225_51
theorem q225_78 : ji_Ev C 225 78 M lv (.int x :: .ref a :: st) o ↔ ji_xIL (ji_kd M a) C 225 79 M lv st o x a := s225_78
theorem q225_92 : ji_Ev C 225 92 M lv (.int x :: .ref a :: st) o ↔ ji_xIL (ji_kd M a) C 225 93 M lv st o x a := s225_92
theorem q225_131 : ji_Ev C 225 131 M lv (.int x :: .ref a :: st) o ↔ ji_xIL (ji_kd M a) C 225 132 M lv st o x a := s225_131
theorem q225_132 : ji_Ev C 225 132 M lv (.int y :: .int x :: .ref a :: st) o ↔ ji_xIS (ji_kd M a) C 225 133 M lv st o y x a := s225_132
theorem q225_133 : ji_Ev C 225 133 M lv st o ↔ ji_xNC (lv.getD 6 none) 6 1 C 225 136 M lv st o := s225_133
theorem q225_169 : ji_Ev C 225 169 M lv (.int x :: .ref a :: st) o ↔ ji_xIL (ji_kd M a) C 225 170 M lv st o x a := s225_169
theorem q225_170 : ji_Ev C 225 170 M lv (.int y :: .int x :: .ref a :: st) o ↔ ji_xIS (ji_kd M a) C 225 171 M lv st o y x a := s225_170
theorem q225_171 : ji_Ev C 225 171 M lv st o ↔ ji_xNC (lv.getD 6 none) 6 1 C 225 174 M lv st o := s225_171
theorem q226_2 : ji_Ev C 226 2 M lv (p0 :: .ref a :: st) o ↔ (ji_rcb M 9 (.ref a) = true ∧ ji_ok8 st) ∧ ji_xC (C 223 [.ref a, p0] M) C 226 5 lv st o := s226_2
theorem q226_12 : ji_Ev C 226 12 M lv (p2 :: p1 :: p0 :: .ref a :: st) o ↔ (ji_rcb M 9 (.ref a) = true ∧ ji_ok8 st) ∧ ji_xC (C 158 [.ref a, p0, p1, p2] M) C 226 15 lv st o := s226_12
theorem q226_24 : ji_Ev C 226 24 M lv (p2 :: p1 :: p0 :: .ref a :: st) o ↔ (ji_rcb M 9 (.ref a) = true ∧ ji_ok8 st) ∧ ji_xC (C 158 [.ref a, p0, p1, p2] M) C 226 27 lv st o := s226_24
theorem q226_38 : ji_Ev C 226 38 M lv (.int x :: .ref a :: st) o ↔ ji_xIL (ji_kd M a) C 226 39 M lv st o x a := s226_38
theorem q226_47 : ji_Ev C 226 47 M lv (.int x :: .ref a :: st) o ↔ ji_xIL (ji_kd M a) C 226 48 M lv st o x a := s226_47
theorem q226_60 : ji_Ev C 226 60 M lv (.int x :: .ref a :: st) o ↔ ji_xIL (ji_kd M a) C 226 61 M lv st o x a := s226_60
theorem q226_90 : ji_Ev C 226 90 M lv (.int x :: .ref a :: st) o ↔ ji_xIL (ji_kd M a) C 226 91 M lv st o x a := s226_90
theorem q226_122 : ji_Ev C 226 122 M lv (.int x :: .ref a :: st) o ↔ ji_xIL (ji_kd M a) C 226 123 M lv st o x a := s226_122
theorem q226_140 : ji_Ev C 226 140 M lv (.int x :: .ref a :: st) o ↔ ji_xIL (ji_kd M a) C 226 141 M lv st o x a := s226_140
theorem q226_141 : ji_Ev C 226 141 M lv (p1 :: p0 :: .ref a :: st) o ↔ (ji_rcb M 9 (.ref a) = true ∧ ji_ok8 st) ∧ ji_xC (C 164 [.ref a, p0, p1] M) C 226 144 lv st o := s226_141
theorem q226_155 : ji_Ev C 226 155 M lv st o ↔ ji_xNC (lv.getD 6 none) 6 1 C 226 158 M lv st o := s226_155
theorem q227_4 : ji_Ev C 227 4 M lv (p2 :: p1 :: p0 :: .ref a :: st) o ↔ (ji_rcb M 9 (.ref a) = true ∧ ji_ok8 st) ∧ ji_xC (C 158 [.ref a, p0, p1, p2] M) C 227 7 lv st o := s227_4
theorem q227_15 : ji_Ev C 227 15 M lv (p0 :: .ref a :: st) o ↔ (ji_rcb M 9 (.ref a) = true ∧ ji_ok8 st) ∧ ji_xC (C 166 [.ref a, p0] M) C 227 18 lv st o := s227_15
theorem q227_33 : ji_Ev C 227 33 M lv (.int x :: .ref a :: st) o ↔ ji_xIL (ji_kd M a) C 227 34 M lv st o x a := s227_33
theorem q227_48 : ji_Ev C 227 48 M lv (.int x :: .ref a :: st) o ↔ ji_xIL (ji_kd M a) C 227 49 M lv st o x a := s227_48
theorem q227_63 : ji_Ev C 227 63 M lv (.int x :: .ref a :: st) o ↔ ji_xIL (ji_kd M a) C 227 64 M lv st o x a := s227_63
theorem q227_83 : ji_Ev C 227 83 M lv (.int x :: .ref a :: st) o ↔ ji_xIL (ji_kd M a) C 227 84 M lv st o x a := s227_83
end JIR
