/-! ===== bits of a set of books ===== -/
def jz_bt (x : Int32) (b : Nat) : Bool := x.toBitVec.getLsbD b
theorem jz_sh : ∀ b : Fin 32, (Int32.ofNat b.val &&& 31).toBitVec.smod 32 = BitVec.ofNat 32 b.val := by decide +kernel
theorem jz_cl : ∀ b i : Fin 32, ((1 <<< (Int32.ofNat b.val &&& 31)) ^^^ -1 : Int32).toBitVec.getLsbD i.val = decide (i ≠ b) := by decide +kernel
section JIV
variable {x y z : Int32} {b i n a m e q d r : Nat} {M : ji_M}
theorem jz_srr (hb : b < 32) : (x >>> (Int32.ofNat b &&& 31)).toBitVec = x.toBitVec.sshiftRight b := by
  rw [Int32.toBitVec_shiftRight, jz_sh ⟨b, hb⟩, BitVec.sshiftRight'_ofNat_eq_sshiftRight, Nat.mod_eq_of_lt (by omega)]
theorem jz_bit (hb : b < 32) : ((x >>> (Int32.ofNat b &&& 31)) &&& 1) = if jz_bt x b = true then 1 else 0 := by
  apply Int32.toBitVec_inj.mp
  rw [Int32.toBitVec_and, jz_srr hb]
  have e : (1 : Int32).toBitVec = 1#32 := rfl
  rw [e, BitVec.and_one_eq_setWidth_ofBool_getLsbD, BitVec.getLsbD_sshiftRight, if_pos (by omega), Nat.add_zero]
  unfold jz_bt
  cases x.toBitVec.getLsbD b <;> rfl
theorem jz_clr (hb : b < 32) (hi : i < 32) : jz_bt (x &&& ((1 <<< (Int32.ofNat b &&& 31)) ^^^ -1)) i = (jz_bt x i && decide (i ≠ b)) := by
  unfold jz_bt
  rw [Int32.toBitVec_and, BitVec.getLsbD_and, jz_cl ⟨b, hb⟩ ⟨i, hi⟩]
  congr 1
  exact decide_eq_decide.mpr ⟨fun h z => h (Fin.ext z), fun h z => h (congrArg Fin.val z)⟩
theorem jz_ze : x = 0 ↔ ∀ b, b < 32 → jz_bt x b = false := by
  constructor
  · rintro rfl b hb
    show (0#32).getLsbD b = false
    exact BitVec.getLsbD_zero
  · intro h
    apply Int32.toBitVec_inj.mp
    apply BitVec.eq_of_getLsbD_eq
    intro i hi
    have e : (0 : Int32).toBitVec = 0#32 := rfl
    rw [e, BitVec.getLsbD_zero]
    exact h i hi
theorem jz_tn (hx : 0 ≤ x.toInt) : x.toBitVec.toNat = x.toInt.toNat := by
  have h2 := vi_hi x
  have e : x.toInt = x.toBitVec.toInt := rfl
  rw [e] at hx ⊢
  rw [BitVec.toInt_eq_toNat_cond] at hx ⊢
  have := x.toBitVec.isLt
  split <;> rename_i h
  · omega
  · rw [if_neg h] at hx; omega
theorem jz_btN (hx : 0 ≤ x.toInt) : jz_bt x b = x.toInt.toNat.testBit b := by
  unfold jz_bt
  rw [← BitVec.testBit_toNat, jz_tn hx]
theorem jz_hib (hx : 0 ≤ x.toInt ∧ x.toInt < 2 ^ n) (hb : n ≤ b) : jz_bt x b = false := by
  rw [jz_btN hx.1]
  apply Nat.testBit_lt_two_pow
  have h1 : (2 : Nat) ^ n ≤ 2 ^ b := Nat.pow_le_pow_right (by omega) hb
  have h2 : ((x.toInt.toNat : Nat) : Int) < ((2 ^ n : Nat) : Int) := by
    rw [Int.natCast_pow]
    show _ < (2 : Int) ^ n
    omega
  omega
/-- is it a set of the books that there are -/
theorem jz_sr0 (hb : b < 31) (hx : 0 ≤ x.toInt) : x >>> (Int32.ofNat b &&& 31) = 0 ↔ x.toInt < 2 ^ b := by
  have e : (x >>> (Int32.ofNat b &&& 31)).toInt = x.toInt / 2 ^ b := by
    show (x >>> (Int32.ofNat b &&& 31)).toBitVec.toInt = x.toBitVec.toInt / 2 ^ b
    rw [jz_srr (by omega), BitVec.toInt_sshiftRight, Int.shiftRight_eq_div_pow]
    rw [Int.natCast_pow]
    rfl
  have e0 : (0 : Int32).toInt = 0 := rfl
  have p : (0 : Int) < 2 ^ b := Int.pow_pos (by omega)
  rw [vi_eq, e, e0]
  constructor
  · intro h
    have := Int.lt_ediv_add_one_mul_self x.toInt p
    rw [h] at this
    omega
  · intro h
    exact Int.ediv_eq_zero_of_lt hx h
/-! how many -/
def jz_c1 (f : Nat → Bool) (b : Nat) : Nat := if f b = true then 1 else 0
def jz_ct (f : Nat → Bool) : Nat → Nat
  | 0 => 0
  | n + 1 => jz_ct f n + jz_c1 f n
theorem jz_ct_eq {f g : Nat → Bool} : ∀ n, (∀ b, b < n → f b = g b) → jz_ct f n = jz_ct g n := by
  intro n
  induction n with
  | zero => intro _; rfl
  | succ n ih =>
    intro h
    show jz_ct f n + jz_c1 f n = jz_ct g n + jz_c1 g n
    unfold jz_c1
    rw [ih (fun b hb => h b (by omega)), h n (by omega)]
theorem jz_ct_add {f : Nat → Bool} (m : Nat) : ∀ n, jz_ct f (m + n) = jz_ct f m + jz_ct (fun b => f (m + b)) n := by
  intro n
  induction n with
  | zero => rfl
  | succ n ih =>
    show jz_ct f (m + n) + jz_c1 f (m + n) = jz_ct f m + (jz_ct (fun b => f (m + b)) n + jz_c1 (fun b => f (m + b)) n)
    rw [ih, Nat.add_assoc]
    rfl
theorem jz_ct_0 {f : Nat → Bool} {m : Nat} (h : ∀ b, m ≤ b → f b = false) : ∀ n, m ≤ n → jz_ct f n = jz_ct f m := by
  intro n
  induction n with
  | zero => intro hm; rw [show m = 0 by omega]
  | succ n ih =>
    intro hm
    by_cases q : m = n + 1
    · rw [q]
    · show jz_ct f n + jz_c1 f n = _
      unfold jz_c1
      rw [ih (by omega), h n (by omega), if_neg (by decide)]
      rfl
def jz_i1 (m a : Nat) : Nat := a - (a / 2 &&& m)
def jz_i2 (m a : Nat) : Nat := (a &&& m) + (a / 4 &&& m)
def jz_i3 (m a : Nat) : Nat := (a + a / 16) &&& m
theorem jz_and (hd : d < 256) (he : e < 256) : (256 * q + d) &&& (256 * m + e) = 256 * (q &&& m) + (d &&& e) := by
  have h1 := Nat.and_div_two_pow (a := 256 * q + d) (b := 256 * m + e) (n := 8)
  have h2 := Nat.and_mod_two_pow (a := 256 * q + d) (b := 256 * m + e) (n := 8)
  have p : (2 : Nat) ^ 8 = 256 := rfl
  rw [p] at h1 h2
  rw [show (256 * q + d) / 256 = q by omega, show (256 * m + e) / 256 = m by omega] at h1
  rw [show (256 * q + d) % 256 = d by omega, show (256 * m + e) % 256 = e by omega] at h2
  omega
theorem jz_k1 : ∀ q : Fin 2, ∀ d : Fin 256, (128 * q.val + d.val / 2) &&& 85 = d.val / 2 &&& 85 := by decide +kernel
theorem jz_k2 : ∀ q : Fin 4, ∀ d : Fin 256, (64 * q.val + d.val / 4) &&& 51 = d.val / 4 &&& 51 := by decide +kernel
theorem jz_k8 : ∀ d : Fin 256, jz_i3 15 (jz_i2 51 (jz_i1 85 d.val)) = jz_ct (fun b => d.val.testBit b) 8 ∧ (jz_i2 51 (jz_i1 85 d.val)) % 16 ≤ 4 ∧ (jz_i2 51 (jz_i1 85 d.val)) ≤ 68 ∧ jz_i1 85 d.val < 256 ∧ jz_ct (fun b => d.val.testBit b) 8 ≤ 8 ∧ jz_i1 21845 d.val = jz_i1 85 d.val ∧ jz_i2 13107 (jz_i1 85 d.val) = jz_i2 51 (jz_i1 85 d.val) ∧ jz_i3 3855 (jz_i2 51 (jz_i1 85 d.val)) = jz_i3 15 (jz_i2 51 (jz_i1 85 d.val)) := by decide +kernel
theorem jz_s1 (hd : d < 256) (hq : (q / 2 &&& m) ≤ q) : jz_i1 (256 * m + 85) (256 * q + d) = 256 * jz_i1 m q + jz_i1 85 d := by
  unfold jz_i1
  have h : (256 * q + d) / 2 = 256 * (q / 2) + (128 * (q % 2) + d / 2) := by omega
  have k := jz_k1 ⟨q % 2, by omega⟩ ⟨d, hd⟩
  dsimp only at k
  rw [h, jz_and (by omega) (by omega), k]
  have h2 : (d / 2 &&& 85) ≤ d / 2 := Nat.and_le_left
  omega
theorem jz_s2 (hd : d < 256) : jz_i2 (256 * m + 51) (256 * q + d) = 256 * jz_i2 m q + jz_i2 51 d := by
  unfold jz_i2
  have h : (256 * q + d) / 4 = 256 * (q / 4) + (64 * (q % 4) + d / 4) := by omega
  have k := jz_k2 ⟨q % 4, by omega⟩ ⟨d, hd⟩
  dsimp only at k
  rw [h, jz_and (by omega) (by omega), jz_and (by omega) (by omega), k]
  omega
theorem jz_m15 : ∀ d : Fin 256, d.val &&& 15 = d.val % 16 := by decide +kernel
theorem jz_s3 (hd : d ≤ 68 ∧ d % 16 ≤ 4) (hq : q % 16 ≤ 4) : jz_i3 (256 * m + 15) (256 * q + d) = 256 * jz_i3 m q + jz_i3 15 d := by
  unfold jz_i3
  have h : 256 * q + d + (256 * q + d) / 16 = 256 * (q + q / 16) + (16 * (q % 16) + d + d / 16) := by omega
  have k1 := jz_m15 ⟨16 * (q % 16) + d + d / 16, by omega⟩
  have k2 := jz_m15 ⟨d + d / 16, by omega⟩
  dsimp only at k1 k2
  rw [h, jz_and (by omega) (by omega), k1, k2]
  omega
theorem jz_pc (ha : a < 16777216) : jz_i3 252645135 (jz_i2 858993459 (jz_i1 1431655765 a)) = 65536 * jz_ct (fun b => (a / 65536).testBit b) 8 + 256 * jz_ct (fun b => (a / 256 % 256).testBit b) 8 + jz_ct (fun b => (a % 256).testBit b) 8 := by
  obtain ⟨d0, h0⟩ : ∃ d0, d0 = a % 256 := ⟨_, rfl⟩
  obtain ⟨d1, h1⟩ : ∃ d1, d1 = a / 256 % 256 := ⟨_, rfl⟩
  obtain ⟨d2, h2⟩ : ∃ d2, d2 = a / 65536 := ⟨_, rfl⟩
  have ea : a = 256 * (256 * d2 + d1) + d0 := by omega
  rw [← h0, ← h1, ← h2]
  have k0 := jz_k8 ⟨d0, by omega⟩
  have k1 := jz_k8 ⟨d1, by omega⟩
  have k2 := jz_k8 ⟨d2, by omega⟩
  dsimp only at k0 k1 k2
  have a1 : jz_i1 1431655765 a = 256 * (256 * jz_i1 85 d2 + jz_i1 85 d1) + jz_i1 85 d0 := by
    rw [ea, show 1431655765 = 256 * 5592405 + 85 by rfl, jz_s1 (by omega) (Nat.le_trans Nat.and_le_left (Nat.div_le_self _ _)), show 5592405 = 256 * 21845 + 85 by rfl, jz_s1 (by omega) (Nat.le_trans Nat.and_le_left (Nat.div_le_self _ _)), k2.2.2.2.2.2.1]
  have a2 : jz_i2 858993459 (jz_i1 1431655765 a) = 256 * (256 * jz_i2 51 (jz_i1 85 d2) + jz_i2 51 (jz_i1 85 d1)) + jz_i2 51 (jz_i1 85 d0) := by
    rw [a1, show 858993459 = 256 * 3355443 + 51 by rfl, jz_s2 k0.2.2.2.1, show 3355443 = 256 * 13107 + 51 by rfl, jz_s2 k1.2.2.2.1, k2.2.2.2.2.2.2.1]
  rw [a2, show 252645135 = 256 * 986895 + 15 by rfl, jz_s3 ⟨k0.2.2.1, k0.2.1⟩ (by have := k1.2.1; omega), show 986895 = 256 * 3855 + 15 by rfl, jz_s3 ⟨k1.2.2.1, k1.2.1⟩ k2.2.1, k2.2.2.2.2.2.2.2, k0.1, k1.1, k2.1]
  omega
theorem jz_ct24 (a : Nat) : jz_ct (fun b => a.testBit b) 24 = jz_ct (fun b => (a / 65536).testBit b) 8 + jz_ct (fun b => (a / 256 % 256).testBit b) 8 + jz_ct (fun b => (a % 256).testBit b) 8 := by
  have e1 : jz_ct (fun b => a.testBit b) 24 = jz_ct (fun b => a.testBit b) 8 + jz_ct (fun b => a.testBit (8 + b)) 16 := jz_ct_add 8 16
  have e2 : jz_ct (fun b => a.testBit (8 + b)) 16 = jz_ct (fun b => a.testBit (8 + b)) 8 + jz_ct (fun b => a.testBit (8 + (8 + b))) 8 := jz_ct_add 8 8
  have p8 : (2 : Nat) ^ 8 = 256 := rfl
  have p16 : (2 : Nat) ^ 16 = 65536 := rfl
  have f0 : jz_ct (fun b => (a % 256).testBit b) 8 = jz_ct (fun b => a.testBit b) 8 := jz_ct_eq 8 (fun b hb => by
    rw [← p8, Nat.testBit_mod_two_pow, decide_eq_true hb, Bool.true_and])
  have f1 : jz_ct (fun b => (a / 256 % 256).testBit b) 8 = jz_ct (fun b => a.testBit (8 + b)) 8 := jz_ct_eq 8 (fun b hb => by
    rw [← p8, Nat.testBit_mod_two_pow, decide_eq_true hb, Bool.true_and, Nat.testBit_div_two_pow, Nat.add_comm])
  have f2 : jz_ct (fun b => (a / 65536).testBit b) 8 = jz_ct (fun b => a.testBit (8 + (8 + b))) 8 := jz_ct_eq 8 (fun b hb => by
    rw [← p16, Nat.testBit_div_two_pow, show b + 16 = 8 + (8 + b) by omega])
  rw [f0, f1, f2]
  omega
theorem jz_ush (ha : a < 2147483648) (hb : b < 31) : ((Int32.ofNat a).toUInt32 >>> ((Int32.ofNat b).toUInt32 &&& Int32.toUInt32 31)).toInt32 = Int32.ofNat (a / 2 ^ b) := by
  have hm : (Int32.ofNat b).toUInt32 &&& Int32.toUInt32 31 = UInt32.ofNat b := by
    have h31 : ∀ k : Fin 31, (Int32.ofNat k.val).toUInt32 &&& Int32.toUInt32 31 = UInt32.ofNat k.val := by decide
    exact h31 ⟨b, hb⟩
  rw [hm]
  have e : (Int32.ofNat a).toUInt32 = UInt32.ofNat a := rfl
  have e1 : (UInt32.ofNat a >>> UInt32.ofNat b) = UInt32.ofNat (a / 2 ^ b) := by
    apply UInt32.toNat_inj.mp
    have d := Nat.div_le_self a (2 ^ b)
    rw [UInt32.toNat_shiftRight, UInt32.toNat_ofNat_of_lt' (show a < 4294967296 by omega), UInt32.toNat_ofNat_of_lt' (show b < 4294967296 by omega), UInt32.toNat_ofNat_of_lt' (show a / 2 ^ b < 4294967296 by omega), Nat.mod_eq_of_lt (by omega), Nat.shiftRight_eq_div_pow]
  rw [e, e1]
  rfl
theorem jz_andN : Int32.ofNat a &&& Int32.ofNat b = Int32.ofNat (a &&& b) := by
  apply Int32.toBitVec_inj.mp
  rw [Int32.toBitVec_and]
  show BitVec.ofNat 32 a &&& BitVec.ofNat 32 b = BitVec.ofNat 32 (a &&& b)
  exact BitVec.ofNat_and.symm
theorem jz_addN : Int32.ofNat a + Int32.ofNat b = Int32.ofNat (a + b) := (Int32.ofNat_add a b).symm
/-- how many books a set has -/
theorem m101 (hx : 0 ≤ x.toInt ∧ x.toInt < 16777216) : ji_CL (d + 1) 101 [.int x] M = some (some (.int (Int32.ofNat (jz_ct (jz_bt x) 24))), M) := by
  obtain ⟨a, ha⟩ : ∃ a : Nat, x.toInt = (a : Int) := ⟨x.toInt.toNat, by omega⟩
  have hxa := vi_ofn ha
  have ab : a < 16777216 := by omega
  have ct : jz_ct (jz_bt x) 24 = jz_ct (fun b => a.testBit b) 24 := jz_ct_eq 24 (fun b hb => by rw [jz_btN hx.1, ha]; rfl)
  have u1 : ((Int32.ofNat a).toUInt32 >>> ((1 : Int32).toUInt32 &&& Int32.toUInt32 31)).toInt32 = Int32.ofNat (a / 2) := jz_ush (b := 1) (by omega) (by omega)
  have n1 : Int32.ofNat (a / 2) &&& 1431655765 = Int32.ofNat (a / 2 &&& 1431655765) := jz_andN
  have l1 : (a / 2 &&& 1431655765) ≤ a / 2 := Nat.and_le_left
  have s1 : Int32.ofNat a - Int32.ofNat (a / 2 &&& 1431655765) = Int32.ofNat (jz_i1 1431655765 a) := (Int32.ofNat_sub a _ (by omega)).symm
  have b1 : jz_i1 1431655765 a < 16777216 := by unfold jz_i1; omega
  generalize hA : jz_i1 1431655765 a = A at s1 b1
  have u2 : ((Int32.ofNat A).toUInt32 >>> ((2 : Int32).toUInt32 &&& Int32.toUInt32 31)).toInt32 = Int32.ofNat (A / 4) := jz_ush (b := 2) (by omega) (by omega)
  have n2 : Int32.ofNat A &&& 858993459 = Int32.ofNat (A &&& 858993459) := jz_andN
  have n3 : Int32.ofNat (A / 4) &&& 858993459 = Int32.ofNat (A / 4 &&& 858993459) := jz_andN
  have s2 : Int32.ofNat (A &&& 858993459) + Int32.ofNat (A / 4 &&& 858993459) = Int32.ofNat (jz_i2 858993459 A) := jz_addN
  have l2 : (A &&& 858993459) ≤ A := Nat.and_le_left
  have l3 : (A / 4 &&& 858993459) ≤ A / 4 := Nat.and_le_left
  have b2 : jz_i2 858993459 A < 33554432 := by unfold jz_i2; omega
  generalize hB : jz_i2 858993459 A = B at s2 b2
  have u3 : ((Int32.ofNat B).toUInt32 >>> ((4 : Int32).toUInt32 &&& Int32.toUInt32 31)).toInt32 = Int32.ofNat (B / 16) := jz_ush (b := 4) (by omega) (by omega)
  have s3 : Int32.ofNat B + Int32.ofNat (B / 16) = Int32.ofNat (B + B / 16) := jz_addN
  have n4 : Int32.ofNat (B + B / 16) &&& 252645135 = Int32.ofNat (jz_i3 252645135 B) := jz_andN
  have pc := jz_pc ab
  rw [hA, hB] at pc
  have c24 := jz_ct24 a
  have k0 := (jz_k8 ⟨a % 256, by omega⟩).2.2.2.2.1
  have k1 := (jz_k8 ⟨a / 256 % 256, by omega⟩).2.2.2.2.1
  have k2 := (jz_k8 ⟨a / 65536, by omega⟩).2.2.2.2.1
  dsimp only at k0 k1 k2
  generalize hC : jz_i3 252645135 B = C at n4 pc
  have u4 : ((Int32.ofNat C).toUInt32 >>> ((8 : Int32).toUInt32 &&& Int32.toUInt32 31)).toInt32 = Int32.ofNat (C / 256) := jz_ush (b := 8) (by omega) (by omega)
  have s4 : Int32.ofNat C + Int32.ofNat (C / 256) = Int32.ofNat (C + C / 256) := jz_addN
  have u5 : ((Int32.ofNat (C + C / 256)).toUInt32 >>> ((16 : Int32).toUInt32 &&& Int32.toUInt32 31)).toInt32 = Int32.ofNat ((C + C / 256) / 65536) := jz_ush (b := 16) (by omega) (by omega)
  have s5 : Int32.ofNat (C + C / 256) + Int32.ofNat ((C + C / 256) / 65536) = Int32.ofNat (C + C / 256 + (C + C / 256) / 65536) := jz_addN
  have n5 : Int32.ofNat (C + C / 256 + (C + C / 256) / 65536) &&& 63 = Int32.ofNat (C + C / 256 + (C + C / 256) / 65536 &&& 63) := jz_andN
  have e63 : C + C / 256 + (C + C / 256) / 65536 &&& 63 = jz_ct (fun b => a.testBit b) 24 := by
    have := Nat.and_two_pow_sub_one_eq_mod (C + C / 256 + (C + C / 256) / 65536) 6
    have p6 : 2 ^ 6 - 1 = 63 := rfl
    have q6 : (2 : Nat) ^ 6 = 64 := rfl
    rw [p6, q6] at this
    rw [this, c24]
    generalize jz_ct (fun b => (a / 65536).testBit b) 8 = c2 at pc k2
    generalize jz_ct (fun b => (a / 256 % 256).testBit b) 8 = c1 at pc k1
    generalize jz_ct (fun b => (a % 256).testBit b) 8 = c0 at pc k0
    have v1 : C / 256 = 256 * c2 + c1 := by omega
    have v2 : (C + C / 256) / 65536 = c2 := by rw [v1]; omega
    rw [v2, v1, pc]
    omega
  rw [e63] at n5
  rw [ct, hxa]
  apply en_101
  simp only [s101_0, s101_1, s101_2, s101_3, s101_4, s101_7, s101_8, s101_9, s101_10, s101_11, s101_14, s101_15, s101_16, s101_17, s101_18, s101_21, s101_22, s101_23, s101_24, s101_25, s101_26, s101_27, s101_28, s101_29, s101_32, s101_33, s101_34, s101_35, s101_36, s101_38, s101_39, s101_40, s101_41, s101_42, s101_43, s101_45, s101_46, s101_47, s101_48, s101_49, s101_51, s101_52, xIL_1, xIS_1, xQL_2, xQL_3, xAN_1, xAN_2, xAN_3, xCP_1, xC_s, xNC_I, ji_oI1, ji_oIm, kd_sC, gR_sC, gL_sC, ji_rv_s, ji_tl_s, ji_tl_n, ji_s1, ji_s2, ji_kl, List.getD_cons_zero, List.getD_cons_succ, List.set_cons_zero, List.set_cons_succ, List.length_cons, List.length_nil, ji_b_0, ji_b_1, ji_n0, ji_n1, ji_rcb_iff, ji_ok8_0, ji_ok8_1, ji_ok8_2, ji_ok8_3, ji_ok8_4, kd_sI, kd_sL, kd_sR, kd_cp, gR_sI, gR_sL, gR_cp, gL_sI, gL_sR, gL_cp, gI_sL, gI_sR, gI_sI, gL_sL, Nat.reduceEqDiff, false_and, and_false, true_and, and_true, Nat.reduceAdd, Nat.reduceLT, Nat.reduceSub, Int32.reduceLT, Int32.reduceAdd, not_false_eq_true, not_true_eq_false, and_self, ji_b_n, if_true, if_false, ↓reduceIte, cz_m100, cz_m19, cz_m18, cz_m17, cz_m16, cz_m15, cz_m14, cz_m13, cz_m12, cz_m11, cz_m4, cz_m3, cz_m2, cz_m1, cz_1, cz_2, cz_3, cz_4, cz_5, cz_6, cz_7, cz_8, cz_9, cz_10, cz_11, cz_12, cz_13, cz_14, cz_15, cz_16, cz_20, cz_24, cz_30, cz_32, cz_33, cz_38, cz_40, cz_41, cz_42, cz_43, cz_45, cz_48, cz_57, cz_59, cz_60, cz_61, cz_63, cz_64, cz_72, cz_96, cz_97, cz_99, cz_100, cz_122, cz_124, cz_126, cz_160, cz_161, cz_168, cz_200, cz_255, cz_300, cz_960, cz_999, cz_1000, cz_1001, cz_1002, cz_1003, cz_1120, cz_2000, cz_2003, cz_2004, cz_2005, cz_3999, cz_9999, cz_14640, u1, n1, s1, u2, n2, n3, s2, u3, s3, n4, u4, s4, u5, s5, n5]
end JIV
