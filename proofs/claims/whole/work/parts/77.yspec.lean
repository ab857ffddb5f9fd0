/-! ===== plans, counted through: blocks of blocks ===== -/
def jy_run {α : Type} (f : α → Nat → α) : Nat → Nat → α → α
  | _, 0, x => x
  | a, m + 1, x => jy_run f (a + 1) m (f x a)
section JYA
variable {α : Type} {f g : α → Nat → α}
theorem jy_run_add : ∀ (m a m' : Nat) (x : α), jy_run f a (m + m') x = jy_run f (a + m) m' (jy_run f a m x) := by
  intro m
  induction m with
  | zero => intro a m' x; rw [Nat.zero_add]; rfl
  | succ m ih =>
    intro a m' x
    rw [show m + 1 + m' = (m + m') + 1 by omega]
    show jy_run f (a + 1) (m + m') (f x a) = jy_run f (a + (m + 1)) m' (jy_run f (a + 1) m (f x a))
    rw [ih, show a + 1 + m = a + (m + 1) by omega]
theorem jy_run_snoc {m a : Nat} {x : α} : jy_run f a (m + 1) x = f (jy_run f a m x) (a + m) := by
  rw [jy_run_add]; rfl
theorem jy_blk (v R S : Nat) : ∀ (m : Nat) (x : α), jy_run f (v * R * S) (m * S) x = jy_run (fun x y => jy_run f ((v * R + y) * S) S x) 0 m x := by
  intro m
  induction m with
  | zero => intro x; rw [Nat.zero_mul]; rfl
  | succ m ih =>
    intro x
    rw [Nat.succ_mul, jy_run_add, ih, jy_run_snoc, Nat.zero_add, Nat.add_mul]
theorem jy_run_id : ∀ (m a : Nat) (x : α), (∀ y x, a ≤ y → y < a + m → f x y = x) → jy_run f a m x = x := by
  intro m
  induction m with
  | zero => intro a x _; rfl
  | succ m ih =>
    intro a x h
    show jy_run f (a + 1) m (f x a) = x
    rw [h a x (Nat.le_refl _) (by omega)]
    exact ih _ _ (fun y x h1 h2 => h y x (by omega) (by omega))
theorem jy_run_cg : ∀ (m a : Nat) (x : α), (∀ y x, a ≤ y → y < a + m → f x y = g x y) → jy_run f a m x = jy_run g a m x := by
  intro m
  induction m with
  | zero => intro a x _; rfl
  | succ m ih =>
    intro a x h
    show jy_run f (a + 1) m (f x a) = jy_run g (a + 1) m (g x a)
    rw [h a x (Nat.le_refl _) (by omega)]
    exact ih _ _ (fun y x h1 h2 => h y x (by omega) (by omega))
end JYA
theorem jy_dm {v B y : Nat} (h : y < B) : (v * B + y) / B = v ∧ (v * B + y) % B = y := by
  have hB : 0 < B := by omega
  constructor
  · rw [Nat.add_comm, Nat.add_mul_div_right _ _ hB, Nat.div_eq_of_lt h, Nat.zero_add]
  · rw [Nat.add_comm, Nat.add_mul_mod_self_right, Nat.mod_eq_of_lt h]
/-- a row holds the digits of a number -/
def jy_E (q : Int32 → Nat → Prop) (B : Nat) (f : ji_F) : Nat → Nat → Prop
  | 0, _ => True
  | j + 1, v => jy_E q B f j (v / B) ∧ q (f j) (v % B)
theorem jy_E_eq {q : Int32 → Nat → Prop} {B : Nat} {f g : ji_F} : ∀ (j v : Nat), (∀ l, l < j → f l = g l) → jy_E q B f j v → jy_E q B g j v := by
  intro j
  induction j with
  | zero => intro v _ _; trivial
  | succ j ih =>
    intro v h e
    exact ⟨ih _ (fun l hl => h l (by omega)) e.1, by rw [← h j (by omega)]; exact e.2⟩
theorem jy_E_two {q q' : Int32 → Nat → Prop} {B : Nat} (hB : 0 < B) {f g : ji_F} : ∀ (j v : Nat), jy_E q B f j v → jy_E q' B g j v → ∀ i, i < j → ∃ e, e < B ∧ q (f i) e ∧ q' (g i) e := by
  intro j
  induction j with
  | zero => intro v _ _ i hi; exact absurd hi (by omega)
  | succ j ih =>
    intro v e e' i hi
    by_cases h : i = j
    · subst h
      exact ⟨v % B, Nat.mod_lt _ hB, e.2, e'.2⟩
    · exact ih _ e.1 e'.1 i (by omega)
/-! ===== years ===== -/
section JYY
variable (n : Nat) (c : Int) (p r : Nat → Int)
def jy_rd : Nat → Nat → Int
  | 0, _ => 0
  | j + 1, v => jy_rd j (v / (n + 1)) + r j * ((n : Int) - ((v % (n + 1) : Nat) : Int))
def jy_sp : Nat → Nat → Int
  | 0, _ => 0
  | j + 1, v => jy_sp j (v / (n + 1)) + if v % (n + 1) < n then p j else 0
def jy_si : Nat → Nat → Nat → Int
  | 0, _, _ => 0
  | j + 1, v, y => jy_si j (v / (n + 1)) y + if v % (n + 1) = y then p j else 0
def jy_cu (h : Nat → Int) : Nat → Int
  | 0 => 0
  | Y + 1 => jy_cu h Y + (c - h Y)
def jy_ok (h : Nat → Int) : Prop := ∀ Y, Y ≤ n → 0 ≤ jy_cu c h Y
noncomputable def jy_st (K : Nat) (x : Int × Int × Nat) (v : Nat) : Int × Int × Nat := @ite _ (jy_ok n c (jy_si n p K v) ∧ (x.1 < jy_rd n r K v ∨ jy_rd n r K v = x.1 ∧ jy_sp n p K v < x.2.1)) (Classical.propDecidable _) (jy_rd n r K v, jy_sp n p K v, v) x
end JYY
section JYB
variable {n : Nat} {c : Int} {p r h h' : Nat → Int} {K j v y Y k : Nat} {x : Int × Int × Nat}
theorem jy_st_1 (q : jy_ok n c (jy_si n p K v) ∧ (x.1 < jy_rd n r K v ∨ jy_rd n r K v = x.1 ∧ jy_sp n p K v < x.2.1)) : jy_st n c p r K x v = (jy_rd n r K v, jy_sp n p K v, v) := if_pos q
theorem jy_st_0 (q : ¬ (jy_ok n c (jy_si n p K v) ∧ (x.1 < jy_rd n r K v ∨ jy_rd n r K v = x.1 ∧ jy_sp n p K v < x.2.1))) : jy_st n c p r K x v = x := if_neg q
theorem jy_cu_le (q : ∀ y, h y ≤ h' y) : ∀ Y, jy_cu c h' Y ≤ jy_cu c h Y := by
  intro Y
  induction Y with
  | zero => exact Int.le_refl _
  | succ Y ih =>
    show jy_cu c h' Y + (c - h' Y) ≤ jy_cu c h Y + (c - h Y)
    have := q Y
    omega
theorem jy_cu_b (q : ∀ y, 0 ≤ h y ∧ h y ≤ 6000) (hc : 0 ≤ c ∧ c ≤ 9999) : ∀ Y : Nat, -6000 * (Y : Int) ≤ jy_cu c h Y ∧ jy_cu c h Y ≤ 9999 * (Y : Int) := by
  intro Y
  induction Y with
  | zero => exact ⟨by show (-6000 : Int) * ((0 : Nat) : Int) ≤ 0; omega, by show (0 : Int) ≤ 9999 * ((0 : Nat) : Int); omega⟩
  | succ Y ih =>
    have := q Y
    have e : jy_cu c h (Y + 1) = jy_cu c h Y + (c - h Y) := rfl
    omega
theorem jy_cu_add {p1 : Int} (q : ∀ y', h' y' = h y' + if y = y' then p1 else 0) : ∀ Y, jy_cu c h' Y = jy_cu c h Y - if y < Y then p1 else 0 := by
  intro Y
  induction Y with
  | zero => show (0 : Int) = 0 - _; rw [if_neg (by omega)]; omega
  | succ Y ih =>
    have e : jy_cu c h' (Y + 1) = jy_cu c h' Y + (c - h' Y) := rfl
    have e' : jy_cu c h (Y + 1) = jy_cu c h Y + (c - h Y) := rfl
    rw [e, e', ih, q Y]
    by_cases h1 : y < Y
    · rw [if_pos h1, if_neg (by omega), if_pos (by omega)]; omega
    by_cases h2 : y = Y
    · rw [if_neg h1, if_pos h2, if_pos (by omega)]; omega
    · rw [if_neg h1, if_neg h2, if_neg (by omega)]; omega
theorem jy_si_s (hy : y < n + 1) (y' : Nat) : jy_si n p (j + 1) (v * (n + 1) + y) y' = jy_si n p j v y' + if y = y' then p j else 0 := by
  have := jy_dm (v := v) hy
  show jy_si n p j ((v * (n + 1) + y) / (n + 1)) y' + (if (v * (n + 1) + y) % (n + 1) = y' then p j else 0) = _
  rw [this.1, this.2]
theorem jy_rd_s (hy : y < n + 1) : jy_rd n r (j + 1) (v * (n + 1) + y) = jy_rd n r j v + r j * ((n : Int) - (y : Int)) := by
  have := jy_dm (v := v) hy
  show jy_rd n r j ((v * (n + 1) + y) / (n + 1)) + r j * ((n : Int) - (((v * (n + 1) + y) % (n + 1) : Nat) : Int)) = _
  rw [this.1, this.2]
theorem jy_sp_s (hy : y < n + 1) : jy_sp n p (j + 1) (v * (n + 1) + y) = jy_sp n p j v + if y < n then p j else 0 := by
  have := jy_dm (v := v) hy
  show jy_sp n p j ((v * (n + 1) + y) / (n + 1)) + (if (v * (n + 1) + y) % (n + 1) < n then p j else 0) = _
  rw [this.1, this.2]
theorem jy_E_s {q : Int32 → Nat → Prop} {f : ji_F} (hy : y < n + 1) : jy_E q (n + 1) f (j + 1) (v * (n + 1) + y) ↔ jy_E q (n + 1) f j v ∧ q (f j) y := by
  have := jy_dm (v := v) hy
  show jy_E q (n + 1) f j ((v * (n + 1) + y) / (n + 1)) ∧ q (f j) ((v * (n + 1) + y) % (n + 1)) ↔ _
  rw [this.1, this.2]
/-- with one more kind in a year that may be -/
theorem jy_ok_s (hy : y < n + 1) (q : jy_ok n c (jy_si n p j v)) : jy_ok n c (jy_si n p (j + 1) (v * (n + 1) + y)) ↔ ∀ Y, Y ≤ n → y < Y → 0 ≤ jy_cu c (jy_si n p j v) Y - p j := by
  have e := jy_cu_add (c := c) (h := jy_si n p j v) (h' := jy_si n p (j + 1) (v * (n + 1) + y)) (y := y) (p1 := p j) (fun y' => jy_si_s hy y')
  constructor
  · intro k Y h1 h2
    have := k Y h1
    rw [e, if_pos h2] at this
    exact this
  · intro k Y h1
    rw [e]
    by_cases h2 : y < Y
    · rw [if_pos h2]; exact k Y h1 h2
    · rw [if_neg h2]; have := q Y h1; omega
theorem jy_ok_n (q : jy_ok n c (jy_si n p j v)) : jy_ok n c (jy_si n p (j + 1) (v * (n + 1) + n)) := (jy_ok_s (by omega) q).mpr (fun Y h1 h2 => by omega)
theorem jy_nok (hy : y < n + 1) (hp : 0 ≤ p j) (q : ¬ jy_ok n c (jy_si n p j v)) : ¬ jy_ok n c (jy_si n p (j + 1) (v * (n + 1) + y)) := by
  intro k
  apply q
  intro Y hY
  have := jy_cu_le (c := c) (h := jy_si n p j v) (h' := jy_si n p (j + 1) (v * (n + 1) + y)) (fun y' => by rw [jy_si_s hy]; split <;> omega) Y
  have := k Y hY
  omega
theorem jy_pow : v * (n + 1) ^ (k + 1) = v * (n + 1) * (n + 1) ^ k ∧ (n + 1) ^ (k + 1) = (n + 1) * (n + 1) ^ k := by
  have e : (n + 1) ^ (k + 1) = (n + 1) * (n + 1) ^ k := by rw [Nat.pow_succ, Nat.mul_comm]
  exact ⟨by rw [e, Nat.mul_assoc], e⟩
theorem jy_tree {α : Type} {f : α → Nat → α} {x : α} : jy_run f (v * (n + 1) ^ (k + 1)) ((n + 1) ^ (k + 1)) x = jy_run (fun x y => jy_run f ((v * (n + 1) + y) * (n + 1) ^ k) ((n + 1) ^ k) x) 0 (n + 1) x := by
  rw [(jy_pow (v := v)).1, (jy_pow (v := v)).2, jy_blk]
theorem jy_prune (hp : ∀ l, l < K → 0 ≤ p l) : ∀ (k j v : Nat) (x : Int × Int × Nat), j + k = K → ¬ jy_ok n c (jy_si n p j v) → jy_run (jy_st n c p r K) (v * (n + 1) ^ k) ((n + 1) ^ k) x = x := by
  intro k
  induction k with
  | zero =>
    intro j v x hj q
    have hj : j = K := by omega
    subst hj
    rw [Nat.pow_zero, Nat.mul_one]
    show jy_st n c p r j x v = x
    exact jy_st_0 (fun z => q z.1)
  | succ k ih =>
    intro j v x hj q
    rw [jy_tree]
    exact jy_run_id _ _ _ (fun y x h1 h2 => ih (j + 1) _ x (by omega) (jy_nok (by omega) (hp j (by omega)) q))
theorem jy_si_b (hp : ∀ l, l < K → 0 ≤ p l ∧ p l ≤ 999) : ∀ (j v y : Nat), j ≤ K → 0 ≤ jy_si n p j v y ∧ jy_si n p j v y ≤ 999 * (j : Int) := by
  intro j
  induction j with
  | zero => intro v y _; exact ⟨Int.le_refl _, by show (0 : Int) ≤ 999 * ((0 : Nat) : Int); omega⟩
  | succ j ih =>
    intro v y hj
    have := ih (v / (n + 1)) y (by omega)
    have := hp j (by omega)
    have e : jy_si n p (j + 1) v y = jy_si n p j (v / (n + 1)) y + if v % (n + 1) = y then p j else 0 := rfl
    rw [e]
    split <;> omega
theorem jy_sp_b (hp : ∀ l, l < K → 0 ≤ p l ∧ p l ≤ 999) : ∀ (j v : Nat), j ≤ K → 0 ≤ jy_sp n p j v ∧ jy_sp n p j v ≤ 999 * (j : Int) := by
  intro j
  induction j with
  | zero => intro v _; exact ⟨Int.le_refl _, by show (0 : Int) ≤ 999 * ((0 : Nat) : Int); omega⟩
  | succ j ih =>
    intro v hj
    have := ih (v / (n + 1)) (by omega)
    have := hp j (by omega)
    have e : jy_sp n p (j + 1) v = jy_sp n p j (v / (n + 1)) + if v % (n + 1) < n then p j else 0 := rfl
    rw [e]
    split <;> omega
theorem jy_mulb {a b : Int} (ha : 0 ≤ a ∧ a ≤ 999) (hb : 0 ≤ b ∧ b ≤ 4) : 0 ≤ a * b ∧ a * b ≤ 3996 := by
  have h1 := Int.mul_nonneg ha.1 hb.1
  have h2 := Int.mul_le_mul ha.2 hb.2 hb.1 (by omega)
  omega
theorem jy_rd_b (hn : n ≤ 4) (hr : ∀ l, l < K → 0 ≤ r l ∧ r l ≤ 999) : ∀ (j v : Nat), j ≤ K → 0 ≤ jy_rd n r j v ∧ jy_rd n r j v ≤ 3996 * (j : Int) := by
  intro j
  induction j with
  | zero => intro v _; exact ⟨Int.le_refl _, by show (0 : Int) ≤ 3996 * ((0 : Nat) : Int); omega⟩
  | succ j ih =>
    intro v hj
    have := ih (v / (n + 1)) (by omega)
    have q := Nat.mod_lt v (show n + 1 > 0 by omega)
    have := jy_mulb (hr j (by omega)) (b := (n : Int) - ((v % (n + 1) : Nat) : Int)) (by omega)
    have e : jy_rd n r (j + 1) v = jy_rd n r j (v / (n + 1)) + r j * ((n : Int) - ((v % (n + 1) : Nat) : Int)) := rfl
    rw [e]
    omega
/-- the plan in which no kind is ever done may be -/
theorem jy_none (hc : 0 ≤ c) : ∀ j, jy_ok n c (jy_si n p j ((n + 1) ^ j - 1)) := by
  intro j
  induction j with
  | zero =>
    intro Y hY
    have e : ∀ Y : Nat, 0 ≤ jy_cu c (jy_si n p 0 ((n + 1) ^ 0 - 1)) Y := by
      intro Y
      induction Y with
      | zero => exact Int.le_refl _
      | succ Y ih =>
        have e : jy_cu c (jy_si n p 0 ((n + 1) ^ 0 - 1)) (Y + 1) = jy_cu c (jy_si n p 0 ((n + 1) ^ 0 - 1)) Y + (c - 0) := rfl
        omega
    exact e Y
  | succ j ih =>
    have e : (n + 1) ^ (j + 1) - 1 = ((n + 1) ^ j - 1) * (n + 1) + n := by
      have h1 : 0 < (n + 1) ^ j := Nat.pow_pos (by omega)
      obtain ⟨t, ht⟩ : ∃ t, (n + 1) ^ j = t + 1 := ⟨(n + 1) ^ j - 1, by omega⟩
      rw [Nat.pow_succ, ht, Nat.add_sub_cancel, Nat.add_mul]
      omega
    rw [e]
    exact jy_ok_n ih
theorem jy_fin (hn : n ≤ 4) (hc : 0 ≤ c) (hr : ∀ l, l < K → 0 ≤ r l ∧ r l ≤ 999) : 0 ≤ (jy_run (jy_st n c p r K) 0 ((n + 1) ^ K) x).1 := by
  have h1 : 0 < (n + 1) ^ K := Nat.pow_pos (by omega)
  obtain ⟨t, ht⟩ : ∃ t, (n + 1) ^ K = t + 1 := ⟨(n + 1) ^ K - 1, by omega⟩
  rw [ht, jy_run_snoc, Nat.zero_add]
  have o : jy_ok n c (jy_si n p K t) := by
    have := jy_none (n := n) (p := p) hc K
    rw [ht, Nat.add_sub_cancel] at this
    exact this
  have b := (jy_rd_b hn hr K t (Nat.le_refl _)).1
  generalize jy_run (jy_st n c p r K) 0 t x = z
  by_cases q : z.1 < jy_rd n r K t ∨ jy_rd n r K t = z.1 ∧ jy_sp n p K t < z.2.1
  · rw [jy_st_1 ⟨o, q⟩]; exact b
  · rw [jy_st_0 (fun w => q w.2)]
    omega
end JYB
