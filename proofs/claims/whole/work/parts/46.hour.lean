/-! ===== an hour for a book ===== -/
abbrev jq_B : Type := Int32 × Int32 × Int32 × Int32
def jq_cap (x : Int32) : Int32 := if 1000 < x then 1000 else x
def jq_lo (x : Int32) : Int32 := if x < 1000 then x else 1000
def jq_hm (H : Int32) (b : jq_B) : Int32 := jq_cap (b.2.1 + ji_fM b.1 H)
def jq_hh (H : Int32) (b : jq_B) : Int32 := jq_cap (if jq_hm H b < 100 then b.2.2.1 else b.2.2.1 + ji_fH b.1)
/-- it leaves its state by itself -/
def jq_lv (t : Int32) (b : jq_B) : Prop := (b.1 = 1 ∧ ¬ t - b.2.2.2 < 48) ∨ (b.1 = 3 ∧ ¬ t - b.2.2.2 < 72) ∨ (b.1 = 5 ∧ ¬ t - b.2.2.2 < 96)
noncomputable def jq_hb (H t : Int32) (b : jq_B) : jq_B := @ite _ (jq_lv t b) (Classical.propDecidable _) (if b.1 = 1 then 4 else 0, jq_hm H b, jq_hh H b, t) (b.1, jq_hm H b, jq_hh H b, b.2.2.2)
theorem jq_hb_T {H t : Int32} {b : jq_B} (h : jq_lv t b) : jq_hb H t b = (if b.1 = 1 then 4 else 0, jq_hm H b, jq_hh H b, t) := if_pos h
theorem jq_hb_F {H t : Int32} {b : jq_B} (h : ¬ jq_lv t b) : jq_hb H t b = (b.1, jq_hm H b, jq_hh H b, b.2.2.2) := if_neg h
/-- hours one after the other -/
noncomputable def jq_it (H h : Int32) (b : jq_B) : Nat → jq_B
  | 0 => b
  | j + 1 => jq_hb H (h + Int32.ofNat (j + 1)) (jq_it H h b j)
/-- what they cost -/
noncomputable def jq_cs (H h z : Int32) (b : jq_B) : Nat → Int
  | 0 => 0
  | j + 1 => jq_cs H h z b j + (ji_fC (jq_it H h b j).1 z).toInt
def jq_ok (h : Int) (b : jq_B) : Prop := ji_bt b.1 0 5 ∧ ji_bt b.2.1 0 1000 ∧ ji_bt b.2.2.1 0 1000 ∧ ji_bt b.2.2.2 0 h
theorem jq_fH_b {s : Int32} : ji_bt (ji_fH s) 0 7 := by
  have e0 : (0 : Int32).toInt = 0 := rfl
  have e1 : (1 : Int32).toInt = 1 := rfl
  have e3 : (3 : Int32).toInt = 3 := rfl
  have e7 : (7 : Int32).toInt = 7 := rfl
  unfold ji_fH ji_bt
  split
  · rw [e3]; omega
  split
  · rw [e1]; omega
  split
  · rw [e1]; omega
  split
  · rw [e7]; omega
  · rw [e0]; omega
theorem jq_fC_b {s z : Int32} (hz : ji_bt z 1 99) : ji_bt (ji_fC s z) 0 5 := by
  have e0 : (0 : Int32).toInt = 0 := rfl
  have e1 : (1 : Int32).toInt = 1 := rfl
  have e2 : (2 : Int32).toInt = 2 := rfl
  have e5 : (5 : Int32).toInt = 5 := rfl
  have e20 : (20 : Int32).toInt = 20 := rfl
  obtain ⟨h1, h2⟩ := hz
  have q : (z / 20).toInt = z.toInt / 20 := by rw [vi_div (by omega) (by rw [e20]; omega), e20]
  have q2 : (z / 20 + 1).toInt = z.toInt / 20 + 1 := by rw [vi_add (by omega) (by omega), q, e1]
  unfold ji_fC ji_bt
  split
  · rw [q2]; omega
  split
  · rw [e2]; omega
  split
  · rw [e5]; omega
  · rw [e0]; omega
theorem jq_cap_v {x : Int32} : (jq_cap x).toInt = if 1000 < x.toInt then 1000 else x.toInt := by
  have e : (1000 : Int32).toInt = 1000 := rfl
  unfold jq_cap
  by_cases h : 1000 < x
  · rw [if_pos h, if_pos (by rw [vi_lt, e] at h; exact h), e]
  · rw [if_neg h, if_neg (by rw [vi_lt, e] at h; exact h)]
theorem jq_lo_v {x : Int32} : (jq_lo x).toInt = if 1000 < x.toInt then 1000 else x.toInt := by
  have e : (1000 : Int32).toInt = 1000 := rfl
  unfold jq_lo
  by_cases h : x < 1000
  · have h' := h
    rw [vi_lt, e] at h'
    rw [if_pos h, if_neg (by omega)]
  · have h' := h
    rw [vi_lt, e] at h'
    rw [if_neg h, e]
    split <;> omega
theorem jq_hm_v {H : Int32} {b : jq_B} (hH : ji_bt H 0 40) (hb : ji_bt b.2.1 0 1000) : (jq_hm H b).toInt = if 1000 < b.2.1.toInt + (ji_fM b.1 H).toInt then 1000 else b.2.1.toInt + (ji_fM b.1 H).toInt := by
  have g := (ji_fM_b (s := b.1) hH).1
  obtain ⟨g1, g2⟩ := g
  obtain ⟨b1, b2⟩ := hb
  unfold jq_hm
  rw [jq_cap_v, vi_add (by omega) (by omega)]
theorem jq_hh_v {H : Int32} {b : jq_B} (hb : ji_bt b.2.2.1 0 1000) : (jq_hh H b).toInt = if 1000 < b.2.2.1.toInt + (if (jq_hm H b).toInt < 100 then 0 else (ji_fH b.1).toInt) then 1000 else b.2.2.1.toInt + (if (jq_hm H b).toInt < 100 then 0 else (ji_fH b.1).toInt) := by
  have e : (100 : Int32).toInt = 100 := rfl
  obtain ⟨g1, g2⟩ := jq_fH_b (s := b.1)
  obtain ⟨b1, b2⟩ := hb
  unfold jq_hh
  rw [jq_cap_v]
  by_cases h : jq_hm H b < 100
  · have h' : (jq_hm H b).toInt < 100 := by rw [vi_lt, e] at h; exact h
    rw [if_pos h, if_pos h', Int.add_zero]
  · have h' : ¬ (jq_hm H b).toInt < 100 := by rw [vi_lt, e] at h; exact h
    rw [if_neg h, if_neg h', vi_add (by omega) (by omega)]
theorem jq_hb_ok {H t : Int32} {b : jq_B} {h : Int} (hH : ji_bt H 0 40) (hb : jq_ok h b) (ht : h ≤ t.toInt) (h0 : 0 ≤ h) : jq_ok t.toInt (jq_hb H t b) := by
  obtain ⟨b1, b2, b3, b4⟩ := hb
  have m := jq_hm_v hH b2
  have a := jq_hh_v (H := H) b3
  obtain ⟨g1, g2⟩ := (ji_fM_b (s := b.1) hH).1
  obtain ⟨f1, f2⟩ := jq_fH_b (s := b.1)
  have mb : ji_bt (jq_hm H b) 0 1000 := by
    unfold ji_bt at b2 ⊢
    rw [m]; split <;> omega
  have ab : ji_bt (jq_hh H b) 0 1000 := by
    unfold ji_bt at b3 ⊢
    rw [a]; split <;> split <;> omega
  by_cases l : jq_lv t b
  · rw [jq_hb_T l]
    refine ⟨?_, mb, ab, ?_⟩
    · show ji_bt (if b.1 = 1 then 4 else 0) 0 5
      split
      · exact ⟨by decide, by decide⟩
      · exact ⟨by decide, by decide⟩
    · show 0 ≤ t.toInt ∧ t.toInt ≤ t.toInt
      omega
  · rw [jq_hb_F l]
    refine ⟨b1, mb, ab, ?_⟩
    unfold ji_bt at b4 ⊢
    show 0 ≤ b.2.2.2.toInt ∧ b.2.2.2.toInt ≤ t.toInt
    omega
theorem jq_hj {h : Int32} {j : Nat} (hh : 0 ≤ h.toInt ∧ h.toInt ≤ 2000) (hj : j ≤ 2000) : (h + Int32.ofNat j).toInt = h.toInt + j := by
  have e : (Int32.ofNat j).toInt = j := vi_ofN (by omega)
  rw [vi_add (by omega) (by omega), e]
theorem jq_it_ok {H h : Int32} {b : jq_B} (hH : ji_bt H 0 40) (hh : 0 ≤ h.toInt ∧ h.toInt ≤ 2000) (hb : jq_ok h.toInt b) : ∀ j : Nat, j ≤ 2000 → jq_ok (h.toInt + j) (jq_it H h b j) := by
  intro j
  induction j with
  | zero => intro _; rw [show (h.toInt + (0 : Nat) : Int) = h.toInt by omega]; exact hb
  | succ j ih =>
    intro hj
    have e := jq_hj hh hj
    rw [← e]
    exact jq_hb_ok hH (ih (by omega)) (by omega) (by omega)
theorem jq_cs_b {H h z : Int32} {b : jq_B} (hz : ji_bt z 1 99) : ∀ j : Nat, 0 ≤ jq_cs H h z b j ∧ jq_cs H h z b j ≤ 5 * j := by
  intro j
  induction j with
  | zero => exact ⟨Int.le_refl _, by show (0 : Int) ≤ _; omega⟩
  | succ j ih =>
    obtain ⟨c1, c2⟩ := jq_fC_b (s := (jq_it H h b j).1) hz
    show 0 ≤ jq_cs H h z b j + _ ∧ jq_cs H h z b j + _ ≤ _
    omega
/-- hours in the same state: as many hours as harm -/
def jq_tl (m g : Int32) : Int32 := if m < 100 then (if 0 < g then (99 - m) / g + 1 else -1) else 0
def jq_hf (t k : Int32) : Int32 := if t = -1 then 0 else if 0 < k - (if 0 < t - 1 then t - 1 else 0) then k - (if 0 < t - 1 then t - 1 else 0) else 0
def jq_F (m g k : Int) : Int := if 100 ≤ m then k else if g = 0 then 0 else if (99 - m) / g < k then k - (99 - m) / g else 0
theorem jq_F_succ {m g k : Int} (hm : 0 ≤ m) (hg : 0 ≤ g) (hk : 0 ≤ k) : jq_F m g (k + 1) = jq_F m g k + (if m + (k + 1) * g < 100 then 0 else 1) := by
  unfold jq_F
  by_cases h1 : 100 ≤ m
  · have : 0 ≤ (k + 1) * g := Int.mul_nonneg (by omega) hg
    rw [if_pos h1, if_pos h1, if_neg (by omega)]
  · rw [if_neg h1, if_neg h1]
    by_cases h2 : g = 0
    · rw [if_pos h2, if_pos h2, h2, Int.mul_zero, if_pos (by omega)]; rfl
    · rw [if_neg h2, if_neg h2]
      have gp : 0 < g := by omega
      have q1 : (99 - m) / g * g ≤ 99 - m := Int.ediv_mul_le _ (by omega)
      have q2 : 99 - m < ((99 - m) / g + 1) * g := Int.lt_ediv_add_one_mul_self _ gp
      have q3 : 0 ≤ (99 - m) / g := Int.ediv_nonneg (by omega) (by omega)
      generalize (99 - m) / g = q at q1 q2 q3
      by_cases h3 : q < k + 1
      · have h4 : (q + 1) * g ≤ (k + 1) * g := Int.mul_le_mul_of_nonneg_right (by omega) hg
        rw [if_pos h3, if_neg (show ¬ m + (k + 1) * g < 100 by omega)]
        split <;> omega
      · have h4 : (k + 1) * g ≤ q * g := Int.mul_le_mul_of_nonneg_right (by omega) hg
        rw [if_neg h3, if_pos (show m + (k + 1) * g < 100 by omega), if_neg (by omega)]; rfl
theorem jq_F_b {m g k : Int} (hm : 0 ≤ m) (hg : 0 ≤ g) (hk : 0 ≤ k) : 0 ≤ jq_F m g k ∧ jq_F m g k ≤ k := by
  have q3 : ¬ 100 ≤ m → 0 ≤ (99 - m) / g := fun h => Int.ediv_nonneg (by omega) hg
  unfold jq_F
  split
  · omega
  split
  · omega
  split
  · have := q3 (by assumption); omega
  · omega
theorem jq_hf_v {m g k : Int32} (hm : ji_bt m 0 1000) (hg : ji_bt g 0 17) (hk : ji_bt k 0 100) : (jq_hf (jq_tl m g) k).toInt = jq_F m.toInt g.toInt k.toInt := by
  have e0 : (0 : Int32).toInt = 0 := rfl
  have e1 : (1 : Int32).toInt = 1 := rfl
  have em : (-1 : Int32).toInt = -1 := rfl
  have e99 : (99 : Int32).toInt = 99 := rfl
  have e100 : (100 : Int32).toInt = 100 := rfl
  obtain ⟨m1, m2⟩ := hm
  obtain ⟨g1, g2⟩ := hg
  obtain ⟨k1, k2⟩ := hk
  unfold jq_F
  by_cases h1 : m < 100
  · have h1' := h1
    rw [vi_lt, e100] at h1'
    rw [if_neg (by omega)]
    by_cases h2 : 0 < g
    · have h2' := h2
      rw [vi_lt, e0] at h2'
      rw [if_neg (by omega)]
      have s : (99 - m).toInt = 99 - m.toInt := by rw [vi_sub (by omega) (by omega), e99]
      have q : ((99 - m) / g).toInt = (99 - m.toInt) / g.toInt := by rw [vi_div (by omega) (by omega), s]
      have q3 : 0 ≤ (99 - m.toInt) / g.toInt := Int.ediv_nonneg (by omega) (by omega)
      have q4 : (99 - m.toInt) / g.toInt ≤ 99 - m.toInt := Int.ediv_le_self _ (by omega)
      have t : jq_tl m g = (99 - m) / g + 1 := by unfold jq_tl; rw [if_pos h1, if_pos h2]
      have t1 : ((99 - m) / g + 1).toInt = (99 - m.toInt) / g.toInt + 1 := by rw [vi_add (by omega) (by omega), q, e1]
      have t2 : (99 - m) / g + 1 - 1 = (99 - m) / g := Int32.add_sub_cancel _ _
      have t3 : ¬ (99 - m) / g + 1 = -1 := by rw [vi_eq, t1, em]; omega
      rw [t]
      unfold jq_hf
      rw [if_neg t3, t2]
      have t4 : (if 0 < (99 - m) / g then (99 - m) / g else 0).toInt = (99 - m.toInt) / g.toInt := by
        by_cases u : 0 < (99 - m) / g
        · rw [if_pos u, q]
        · rw [if_neg u, e0]
          rw [vi_lt, e0, q] at u
          omega
      have t5 : (k - (if 0 < (99 - m) / g then (99 - m) / g else 0)).toInt = k.toInt - (99 - m.toInt) / g.toInt := by
        rw [vi_sub (by omega) (by omega), t4]
      by_cases u : 0 < k - (if 0 < (99 - m) / g then (99 - m) / g else 0)
      · rw [if_pos u, t5]
        rw [vi_lt, e0, t5] at u
        rw [if_pos (by omega)]
      · rw [if_neg u, e0]
        rw [vi_lt, e0, t5] at u
        rw [if_neg (by omega)]
    · have h2' := h2
      rw [vi_lt, e0] at h2'
      rw [if_pos (by omega)]
      have t : jq_tl m g = -1 := by unfold jq_tl; rw [if_pos h1, if_neg h2]
      rw [t]
      unfold jq_hf
      rw [if_pos rfl, e0]
  · have h1' := h1
    rw [vi_lt, e100] at h1'
    rw [if_pos (by omega)]
    have t : jq_tl m g = 0 := by unfold jq_tl; rw [if_neg h1]
    have z1 : ¬ (0 : Int32) = -1 := by decide
    have z2 : ¬ (0 : Int32) < 0 - 1 := by decide
    rw [t]
    unfold jq_hf
    rw [if_neg z1, if_neg z2, Int32.sub_zero]
    by_cases u : 0 < k
    · rw [if_pos u]
    · rw [if_neg u, e0]
      rw [vi_lt, e0] at u
      omega
/-- some hours in the same state -/
def jq_sy (H k : Int32) (b : jq_B) : jq_B := (b.1, jq_lo (b.2.1 + k * ji_fM b.1 H), jq_lo (b.2.2.1 + jq_hf (jq_tl b.2.1 (ji_fM b.1 H)) k * ji_fH b.1), b.2.2.2)
theorem jq_sy_v {H k : Int32} {b : jq_B} {h : Int} (hH : ji_bt H 0 40) (hb : jq_ok h b) (hk : ji_bt k 0 100) : (jq_sy H k b).2.1.toInt = (if 1000 < b.2.1.toInt + k.toInt * (ji_fM b.1 H).toInt then 1000 else b.2.1.toInt + k.toInt * (ji_fM b.1 H).toInt) ∧ (jq_sy H k b).2.2.1.toInt = (if 1000 < b.2.2.1.toInt + jq_F b.2.1.toInt (ji_fM b.1 H).toInt k.toInt * (ji_fH b.1).toInt then 1000 else b.2.2.1.toInt + jq_F b.2.1.toInt (ji_fM b.1 H).toInt k.toInt * (ji_fH b.1).toInt) := by
  obtain ⟨b1, b2, b3, b4⟩ := hb
  have g := (ji_fM_b (s := b.1) hH).1
  have f := jq_hf_v b2 g hk
  obtain ⟨f1, f2⟩ := jq_fH_b (s := b.1)
  have hfb := jq_F_b (m := b.2.1.toInt) (g := (ji_fM b.1 H).toInt) (k := k.toInt) b2.1 g.1 hk.1
  obtain ⟨g1, g2⟩ := g
  obtain ⟨k1, k2⟩ := hk
  obtain ⟨b21, b22⟩ := b2
  obtain ⟨b31, b32⟩ := b3
  have p0 : 0 ≤ k.toInt * (ji_fM b.1 H).toInt := Int.mul_nonneg (by omega) (by omega)
  have p1 : k.toInt * (ji_fM b.1 H).toInt ≤ 100 * 17 := Int.mul_le_mul (by omega) (by omega) (by omega) (by omega)
  have p2 : 0 ≤ jq_F b.2.1.toInt (ji_fM b.1 H).toInt k.toInt * (ji_fH b.1).toInt := Int.mul_nonneg (by omega) (by omega)
  have p3 : jq_F b.2.1.toInt (ji_fM b.1 H).toInt k.toInt * (ji_fH b.1).toInt ≤ 100 * 7 := Int.mul_le_mul (by omega) (by omega) (by omega) (by omega)
  have e1 : (k * ji_fM b.1 H).toInt = k.toInt * (ji_fM b.1 H).toInt := vi_mul (by omega) (by omega)
  have e2 : (jq_hf (jq_tl b.2.1 (ji_fM b.1 H)) k * ji_fH b.1).toInt = jq_F b.2.1.toInt (ji_fM b.1 H).toInt k.toInt * (ji_fH b.1).toInt := by
    rw [vi_mul (by rw [f]; omega) (by rw [f]; omega), f]
  constructor
  · show (jq_lo (b.2.1 + k * ji_fM b.1 H)).toInt = _
    rw [jq_lo_v, vi_add (by omega) (by omega), e1]
  · show (jq_lo (b.2.2.1 + jq_hf (jq_tl b.2.1 (ji_fM b.1 H)) k * ji_fH b.1)).toInt = _
    rw [jq_lo_v, vi_add (by omega) (by omega), e2]
theorem jq_sy_0 {H : Int32} {b : jq_B} {h : Int} (hH : ji_bt H 0 40) (hb : jq_ok h b) : jq_sy H 0 b = b := by
  have v := jq_sy_v (k := 0) hH hb ⟨by decide, by decide⟩
  have e0 : (0 : Int32).toInt = 0 := rfl
  have F0 : jq_F b.2.1.toInt (ji_fM b.1 H).toInt 0 = 0 := by
    have := jq_F_b (m := b.2.1.toInt) (g := (ji_fM b.1 H).toInt) (k := 0) hb.2.1.1 (ji_fM_b hH).1.1 (Int.le_refl _)
    omega
  rw [e0, F0, Int.zero_mul, Int.zero_mul, Int.add_zero, Int.add_zero] at v
  have b2 := hb.2.1.2
  have b3 := hb.2.2.1.2
  rw [if_neg (by omega), if_neg (by omega)] at v
  obtain ⟨st, mo, ha, si⟩ := b
  have v1 : (jq_sy H 0 (st, mo, ha, si)).2.1 = mo := vi_eq.mpr v.1
  have v2 : (jq_sy H 0 (st, mo, ha, si)).2.2.1 = ha := vi_eq.mpr v.2
  exact Prod.ext rfl (Prod.ext v1 (Prod.ext v2 rfl))
theorem jq_sy_s {H : Int32} {b : jq_B} {h : Int} {j : Nat} (hH : ji_bt H 0 40) (hb : jq_ok h b) (hj : j < 100) : jq_hm H (jq_sy H (Int32.ofNat j) b) = (jq_sy H (Int32.ofNat (j + 1)) b).2.1 ∧ jq_hh H (jq_sy H (Int32.ofNat j) b) = (jq_sy H (Int32.ofNat (j + 1)) b).2.2.1 := by
  have ej : (Int32.ofNat j).toInt = j := vi_ofN (by omega)
  have ej1 : (Int32.ofNat (j + 1)).toInt = ((j + 1 : Nat) : Int) := vi_ofN (by omega)
  have v := jq_sy_v (k := Int32.ofNat j) hH hb (by unfold ji_bt; omega)
  have w := jq_sy_v (k := Int32.ofNat (j + 1)) hH hb (by unfold ji_bt; omega)
  obtain ⟨b1, b2, b3, b4⟩ := hb
  obtain ⟨g1, g2⟩ := (ji_fM_b (s := b.1) hH).1
  obtain ⟨f1, f2⟩ := jq_fH_b (s := b.1)
  obtain ⟨b21, b22⟩ := b2
  obtain ⟨b31, b32⟩ := b3
  rw [ej] at v
  rw [ej1, Int.natCast_add, Int.natCast_one] at w
  have S := jq_F_succ (m := b.2.1.toInt) (g := (ji_fM b.1 H).toInt) (k := (j : Int)) b21 g1 (by omega)
  have fb := jq_F_b (m := b.2.1.toInt) (g := (ji_fM b.1 H).toInt) (k := (j : Int)) b21 g1 (by omega)
  have p0 : 0 ≤ (j : Int) * (ji_fM b.1 H).toInt := Int.mul_nonneg (by omega) (by omega)
  have p1 : ((j : Int) + 1) * (ji_fM b.1 H).toInt = (j : Int) * (ji_fM b.1 H).toInt + (ji_fM b.1 H).toInt := by rw [Int.add_mul, Int.one_mul]
  have p2 : 0 ≤ jq_F b.2.1.toInt (ji_fM b.1 H).toInt j * (ji_fH b.1).toInt := Int.mul_nonneg (by omega) (by omega)
  have s2 : ji_bt (jq_sy H (Int32.ofNat j) b).2.1 0 1000 := by unfold ji_bt; rw [v.1]; split <;> omega
  have s3 : ji_bt (jq_sy H (Int32.ofNat j) b).2.2.1 0 1000 := by unfold ji_bt; rw [v.2]; split <;> omega
  have m := jq_hm_v (b := jq_sy H (Int32.ofNat j) b) hH s2
  have a := jq_hh_v (H := H) (b := jq_sy H (Int32.ofNat j) b) s3
  have es : (jq_sy H (Int32.ofNat j) b).1 = b.1 := rfl
  rw [es, v.1] at m
  have M : (jq_hm H (jq_sy H (Int32.ofNat j) b)).toInt = (jq_sy H (Int32.ofNat (j + 1)) b).2.1.toInt := by
    rw [m, w.1, p1]
    split <;> split <;> split <;> omega
  refine ⟨vi_eq.mpr M, vi_eq.mpr ?_⟩
  rw [es, v.2, M, w.1, p1] at a
  rw [a, w.2, S]
  rw [p1]
  generalize (j : Int) * (ji_fM b.1 H).toInt = p at p0 p1
  by_cases c : b.2.1.toInt + (p + (ji_fM b.1 H).toInt) < 100
  · have c2 : ¬ 1000 < b.2.1.toInt + (p + (ji_fM b.1 H).toInt) := by omega
    simp only [c, c2, if_true, if_false, Int.add_zero]
    split <;> (try split) <;> omega
  · have c3 : ¬ (if 1000 < b.2.1.toInt + (p + (ji_fM b.1 H).toInt) then 1000 else b.2.1.toInt + (p + (ji_fM b.1 H).toInt)) < 100 := by split <;> omega
    simp only [c, c3, if_false, Int.add_mul, Int.one_mul]
    generalize jq_F b.2.1.toInt (ji_fM b.1 H).toInt j * (ji_fH b.1).toInt = r at p2
    split <;> split <;> split <;> omega
/-- as long as it doesn't leave its state -/
theorem jq_it_sy {H h : Int32} {b : jq_B} (hH : ji_bt H 0 40) (hb : jq_ok h.toInt b) : ∀ j : Nat, j ≤ 100 → (∀ i, i < j → ¬ jq_lv (h + Int32.ofNat (i + 1)) b) → jq_it H h b j = jq_sy H (Int32.ofNat j) b := by
  intro j
  induction j with
  | zero => intro _ _; exact (jq_sy_0 hH hb).symm
  | succ j ih =>
    intro hj hl
    have i := ih (by omega) (fun i hi => hl i (by omega))
    have s := jq_sy_s (j := j) hH hb (by omega)
    have l : ¬ jq_lv (h + Int32.ofNat (j + 1)) (jq_sy H (Int32.ofNat j) b) := hl j (by omega)
    show jq_hb H (h + Int32.ofNat (j + 1)) (jq_it H h b j) = _
    rw [i, jq_hb_F l, s.1, s.2]
    rfl
theorem jq_it_sl {H h : Int32} {b : jq_B} (hH : ji_bt H 0 40) (hb : jq_ok h.toInt b) {j : Nat} (hj : j < 100) (hl : ∀ i, i < j → ¬ jq_lv (h + Int32.ofNat (i + 1)) b) (l : jq_lv (h + Int32.ofNat (j + 1)) b) : jq_it H h b (j + 1) = (if b.1 = 1 then 4 else 0, (jq_sy H (Int32.ofNat (j + 1)) b).2.1, (jq_sy H (Int32.ofNat (j + 1)) b).2.2.1, h + Int32.ofNat (j + 1)) := by
  have i := jq_it_sy hH hb j (by omega) hl
  have s := jq_sy_s (j := j) hH hb (by omega)
  have l' : jq_lv (h + Int32.ofNat (j + 1)) (jq_sy H (Int32.ofNat j) b) := l
  show jq_hb H (h + Int32.ofNat (j + 1)) (jq_it H h b j) = _
  rw [i, jq_hb_T l', s.1, s.2]
  rfl
theorem jq_cs_sy {H h z : Int32} {b : jq_B} (hH : ji_bt H 0 40) (hb : jq_ok h.toInt b) : ∀ j : Nat, j ≤ 100 → (∀ i, i + 1 < j → ¬ jq_lv (h + Int32.ofNat (i + 1)) b) → jq_cs H h z b j = j * (ji_fC b.1 z).toInt := by
  intro j
  induction j with
  | zero => intro _ _; show (0 : Int) = _; simp
  | succ j ih =>
    intro hj hl
    have i := ih (by omega) (fun i hi => hl i (by omega))
    have e := jq_it_sy hH hb j (by omega) (fun i hi => hl i (by omega))
    show jq_cs H h z b j + (ji_fC (jq_it H h b j).1 z).toInt = _
    rw [i, e]
    show _ + (ji_fC b.1 z).toInt = _
    rw [Int.natCast_add, Int.add_mul, Int.natCast_one, Int.one_mul]
theorem jq_it_add {H h : Int32} {b : jq_B} {i : Nat} : ∀ j : Nat, jq_it H h b (i + j) = jq_it H (h + Int32.ofNat i) (jq_it H h b i) j := by
  intro j
  induction j with
  | zero => rfl
  | succ j ih =>
    show jq_hb H (h + Int32.ofNat (i + j + 1)) (jq_it H h b (i + j)) = jq_hb H (h + Int32.ofNat i + Int32.ofNat (j + 1)) _
    rw [ih, Int32.add_assoc, ← Int32.ofNat_add, Nat.add_assoc]
theorem jq_cs_add {H h z : Int32} {b : jq_B} {i : Nat} : ∀ j : Nat, jq_cs H h z b (i + j) = jq_cs H h z b i + jq_cs H (h + Int32.ofNat i) z (jq_it H h b i) j := by
  intro j
  induction j with
  | zero => show _ = _ + (0 : Int); rw [Int.add_zero]; rfl
  | succ j ih =>
    show jq_cs H h z b (i + j) + (ji_fC (jq_it H h b (i + j)).1 z).toInt = _ + (jq_cs H (h + Int32.ofNat i) z (jq_it H h b i) j + _)
    rw [ih, jq_it_add, Int.add_assoc]
