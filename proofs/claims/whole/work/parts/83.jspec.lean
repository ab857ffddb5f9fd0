/-! ===== joined: the plain telling ===== -/
/-- the most of a beginning and of those that may be -/
noncomputable def jj_mx (p : Nat → Prop) (s : Nat → Int) (b : Int) : Nat → Int
  | 0 => b
  | g + 1 => @ite _ (p g) (Classical.propDecidable _) (max (jj_mx p s b g) (s g)) (jj_mx p s b g)
/-- the first of those that may be; else the number behind them -/
noncomputable def jj_ff (p : Nat → Prop) : Nat → Nat → Nat
  | 0, g => g
  | m + 1, g => @ite _ (p g) (Classical.propDecidable _) g (jj_ff p m (g + 1))
theorem jj_mx_1 {p : Nat → Prop} {s : Nat → Int} {b : Int} {g : Nat} (h : p g) : jj_mx p s b (g + 1) = max (jj_mx p s b g) (s g) := if_pos h
theorem jj_mx_0 {p : Nat → Prop} {s : Nat → Int} {b : Int} {g : Nat} (h : ¬ p g) : jj_mx p s b (g + 1) = jj_mx p s b g := if_neg h
theorem jj_ff_1 {p : Nat → Prop} {m g : Nat} (h : p g) : jj_ff p (m + 1) g = g := if_pos h
theorem jj_ff_0 {p : Nat → Prop} {m g : Nat} (h : ¬ p g) : jj_ff p (m + 1) g = jj_ff p m (g + 1) := if_neg h
theorem jj_mx_le {p : Nat → Prop} {s : Nat → Int} {b : Int} : ∀ G : Nat, b ≤ jj_mx p s b G ∧ (∀ g, g < G → p g → s g ≤ jj_mx p s b G) ∧ (jj_mx p s b G = b ∨ ∃ g, g < G ∧ p g ∧ s g = jj_mx p s b G) := by
  intro G
  induction G with
  | zero => exact ⟨Int.le_refl _, fun g hg => absurd hg (by omega), Or.inl rfl⟩
  | succ G ih =>
    obtain ⟨h1, h2, h3⟩ := ih
    by_cases q : p G
    · rw [jj_mx_1 q]
      refine ⟨by omega, fun g hg hp => ?_, ?_⟩
      · by_cases e : g = G
        · subst e; omega
        · have := h2 g (by omega) hp; omega
      · by_cases e : s G ≤ jj_mx p s b G
        · rw [show max (jj_mx p s b G) (s G) = jj_mx p s b G by omega]
          rcases h3 with h3 | ⟨g, g1, g2, g3⟩
          · exact Or.inl h3
          · exact Or.inr ⟨g, by omega, g2, g3⟩
        · exact Or.inr ⟨G, by omega, q, by omega⟩
    · rw [jj_mx_0 q]
      refine ⟨h1, fun g hg hp => ?_, ?_⟩
      · by_cases e : g = G
        · subst e; exact absurd hp q
        · exact h2 g (by omega) hp
      · rcases h3 with h3 | ⟨g, g1, g2, g3⟩
        · exact Or.inl h3
        · exact Or.inr ⟨g, by omega, g2, g3⟩
theorem jj_ff_s {p : Nat → Prop} : ∀ (m g : Nat), g ≤ jj_ff p m g ∧ jj_ff p m g ≤ g + m ∧ (∀ i, g ≤ i → i < jj_ff p m g → ¬ p i) ∧ (jj_ff p m g < g + m → p (jj_ff p m g)) := by
  intro m
  induction m with
  | zero => intro g; exact ⟨Nat.le_refl _, Nat.le_refl _, fun i h1 h2 => absurd h2 (by show ¬ i < g; omega), fun h => absurd h (by show ¬ g < g + 0; omega)⟩
  | succ m ih =>
    intro g
    by_cases q : p g
    · rw [jj_ff_1 q]
      exact ⟨Nat.le_refl _, by omega, fun i h1 h2 => by omega, fun _ => q⟩
    · rw [jj_ff_0 q]
      obtain ⟨h1, h2, h3, h4⟩ := ih (g + 1)
      refine ⟨by omega, by omega, fun i a b => ?_, fun h => h4 (by omega)⟩
      by_cases e : i = g
      · subst e; exact q
      · exact h3 i (by omega) b
/-- the first of the greatest, one after the other -/
theorem jj_fm {α : Type} {p : Nat → Prop} {s : Nat → Int} {C : Nat → α} {F : Int × α → Nat → Int × α} (F1 : ∀ x y, p y → x.1 < s y → F x y = (s y, C y)) (F0 : ∀ x y, ¬ (p y ∧ x.1 < s y) → F x y = x) {M : Int} : ∀ (m a : Nat) (x : Int × α), (∀ y, a ≤ y → y < a + m → p y → s y ≤ M) → (M ≤ x.1 → jy_run F a m x = x) ∧ (x.1 < M → ∀ y0, a ≤ y0 → y0 < a + m → p y0 → s y0 = M → (∀ y, a ≤ y → y < y0 → ¬ (p y ∧ s y = M)) → jy_run F a m x = (M, C y0)) := by
  intro m
  induction m with
  | zero => intro a x h; exact ⟨fun _ => rfl, fun _ y0 h1 h2 => absurd h2 (by omega)⟩
  | succ m ih =>
    intro a x h
    have h' : ∀ y, a + 1 ≤ y → y < a + 1 + m → p y → s y ≤ M := fun y h1 h2 => h y (by omega) (by omega)
    constructor
    · intro hx
      show jy_run F (a + 1) m (F x a) = x
      rw [F0 x a (fun q => by have := h a (by omega) (by omega) q.1; omega)]
      exact (ih (a + 1) x h').1 hx
    · intro hx y0 h1 h2 hp hs hf
      show jy_run F (a + 1) m (F x a) = (M, C y0)
      by_cases e : y0 = a
      · subst e
        rw [F1 x y0 hp (by omega), hs]
        exact (ih (y0 + 1) _ h').1 (Int.le_refl _)
      · have na := hf a (by omega) (by omega)
        by_cases q : p a ∧ x.1 < s a
        · rw [F1 x a q.1 q.2]
          have : s a < M := by
            have := h a (by omega) (by omega) q.1
            have : ¬ s a = M := fun z => na ⟨q.1, z⟩
            omega
          exact (ih (a + 1) _ h').2 this y0 (by omega) (by omega) hp hs (fun y a1 a2 => hf y (by omega) a2)
        · rw [F0 x a q]
          exact (ih (a + 1) _ h').2 hx y0 (by omega) (by omega) hp hs (fun y a1 a2 => hf y (by omega) a2)
section JJY
variable (K G : Nat) (ag : Nat → Nat → Int)
def jj_us : Nat → Nat → Nat
  | 0, _ => 0
  | j + 1, v => if v % (G + 1) = G then jj_us j (v / (G + 1)) else jj_us j (v / (G + 1)) ||| 2 ^ (v % (G + 1))
def jj_sm : Nat → Nat → Int
  | 0, _ => 0
  | j + 1, v => jj_sm j (v / (G + 1)) + if v % (G + 1) = G then 0 else ag j (v % (G + 1))
def jj_can (l g u : Nat) : Prop := u.testBit g = false ∧ 0 < ag l g
def jj_gd : Nat → Nat → Prop
  | 0, _ => True
  | j + 1, v => jj_gd j (v / (G + 1)) ∧ (v % (G + 1) = G ∨ jj_can ag j (v % (G + 1)) (jj_us G j (v / (G + 1))))
noncomputable def jj_st (x : Int × Nat) (v : Nat) : Int × Nat := @ite _ (jj_gd G ag K v ∧ x.1 < jj_sm G ag K v) (Classical.propDecidable _) (jj_sm G ag K v, v) x
noncomputable def jj_mb : Nat → Nat → Int
  | 0, _ => 0
  | k + 1, u => jj_mx (fun g => jj_can ag (K - (k + 1)) g u) (fun g => ag (K - (k + 1)) g + jj_mb k (u ||| 2 ^ g)) (jj_mb k u) G
/-- the least gap with which the most come -/
noncomputable def jj_yy (k u : Nat) : Nat := jj_ff (fun g => jj_can ag (K - (k + 1)) g u ∧ ag (K - (k + 1)) g + jj_mb K G ag k (u ||| 2 ^ g) = jj_mb K G ag (k + 1) u) G 0
noncomputable def jj_nu (k u : Nat) : Nat := if jj_yy K G ag k u = G then u else u ||| 2 ^ jj_yy K G ag k u
noncomputable def jj_gr : Nat → Nat → Nat → Nat
  | 0, _, v => v
  | k + 1, u, v => jj_gr k (jj_nu K G ag k u) (v * (G + 1) + jj_yy K G ag k u)
end JJY
section JJB
variable {K G j k u v y : Nat} {ag : Nat → Nat → Int} {x : Int × Nat}
theorem jj_st_1 (q : jj_gd G ag K v ∧ x.1 < jj_sm G ag K v) : jj_st K G ag x v = (jj_sm G ag K v, v) := if_pos q
theorem jj_st_0 (q : ¬ (jj_gd G ag K v ∧ x.1 < jj_sm G ag K v)) : jj_st K G ag x v = x := if_neg q
theorem jj_us_s (hy : y < G + 1) : jj_us G (j + 1) (v * (G + 1) + y) = if y = G then jj_us G j v else jj_us G j v ||| 2 ^ y := by
  have := jy_dm (v := v) hy
  show (if (v * (G + 1) + y) % (G + 1) = G then jj_us G j ((v * (G + 1) + y) / (G + 1)) else jj_us G j ((v * (G + 1) + y) / (G + 1)) ||| 2 ^ ((v * (G + 1) + y) % (G + 1))) = _
  rw [this.1, this.2]
theorem jj_sm_s (hy : y < G + 1) : jj_sm G ag (j + 1) (v * (G + 1) + y) = jj_sm G ag j v + if y = G then 0 else ag j y := by
  have := jy_dm (v := v) hy
  show jj_sm G ag j ((v * (G + 1) + y) / (G + 1)) + (if (v * (G + 1) + y) % (G + 1) = G then 0 else ag j ((v * (G + 1) + y) % (G + 1))) = _
  rw [this.1, this.2]
theorem jj_gd_s (hy : y < G + 1) : jj_gd G ag (j + 1) (v * (G + 1) + y) ↔ jj_gd G ag j v ∧ (y = G ∨ jj_can ag j y (jj_us G j v)) := by
  have := jy_dm (v := v) hy
  show jj_gd G ag j ((v * (G + 1) + y) / (G + 1)) ∧ ((v * (G + 1) + y) % (G + 1) = G ∨ jj_can ag j ((v * (G + 1) + y) % (G + 1)) (jj_us G j ((v * (G + 1) + y) / (G + 1)))) ↔ _
  rw [this.1, this.2]
theorem jj_tree : ∀ (k j v : Nat) (x : Int × Nat), j + k = K → ((¬ (jj_gd G ag j v ∧ x.1 < jj_sm G ag j v + jj_mb K G ag k (jj_us G j v))) → jy_run (jj_st K G ag) (v * (G + 1) ^ k) ((G + 1) ^ k) x = x) ∧ (jj_gd G ag j v ∧ x.1 < jj_sm G ag j v + jj_mb K G ag k (jj_us G j v) → jy_run (jj_st K G ag) (v * (G + 1) ^ k) ((G + 1) ^ k) x = (jj_sm G ag j v + jj_mb K G ag k (jj_us G j v), jj_gr K G ag k (jj_us G j v) v)) := by
  intro k
  induction k with
  | zero =>
    intro j v x hj
    have hj : j = K := by omega
    subst hj
    rw [Nat.pow_zero, Nat.mul_one, show jj_mb j G ag 0 (jj_us G j v) = 0 from rfl, Int.add_zero]
    exact ⟨fun q => jj_st_0 q, fun q => jj_st_1 q⟩
  | succ k ih =>
    intro j v x hj
    rw [jy_tree]
    have hjj : K - (k + 1) = j := by omega
    by_cases gd : jj_gd G ag j v
    case neg =>
      refine ⟨fun _ => jy_run_id _ _ _ (fun y x h1 h2 => (ih (j + 1) _ x (by omega)).1 (fun q => gd ((jj_gd_s (by omega)).mp q.1).1)), fun q => absurd q.1 gd⟩
    generalize hu : jj_us G j v = u at *
    generalize hs : jj_sm G ag j v = s at *
    -- those that may be, and what they come to
    have mm := jj_mx_le (p := fun g => jj_can ag (K - (k + 1)) g u) (s := fun g => ag (K - (k + 1)) g + jj_mb K G ag k (u ||| 2 ^ g)) (b := jj_mb K G ag k u) G
    have em : jj_mb K G ag (k + 1) u = jj_mx (fun g => jj_can ag (K - (k + 1)) g u) (fun g => ag (K - (k + 1)) g + jj_mb K G ag k (u ||| 2 ^ g)) (jj_mb K G ag k u) G := rfl
    rw [← em] at mm
    have fs := jj_ff_s (p := fun g => jj_can ag (K - (k + 1)) g u ∧ ag (K - (k + 1)) g + jj_mb K G ag k (u ||| 2 ^ g) = jj_mb K G ag (k + 1) u) G 0
    have ey : jj_yy K G ag k u = jj_ff (fun g => jj_can ag (K - (k + 1)) g u ∧ ag (K - (k + 1)) g + jj_mb K G ag k (u ||| 2 ^ g) = jj_mb K G ag (k + 1) u) G 0 := rfl
    rw [← ey] at fs
    rw [hjj] at mm fs
    have S : ∀ y, y < G + 1 → jj_sm G ag (j + 1) (v * (G + 1) + y) + jj_mb K G ag k (jj_us G (j + 1) (v * (G + 1) + y)) = s + if y = G then jj_mb K G ag k u else ag j y + jj_mb K G ag k (u ||| 2 ^ y) := by
      intro y hy
      rw [jj_sm_s hy, jj_us_s hy, hs, hu]
      by_cases e : y = G
      · rw [if_pos e, if_pos e, if_pos e, Int.add_zero]
      · rw [if_neg e, if_neg e, if_neg e, Int.add_assoc]
    have fm := jj_fm (p := fun y => y < G + 1 ∧ jj_gd G ag (j + 1) (v * (G + 1) + y)) (s := fun y => jj_sm G ag (j + 1) (v * (G + 1) + y) + jj_mb K G ag k (jj_us G (j + 1) (v * (G + 1) + y))) (C := fun y => jj_gr K G ag k (jj_us G (j + 1) (v * (G + 1) + y)) (v * (G + 1) + y)) (F := fun x y => @ite _ (y < G + 1) (Classical.propDecidable _) (jy_run (jj_st K G ag) ((v * (G + 1) + y) * (G + 1) ^ k) ((G + 1) ^ k) x) x) (fun x y hp hx => by
        rw [if_pos hp.1]
        exact (ih (j + 1) _ x (by omega)).2 ⟨hp.2, hx⟩) (fun x y hn => by
        by_cases hy : y < G + 1
        · rw [if_pos hy]
          exact (ih (j + 1) _ x (by omega)).1 (fun q => hn ⟨⟨hy, q.1⟩, q.2⟩)
        · rw [if_neg hy]) (M := s + jj_mb K G ag (k + 1) u) (G + 1) 0 x (fun y _ h2 hp => by
        show jj_sm G ag (j + 1) (v * (G + 1) + y) + jj_mb K G ag k (jj_us G (j + 1) (v * (G + 1) + y)) ≤ _
        rw [S y hp.1]
        have hg := ((jj_gd_s hp.1).mp hp.2).2
        rw [hu] at hg
        by_cases e : y = G
        · rw [if_pos e]; have := mm.1; omega
        · rw [if_neg e]
          have := mm.2.1 y (by omega) (hg.resolve_left e)
          omega)
    have cg : jy_run (fun x y => jy_run (jj_st K G ag) ((v * (G + 1) + y) * (G + 1) ^ k) ((G + 1) ^ k) x) 0 (G + 1) x = jy_run (fun x y => @ite _ (y < G + 1) (Classical.propDecidable _) (jy_run (jj_st K G ag) ((v * (G + 1) + y) * (G + 1) ^ k) ((G + 1) ^ k) x) x) 0 (G + 1) x := jy_run_cg _ _ _ (fun y x _ h => (if_pos (by omega)).symm)
    rw [cg]
    refine ⟨fun q => fm.1 ?_, fun q => ?_⟩
    · have : ¬ x.1 < s + jj_mb K G ag (k + 1) u := fun z => q ⟨gd, z⟩
      omega
    · have y0b : jj_yy K G ag k u < G + 1 := by have := fs.2.1; omega
      have F := fm.2 q.2 (jj_yy K G ag k u) (by omega) (by omega) ⟨y0b, (jj_gd_s y0b).mpr ⟨gd, by
          by_cases e : jj_yy K G ag k u = G
          · exact Or.inl e
          · rw [hu]
            exact Or.inr (fs.2.2.2 (by have := fs.2.1; omega)).1⟩⟩ (by
          show jj_sm G ag (j + 1) (v * (G + 1) + jj_yy K G ag k u) + jj_mb K G ag k (jj_us G (j + 1) (v * (G + 1) + jj_yy K G ag k u)) = _
          rw [S _ y0b]
          by_cases e : jj_yy K G ag k u = G
          · rw [if_pos e]
            rcases mm.2.2 with h | ⟨g, g1, g2, g3⟩
            · omega
            · exact absurd ⟨g2, g3⟩ (fs.2.2.1 g (by omega) (by omega))
          · rw [if_neg e]
            have := (fs.2.2.2 (by have := fs.2.1; omega)).2
            omega) (fun y _ h2 => by
          intro hp
          have h2' : y ≠ G := by omega
          have hg := ((jj_gd_s hp.1.1).mp hp.1.2).2
          rw [hu] at hg
          have hv := hp.2
          have hv : jj_sm G ag (j + 1) (v * (G + 1) + y) + jj_mb K G ag k (jj_us G (j + 1) (v * (G + 1) + y)) = s + jj_mb K G ag (k + 1) u := hv
          rw [S y hp.1.1, if_neg h2'] at hv
          exact fs.2.2.1 y (by omega) h2 ⟨hg.resolve_left h2', by omega⟩)
      rw [F]
      show (_, jj_gr K G ag k (jj_us G (j + 1) (v * (G + 1) + jj_yy K G ag k u)) (v * (G + 1) + jj_yy K G ag k u)) = (_, jj_gr K G ag k (jj_nu K G ag k u) (v * (G + 1) + jj_yy K G ag k u))
      rw [jj_us_s y0b, hu]
      rfl
/-- the way that the class goes: what is joined ahead of a leaf -/
noncomputable def jj_pu (K G : Nat) (ag : Nat → Nat → Int) : Nat → Nat
  | 0 => 0
  | l + 1 => jj_nu K G ag (K - (l + 1)) (jj_pu K G ag l)
theorem jj_way {q : Int32 → Nat → Prop} {f : ji_F} : ∀ (k l v : Nat), l + k = K → jy_E q (G + 1) f K (jj_gr K G ag k (jj_pu K G ag l) v) → jy_E q (G + 1) f l v ∧ ∀ i, l ≤ i → i < K → q (f i) (jj_yy K G ag (K - (i + 1)) (jj_pu K G ag i)) := by
  intro k
  induction k with
  | zero =>
    intro l v hl e
    have hl : l = K := by omega
    subst hl
    exact ⟨e, fun i h1 h2 => absurd h2 (by omega)⟩
  | succ k ih =>
    intro l v hl e
    have hk : K - (l + 1) = k := by omega
    have eu : jj_pu K G ag (l + 1) = jj_nu K G ag k (jj_pu K G ag l) := by rw [← hk]; rfl
    have e : jy_E q (G + 1) f K (jj_gr K G ag k (jj_nu K G ag k (jj_pu K G ag l)) (v * (G + 1) + jj_yy K G ag k (jj_pu K G ag l))) := e
    rw [← eu] at e
    obtain ⟨h1, h2⟩ := ih (l + 1) _ (by omega) e
    have yb : jj_yy K G ag k (jj_pu K G ag l) < G + 1 := by
      have := (jj_ff_s (p := fun g => jj_can ag (K - (k + 1)) g (jj_pu K G ag l) ∧ ag (K - (k + 1)) g + jj_mb K G ag k (jj_pu K G ag l ||| 2 ^ g) = jj_mb K G ag (k + 1) (jj_pu K G ag l)) G 0).2.1
      unfold jj_yy
      omega
    have h3 := (jy_E_s yb).mp h1
    refine ⟨h3.1, fun i a b => ?_⟩
    by_cases ei : i = l
    · subst ei
      rw [hk]
      exact h3.2
    · exact h2 i (by omega) b
theorem jj_mb_b (ha : ∀ l g, 0 ≤ ag l g ∧ ag l g ≤ 4) : ∀ k u, 0 ≤ jj_mb K G ag k u ∧ jj_mb K G ag k u ≤ 4 * (k : Int) := by
  intro k
  induction k with
  | zero => intro u; exact ⟨Int.le_refl _, by show (0 : Int) ≤ 4 * ((0 : Nat) : Int); omega⟩
  | succ k ih =>
    intro u
    have mm := jj_mx_le (p := fun g => jj_can ag (K - (k + 1)) g u) (s := fun g => ag (K - (k + 1)) g + jj_mb K G ag k (u ||| 2 ^ g)) (b := jj_mb K G ag k u) G
    have em : jj_mb K G ag (k + 1) u = jj_mx (fun g => jj_can ag (K - (k + 1)) g u) (fun g => ag (K - (k + 1)) g + jj_mb K G ag k (u ||| 2 ^ g)) (jj_mb K G ag k u) G := rfl
    rw [← em] at mm
    have i1 := ih u
    refine ⟨by have := mm.1; omega, ?_⟩
    rcases mm.2.2 with h | ⟨g, g1, g2, g3⟩
    · omega
    · have g3 : ag (K - (k + 1)) g + jj_mb K G ag k (u ||| 2 ^ g) = jj_mb K G ag (k + 1) u := g3
      have := ha (K - (k + 1)) g
      have := ih (u ||| 2 ^ g)
      omega
end JJB
