/-! ===== the two new objects stand to one another ===== -/
theorem jx_rel0 : ∃ X N, ji_mx0 = some (none, X) ∧ ji_mm0 = some (none, N) ∧ ji_Rel jx_P X N := by
  have k1 := ji_mx0_k
  have k2 := jx_xr0
  have k3 := jx_xi0
  have k4 := jx_xi1
  have k5 := jx_xz0
  have m1 := ji_mm0_k
  have m2 := jx_nr0
  have m3 := jx_ni1
  have m4 := jx_nl0
  have m5 := jx_nz0
  generalize ji_mx0 = A at *
  generalize ji_mm0 = B at *
  cases A with
  | none => cases k1
  | some q =>
  cases B with
  | none => cases m1
  | some q' =>
  obtain ⟨v, X⟩ := q
  obtain ⟨v', N⟩ := q'
  have k1 : some (v, X.1) = some (none, ji_XKd) := k1
  have m1 : some (v', N.1) = some (none, ji_MK) := m1
  have v1 : v = none := congrArg Prod.fst (Option.some.inj k1)
  have v2 : v' = none := congrArg Prod.fst (Option.some.inj m1)
  have x1 : X.1 = ji_XKd := congrArg Prod.snd (Option.some.inj k1)
  have n1 : N.1 = ji_MK := congrArg Prod.snd (Option.some.inj m1)
  subst v1 v2
  have x2 : ∀ e ∈ ji_XR, ji_gR X e.1 e.2.1 = some e.2.2 := List.map_inj_left.mp (Option.some.inj k2)
  have x3 : ji_is2 ji_XI X := List.map_inj_left.mp (Option.some.inj k3)
  have x4 : ji_is2 jx_LX X := List.map_inj_left.mp (Option.some.inj k4)
  have r1 : List.replicate 160 (0 : Int32) = (List.range 160).map fun _ => 0 := by decide +kernel
  rw [r1] at k5 m5
  have x5 : ∀ k ∈ List.range 160, ji_gI X (84 + k / 40) (k % 40) = 0 := List.map_inj_left.mp (Option.some.inj k5)
  have n2 : ∀ e ∈ ji_MR, ji_gR N e.1 e.2.1 = some e.2.2 := List.map_inj_left.mp (Option.some.inj m2)
  have n3 : ji_is2 jx_LN N := List.map_inj_left.mp (Option.some.inj m3)
  have n4 : ji_gL N 0 5 = 0 := Option.some.inj m4
  have n5 : ∀ k ∈ List.range 160, ji_gI N 54 k = 0 := List.map_inj_left.mp (Option.some.inj m5)
  refine ⟨X, N, rfl, rfl, ?_⟩
  have e0 : (0 : Int32).toInt = 0 := rfl
  have e1 : (1 : Int32).toInt = 1 := rfl
  have h00 : ji_gI N 0 0 = 0 := ji_is_of (i := 0) n3 rfl
  have h01 : ji_gI N 0 1 = 10 := ji_is_of (i := 1) n3 rfl
  have h02 : ji_gI N 0 2 = 200 := ji_is_of (i := 2) n3 rfl
  have h03 : ji_gI N 0 3 = 300 := ji_is_of (i := 3) n3 rfl
  have h04 : ji_gI N 0 4 = 0 := ji_is_of (i := 4) n3 rfl
  have h15 : ji_gI N 0 15 = 1 := ji_is_of (i := 5) n3 rfl
  have h16 : ji_gI N 0 16 = 0 := ji_is_of (i := 6) n3 rfl
  have h17 : ji_gI N 0 17 = 0 := ji_is_of (i := 7) n3 rfl
  have h33 : ji_gI N 0 33 = 0 := ji_is_of (i := 8) n3 rfl
  have h46 : ji_gI N 0 46 = 0 := ji_is_of (i := 9) n3 rfl
  have h50 : ji_gI N 0 50 = 0 := ji_is_of (i := 10) n3 rfl
  have h51 : ji_gI N 0 51 = 0 := ji_is_of (i := 11) n3 rfl
  have h57 : ji_gI N 0 57 = 0 := ji_is_of (i := 12) n3 rfl
  have h58 : ji_gI N 0 58 = 0 := ji_is_of (i := 13) n3 rfl
  have h59 : ji_gI N 0 59 = 0 := ji_is_of (i := 14) n3 rfl
  have h71 : ji_gI N 0 71 = 0 := ji_is_of (i := 15) n3 rfl
  have b0 : ∀ m : Int, 0 ≤ m → ji_bt 0 0 m := fun m hm => ⟨Int.le_refl _, hm⟩
  have vc : ∀ {p : Prop} (k : Nat), (k : Int) < (0 : Int32).toInt → p := fun k h => absurd h (by rw [e0]; omega)
  refine ji_Rel.mk ⟨x1, x2, x3⟩ ⟨n1, n2⟩ ?_ ?_ ?_ ?_ ?_ ?_ ?_ ?_ ?_ ?_ ?_ ?_ ?_ ?_
  · rw [h00]; exact ⟨ji_is_of (i := 0) x4 rfl, b0 _ (by decide)⟩
  · rw [h01, h02, h03]
    exact ⟨⟨ji_is_of (i := 1) x4 rfl, by decide, by decide⟩, ⟨ji_is_of (i := 2) x4 rfl, by decide, by decide⟩, ⟨ji_is_of (i := 3) x4 rfl, by decide, by decide⟩⟩
  · have c : ji_gI X 1 5 = 0 := ji_is_of (i := 4) x4 rfl
    rw [c, n4, h00]
    exact ⟨rfl, by decide, by decide⟩
  · rw [h04]; exact ⟨ji_is_of (i := 5) x4 rfl, b0 _ (by decide), fun b hb => vc b hb⟩
  · have t6 : ji_gI X 4 6 = 1 := ji_is_of (i := 6) x4 rfl
    have t7 : ji_gI X 4 7 = 0 := ji_is_of (i := 7) x4 rfl
    have t5 : ji_gI X 5 1 = 0 := ji_is_of (i := 8) x4 rfl
    rw [t6, t7, t5, h15, h16, h17]
    refine ⟨⟨rfl, by decide, by decide⟩, ⟨rfl, by decide, by decide⟩, ⟨rfl, b0 _ (by decide)⟩, fun k hk => vc k hk, fun t ht => ?_⟩
    have ht0 : t = 0 := by rw [e1] at ht; omega
    subst ht0
    refine ⟨ji_s00, ?_, fun _ => rfl, fun h => absurd rfl h⟩
    refine ⟨by decide, ?_, ?_, ?_, fun k hk => ?_⟩
    · show (ji_gI X 16 0).toInt = 3
      rw [show ji_gI X 16 0 = 3 from ji_is_of (i := 32) x4 rfl]; rfl
    · show (ji_gI X 16 1).toInt = 6
      rw [show ji_gI X 16 1 = 6 from ji_is_of (i := 33) x4 rfl]; rfl
    · show (ji_gI X 16 2).toInt = 7
      rw [show ji_gI X 16 2 = 7 from ji_is_of (i := 34) x4 rfl]; rfl
    · have hk : k < 7 := hk
      show ji_gI X 9 k = _
      match k, hk with
      | 0, _ => exact ji_is_of (i := 25) x4 rfl
      | 1, _ => exact ji_is_of (i := 26) x4 rfl
      | 2, _ => exact ji_is_of (i := 27) x4 rfl
      | 3, _ => exact ji_is_of (i := 28) x4 rfl
      | 4, _ => exact ji_is_of (i := 29) x4 rfl
      | 5, _ => exact ji_is_of (i := 30) x4 rfl
      | 6, _ => exact ji_is_of (i := 31) x4 rfl
  · rw [h33]; exact ⟨ji_is_of (i := 9) x4 rfl, b0 _ (by decide), fun b hb => vc b hb⟩
  · rw [h46]; exact ⟨ji_is_of (i := 10) x4 rfl, b0 _ (by decide), fun b hb => vc b hb⟩
  · rw [h50]; exact ⟨ji_is_of (i := 11) x4 rfl, b0 _ (by decide), fun b hb => vc b hb⟩
  · rw [h51]; exact ⟨ji_is_of (i := 12) x4 rfl, b0 _ (by decide), fun b hb => vc b hb⟩
  · rw [h57]; exact ⟨ji_is_of (i := 13) x4 rfl, b0 _ (by decide), fun b hb => vc b hb⟩
  · rw [h58]; exact ⟨ji_is_of (i := 14) x4 rfl, b0 _ (by decide), fun b hb => vc b hb⟩
  · rw [h59]; exact ⟨ji_is_of (i := 15) x4 rfl, b0 _ (by decide), fun b hb => vc b hb⟩
  · rw [h71]; exact ⟨ji_is_of (i := 16) x4 rfl, b0 _ (by decide), fun b hb => vc b hb⟩
  · intro s hs
    have z : ∀ i, i < 40 → ji_gI X (84 + s) i = 0 := fun i hi => by
      have := x5 (40 * s + i) (List.mem_range.mpr (by omega))
      rw [show (40 * s + i) / 40 = s by omega, show (40 * s + i) % 40 = i by omega] at this
      exact this
    have y : ∀ i, i < 40 → ji_gI N 54 (40 * s + i) = 0 := fun i hi => n5 _ (List.mem_range.mpr (by omega))
    have g : ∀ s, s < 4 → (ji_gI X 88 s = -1 ∧ ji_gI N 52 s = -1) ∧ ji_gI X 89 s = 0 ∧ ji_gI N 53 s = 0 := fun s hs => by
      match s, hs with
      | 0, _ => exact ⟨⟨ji_is_of (i := 17) x4 rfl, ji_is_of (i := 16) n3 rfl⟩, ji_is_of (i := 21) x4 rfl, ji_is_of (i := 20) n3 rfl⟩
      | 1, _ => exact ⟨⟨ji_is_of (i := 18) x4 rfl, ji_is_of (i := 17) n3 rfl⟩, ji_is_of (i := 22) x4 rfl, ji_is_of (i := 21) n3 rfl⟩
      | 2, _ => exact ⟨⟨ji_is_of (i := 19) x4 rfl, ji_is_of (i := 18) n3 rfl⟩, ji_is_of (i := 23) x4 rfl, ji_is_of (i := 22) n3 rfl⟩
      | 3, _ => exact ⟨⟨ji_is_of (i := 20) x4 rfl, ji_is_of (i := 19) n3 rfl⟩, ji_is_of (i := 24) x4 rfl, ji_is_of (i := 23) n3 rfl⟩
    obtain ⟨⟨g1, g2⟩, g3, g4⟩ := g s hs
    rw [g1, g2, g3, g4]
    refine ⟨⟨rfl, by decide, by decide⟩, ⟨rfl, b0 _ (by decide)⟩, fun _ => rfl, fun i hi => ?_⟩
    rw [y i hi]
    match s, hs, z with
    | 0, _, z => exact z i hi
    | 1, _, z => exact z i hi
    | 2, _, z => exact z i hi
    | 3, _, z => exact z i hi
