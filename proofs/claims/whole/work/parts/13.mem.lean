theorem ji_nx_mem {l : Launch} {al : Bool} {d' k : Nat} {C : ji_C} (hC : ji_ok l al d' C) {ins : Instr} {pc : Nat} {M : ji_M} {lv : ji_L} {st : List Value} {S : ji_S} (h : ji_nx al C k ins pc M lv st = .inl S) : M.1 <+: S.2.1.1 ∧ (al = false → S.2.1.1 = M.1) := by
  cases ins with
  | iload i =>
    have q := ji_ld_inv h
    obtain ⟨_, _, _, rfl⟩ := q
    exact ⟨List.prefix_refl _, fun _ => rfl⟩
  | iload_n i =>
    have q := ji_ld_inv h
    obtain ⟨_, _, _, rfl⟩ := q
    exact ⟨List.prefix_refl _, fun _ => rfl⟩
  | lload i =>
    have q := ji_ld_inv h
    obtain ⟨_, _, _, rfl⟩ := q
    exact ⟨List.prefix_refl _, fun _ => rfl⟩
  | lload_n i =>
    have q := ji_ld_inv h
    obtain ⟨_, _, _, rfl⟩ := q
    exact ⟨List.prefix_refl _, fun _ => rfl⟩
  | aload i =>
    have q := ji_ld_inv h
    obtain ⟨_, _, _, rfl⟩ := q
    exact ⟨List.prefix_refl _, fun _ => rfl⟩
  | aload_n i =>
    have q := ji_ld_inv h
    obtain ⟨_, _, _, rfl⟩ := q
    exact ⟨List.prefix_refl _, fun _ => rfl⟩
  | ldc ix =>
    have q := ji_ld_inv h
    obtain ⟨_, _, _, rfl⟩ := q
    exact ⟨List.prefix_refl _, fun _ => rfl⟩
  | ldc_w ix =>
    have q := ji_ld_inv h
    obtain ⟨_, _, _, rfl⟩ := q
    exact ⟨List.prefix_refl _, fun _ => rfl⟩
  | ldc2_w ix =>
    have q := ji_ld_inv h
    obtain ⟨_, _, _, rfl⟩ := q
    exact ⟨List.prefix_refl _, fun _ => rfl⟩
  | getstatic ix =>
    have q := ji_ld_inv h
    obtain ⟨_, _, _, rfl⟩ := q
    exact ⟨List.prefix_refl _, fun _ => rfl⟩
  | istore i =>
    have q := ji_sI1_inv h
    obtain ⟨_, _, _, _, rfl⟩ := q
    exact ⟨List.prefix_refl _, fun _ => rfl⟩
  | istore_n i =>
    have q := ji_sI1_inv h
    obtain ⟨_, _, _, _, rfl⟩ := q
    exact ⟨List.prefix_refl _, fun _ => rfl⟩
  | lstore i =>
    have q := ji_sL1_inv h
    obtain ⟨_, _, _, _, rfl⟩ := q
    exact ⟨List.prefix_refl _, fun _ => rfl⟩
  | lstore_n i =>
    have q := ji_sL1_inv h
    obtain ⟨_, _, _, _, rfl⟩ := q
    exact ⟨List.prefix_refl _, fun _ => rfl⟩
  | astore i =>
    have q := ji_sA1_inv h
    obtain ⟨_, _, _, _, rfl⟩ := q
    exact ⟨List.prefix_refl _, fun _ => rfl⟩
  | astore_n i =>
    have q := ji_sA1_inv h
    obtain ⟨_, _, _, _, rfl⟩ := q
    exact ⟨List.prefix_refl _, fun _ => rfl⟩
  | iconst n =>
    have q := ji_go_inv h
    obtain rfl := q
    exact ⟨List.prefix_refl _, fun _ => rfl⟩
  | bipush n =>
    have q := ji_go_inv h
    obtain rfl := q
    exact ⟨List.prefix_refl _, fun _ => rfl⟩
  | sipush n =>
    have q := ji_go_inv h
    obtain rfl := q
    exact ⟨List.prefix_refl _, fun _ => rfl⟩
  | lconst n =>
    have q := ji_go_inv h
    obtain rfl := q
    exact ⟨List.prefix_refl _, fun _ => rfl⟩
  | iadd =>
    have q := ji_bI_inv h
    obtain ⟨_, _, _, _, rfl⟩ := q
    exact ⟨List.prefix_refl _, fun _ => rfl⟩
  | isub =>
    have q := ji_bI_inv h
    obtain ⟨_, _, _, _, rfl⟩ := q
    exact ⟨List.prefix_refl _, fun _ => rfl⟩
  | imul =>
    have q := ji_bI_inv h
    obtain ⟨_, _, _, _, rfl⟩ := q
    exact ⟨List.prefix_refl _, fun _ => rfl⟩
  | iand =>
    have q := ji_bI_inv h
    obtain ⟨_, _, _, _, rfl⟩ := q
    exact ⟨List.prefix_refl _, fun _ => rfl⟩
  | ior =>
    have q := ji_bI_inv h
    obtain ⟨_, _, _, _, rfl⟩ := q
    exact ⟨List.prefix_refl _, fun _ => rfl⟩
  | ixor =>
    have q := ji_bI_inv h
    obtain ⟨_, _, _, _, rfl⟩ := q
    exact ⟨List.prefix_refl _, fun _ => rfl⟩
  | ishl =>
    have q := ji_bI_inv h
    obtain ⟨_, _, _, _, rfl⟩ := q
    exact ⟨List.prefix_refl _, fun _ => rfl⟩
  | ishr =>
    have q := ji_bI_inv h
    obtain ⟨_, _, _, _, rfl⟩ := q
    exact ⟨List.prefix_refl _, fun _ => rfl⟩
  | iushr =>
    have q := ji_bI_inv h
    obtain ⟨_, _, _, _, rfl⟩ := q
    exact ⟨List.prefix_refl _, fun _ => rfl⟩
  | idiv =>
    have q := ji_bD_inv h
    obtain ⟨_, _, _, _, _, rfl⟩ := q
    exact ⟨List.prefix_refl _, fun _ => rfl⟩
  | irem =>
    have q := ji_bD_inv h
    obtain ⟨_, _, _, _, _, rfl⟩ := q
    exact ⟨List.prefix_refl _, fun _ => rfl⟩
  | ladd =>
    have q := ji_bL_inv h
    obtain ⟨_, _, _, _, rfl⟩ := q
    exact ⟨List.prefix_refl _, fun _ => rfl⟩
  | lsub =>
    have q := ji_bL_inv h
    obtain ⟨_, _, _, _, rfl⟩ := q
    exact ⟨List.prefix_refl _, fun _ => rfl⟩
  | lmul =>
    have q := ji_bL_inv h
    obtain ⟨_, _, _, _, rfl⟩ := q
    exact ⟨List.prefix_refl _, fun _ => rfl⟩
  | land =>
    have q := ji_bL_inv h
    obtain ⟨_, _, _, _, rfl⟩ := q
    exact ⟨List.prefix_refl _, fun _ => rfl⟩
  | lor =>
    have q := ji_bL_inv h
    obtain ⟨_, _, _, _, rfl⟩ := q
    exact ⟨List.prefix_refl _, fun _ => rfl⟩
  | ldiv =>
    have q := ji_bDL_inv h
    obtain ⟨_, _, _, _, _, rfl⟩ := q
    exact ⟨List.prefix_refl _, fun _ => rfl⟩
  | lshl =>
    have q := ji_bS_inv h
    obtain ⟨_, _, _, _, rfl⟩ := q
    exact ⟨List.prefix_refl _, fun _ => rfl⟩
  | lshr =>
    have q := ji_bS_inv h
    obtain ⟨_, _, _, _, rfl⟩ := q
    exact ⟨List.prefix_refl _, fun _ => rfl⟩
  | lushr =>
    have q := ji_bS_inv h
    obtain ⟨_, _, _, _, rfl⟩ := q
    exact ⟨List.prefix_refl _, fun _ => rfl⟩
  | ineg =>
    have q := ji_uI_inv h
    obtain ⟨_, _, _, rfl⟩ := q
    exact ⟨List.prefix_refl _, fun _ => rfl⟩
  | i2l =>
    have q := ji_uI_inv h
    obtain ⟨_, _, _, rfl⟩ := q
    exact ⟨List.prefix_refl _, fun _ => rfl⟩
  | i2b =>
    have q := ji_uI_inv h
    obtain ⟨_, _, _, rfl⟩ := q
    exact ⟨List.prefix_refl _, fun _ => rfl⟩
  | i2s =>
    have q := ji_uI_inv h
    obtain ⟨_, _, _, rfl⟩ := q
    exact ⟨List.prefix_refl _, fun _ => rfl⟩
  | i2c =>
    have q := ji_uI_inv h
    obtain ⟨_, _, _, rfl⟩ := q
    exact ⟨List.prefix_refl _, fun _ => rfl⟩
  | l2i =>
    have q := ji_uL_inv h
    obtain ⟨_, _, _, rfl⟩ := q
    exact ⟨List.prefix_refl _, fun _ => rfl⟩
  | dup =>
    have q := ji_du_inv h
    obtain ⟨_, _, _, _, rfl⟩ := q
    exact ⟨List.prefix_refl _, fun _ => rfl⟩
  | dup2 =>
    have q := ji_dd2_inv h
    obtain ⟨_, _, _, _, _, _, rfl⟩ := q
    exact ⟨List.prefix_refl _, fun _ => rfl⟩
  | pop =>
    have q := ji_po_inv h
    obtain ⟨_, _, _, _, rfl⟩ := q
    exact ⟨List.prefix_refl _, fun _ => rfl⟩
  | iinc i n =>
    have q := ji_ic_inv h
    obtain ⟨_, _, _, rfl⟩ := q
    exact ⟨List.prefix_refl _, fun _ => rfl⟩
  | goto off =>
    have q := ji_jm_inv h
    obtain ⟨_, _, rfl⟩ := q
    exact ⟨List.prefix_refl _, fun _ => rfl⟩
  | baload =>
    have q := ji_bal_inv h
    obtain ⟨_, _, _, _, _, _, _, _, rfl⟩ := q
    exact ⟨List.prefix_refl _, fun _ => rfl⟩
  | iastore =>
    have q := ji_ias_inv h
    obtain ⟨_, _, _, _, _, _, _, _, rfl⟩ := q
    exact ⟨List.prefix_refl _, fun _ => rfl⟩
  | aaload =>
    have q := ji_aal_inv h
    obtain ⟨_, _, _, _, _, _, _, _, _, rfl⟩ := q
    exact ⟨List.prefix_refl _, fun _ => rfl⟩
  | aastore =>
    have q := ji_aas_inv h
    obtain ⟨_, _, _, _, _, _, _, _, _, rfl⟩ := q
    exact ⟨List.prefix_refl _, fun _ => rfl⟩
  | lcmp =>
    have h : (match st with | .long y :: .long x :: st => ji_go (pc + 1) M lv (.int (lg_cmp x y) :: st) | _ => ji_no) = .inl S := h
    split at h
    · have q := ji_go_inv h
      subst q
      exact ⟨List.prefix_refl _, fun _ => rfl⟩
    · cases h
  | ifCond cn off =>
    have h : ji_ifz cn off pc M lv st = .inl S := h
    unfold ji_ifz at h
    split at h
    · split at h
      · rcases ji_if_inv h with ⟨_, h⟩ | ⟨_, h⟩ <;> (have q := ji_go_inv h; subst q; exact ⟨List.prefix_refl _, fun _ => rfl⟩)
      · cases h
    · cases h
  | if_icmp cn off =>
    have h : ji_ifc cn off pc M lv st = .inl S := h
    unfold ji_ifc at h
    split at h
    · split at h
      · rcases ji_if_inv h with ⟨_, h⟩ | ⟨_, h⟩ <;> (have q := ji_go_inv h; subst q; exact ⟨List.prefix_refl _, fun _ => rfl⟩)
      · cases h
    · cases h
  | tableswitch dd lo hi offs =>
    have h : ji_ts dd lo hi offs pc M lv st = .inl S := h
    unfold ji_ts at h
    split at h
    · split at h
      · obtain ⟨_, _, rfl⟩ := ji_jm_inv h
        exact ⟨List.prefix_refl _, fun _ => rfl⟩
      · cases h
    · cases h
  | lookupswitch dd ps =>
    have h : ji_lks dd ps pc M lv st = .inl S := h
    unfold ji_lks at h
    split at h
    · split at h
      · obtain ⟨_, _, rfl⟩ := ji_jm_inv h
        exact ⟨List.prefix_refl _, fun _ => rfl⟩
      · cases h
    · cases h
  | getfield ix =>
    rcases ji_gf_inv h with ⟨_, _, _, _, _, _, _, _, rfl⟩ | ⟨_, _, _, _, _, _, _, _, rfl⟩ <;> exact ⟨List.prefix_refl _, fun _ => rfl⟩
  | putfield ix =>
    obtain ⟨v, a, r, c, f, M', -, -, -, -, hw, rfl⟩ := ji_pu_inv h
    rcases ji_wf_inv hw with ⟨_, _, _, rfl⟩ | ⟨_, _, _, rfl⟩ | ⟨_, _, _, rfl⟩ <;> exact ⟨List.prefix_refl _, fun _ => rfl⟩
  | iaload =>
    rcases ji_ial_inv h with ⟨_, _, _, _, _, _, _, rfl⟩ | ⟨_, _, _, _, _, _, rfl⟩ <;> exact ⟨List.prefix_refl _, fun _ => rfl⟩
  | arraylength =>
    rcases ji_aln_inv h with ⟨_, _, _, _, _, _, _, rfl⟩ | ⟨_, _, _, _, _, rfl⟩ <;> exact ⟨List.prefix_refl _, fun _ => rfl⟩
  | new ix =>
    obtain ⟨_, ha, _, rfl⟩ := ji_nw1_inv h
    exact ⟨List.prefix_append _ _, fun e => by rw [ha] at e; cases e⟩
  | newarray ty =>
    cases ty with
    | int =>
      obtain ⟨_, _, _, ha, _, _, rfl⟩ := ji_na1_inv h
      exact ⟨List.prefix_append _ _, fun e => by rw [ha] at e; cases e⟩
    | _ => have h : ji_no = .inl S := h; cases h
  | anewarray ix =>
    have h : (if ji_ow k = 1 ∧ ix = 11 then ji_na1 al 3 (pc + 3) M lv st else ji_no) = .inl S := h
    split at h
    · obtain ⟨_, _, _, ha, _, _, rfl⟩ := ji_na1_inv h
      exact ⟨List.prefix_append _ _, fun e => by rw [ha] at e; cases e⟩
    · cases h
  | multianewarray ix n =>
    match n, h with
    | 2, h =>
      obtain ⟨_, _, _, _, ha, _, _, _, _, _, rfl⟩ := ji_nm1_inv h
      exact ⟨List.prefix_append _ _, fun e => by rw [ha] at e; cases e⟩
    | 0, h => have h : ji_no = .inl S := h; cases h
    | 1, h => have h : ji_no = .inl S := h; cases h
    | n + 3, h => have h : ji_no = .inl S := h; cases h
  | invokevirtual ix =>
    obtain ⟨y, n, rc, r, st', v, M', -, -, -, -, hc, rfl⟩ := ji_iv_inv h
    obtain ⟨-, h1, h2, -⟩ := hC _ _ _ _ _ hc
    exact ⟨h1, h2⟩
  | invokestatic ix =>
    rcases ji_is9_inv h with ⟨kd, y, n, z, v, M', -, -, -, -, hc, rfl⟩ | ⟨z, n, dp, d, sp, s, st', n0, n1, -, -, -, -, -, -, -, -, -, -, rfl⟩ | ⟨_, _, _, _, _, _, _, rfl⟩ | ⟨_, _, _, _, _, _, _, rfl⟩ | ⟨_, _, _, _, _, _, _, rfl⟩
    · obtain ⟨-, h1, h2, -⟩ := hC _ _ _ _ _ hc
      exact ⟨h1, h2⟩
    all_goals exact ⟨List.prefix_refl _, fun _ => rfl⟩
  | invokespecial ix =>
    rcases ji_ip_inv h with ⟨kd, y, n, rc, a, st', v, M', -, -, -, -, -, hc, rfl⟩ | ⟨_, _, _, _, _, _, rfl⟩
    · obtain ⟨-, h1, h2, -⟩ := hC _ _ _ _ _ hc
      exact ⟨h1, h2⟩
    · exact ⟨List.prefix_refl _, fun _ => rfl⟩
  | ireturn =>
    have h : ji_ir k M st = .inl S := h
    unfold ji_ir at h
    split at h
    · split at h
      · split at h <;> cases h
      · cases h
    · cases h
  | lreturn =>
    have h : ji_lr k M st = .inl S := h
    unfold ji_lr at h
    split at h
    · split at h <;> cases h
    · cases h
  | return_ =>
    have h : ji_vr k M st = .inl S := h
    unfold ji_vr at h
    split at h
    · split at h <;> cases h
    · cases h
  | _ => have h : ji_no = .inl S := h; cases h
