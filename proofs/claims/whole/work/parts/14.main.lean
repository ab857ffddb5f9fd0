/-! ===== all instructions; a frame; the methods to a depth ===== -/
section JIM
variable {p : Program} {l : Launch} {e : Env} {R : Room} {s : State} {m : MethodId} {args : Array Value} {below : List Frame} {meth : Method} {c : Code} {Q : State → Prop}
variable {al : Bool} {b : Nat} {x : Nat → Value} {D : va_G} {G : ji_G} {d d' k : Nat} {M0 M1 M M' : ji_M} {H : Heap} {locs : List Loc} {cells slots pc len : Nat} {lv : ji_L} {st : List Value} {S : ji_S} {C : ji_C} {ins : Instr}
theorem ji_step (X : ji_Cx p R s m args meth c al b x D G d k M0 M1) (hC : ji_ok l al d' C) (hdd : d = d' + 1) (hd : decode (ji_m k).2.1 pc = .ok (ins, len)) (hl : ji_ln ins = 0 ∨ len = ji_ln ins) (h : ji_nx al C k ins pc M lv st = .inl S) (hroom : S.2.1.1.length ≤ M1.1.length ∧ ji_sl S.2.1.1 ≤ ji_sl M1.1) (kk : ji_Kk p l e R s m args below meth c Q al b x D G k M0 S) : ji_Kk p l e R s m args below meth c Q al b x D G k M0 (pc, M, lv, st) := by
  cases ins with
  | iload i =>
    have e9 : len = 2 := hl.resolve_left (by intro q; cases q)
    subst e9
    exact ji_st_iload X hd h kk
  | iload_n i =>
    have e9 : len = 1 := hl.resolve_left (by intro q; cases q)
    subst e9
    exact ji_st_iload_n X hd h kk
  | lload i =>
    have e9 : len = 2 := hl.resolve_left (by intro q; cases q)
    subst e9
    exact ji_st_lload X hd h kk
  | lload_n i =>
    have e9 : len = 1 := hl.resolve_left (by intro q; cases q)
    subst e9
    exact ji_st_lload_n X hd h kk
  | aload i =>
    have e9 : len = 2 := hl.resolve_left (by intro q; cases q)
    subst e9
    exact ji_st_aload X hd h kk
  | aload_n i =>
    have e9 : len = 1 := hl.resolve_left (by intro q; cases q)
    subst e9
    exact ji_st_aload_n X hd h kk
  | istore i =>
    have e9 : len = 2 := hl.resolve_left (by intro q; cases q)
    subst e9
    exact ji_st_istore X hd h kk
  | istore_n i =>
    have e9 : len = 1 := hl.resolve_left (by intro q; cases q)
    subst e9
    exact ji_st_istore_n X hd h kk
  | lstore i =>
    have e9 : len = 2 := hl.resolve_left (by intro q; cases q)
    subst e9
    exact ji_st_lstore X hd h kk
  | lstore_n i =>
    have e9 : len = 1 := hl.resolve_left (by intro q; cases q)
    subst e9
    exact ji_st_lstore_n X hd h kk
  | astore i =>
    have e9 : len = 2 := hl.resolve_left (by intro q; cases q)
    subst e9
    exact ji_st_astore X hd h kk
  | astore_n i =>
    have e9 : len = 1 := hl.resolve_left (by intro q; cases q)
    subst e9
    exact ji_st_astore_n X hd h kk
  | iconst n =>
    have e9 : len = 1 := hl.resolve_left (by intro q; cases q)
    subst e9
    exact ji_st_iconst X hd h kk
  | bipush n =>
    have e9 : len = 2 := hl.resolve_left (by intro q; cases q)
    subst e9
    exact ji_st_bipush X hd h kk
  | sipush n =>
    have e9 : len = 3 := hl.resolve_left (by intro q; cases q)
    subst e9
    exact ji_st_sipush X hd h kk
  | lconst n =>
    have e9 : len = 1 := hl.resolve_left (by intro q; cases q)
    subst e9
    exact ji_st_lconst X hd h kk
  | iadd =>
    have e9 : len = 1 := hl.resolve_left (by intro q; cases q)
    subst e9
    exact ji_st_iadd X hd h kk
  | isub =>
    have e9 : len = 1 := hl.resolve_left (by intro q; cases q)
    subst e9
    exact ji_st_isub X hd h kk
  | imul =>
    have e9 : len = 1 := hl.resolve_left (by intro q; cases q)
    subst e9
    exact ji_st_imul X hd h kk
  | iand =>
    have e9 : len = 1 := hl.resolve_left (by intro q; cases q)
    subst e9
    exact ji_st_iand X hd h kk
  | ior =>
    have e9 : len = 1 := hl.resolve_left (by intro q; cases q)
    subst e9
    exact ji_st_ior X hd h kk
  | ixor =>
    have e9 : len = 1 := hl.resolve_left (by intro q; cases q)
    subst e9
    exact ji_st_ixor X hd h kk
  | ishl =>
    have e9 : len = 1 := hl.resolve_left (by intro q; cases q)
    subst e9
    exact ji_st_ishl X hd h kk
  | ishr =>
    have e9 : len = 1 := hl.resolve_left (by intro q; cases q)
    subst e9
    exact ji_st_ishr X hd h kk
  | iushr =>
    have e9 : len = 1 := hl.resolve_left (by intro q; cases q)
    subst e9
    exact ji_st_iushr X hd h kk
  | idiv =>
    have e9 : len = 1 := hl.resolve_left (by intro q; cases q)
    subst e9
    exact ji_st_idiv X hd h kk
  | irem =>
    have e9 : len = 1 := hl.resolve_left (by intro q; cases q)
    subst e9
    exact ji_st_irem X hd h kk
  | ladd =>
    have e9 : len = 1 := hl.resolve_left (by intro q; cases q)
    subst e9
    exact ji_st_ladd X hd h kk
  | lsub =>
    have e9 : len = 1 := hl.resolve_left (by intro q; cases q)
    subst e9
    exact ji_st_lsub X hd h kk
  | lmul =>
    have e9 : len = 1 := hl.resolve_left (by intro q; cases q)
    subst e9
    exact ji_st_lmul X hd h kk
  | land =>
    have e9 : len = 1 := hl.resolve_left (by intro q; cases q)
    subst e9
    exact ji_st_land X hd h kk
  | lor =>
    have e9 : len = 1 := hl.resolve_left (by intro q; cases q)
    subst e9
    exact ji_st_lor X hd h kk
  | ldiv =>
    have e9 : len = 1 := hl.resolve_left (by intro q; cases q)
    subst e9
    exact ji_st_ldiv X hd h kk
  | lshl =>
    have e9 : len = 1 := hl.resolve_left (by intro q; cases q)
    subst e9
    exact ji_st_lshl X hd h kk
  | lshr =>
    have e9 : len = 1 := hl.resolve_left (by intro q; cases q)
    subst e9
    exact ji_st_lshr X hd h kk
  | lushr =>
    have e9 : len = 1 := hl.resolve_left (by intro q; cases q)
    subst e9
    exact ji_st_lushr X hd h kk
  | ineg =>
    have e9 : len = 1 := hl.resolve_left (by intro q; cases q)
    subst e9
    exact ji_st_ineg X hd h kk
  | i2l =>
    have e9 : len = 1 := hl.resolve_left (by intro q; cases q)
    subst e9
    exact ji_st_i2l X hd h kk
  | i2b =>
    have e9 : len = 1 := hl.resolve_left (by intro q; cases q)
    subst e9
    exact ji_st_i2b X hd h kk
  | i2s =>
    have e9 : len = 1 := hl.resolve_left (by intro q; cases q)
    subst e9
    exact ji_st_i2s X hd h kk
  | i2c =>
    have e9 : len = 1 := hl.resolve_left (by intro q; cases q)
    subst e9
    exact ji_st_i2c X hd h kk
  | l2i =>
    have e9 : len = 1 := hl.resolve_left (by intro q; cases q)
    subst e9
    exact ji_st_l2i X hd h kk
  | lcmp =>
    have e9 : len = 1 := hl.resolve_left (by intro q; cases q)
    subst e9
    exact ji_st_lcmp X hd h kk
  | dup =>
    have e9 : len = 1 := hl.resolve_left (by intro q; cases q)
    subst e9
    exact ji_st_dup X hd h kk
  | dup2 =>
    have e9 : len = 1 := hl.resolve_left (by intro q; cases q)
    subst e9
    exact ji_st_dup2 X hd h kk
  | pop =>
    have e9 : len = 1 := hl.resolve_left (by intro q; cases q)
    subst e9
    exact ji_st_pop X hd h kk
  | iinc i n =>
    have e9 : len = 3 := hl.resolve_left (by intro q; cases q)
    subst e9
    exact ji_st_iinc X hd h kk
  | goto off =>
    have e9 : len = 3 := hl.resolve_left (by intro q; cases q)
    subst e9
    exact ji_st_goto X hd h kk
  | baload =>
    have e9 : len = 1 := hl.resolve_left (by intro q; cases q)
    subst e9
    exact ji_st_baload X hd h kk
  | iastore =>
    have e9 : len = 1 := hl.resolve_left (by intro q; cases q)
    subst e9
    exact ji_st_iastore X hd h kk
  | aaload =>
    have e9 : len = 1 := hl.resolve_left (by intro q; cases q)
    subst e9
    exact ji_st_aaload X hd h kk
  | aastore =>
    have e9 : len = 1 := hl.resolve_left (by intro q; cases q)
    subst e9
    exact ji_st_aastore X hd h kk
  | iaload =>
    have e9 : len = 1 := hl.resolve_left (by intro q; cases q)
    subst e9
    exact ji_st_iaload X hd h kk
  | getfield ix =>
    have e9 : len = 3 := hl.resolve_left (by intro q; cases q)
    subst e9
    exact ji_st_getfield X hd h kk
  | putfield ix =>
    have e9 : len = 3 := hl.resolve_left (by intro q; cases q)
    subst e9
    exact ji_st_putfield X hd h kk
  | ldc ix =>
    have e9 : len = 2 := hl.resolve_left (by intro q; cases q)
    subst e9
    exact ji_st_ldc X hd h kk
  | ldc_w ix =>
    have e9 : len = 3 := hl.resolve_left (by intro q; cases q)
    subst e9
    exact ji_st_ldc_w X hd h kk
  | getstatic ix =>
    have e9 : len = 3 := hl.resolve_left (by intro q; cases q)
    subst e9
    exact ji_st_getstatic X hd h kk
  | ldc2_w ix =>
    have e9 : len = 3 := hl.resolve_left (by intro q; cases q)
    subst e9
    exact ji_st_ldc2 X hd h kk
  | ifCond cn off =>
    have e9 : len = 3 := hl.resolve_left (by intro q; cases q)
    subst e9
    exact ji_st_ifz X hd h kk
  | if_icmp cn off =>
    have e9 : len = 3 := hl.resolve_left (by intro q; cases q)
    subst e9
    exact ji_st_ifc X hd h kk
  | arraylength =>
    have e9 : len = 1 := hl.resolve_left (by intro q; cases q)
    subst e9
    exact ji_st_alen X hd h kk
  | invokevirtual ix =>
    have e9 : len = 3 := hl.resolve_left (by intro q; cases q)
    subst e9
    exact ji_st_iv X hC hdd hd h hroom kk
  | invokestatic ix =>
    have e9 : len = 3 := hl.resolve_left (by intro q; cases q)
    subst e9
    exact ji_st_is X hC hdd hd h hroom kk
  | invokespecial ix =>
    have e9 : len = 3 := hl.resolve_left (by intro q; cases q)
    subst e9
    exact ji_st_ip X hC hdd hd h hroom kk
  | new ix =>
    have e9 : len = 3 := hl.resolve_left (by intro q; cases q)
    subst e9
    exact ji_st_new X hd h hroom kk
  | anewarray ix =>
    have e9 : len = 3 := hl.resolve_left (by intro q; cases q)
    subst e9
    exact ji_st_anewarray X hd h hroom kk
  | tableswitch dd lo hi offs => exact ji_st_ts X hd h kk
  | lookupswitch dd ps => exact ji_st_lks X hd h kk
  | newarray ty =>
    have e9 : len = 2 := hl.resolve_left (by intro q; cases q)
    subst e9
    cases ty with
    | int => exact ji_st_newarray X hd h hroom kk
    | _ => have h : ji_no = .inl S := h; cases h
  | multianewarray ix n =>
    have e9 : len = 4 := hl.resolve_left (by intro q; cases q)
    subst e9
    match n, h, hd with
    | 2, h, hd => exact ji_st_multi X hd h hroom kk
    | 0, h, hd => have h : ji_no = .inl S := h; cases h
    | 1, h, hd => have h : ji_no = .inl S := h; cases h
    | n + 3, h, hd => have h : ji_no = .inl S := h; cases h
  | ireturn =>
    have h : ji_ir k M st = .inl S := h
    unfold ji_ir at h
    split at h
    · split at h
      · split at h <;> cases h
      · cases h
    · cases h
  | lreturn =>
    have h : ji_lr k M st = .inl S := h
    unfold ji_lr at h
    split at h
    · split at h <;> cases h
    · cases h
  | return_ =>
    have h : ji_vr k M st = .inl S := h
    unfold ji_vr at h
    split at h
    · split at h <;> cases h
    · cases h
  | _ => have h : ji_no = .inl S := h; cases h
/-- a return: the frame's end -/
theorem ji_ends (X : ji_Cx p R s m args meth c al b x D G d k M0 M1) (hd : decode (ji_m k).2.1 pc = .ok (ins, len)) (hl : ji_ln ins = 0 ∨ len = ji_ln ins) {r : Option Value} (h : ji_nx al C k ins pc M lv st = .inr (some (r, M1))) (hr9 : ji_isret ins = true) :
    ji_Kk p l e R s m args below meth c (MQ below (ji_Q b x D G M1 (ji_A b M0.1.length s.heap.size) r) args s (M1.1.length - M0.1.length) (ji_sl M1.1 - ji_sl M0.1) (ji_A b M0.1.length s.heap.size)) al b x D G k M0 (pc, M, lv, st) := by
  intro H locs cells slots ls hI hL
  obtain ⟨hx, hb, hr, hml, hown, hts, hlk, hnm, hK, hXK, hxo, hR, hle, hal, h1⟩ := id X
  have hM : M1 = M := by
    cases ins with
    | ireturn =>
      have h : ji_ir k M st = .inr (some (r, M1)) := h
      unfold ji_ir at h
      split at h
      · split at h
        · split at h
          · cases h; rfl
          · cases h
        · cases h
      · cases h
    | lreturn =>
      have h : ji_lr k M st = .inr (some (r, M1)) := h
      unfold ji_lr at h
      split at h
      · split at h
        · cases h; rfl
        · cases h
      · cases h
    | return_ =>
      have h : ji_vr k M st = .inr (some (r, M1)) := h
      unfold ji_vr at h
      split at h
      · split at h
        · cases h; rfl
        · cases h
      · cases h
    | _ => cases hr9
  subst hM
  obtain ⟨hP, hS, i3, i4, i5, i6⟩ := hI
  have ec : M1.1.length - M0.1.length = cells := by
    have : cells + M0.1.length = M1.1.length := i5
    omega
  have es : ji_sl M1.1 - ji_sl M0.1 = slots := by
    have : slots + ji_sl M0.1 = ji_sl M1.1 := i6
    omega
  rw [ec, es]
  cases ins with
  | ireturn =>
    have e9 : len = 1 := hl.resolve_left (by intro q; cases q)
    subst e9
    have h : ji_ir k M1 st = .inr (some (r, M1)) := h
    unfold ji_ir at h
    split at h
    · split at h
      · rename_i ty hty
        split at h
        · rename_i hn
          cases h
          exact W.zret hx hb (hr.trans hty) hn (fun t ht hW => ⟨rfl, by rw [ht]; exact hP, hS.F ht⟩) hS.2.2 hd hlk
        · cases h
      · cases h
    · cases h
  | lreturn =>
    have e9 : len = 1 := hl.resolve_left (by intro q; cases q)
    subst e9
    have h : ji_lr k M1 st = .inr (some (r, M1)) := h
    unfold ji_lr at h
    split at h
    · split at h
      · rename_i hty
        cases h
        exact W.lret hx hb (hr.trans hty) (fun t ht hW => ⟨rfl, by rw [ht]; exact hP, hS.F ht⟩) hS.2.2 hd hlk
      · cases h
    · cases h
  | return_ =>
    have e9 : len = 1 := hl.resolve_left (by intro q; cases q)
    subst e9
    have h : ji_vr k M1 st = .inr (some (r, M1)) := h
    unfold ji_vr at h
    split at h
    · split at h
      · rename_i hty
        cases h
        exact W.vret hx hb (hr.trans hty) (fun t ht hW => ⟨rfl, by rw [ht]; exact hP, hS.F ht⟩) hS.2.2 hd hlk
      · cases h
    · cases h
  | _ => cases hr9
/-- memory grows alone -/
theorem ji_ex_mem (hC : ji_ok l al d' C) : ∀ (n pc : Nat) (M : ji_M) (lv : ji_L) (st : List Value) (r : Option Value) (M1 : ji_M), ji_ex al C k n pc M lv st = some (r, M1) → M.1 <+: M1.1 ∧ (al = false → M1.1 = M.1) := by
  intro n
  induction n with
  | zero => intro pc M lv st r M1 h; cases h
  | succ n ih =>
    intro pc M lv st r M1 h
    rw [ji_ex] at h
    split at h
    · cases h
    · rename_i i hi
      split at h
      · rename_i S hS
        obtain ⟨h1, h2⟩ := ji_nx_mem hC hS
        obtain ⟨h3, h4⟩ := ih _ _ _ _ _ _ h
        exact ⟨h1.trans h3, fun ha => (h4 ha).trans (h2 ha)⟩
      · rename_i r9 hr9
        split at h
        · rename_i hret
          subst h
          have hM : M1 = M := by
            generalize i.1 = ins at hret hr9
            cases ins with
            | ireturn =>
              have h : ji_ir k M st = .inr (some (r, M1)) := hr9
              unfold ji_ir at h
              split at h
              · split at h
                · split at h
                  · cases h; rfl
                  · cases h
                · cases h
              · cases h
            | lreturn =>
              have h : ji_lr k M st = .inr (some (r, M1)) := hr9
              unfold ji_lr at h
              split at h
              · split at h
                · cases h; rfl
                · cases h
              · cases h
            | return_ =>
              have h : ji_vr k M st = .inr (some (r, M1)) := hr9
              unfold ji_vr at h
              split at h
              · split at h
                · cases h; rfl
                · cases h
              · cases h
            | _ => cases hret
          subst hM
          exact ⟨List.prefix_refl _, fun _ => rfl⟩
        · cases h
theorem ji_snd_ex (X : ji_Cx p R s m args meth c al b x D G d k M0 M1) (hC : ji_ok l al d' C) (hdd : d = d' + 1) : ∀ (n pc : Nat) (M : ji_M) (lv : ji_L) (st : List Value) (r : Option Value), ji_ex al C k n pc M lv st = some (r, M1) →
    ji_Kk p l e R s m args below meth c (MQ below (ji_Q b x D G M1 (ji_A b M0.1.length s.heap.size) r) args s (M1.1.length - M0.1.length) (ji_sl M1.1 - ji_sl M0.1) (ji_A b M0.1.length s.heap.size)) al b x D G k M0 (pc, M, lv, st) := by
  intro n
  induction n with
  | zero => intro pc M lv st r h; cases h
  | succ n ih =>
    intro pc M lv st r h
    rw [ji_ex] at h
    split at h
    · cases h
    · rename_i i hi
      obtain ⟨hd, hk⟩ := ji_ins_at hi
      have hl := ji_lnok hi
      obtain ⟨ins, len⟩ := i
      split at h
      · rename_i S hS
        obtain ⟨h1, -⟩ := ji_ex_mem hC _ _ _ _ _ _ _ h
        exact ji_step X hC hdd hd hl hS ⟨h1.length_le, ji_sl_pre h1⟩ (ih _ _ _ _ _ h)
      · rename_i r9 hr9
        split at h
        · rename_i hret
          subst h
          exact ji_ends X hd hl hr9 hret
        · cases h
end JIM
theorem ji_ag_len {b : Nat} {x : Nat → Value} (hxo : ji_xo x) (a : List Value) : (lg_sl (a.map (ji_tr b x))).length = (ji_ag a).length := by
  induction a with
  | nil => rfl
  | cons v r ih =>
    have e : lg_sl ((v :: r).map (ji_tr b x)) = (if v.category = 2 then [.val (ji_tr b x v), .second] else [.val (ji_tr b x v)]) ++ lg_sl (r.map (ji_tr b x)) := by
      unfold lg_sl
      rw [List.map_cons, List.flatMap_cons, ji_tr_cat hxo]
    rw [e, List.length_append, ih]
    cases v <;> simp [ji_ag, Value.category] <;> omega
theorem ji_ag_at {b : Nat} {x : Nat → Value} (hxo : ji_xo x) : ∀ (a : List Value) (o i : Nat) (v : Value), (ji_ag a)[i]? = some (some v) → (o + i, ji_tr b x v) ∈ lv_args o (a.map (ji_tr b x)) := by
  intro a
  induction a with
  | nil => intro o i v h; simp [ji_ag] at h
  | cons w r ih =>
    intro o i v h
    have hc := ji_tr_cat (b := b) hxo w
    by_cases h2 : w.category = 2
    · have e : ji_ag (w :: r) = some w :: none :: ji_ag r := by
        cases w <;> first | rfl | simp [Value.category] at h2
      rw [e] at h
      show (o + i, ji_tr b x v) ∈ (o, ji_tr b x w) :: lv_args (if (ji_tr b x w).category = 2 then o + 2 else o + 1) (r.map (ji_tr b x))
      rw [if_pos (hc.trans h2)]
      match i, h with
      | 0, h => cases h; exact List.mem_cons_self
      | 1, h => cases h
      | i + 2, h =>
        have := ih (o + 2) i v h
        rw [show o + 2 + i = o + (i + 2) by omega] at this
        exact List.mem_cons_of_mem _ this
    · have e : ji_ag (w :: r) = some w :: ji_ag r := by
        cases w <;> first | rfl | simp [Value.category] at h2
      rw [e] at h
      show (o + i, ji_tr b x v) ∈ (o, ji_tr b x w) :: lv_args (if (ji_tr b x w).category = 2 then o + 2 else o + 1) (r.map (ji_tr b x))
      rw [if_neg (by rw [hc]; exact h2)]
      match i, h with
      | 0, h => cases h; exact List.mem_cons_self
      | i + 1, h =>
        have := ih (o + 1) i v h
        rw [show o + 1 + i = o + (i + 1) by omega] at this
        exact List.mem_cons_of_mem _ this
/-- THE INTERPRETER IS SOUND: what it answers the machine answers, method by method -/
theorem ji_sound (l : Launch) (al : Bool) (N : Nat) : ∀ d, ji_ok l al d (ji_clN al N d) := by
  intro d
  induction d with
  | zero => intro k a M r M' h; cases h
  | succ d ih =>
    intro k a M r M' h
    rw [ji_clN] at h
    dsimp only at h
    split at h
    · rename_i hka
      obtain ⟨hk, ha⟩ := hka
      obtain ⟨h1, h2⟩ := ji_ex_mem ih _ _ _ _ _ _ _ h
      refine ⟨hk, h1, h2, fun b x D G sz hxo => ?_⟩
      obtain ⟨mc1, mc2, mc3, mc4, mc5, mc6, mc7⟩ := ji_m_at hk
      refine Met.ofW (cc := (ji_m k).2.1) (maxL := (ji_m k).2.2.1) (ret := (ji_m k).2.2.2.1) (ws' := ji_tt) mc4 rfl ?_
      intro p e s m args below meth c s₁ B hml hv
      obtain ⟨rfl, hsz, hP, hK, hXK, hle, hal⟩ := hv
      subst hsz
      have X : ji_Cx p (headSpec (ji_ws k) (ji_rm (d + 1) M M')).room s m (a.map (ji_tr b x)).toArray meth c al b x D G (d + 1) k M M' := by
        refine ⟨B.exec, B.bytes, B.returns, hml, ?_, atoms_spec (ws := ji_ws k) B.pre, B.notSynchronized, (name_of_methodNamed B.named B.method).1, hK, hXK, hxo, ⟨rfl, rfl, rfl, rfl⟩, hle, hal, Nat.succ_le_succ (Nat.zero_le d)⟩
        have h9 := findClass_of_methodNamed B.named
        show s.vm.findClass (ji_nm (ji_m k).2.2.2.2) = some m.cls
        rw [mc3]
        exact h9
      have hl := lv_entry (a.map (ji_tr b x)) (n := (ji_m k).2.2.1) (by rw [ji_ag_len hxo]; exact ha)
      have hL : ji_Lv b x ((lg_sl (a.map (ji_tr b x)) ++ List.replicate ((ji_m k).2.2.1 - (lg_sl (a.map (ji_tr b x))).length) Slot.unset).toArray) (ji_m k).2.2.1 (ji_en (ji_m k).2.2.1 a) := by
        refine ⟨hl.1, hl.2.1, ?_, fun i v hi => ?_⟩
        · unfold ji_en
          rw [List.length_append, List.length_replicate]
          omega
        · unfold ji_en at hi
          by_cases hil : i < (ji_ag a).length
          · rw [List.getElem?_append_left hil] at hi
            have := ji_ag_at (b := b) hxo a 0 i v hi
            rw [Nat.zero_add] at this
            exact hl.2.2 _ this
          · rw [List.getElem?_append_right (Nat.not_lt.mp hil), List.getElem?_replicate] at hi
            split at hi <;> cases hi
      have hI : ji_Iv s al b D G M M s.heap [] 0 0 := ⟨hP, va_S.rf, List.prefix_refl _, fun _ => rfl, Nat.zero_add _, Nat.zero_add _⟩
      rw [lg_entry_eq]
      exact ji_snd_ex X ih rfl N 0 M _ [] r h s.heap [] 0 0 _ hI hL
    · cases h
