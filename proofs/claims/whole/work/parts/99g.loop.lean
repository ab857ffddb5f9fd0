/-! ===== the law's loop ===== -/
theorem jl_and63 (v : Int32) : 0 ≤ (v &&& 63).toInt := by
  have h : (v &&& 63).toBitVec.msb = false := by
    rw [Int32.toBitVec_and, BitVec.msb_and, show (63 : Int32).toBitVec.msb = false by decide, Bool.and_false]
  show 0 ≤ (v &&& 63).toBitVec.toInt
  rw [BitVec.toInt_eq_msb_cond, h]
  simp
theorem jl_in {i L j : Nat} (h : i + 6 ≤ L) (hL : L ≤ 3072) (hj : j ≤ 5) : vp_in (nI i + Int32.ofInt j) L := by
  have e : Int32.ofInt (j : Int) = nI j := Int32.ofInt_eq_ofNat
  rw [e, nI_add]
  exact vp_in_nI (by omega) (by omega)
set_option maxHeartbeats 4000000 in
set_option maxRecDepth 100000 in
theorem jl_loop {p : Program} {l : Launch} {e : Env} {s : State} {m : MethodId} {below : List Frame} {meth : Method} {c : Code} {b L : Nat} {xs : Nat → Int32} {x : Nat → Value} {D : va_G} {G : ji_G} {bX bN cells slots : Nat} (C : jl_Cx p s m #[Value.ref b] c b L xs x D G) (hr : meth.sig.returnType = ret) (hlocks : meth.locks = false) (hcs : cells ≤ 600000) (hss : slots ≤ 7302250) :
    ∀ (n i : Nat), i ≤ L → L + 1 ≤ i + n → ∀ (X N : ji_M) (H : Heap) (locs : List Loc) (ls : Array Slot) (x3 : Int32), x3 = nI i → ji_Rel jx_P X N → jl_I s D G bX bN X N H locs → lv_has ls 4 [(3, .int x3), (2, .ref bN), (1, .ref bX), (0, .ref b)] → W p l e room_1 s m #[Value.ref b] below meth c H locs cells slots (lw_Z below #[Value.ref b] s) (F0 m 18 ls []) := by
  intro n
  induction n with
  | zero => intro i h1 h2; exact absurd h2 (by omega)
  | succ n ih =>
    intro i hi hin X N H locs ls x3 ex3 R I hl
    obtain ⟨hx, hb, hml, hown, hts, hX, hbl, hL, -⟩ := id C
    have hS := I.2.2.1
    refine lv_iload_n hx hb jl_d_18 rfl (lv_at hl 0 rfl) ?_
    refine lv_aload_n hx hb jl_d_19 rfl (lv_at hl 3 rfl) ?_
    refine va_slen hx hb hX hbl (Nat.not_le.mpr hbl) hS jl_d_20 ?_
    refine lv_bipush (v := 6) hx hb jl_d_21 (by decide) ?_
    refine lv_isub hx hb jl_d_23 ?_
    refine lv_icmp_gt (tgt := 1365) hx hb jl_d_24 (by decide) (fun _ => ?_) (fun hgt => ?_)
    · refine lv_iconst (v := 1) hx hb jl_d_1365 (by decide) ?_
      refine va_forget (fun q hq => hS.2.2 q hq) ?_
      refine W.widen (k := 600000) (n := 7302250) hcs hss ?_
      exact lw_ret hx hb hr hlocks jl_d_1366
    · have h6 : i + 6 ≤ L := by
        have h1 : ¬ (Int32.ofNat L - 6).toInt < x3.toInt := fun q => hgt (Int32.lt_iff_toInt_lt.mpr q)
        have e1 : (Int32.ofNat L - 6).toInt = (L : Int) - 6 := by
          have e2 : (Int32.ofNat L).toInt = (L : Int) := nI_toInt (n := L) (by omega)
          rw [Int32.toInt_sub, e2]
          show ((L : Int) - 6).bmod (2 ^ 32) = (L : Int) - 6
          rw [Int.bmod_def]
          omega
        have e3 : x3.toInt = (i : Int) := by rw [ex3]; exact nI_toInt (by omega)
        rw [e1, e3] at h1
        omega
      have hin0 : vp_in x3 L := by rw [ex3]; exact vp_in_nI (by omega) (by omega)
      have hin5 : ∀ j : Nat, j ≤ 5 → vp_in (x3 + Int32.ofInt j) L := fun j hj => by rw [ex3]; exact jl_in h6 hL hj
      have back : ∀ (X' N' : ji_M) (H1 : Heap) (locs1 : List Loc), ji_Rel jx_P X' N' → jl_I s D G bX bN X' N' H1 locs1 → W p l e room_1 s m #[Value.ref b] below meth c H1 locs1 cells slots (lw_Z below #[Value.ref b] s) (F0 m 1359 ls []) := by
        intro X' N' H1 locs1 R' I'
        refine lv_iinc (v := x3 + 6) (lv' := [(3, .int (x3 + 6)), (2, .ref bN), (1, .ref bX), (0, .ref b)]) hx hb jl_d_1359 hl (k := 0) rfl rfl (by decide) rfl (fun ls' hl' => ?_)
        refine lv_goto (tgt := 18) hx hb jl_d_1362 (by decide) ?_
        exact ih (i + 6) h6 (by omega) X' N' H1 locs1 ls' (x3 + 6) (by rw [ex3]; exact nI_add i 6) R' I' hl'
      refine lv_aload_n hx hb jl_d_27 rfl (lv_at hl 3 rfl) ?_
      refine lv_iload_n hx hb jl_d_28 rfl (lv_at hl 0 rfl) ?_
      refine va_sld hx hb hX hbl (Nat.not_le.mpr hbl) hS hin0 jl_d_29 ?_
      refine lv_bipush (v := 63) hx hb jl_d_30 (by decide) ?_
      refine lv_iand hx hb jl_d_32 ?_
      have hw0 := jl_and63 (xs x3.toNatClampNeg)
      generalize xs x3.toNatClampNeg &&& 63 = w at hw0 ⊢
      by_cases h33 : 33 < w.toInt
      · exact lv_tableOut (tgt := 1359) hx hb jl_d_33 (Or.inr h33) (by decide) (back X N H locs R I)
      · obtain ⟨k, hk⟩ : ∃ k : Nat, w.toInt = (k : Int) := ⟨w.toInt.toNat, by omega⟩
        have hk33 : k ≤ 33 := by omega
        have h1 : ¬ w.toInt < 0 := by omega
        rcases (show k = 0 ∨ k = 1 ∨ k = 2 ∨ k = 3 ∨ k = 4 ∨ k = 5 ∨ k = 6 ∨ k = 7 ∨ k = 8 ∨ k = 9 ∨ k = 10 ∨ k = 11 ∨ k = 12 ∨ k = 13 ∨ k = 14 ∨ k = 15 ∨ k = 16 ∨ k = 17 ∨ k = 18 ∨ k = 19 ∨ k = 20 ∨ k = 21 ∨ k = 22 ∨ k = 23 ∨ k = 24 ∨ k = 25 ∨ k = 26 ∨ k = 27 ∨ k = 28 ∨ k = 29 ∨ k = 30 ∨ k = 31 ∨ k = 32 ∨ k = 33 by omega) with rfl | rfl | rfl | rfl | rfl | rfl | rfl | rfl | rfl | rfl | rfl | rfl | rfl | rfl | rfl | rfl | rfl | rfl | rfl | rfl | rfl | rfl | rfl | rfl | rfl | rfl | rfl | rfl | rfl | rfl | rfl | rfl | rfl | rfl
        · exact lv_tableIn (off := 151) (tgt := 184) hx hb jl_d_33 h1 h33 (by rw [hk]; rfl) (by decide) (jl_case_0 C R I hl hin5 hcs hss back)
        · exact lv_tableIn (off := 185) (tgt := 218) hx hb jl_d_33 h1 h33 (by rw [hk]; rfl) (by decide) (jl_case_1 C R I hl hin5 hcs hss back)
        · exact lv_tableIn (off := 208) (tgt := 241) hx hb jl_d_33 h1 h33 (by rw [hk]; rfl) (by decide) (jl_case_2 C R I hl hin5 hcs hss back)
        · exact lv_tableIn (off := 241) (tgt := 274) hx hb jl_d_33 h1 h33 (by rw [hk]; rfl) (by decide) (jl_case_3 C R I hl hin5 hcs hss back)
        · exact lv_tableIn (off := 274) (tgt := 307) hx hb jl_d_33 h1 h33 (by rw [hk]; rfl) (by decide) (jl_case_4 C R I hl hin5 hcs hss back)
        · exact lv_tableIn (off := 307) (tgt := 340) hx hb jl_d_33 h1 h33 (by rw [hk]; rfl) (by decide) (jl_case_5 C R I hl hin5 hcs hss back)
        · exact lv_tableIn (off := 330) (tgt := 363) hx hb jl_d_33 h1 h33 (by rw [hk]; rfl) (by decide) (jl_case_6 C R I hl hin5 hcs hss back)
        · exact lv_tableIn (off := 353) (tgt := 386) hx hb jl_d_33 h1 h33 (by rw [hk]; rfl) (by decide) (jl_case_7 C R I hl hin5 hcs hss back)
        · exact lv_tableIn (off := 377) (tgt := 410) hx hb jl_d_33 h1 h33 (by rw [hk]; rfl) (by decide) (jl_case_8 C R I hl hin5 hcs hss back)
        · exact lv_tableIn (off := 440) (tgt := 473) hx hb jl_d_33 h1 h33 (by rw [hk]; rfl) (by decide) (jl_case_9 C R I hl hin5 hcs hss back)
        · exact lv_tableIn (off := 453) (tgt := 486) hx hb jl_d_33 h1 h33 (by rw [hk]; rfl) (by decide) (jl_case_10 C R I hl hin5 hcs hss back)
        · exact lv_tableIn (off := 476) (tgt := 509) hx hb jl_d_33 h1 h33 (by rw [hk]; rfl) (by decide) (jl_case_11 C R I hl hin5 hcs hss back)
        · exact lv_tableIn (off := 510) (tgt := 543) hx hb jl_d_33 h1 h33 (by rw [hk]; rfl) (by decide) (jl_case_12 C R I hl hin5 hcs hss back)
        · exact lv_tableIn (off := 553) (tgt := 586) hx hb jl_d_33 h1 h33 (by rw [hk]; rfl) (by decide) (jl_case_13 C R I hl hin5 hcs hss back)
        · exact lv_tableIn (off := 596) (tgt := 629) hx hb jl_d_33 h1 h33 (by rw [hk]; rfl) (by decide) (jl_case_14 C R I hl hin5 hcs hss back)
        · exact lv_tableIn (off := 639) (tgt := 672) hx hb jl_d_33 h1 h33 (by rw [hk]; rfl) (by decide) (jl_case_15 C R I hl hin5 hcs hss back)
        · exact lv_tableIn (off := 672) (tgt := 705) hx hb jl_d_33 h1 h33 (by rw [hk]; rfl) (by decide) (jl_case_16 C R I hl hin5 hcs hss back)
        · exact lv_tableIn (off := 695) (tgt := 728) hx hb jl_d_33 h1 h33 (by rw [hk]; rfl) (by decide) (jl_case_17 C R I hl hin5 hcs hss back)
        · exact lv_tableIn (off := 718) (tgt := 751) hx hb jl_d_33 h1 h33 (by rw [hk]; rfl) (by decide) (jl_case_18 C R I hl hin5 hcs hss back)
        · exact lv_tableIn (off := 751) (tgt := 784) hx hb jl_d_33 h1 h33 (by rw [hk]; rfl) (by decide) (jl_case_19 C R I hl hin5 hcs hss back)
        · exact lv_tableIn (off := 784) (tgt := 817) hx hb jl_d_33 h1 h33 (by rw [hk]; rfl) (by decide) (jl_case_20 C R I hl hin5 hcs hss back)
        · exact lv_tableIn (off := 807) (tgt := 840) hx hb jl_d_33 h1 h33 (by rw [hk]; rfl) (by decide) (jl_case_21 C R I hl hin5 hcs hss back)
        · exact lv_tableIn (off := 850) (tgt := 883) hx hb jl_d_33 h1 h33 (by rw [hk]; rfl) (by decide) (jl_case_22 C R I hl hin5 hcs hss back)
        · exact lv_tableIn (off := 893) (tgt := 926) hx hb jl_d_33 h1 h33 (by rw [hk]; rfl) (by decide) (jl_case_23 C R I hl hin5 hcs hss back)
        · exact lv_tableIn (off := 926) (tgt := 959) hx hb jl_d_33 h1 h33 (by rw [hk]; rfl) (by decide) (jl_case_24 C R I hl hin5 hcs hss back)
        · exact lv_tableIn (off := 969) (tgt := 1002) hx hb jl_d_33 h1 h33 (by rw [hk]; rfl) (by decide) (jl_case_25 C R I hl hin5 hcs hss back)
        · exact lv_tableIn (off := 992) (tgt := 1025) hx hb jl_d_33 h1 h33 (by rw [hk]; rfl) (by decide) (jl_case_26 C R I hl hin5 hcs hss back)
        · exact lv_tableIn (off := 1025) (tgt := 1058) hx hb jl_d_33 h1 h33 (by rw [hk]; rfl) (by decide) (jl_case_27 C R I hl hin5 hcs hss back)
        · exact lv_tableIn (off := 1068) (tgt := 1101) hx hb jl_d_33 h1 h33 (by rw [hk]; rfl) (by decide) (jl_case_28 C R I hl hin5 hcs hss back)
        · exact lv_tableIn (off := 1091) (tgt := 1124) hx hb jl_d_33 h1 h33 (by rw [hk]; rfl) (by decide) (jl_case_29 C R I hl hin5 hcs hss back)
        · exact lv_tableIn (off := 1134) (tgt := 1167) hx hb jl_d_33 h1 h33 (by rw [hk]; rfl) (by decide) (jl_case_30 C R I hl hin5 hcs hss back)
        · exact lv_tableIn (off := 1177) (tgt := 1210) hx hb jl_d_33 h1 h33 (by rw [hk]; rfl) (by decide) (jl_case_31 C R I hl hin5 hcs hss back)
        · exact lv_tableIn (off := 1240) (tgt := 1273) hx hb jl_d_33 h1 h33 (by rw [hk]; rfl) (by decide) (jl_case_32 C R I hl hin5 hcs hss back)
        · exact lv_tableIn (off := 1293) (tgt := 1326) hx hb jl_d_33 h1 h33 (by rw [hk]; rfl) (by decide) (jl_case_33 C R I hl hin5 hcs hss back)
