/-! ===== what stays of the two objects ===== -/
def ji_XR : List (Nat × Nat × Nat) := [(0, 0, 1), (0, 1, 4), (0, 2, 24), (0, 3, 26), (0, 4, 48), (0, 5, 50), (0, 6, 52), (0, 7, 54), (0, 8, 70), (0, 9, 72), (0, 10, 74), (0, 11, 76), (0, 12, 78), (0, 13, 82), (1, 0, 2), (2, 2, 3), (4, 0, 5), (4, 1, 8), (4, 2, 15), (4, 3, 22), (4, 4, 23), (5, 0, 6), (8, 0, 9), (8, 1, 10), (8, 2, 11), (8, 3, 12), (8, 4, 13), (8, 5, 14), (15, 0, 16), (15, 1, 17), (15, 2, 18), (15, 3, 19), (15, 4, 20), (15, 5, 21), (24, 2, 25), (26, 0, 27), (26, 1, 28), (26, 2, 29), (27, 0, 30), (27, 1, 33), (27, 2, 36), (27, 3, 39), (27, 4, 42), (27, 5, 45), (30, 0, 31), (31, 2, 32), (33, 0, 34), (34, 2, 35), (36, 0, 37), (37, 2, 38), (39, 0, 40), (40, 2, 41), (42, 0, 43), (43, 2, 44), (45, 0, 46), (46, 2, 47), (48, 2, 49), (50, 2, 51), (52, 2, 53), (70, 2, 71), (72, 2, 73), (74, 2, 75), (76, 2, 77), (54, 0, 55), (54, 1, 62), (55, 0, 56), (55, 1, 57), (55, 2, 58), (55, 3, 59), (55, 4, 60), (55, 5, 61), (62, 0, 63), (62, 1, 64), (62, 2, 65), (62, 3, 66), (62, 4, 67), (62, 5, 68), (62, 6, 69), (78, 0, 79), (78, 1, 80), (78, 2, 81), (82, 0, 83), (82, 1, 88), (82, 2, 89), (83, 0, 84), (83, 1, 85), (83, 2, 86), (83, 3, 87)]
def ji_XI : List (Nat × Nat × Int32) := [(2, 0, 24), (24, 0, 30), (31, 0, 24), (34, 0, 24), (37, 0, 24), (40, 0, 24), (43, 0, 24), (46, 0, 24), (48, 0, 6), (50, 0, 6), (52, 0, 6), (70, 0, 20), (72, 0, 20), (74, 0, 40), (76, 0, 6), (2, 1, 8), (24, 1, 4), (31, 1, 8), (34, 1, 8), (37, 1, 8), (40, 1, 8), (43, 1, 8), (46, 1, 8), (48, 1, 4), (50, 1, 4), (52, 1, 4), (70, 1, 4), (72, 1, 4), (74, 1, 4), (76, 1, 4)]
def ji_MR : List (Nat × Nat × Nat) := [(0, 6, 1), (0, 7, 2), (0, 8, 3), (0, 9, 4), (0, 10, 5), (0, 11, 6), (0, 12, 7), (0, 13, 8), (0, 14, 9), (0, 18, 10), (0, 19, 11), (0, 26, 12), (0, 27, 13), (0, 28, 14), (0, 32, 15), (0, 34, 16), (0, 35, 17), (0, 36, 18), (0, 37, 19), (0, 38, 20), (0, 39, 21), (0, 40, 22), (0, 41, 23), (0, 42, 24), (0, 43, 25), (0, 44, 26), (0, 45, 27), (0, 47, 28), (0, 48, 29), (0, 49, 30), (0, 52, 31), (0, 53, 32), (0, 54, 33), (0, 55, 34), (0, 56, 35), (0, 60, 36), (0, 61, 37), (0, 62, 38), (0, 63, 39), (0, 64, 40), (0, 65, 41), (0, 66, 42), (0, 67, 43), (0, 68, 44), (0, 69, 45), (0, 70, 46), (0, 72, 47), (0, 73, 48), (0, 74, 49), (0, 75, 50), (0, 76, 51), (0, 77, 52), (0, 78, 53), (0, 79, 54), (0, 80, 55)]
def ji_rs (L : List (Nat × Nat × Nat)) (M : ji_M) : Prop := ∀ e ∈ L, ji_gR M e.1 e.2.1 = some e.2.2
def ji_is2 (L : List (Nat × Nat × Int32)) (M : ji_M) : Prop := ∀ e ∈ L, ji_gI M e.1 e.2.1 = e.2.2
def ji_XF (M : ji_M) : Prop := M.1 = ji_XKd ∧ ji_rs ji_XR M ∧ ji_is2 ji_XI M
def ji_MF (M : ji_M) : Prop := M.1 = ji_MK ∧ ji_rs ji_MR M
section JIX
variable {M : ji_M}
theorem ji_kd_of {L : List (Nat × Nat)} (h : M.1 = L) {i : Nat} {κ : Nat × Nat} (e : L[i]? = some κ) : ji_kd M i = some κ := by rw [← e, ← h]; rfl
theorem ji_rs_of {L : List (Nat × Nat × Nat)} (h : ji_rs L M) {i a b t : Nat} (e : L[i]? = some (a, b, t)) : ji_gR M a b = some t := h _ (List.mem_of_getElem? e)
theorem ji_is_of {L : List (Nat × Nat × Int32)} (h : ji_is2 L M) {i a b : Nat} {t : Int32} (e : L[i]? = some (a, b, t)) : ji_gI M a b = t := h _ (List.mem_of_getElem? e)
theorem xk_0 (h : ji_XF M) : ji_kd M 0 = some (0, 8) := ji_kd_of h.1 rfl
theorem xk_1 (h : ji_XF M) : ji_kd M 1 = some (0, 5) := ji_kd_of h.1 rfl
theorem xk_2 (h : ji_XF M) : ji_kd M 2 = some (0, 2) := ji_kd_of h.1 rfl
theorem xk_3 (h : ji_XF M) : ji_kd M 3 = some (1, 192) := ji_kd_of h.1 rfl
theorem xk_4 (h : ji_XF M) : ji_kd M 4 = some (0, 3) := ji_kd_of h.1 rfl
theorem xk_5 (h : ji_XF M) : ji_kd M 5 = some (0, 6) := ji_kd_of h.1 rfl
theorem xk_6 (h : ji_XF M) : ji_kd M 6 = some (1, 160) := ji_kd_of h.1 rfl
theorem xk_7 (h : ji_XF M) : ji_kd M 7 = some (1, 0) := ji_kd_of h.1 rfl
theorem xk_8 (h : ji_XF M) : ji_kd M 8 = some (2, 6) := ji_kd_of h.1 rfl
theorem xk_9 (h : ji_XF M) : ji_kd M 9 = some (1, 160) := ji_kd_of h.1 rfl
theorem xk_10 (h : ji_XF M) : ji_kd M 10 = some (1, 160) := ji_kd_of h.1 rfl
theorem xk_11 (h : ji_XF M) : ji_kd M 11 = some (1, 160) := ji_kd_of h.1 rfl
theorem xk_12 (h : ji_XF M) : ji_kd M 12 = some (1, 160) := ji_kd_of h.1 rfl
theorem xk_13 (h : ji_XF M) : ji_kd M 13 = some (1, 160) := ji_kd_of h.1 rfl
theorem xk_14 (h : ji_XF M) : ji_kd M 14 = some (1, 160) := ji_kd_of h.1 rfl
theorem xk_15 (h : ji_XF M) : ji_kd M 15 = some (2, 6) := ji_kd_of h.1 rfl
theorem xk_16 (h : ji_XF M) : ji_kd M 16 = some (1, 3) := ji_kd_of h.1 rfl
theorem xk_17 (h : ji_XF M) : ji_kd M 17 = some (1, 3) := ji_kd_of h.1 rfl
theorem xk_18 (h : ji_XF M) : ji_kd M 18 = some (1, 3) := ji_kd_of h.1 rfl
theorem xk_19 (h : ji_XF M) : ji_kd M 19 = some (1, 3) := ji_kd_of h.1 rfl
theorem xk_20 (h : ji_XF M) : ji_kd M 20 = some (1, 3) := ji_kd_of h.1 rfl
theorem xk_21 (h : ji_XF M) : ji_kd M 21 = some (1, 3) := ji_kd_of h.1 rfl
theorem xk_22 (h : ji_XF M) : ji_kd M 22 = some (1, 160) := ji_kd_of h.1 rfl
theorem xk_23 (h : ji_XF M) : ji_kd M 23 = some (1, 24) := ji_kd_of h.1 rfl
theorem xk_24 (h : ji_XF M) : ji_kd M 24 = some (0, 2) := ji_kd_of h.1 rfl
theorem xk_25 (h : ji_XF M) : ji_kd M 25 = some (1, 120) := ji_kd_of h.1 rfl
theorem xk_26 (h : ji_XF M) : ji_kd M 26 = some (0, 1) := ji_kd_of h.1 rfl
theorem xk_27 (h : ji_XF M) : ji_kd M 27 = some (3, 6) := ji_kd_of h.1 rfl
theorem xk_28 (h : ji_XF M) : ji_kd M 28 = some (1, 5) := ji_kd_of h.1 rfl
theorem xk_29 (h : ji_XF M) : ji_kd M 29 = some (1, 5) := ji_kd_of h.1 rfl
theorem xk_30 (h : ji_XF M) : ji_kd M 30 = some (0, 5) := ji_kd_of h.1 rfl
theorem xk_31 (h : ji_XF M) : ji_kd M 31 = some (0, 2) := ji_kd_of h.1 rfl
theorem xk_32 (h : ji_XF M) : ji_kd M 32 = some (1, 192) := ji_kd_of h.1 rfl
theorem xk_33 (h : ji_XF M) : ji_kd M 33 = some (0, 5) := ji_kd_of h.1 rfl
theorem xk_34 (h : ji_XF M) : ji_kd M 34 = some (0, 2) := ji_kd_of h.1 rfl
theorem xk_35 (h : ji_XF M) : ji_kd M 35 = some (1, 192) := ji_kd_of h.1 rfl
theorem xk_36 (h : ji_XF M) : ji_kd M 36 = some (0, 5) := ji_kd_of h.1 rfl
theorem xk_37 (h : ji_XF M) : ji_kd M 37 = some (0, 2) := ji_kd_of h.1 rfl
theorem xk_38 (h : ji_XF M) : ji_kd M 38 = some (1, 192) := ji_kd_of h.1 rfl
theorem xk_39 (h : ji_XF M) : ji_kd M 39 = some (0, 5) := ji_kd_of h.1 rfl
theorem xk_40 (h : ji_XF M) : ji_kd M 40 = some (0, 2) := ji_kd_of h.1 rfl
theorem xk_41 (h : ji_XF M) : ji_kd M 41 = some (1, 192) := ji_kd_of h.1 rfl
theorem xk_42 (h : ji_XF M) : ji_kd M 42 = some (0, 5) := ji_kd_of h.1 rfl
theorem xk_43 (h : ji_XF M) : ji_kd M 43 = some (0, 2) := ji_kd_of h.1 rfl
theorem xk_44 (h : ji_XF M) : ji_kd M 44 = some (1, 192) := ji_kd_of h.1 rfl
theorem xk_45 (h : ji_XF M) : ji_kd M 45 = some (0, 5) := ji_kd_of h.1 rfl
theorem xk_46 (h : ji_XF M) : ji_kd M 46 = some (0, 2) := ji_kd_of h.1 rfl
theorem xk_47 (h : ji_XF M) : ji_kd M 47 = some (1, 192) := ji_kd_of h.1 rfl
theorem xk_48 (h : ji_XF M) : ji_kd M 48 = some (0, 2) := ji_kd_of h.1 rfl
theorem xk_49 (h : ji_XF M) : ji_kd M 49 = some (1, 24) := ji_kd_of h.1 rfl
theorem xk_50 (h : ji_XF M) : ji_kd M 50 = some (0, 2) := ji_kd_of h.1 rfl
theorem xk_51 (h : ji_XF M) : ji_kd M 51 = some (1, 24) := ji_kd_of h.1 rfl
theorem xk_52 (h : ji_XF M) : ji_kd M 52 = some (0, 2) := ji_kd_of h.1 rfl
theorem xk_53 (h : ji_XF M) : ji_kd M 53 = some (1, 24) := ji_kd_of h.1 rfl
theorem xk_54 (h : ji_XF M) : ji_kd M 54 = some (0, 0) := ji_kd_of h.1 rfl
theorem xk_55 (h : ji_XF M) : ji_kd M 55 = some (2, 6) := ji_kd_of h.1 rfl
theorem xk_56 (h : ji_XF M) : ji_kd M 56 = some (1, 6) := ji_kd_of h.1 rfl
theorem xk_57 (h : ji_XF M) : ji_kd M 57 = some (1, 6) := ji_kd_of h.1 rfl
theorem xk_58 (h : ji_XF M) : ji_kd M 58 = some (1, 6) := ji_kd_of h.1 rfl
theorem xk_59 (h : ji_XF M) : ji_kd M 59 = some (1, 6) := ji_kd_of h.1 rfl
theorem xk_60 (h : ji_XF M) : ji_kd M 60 = some (1, 6) := ji_kd_of h.1 rfl
theorem xk_61 (h : ji_XF M) : ji_kd M 61 = some (1, 6) := ji_kd_of h.1 rfl
theorem xk_62 (h : ji_XF M) : ji_kd M 62 = some (2, 7) := ji_kd_of h.1 rfl
theorem xk_63 (h : ji_XF M) : ji_kd M 63 = some (1, 64) := ji_kd_of h.1 rfl
theorem xk_64 (h : ji_XF M) : ji_kd M 64 = some (1, 64) := ji_kd_of h.1 rfl
theorem xk_65 (h : ji_XF M) : ji_kd M 65 = some (1, 64) := ji_kd_of h.1 rfl
theorem xk_66 (h : ji_XF M) : ji_kd M 66 = some (1, 64) := ji_kd_of h.1 rfl
theorem xk_67 (h : ji_XF M) : ji_kd M 67 = some (1, 64) := ji_kd_of h.1 rfl
theorem xk_68 (h : ji_XF M) : ji_kd M 68 = some (1, 64) := ji_kd_of h.1 rfl
theorem xk_69 (h : ji_XF M) : ji_kd M 69 = some (1, 64) := ji_kd_of h.1 rfl
theorem xk_70 (h : ji_XF M) : ji_kd M 70 = some (0, 2) := ji_kd_of h.1 rfl
theorem xk_71 (h : ji_XF M) : ji_kd M 71 = some (1, 80) := ji_kd_of h.1 rfl
theorem xk_72 (h : ji_XF M) : ji_kd M 72 = some (0, 2) := ji_kd_of h.1 rfl
theorem xk_73 (h : ji_XF M) : ji_kd M 73 = some (1, 80) := ji_kd_of h.1 rfl
theorem xk_74 (h : ji_XF M) : ji_kd M 74 = some (0, 2) := ji_kd_of h.1 rfl
theorem xk_75 (h : ji_XF M) : ji_kd M 75 = some (1, 160) := ji_kd_of h.1 rfl
theorem xk_76 (h : ji_XF M) : ji_kd M 76 = some (0, 2) := ji_kd_of h.1 rfl
theorem xk_77 (h : ji_XF M) : ji_kd M 77 = some (1, 24) := ji_kd_of h.1 rfl
theorem xk_78 (h : ji_XF M) : ji_kd M 78 = some (0, 7) := ji_kd_of h.1 rfl
theorem xk_79 (h : ji_XF M) : ji_kd M 79 = some (1, 4) := ji_kd_of h.1 rfl
theorem xk_80 (h : ji_XF M) : ji_kd M 80 = some (1, 6) := ji_kd_of h.1 rfl
theorem xk_81 (h : ji_XF M) : ji_kd M 81 = some (1, 6) := ji_kd_of h.1 rfl
theorem xk_82 (h : ji_XF M) : ji_kd M 82 = some (0, 4) := ji_kd_of h.1 rfl
theorem xk_83 (h : ji_XF M) : ji_kd M 83 = some (2, 4) := ji_kd_of h.1 rfl
theorem xk_84 (h : ji_XF M) : ji_kd M 84 = some (1, 40) := ji_kd_of h.1 rfl
theorem xk_85 (h : ji_XF M) : ji_kd M 85 = some (1, 40) := ji_kd_of h.1 rfl
theorem xk_86 (h : ji_XF M) : ji_kd M 86 = some (1, 40) := ji_kd_of h.1 rfl
theorem xk_87 (h : ji_XF M) : ji_kd M 87 = some (1, 40) := ji_kd_of h.1 rfl
theorem xk_88 (h : ji_XF M) : ji_kd M 88 = some (1, 4) := ji_kd_of h.1 rfl
theorem xk_89 (h : ji_XF M) : ji_kd M 89 = some (1, 4) := ji_kd_of h.1 rfl
theorem xr_0_0 (h : ji_XF M) : ji_gR M 0 0 = some 1 := ji_rs_of (i := 0) h.2.1 rfl
theorem xr_0_1 (h : ji_XF M) : ji_gR M 0 1 = some 4 := ji_rs_of (i := 1) h.2.1 rfl
theorem xr_0_2 (h : ji_XF M) : ji_gR M 0 2 = some 24 := ji_rs_of (i := 2) h.2.1 rfl
theorem xr_0_3 (h : ji_XF M) : ji_gR M 0 3 = some 26 := ji_rs_of (i := 3) h.2.1 rfl
theorem xr_0_4 (h : ji_XF M) : ji_gR M 0 4 = some 48 := ji_rs_of (i := 4) h.2.1 rfl
theorem xr_0_5 (h : ji_XF M) : ji_gR M 0 5 = some 50 := ji_rs_of (i := 5) h.2.1 rfl
theorem xr_0_6 (h : ji_XF M) : ji_gR M 0 6 = some 52 := ji_rs_of (i := 6) h.2.1 rfl
theorem xr_0_7 (h : ji_XF M) : ji_gR M 0 7 = some 54 := ji_rs_of (i := 7) h.2.1 rfl
theorem xr_0_8 (h : ji_XF M) : ji_gR M 0 8 = some 70 := ji_rs_of (i := 8) h.2.1 rfl
theorem xr_0_9 (h : ji_XF M) : ji_gR M 0 9 = some 72 := ji_rs_of (i := 9) h.2.1 rfl
theorem xr_0_10 (h : ji_XF M) : ji_gR M 0 10 = some 74 := ji_rs_of (i := 10) h.2.1 rfl
theorem xr_0_11 (h : ji_XF M) : ji_gR M 0 11 = some 76 := ji_rs_of (i := 11) h.2.1 rfl
theorem xr_0_12 (h : ji_XF M) : ji_gR M 0 12 = some 78 := ji_rs_of (i := 12) h.2.1 rfl
theorem xr_0_13 (h : ji_XF M) : ji_gR M 0 13 = some 82 := ji_rs_of (i := 13) h.2.1 rfl
theorem xr_1_0 (h : ji_XF M) : ji_gR M 1 0 = some 2 := ji_rs_of (i := 14) h.2.1 rfl
theorem xr_2_2 (h : ji_XF M) : ji_gR M 2 2 = some 3 := ji_rs_of (i := 15) h.2.1 rfl
theorem xr_4_0 (h : ji_XF M) : ji_gR M 4 0 = some 5 := ji_rs_of (i := 16) h.2.1 rfl
theorem xr_4_1 (h : ji_XF M) : ji_gR M 4 1 = some 8 := ji_rs_of (i := 17) h.2.1 rfl
theorem xr_4_2 (h : ji_XF M) : ji_gR M 4 2 = some 15 := ji_rs_of (i := 18) h.2.1 rfl
theorem xr_4_3 (h : ji_XF M) : ji_gR M 4 3 = some 22 := ji_rs_of (i := 19) h.2.1 rfl
theorem xr_4_4 (h : ji_XF M) : ji_gR M 4 4 = some 23 := ji_rs_of (i := 20) h.2.1 rfl
theorem xr_5_0 (h : ji_XF M) : ji_gR M 5 0 = some 6 := ji_rs_of (i := 21) h.2.1 rfl
theorem xr_8_0 (h : ji_XF M) : ji_gR M 8 0 = some 9 := ji_rs_of (i := 22) h.2.1 rfl
theorem xr_8_1 (h : ji_XF M) : ji_gR M 8 1 = some 10 := ji_rs_of (i := 23) h.2.1 rfl
theorem xr_8_2 (h : ji_XF M) : ji_gR M 8 2 = some 11 := ji_rs_of (i := 24) h.2.1 rfl
theorem xr_8_3 (h : ji_XF M) : ji_gR M 8 3 = some 12 := ji_rs_of (i := 25) h.2.1 rfl
theorem xr_8_4 (h : ji_XF M) : ji_gR M 8 4 = some 13 := ji_rs_of (i := 26) h.2.1 rfl
theorem xr_8_5 (h : ji_XF M) : ji_gR M 8 5 = some 14 := ji_rs_of (i := 27) h.2.1 rfl
theorem xr_15_0 (h : ji_XF M) : ji_gR M 15 0 = some 16 := ji_rs_of (i := 28) h.2.1 rfl
theorem xr_15_1 (h : ji_XF M) : ji_gR M 15 1 = some 17 := ji_rs_of (i := 29) h.2.1 rfl
theorem xr_15_2 (h : ji_XF M) : ji_gR M 15 2 = some 18 := ji_rs_of (i := 30) h.2.1 rfl
theorem xr_15_3 (h : ji_XF M) : ji_gR M 15 3 = some 19 := ji_rs_of (i := 31) h.2.1 rfl
theorem xr_15_4 (h : ji_XF M) : ji_gR M 15 4 = some 20 := ji_rs_of (i := 32) h.2.1 rfl
theorem xr_15_5 (h : ji_XF M) : ji_gR M 15 5 = some 21 := ji_rs_of (i := 33) h.2.1 rfl
theorem xr_24_2 (h : ji_XF M) : ji_gR M 24 2 = some 25 := ji_rs_of (i := 34) h.2.1 rfl
theorem xr_26_0 (h : ji_XF M) : ji_gR M 26 0 = some 27 := ji_rs_of (i := 35) h.2.1 rfl
theorem xr_26_1 (h : ji_XF M) : ji_gR M 26 1 = some 28 := ji_rs_of (i := 36) h.2.1 rfl
theorem xr_26_2 (h : ji_XF M) : ji_gR M 26 2 = some 29 := ji_rs_of (i := 37) h.2.1 rfl
theorem xr_27_0 (h : ji_XF M) : ji_gR M 27 0 = some 30 := ji_rs_of (i := 38) h.2.1 rfl
theorem xr_27_1 (h : ji_XF M) : ji_gR M 27 1 = some 33 := ji_rs_of (i := 39) h.2.1 rfl
theorem xr_27_2 (h : ji_XF M) : ji_gR M 27 2 = some 36 := ji_rs_of (i := 40) h.2.1 rfl
theorem xr_27_3 (h : ji_XF M) : ji_gR M 27 3 = some 39 := ji_rs_of (i := 41) h.2.1 rfl
theorem xr_27_4 (h : ji_XF M) : ji_gR M 27 4 = some 42 := ji_rs_of (i := 42) h.2.1 rfl
theorem xr_27_5 (h : ji_XF M) : ji_gR M 27 5 = some 45 := ji_rs_of (i := 43) h.2.1 rfl
theorem xr_30_0 (h : ji_XF M) : ji_gR M 30 0 = some 31 := ji_rs_of (i := 44) h.2.1 rfl
theorem xr_31_2 (h : ji_XF M) : ji_gR M 31 2 = some 32 := ji_rs_of (i := 45) h.2.1 rfl
theorem xr_33_0 (h : ji_XF M) : ji_gR M 33 0 = some 34 := ji_rs_of (i := 46) h.2.1 rfl
theorem xr_34_2 (h : ji_XF M) : ji_gR M 34 2 = some 35 := ji_rs_of (i := 47) h.2.1 rfl
theorem xr_36_0 (h : ji_XF M) : ji_gR M 36 0 = some 37 := ji_rs_of (i := 48) h.2.1 rfl
theorem xr_37_2 (h : ji_XF M) : ji_gR M 37 2 = some 38 := ji_rs_of (i := 49) h.2.1 rfl
theorem xr_39_0 (h : ji_XF M) : ji_gR M 39 0 = some 40 := ji_rs_of (i := 50) h.2.1 rfl
theorem xr_40_2 (h : ji_XF M) : ji_gR M 40 2 = some 41 := ji_rs_of (i := 51) h.2.1 rfl
theorem xr_42_0 (h : ji_XF M) : ji_gR M 42 0 = some 43 := ji_rs_of (i := 52) h.2.1 rfl
theorem xr_43_2 (h : ji_XF M) : ji_gR M 43 2 = some 44 := ji_rs_of (i := 53) h.2.1 rfl
theorem xr_45_0 (h : ji_XF M) : ji_gR M 45 0 = some 46 := ji_rs_of (i := 54) h.2.1 rfl
theorem xr_46_2 (h : ji_XF M) : ji_gR M 46 2 = some 47 := ji_rs_of (i := 55) h.2.1 rfl
theorem xr_48_2 (h : ji_XF M) : ji_gR M 48 2 = some 49 := ji_rs_of (i := 56) h.2.1 rfl
theorem xr_50_2 (h : ji_XF M) : ji_gR M 50 2 = some 51 := ji_rs_of (i := 57) h.2.1 rfl
theorem xr_52_2 (h : ji_XF M) : ji_gR M 52 2 = some 53 := ji_rs_of (i := 58) h.2.1 rfl
theorem xr_70_2 (h : ji_XF M) : ji_gR M 70 2 = some 71 := ji_rs_of (i := 59) h.2.1 rfl
theorem xr_72_2 (h : ji_XF M) : ji_gR M 72 2 = some 73 := ji_rs_of (i := 60) h.2.1 rfl
theorem xr_74_2 (h : ji_XF M) : ji_gR M 74 2 = some 75 := ji_rs_of (i := 61) h.2.1 rfl
theorem xr_76_2 (h : ji_XF M) : ji_gR M 76 2 = some 77 := ji_rs_of (i := 62) h.2.1 rfl
theorem xr_54_0 (h : ji_XF M) : ji_gR M 54 0 = some 55 := ji_rs_of (i := 63) h.2.1 rfl
theorem xr_54_1 (h : ji_XF M) : ji_gR M 54 1 = some 62 := ji_rs_of (i := 64) h.2.1 rfl
theorem xr_55_0 (h : ji_XF M) : ji_gR M 55 0 = some 56 := ji_rs_of (i := 65) h.2.1 rfl
theorem xr_55_1 (h : ji_XF M) : ji_gR M 55 1 = some 57 := ji_rs_of (i := 66) h.2.1 rfl
theorem xr_55_2 (h : ji_XF M) : ji_gR M 55 2 = some 58 := ji_rs_of (i := 67) h.2.1 rfl
theorem xr_55_3 (h : ji_XF M) : ji_gR M 55 3 = some 59 := ji_rs_of (i := 68) h.2.1 rfl
theorem xr_55_4 (h : ji_XF M) : ji_gR M 55 4 = some 60 := ji_rs_of (i := 69) h.2.1 rfl
theorem xr_55_5 (h : ji_XF M) : ji_gR M 55 5 = some 61 := ji_rs_of (i := 70) h.2.1 rfl
theorem xr_62_0 (h : ji_XF M) : ji_gR M 62 0 = some 63 := ji_rs_of (i := 71) h.2.1 rfl
theorem xr_62_1 (h : ji_XF M) : ji_gR M 62 1 = some 64 := ji_rs_of (i := 72) h.2.1 rfl
theorem xr_62_2 (h : ji_XF M) : ji_gR M 62 2 = some 65 := ji_rs_of (i := 73) h.2.1 rfl
theorem xr_62_3 (h : ji_XF M) : ji_gR M 62 3 = some 66 := ji_rs_of (i := 74) h.2.1 rfl
theorem xr_62_4 (h : ji_XF M) : ji_gR M 62 4 = some 67 := ji_rs_of (i := 75) h.2.1 rfl
theorem xr_62_5 (h : ji_XF M) : ji_gR M 62 5 = some 68 := ji_rs_of (i := 76) h.2.1 rfl
theorem xr_62_6 (h : ji_XF M) : ji_gR M 62 6 = some 69 := ji_rs_of (i := 77) h.2.1 rfl
theorem xr_78_0 (h : ji_XF M) : ji_gR M 78 0 = some 79 := ji_rs_of (i := 78) h.2.1 rfl
theorem xr_78_1 (h : ji_XF M) : ji_gR M 78 1 = some 80 := ji_rs_of (i := 79) h.2.1 rfl
theorem xr_78_2 (h : ji_XF M) : ji_gR M 78 2 = some 81 := ji_rs_of (i := 80) h.2.1 rfl
theorem xr_82_0 (h : ji_XF M) : ji_gR M 82 0 = some 83 := ji_rs_of (i := 81) h.2.1 rfl
theorem xr_82_1 (h : ji_XF M) : ji_gR M 82 1 = some 88 := ji_rs_of (i := 82) h.2.1 rfl
theorem xr_82_2 (h : ji_XF M) : ji_gR M 82 2 = some 89 := ji_rs_of (i := 83) h.2.1 rfl
theorem xr_83_0 (h : ji_XF M) : ji_gR M 83 0 = some 84 := ji_rs_of (i := 84) h.2.1 rfl
theorem xr_83_1 (h : ji_XF M) : ji_gR M 83 1 = some 85 := ji_rs_of (i := 85) h.2.1 rfl
theorem xr_83_2 (h : ji_XF M) : ji_gR M 83 2 = some 86 := ji_rs_of (i := 86) h.2.1 rfl
theorem xr_83_3 (h : ji_XF M) : ji_gR M 83 3 = some 87 := ji_rs_of (i := 87) h.2.1 rfl
theorem xi_2_0 (h : ji_XF M) : ji_gI M 2 0 = 24 := ji_is_of (i := 0) h.2.2 rfl
theorem xi_24_0 (h : ji_XF M) : ji_gI M 24 0 = 30 := ji_is_of (i := 1) h.2.2 rfl
theorem xi_31_0 (h : ji_XF M) : ji_gI M 31 0 = 24 := ji_is_of (i := 2) h.2.2 rfl
theorem xi_34_0 (h : ji_XF M) : ji_gI M 34 0 = 24 := ji_is_of (i := 3) h.2.2 rfl
theorem xi_37_0 (h : ji_XF M) : ji_gI M 37 0 = 24 := ji_is_of (i := 4) h.2.2 rfl
theorem xi_40_0 (h : ji_XF M) : ji_gI M 40 0 = 24 := ji_is_of (i := 5) h.2.2 rfl
theorem xi_43_0 (h : ji_XF M) : ji_gI M 43 0 = 24 := ji_is_of (i := 6) h.2.2 rfl
theorem xi_46_0 (h : ji_XF M) : ji_gI M 46 0 = 24 := ji_is_of (i := 7) h.2.2 rfl
theorem xi_48_0 (h : ji_XF M) : ji_gI M 48 0 = 6 := ji_is_of (i := 8) h.2.2 rfl
theorem xi_50_0 (h : ji_XF M) : ji_gI M 50 0 = 6 := ji_is_of (i := 9) h.2.2 rfl
theorem xi_52_0 (h : ji_XF M) : ji_gI M 52 0 = 6 := ji_is_of (i := 10) h.2.2 rfl
theorem xi_70_0 (h : ji_XF M) : ji_gI M 70 0 = 20 := ji_is_of (i := 11) h.2.2 rfl
theorem xi_72_0 (h : ji_XF M) : ji_gI M 72 0 = 20 := ji_is_of (i := 12) h.2.2 rfl
theorem xi_74_0 (h : ji_XF M) : ji_gI M 74 0 = 40 := ji_is_of (i := 13) h.2.2 rfl
theorem xi_76_0 (h : ji_XF M) : ji_gI M 76 0 = 6 := ji_is_of (i := 14) h.2.2 rfl
theorem xi_2_1 (h : ji_XF M) : ji_gI M 2 1 = 8 := ji_is_of (i := 15) h.2.2 rfl
theorem xi_24_1 (h : ji_XF M) : ji_gI M 24 1 = 4 := ji_is_of (i := 16) h.2.2 rfl
theorem xi_31_1 (h : ji_XF M) : ji_gI M 31 1 = 8 := ji_is_of (i := 17) h.2.2 rfl
theorem xi_34_1 (h : ji_XF M) : ji_gI M 34 1 = 8 := ji_is_of (i := 18) h.2.2 rfl
theorem xi_37_1 (h : ji_XF M) : ji_gI M 37 1 = 8 := ji_is_of (i := 19) h.2.2 rfl
theorem xi_40_1 (h : ji_XF M) : ji_gI M 40 1 = 8 := ji_is_of (i := 20) h.2.2 rfl
theorem xi_43_1 (h : ji_XF M) : ji_gI M 43 1 = 8 := ji_is_of (i := 21) h.2.2 rfl
theorem xi_46_1 (h : ji_XF M) : ji_gI M 46 1 = 8 := ji_is_of (i := 22) h.2.2 rfl
theorem xi_48_1 (h : ji_XF M) : ji_gI M 48 1 = 4 := ji_is_of (i := 23) h.2.2 rfl
theorem xi_50_1 (h : ji_XF M) : ji_gI M 50 1 = 4 := ji_is_of (i := 24) h.2.2 rfl
theorem xi_52_1 (h : ji_XF M) : ji_gI M 52 1 = 4 := ji_is_of (i := 25) h.2.2 rfl
theorem xi_70_1 (h : ji_XF M) : ji_gI M 70 1 = 4 := ji_is_of (i := 26) h.2.2 rfl
theorem xi_72_1 (h : ji_XF M) : ji_gI M 72 1 = 4 := ji_is_of (i := 27) h.2.2 rfl
theorem xi_74_1 (h : ji_XF M) : ji_gI M 74 1 = 4 := ji_is_of (i := 28) h.2.2 rfl
theorem xi_76_1 (h : ji_XF M) : ji_gI M 76 1 = 4 := ji_is_of (i := 29) h.2.2 rfl
theorem mk_0 (h : ji_MF M) : ji_kd M 0 = some (0, 9) := ji_kd_of h.1 rfl
theorem mk_1 (h : ji_MF M) : ji_kd M 1 = some (1, 24) := ji_kd_of h.1 rfl
theorem mk_2 (h : ji_MF M) : ji_kd M 2 = some (1, 24) := ji_kd_of h.1 rfl
theorem mk_3 (h : ji_MF M) : ji_kd M 3 = some (1, 24) := ji_kd_of h.1 rfl
theorem mk_4 (h : ji_MF M) : ji_kd M 4 = some (1, 24) := ji_kd_of h.1 rfl
theorem mk_5 (h : ji_MF M) : ji_kd M 5 = some (1, 24) := ji_kd_of h.1 rfl
theorem mk_6 (h : ji_MF M) : ji_kd M 6 = some (1, 24) := ji_kd_of h.1 rfl
theorem mk_7 (h : ji_MF M) : ji_kd M 7 = some (1, 24) := ji_kd_of h.1 rfl
theorem mk_8 (h : ji_MF M) : ji_kd M 8 = some (1, 24) := ji_kd_of h.1 rfl
theorem mk_9 (h : ji_MF M) : ji_kd M 9 = some (1, 24) := ji_kd_of h.1 rfl
theorem mk_10 (h : ji_MF M) : ji_kd M 10 = some (1, 1120) := ji_kd_of h.1 rfl
theorem mk_11 (h : ji_MF M) : ji_kd M 11 = some (1, 7) := ji_kd_of h.1 rfl
theorem mk_12 (h : ji_MF M) : ji_kd M 12 = some (1, 161) := ji_kd_of h.1 rfl
theorem mk_13 (h : ji_MF M) : ji_kd M 13 = some (1, 161) := ji_kd_of h.1 rfl
theorem mk_14 (h : ji_MF M) : ji_kd M 14 = some (1, 6) := ji_kd_of h.1 rfl
theorem mk_15 (h : ji_MF M) : ji_kd M 15 = some (1, 3) := ji_kd_of h.1 rfl
theorem mk_16 (h : ji_MF M) : ji_kd M 16 = some (1, 30) := ji_kd_of h.1 rfl
theorem mk_17 (h : ji_MF M) : ji_kd M 17 = some (1, 30) := ji_kd_of h.1 rfl
theorem mk_18 (h : ji_MF M) : ji_kd M 18 = some (1, 30) := ji_kd_of h.1 rfl
theorem mk_19 (h : ji_MF M) : ji_kd M 19 = some (1, 30) := ji_kd_of h.1 rfl
theorem mk_20 (h : ji_MF M) : ji_kd M 20 = some (1, 24) := ji_kd_of h.1 rfl
theorem mk_21 (h : ji_MF M) : ji_kd M 21 = some (1, 24) := ji_kd_of h.1 rfl
theorem mk_22 (h : ji_MF M) : ji_kd M 22 = some (1, 24) := ji_kd_of h.1 rfl
theorem mk_23 (h : ji_MF M) : ji_kd M 23 = some (1, 24) := ji_kd_of h.1 rfl
theorem mk_24 (h : ji_MF M) : ji_kd M 24 = some (1, 5) := ji_kd_of h.1 rfl
theorem mk_25 (h : ji_MF M) : ji_kd M 25 = some (1, 5) := ji_kd_of h.1 rfl
theorem mk_26 (h : ji_MF M) : ji_kd M 26 = some (1, 5) := ji_kd_of h.1 rfl
theorem mk_27 (h : ji_MF M) : ji_kd M 27 = some (1, 5) := ji_kd_of h.1 rfl
theorem mk_28 (h : ji_MF M) : ji_kd M 28 = some (1, 6) := ji_kd_of h.1 rfl
theorem mk_29 (h : ji_MF M) : ji_kd M 29 = some (1, 6) := ji_kd_of h.1 rfl
theorem mk_30 (h : ji_MF M) : ji_kd M 30 = some (1, 6) := ji_kd_of h.1 rfl
theorem mk_31 (h : ji_MF M) : ji_kd M 31 = some (1, 24) := ji_kd_of h.1 rfl
theorem mk_32 (h : ji_MF M) : ji_kd M 32 = some (1, 6) := ji_kd_of h.1 rfl
theorem mk_33 (h : ji_MF M) : ji_kd M 33 = some (1, 24) := ji_kd_of h.1 rfl
theorem mk_34 (h : ji_MF M) : ji_kd M 34 = some (1, 6) := ji_kd_of h.1 rfl
theorem mk_35 (h : ji_MF M) : ji_kd M 35 = some (1, 6) := ji_kd_of h.1 rfl
theorem mk_36 (h : ji_MF M) : ji_kd M 36 = some (1, 20) := ji_kd_of h.1 rfl
theorem mk_37 (h : ji_MF M) : ji_kd M 37 = some (1, 20) := ji_kd_of h.1 rfl
theorem mk_38 (h : ji_MF M) : ji_kd M 38 = some (1, 20) := ji_kd_of h.1 rfl
theorem mk_39 (h : ji_MF M) : ji_kd M 39 = some (1, 20) := ji_kd_of h.1 rfl
theorem mk_40 (h : ji_MF M) : ji_kd M 40 = some (1, 20) := ji_kd_of h.1 rfl
theorem mk_41 (h : ji_MF M) : ji_kd M 41 = some (1, 20) := ji_kd_of h.1 rfl
theorem mk_42 (h : ji_MF M) : ji_kd M 42 = some (1, 40) := ji_kd_of h.1 rfl
theorem mk_43 (h : ji_MF M) : ji_kd M 43 = some (1, 40) := ji_kd_of h.1 rfl
theorem mk_44 (h : ji_MF M) : ji_kd M 44 = some (1, 40) := ji_kd_of h.1 rfl
theorem mk_45 (h : ji_MF M) : ji_kd M 45 = some (1, 40) := ji_kd_of h.1 rfl
theorem mk_46 (h : ji_MF M) : ji_kd M 46 = some (1, 40) := ji_kd_of h.1 rfl
theorem mk_47 (h : ji_MF M) : ji_kd M 47 = some (1, 6) := ji_kd_of h.1 rfl
theorem mk_48 (h : ji_MF M) : ji_kd M 48 = some (1, 6) := ji_kd_of h.1 rfl
theorem mk_49 (h : ji_MF M) : ji_kd M 49 = some (1, 6) := ji_kd_of h.1 rfl
theorem mk_50 (h : ji_MF M) : ji_kd M 50 = some (1, 6) := ji_kd_of h.1 rfl
theorem mk_51 (h : ji_MF M) : ji_kd M 51 = some (1, 4) := ji_kd_of h.1 rfl
theorem mk_52 (h : ji_MF M) : ji_kd M 52 = some (1, 4) := ji_kd_of h.1 rfl
theorem mk_53 (h : ji_MF M) : ji_kd M 53 = some (1, 4) := ji_kd_of h.1 rfl
theorem mk_54 (h : ji_MF M) : ji_kd M 54 = some (1, 160) := ji_kd_of h.1 rfl
theorem mk_55 (h : ji_MF M) : ji_kd M 55 = some (1, 40) := ji_kd_of h.1 rfl
theorem mr_6 (h : ji_MF M) : ji_gR M 0 6 = some 1 := ji_rs_of (i := 0) h.2 rfl
theorem mr_7 (h : ji_MF M) : ji_gR M 0 7 = some 2 := ji_rs_of (i := 1) h.2 rfl
theorem mr_8 (h : ji_MF M) : ji_gR M 0 8 = some 3 := ji_rs_of (i := 2) h.2 rfl
theorem mr_9 (h : ji_MF M) : ji_gR M 0 9 = some 4 := ji_rs_of (i := 3) h.2 rfl
theorem mr_10 (h : ji_MF M) : ji_gR M 0 10 = some 5 := ji_rs_of (i := 4) h.2 rfl
theorem mr_11 (h : ji_MF M) : ji_gR M 0 11 = some 6 := ji_rs_of (i := 5) h.2 rfl
theorem mr_12 (h : ji_MF M) : ji_gR M 0 12 = some 7 := ji_rs_of (i := 6) h.2 rfl
theorem mr_13 (h : ji_MF M) : ji_gR M 0 13 = some 8 := ji_rs_of (i := 7) h.2 rfl
theorem mr_14 (h : ji_MF M) : ji_gR M 0 14 = some 9 := ji_rs_of (i := 8) h.2 rfl
theorem mr_18 (h : ji_MF M) : ji_gR M 0 18 = some 10 := ji_rs_of (i := 9) h.2 rfl
theorem mr_19 (h : ji_MF M) : ji_gR M 0 19 = some 11 := ji_rs_of (i := 10) h.2 rfl
theorem mr_26 (h : ji_MF M) : ji_gR M 0 26 = some 12 := ji_rs_of (i := 11) h.2 rfl
theorem mr_27 (h : ji_MF M) : ji_gR M 0 27 = some 13 := ji_rs_of (i := 12) h.2 rfl
theorem mr_28 (h : ji_MF M) : ji_gR M 0 28 = some 14 := ji_rs_of (i := 13) h.2 rfl
theorem mr_32 (h : ji_MF M) : ji_gR M 0 32 = some 15 := ji_rs_of (i := 14) h.2 rfl
theorem mr_34 (h : ji_MF M) : ji_gR M 0 34 = some 16 := ji_rs_of (i := 15) h.2 rfl
theorem mr_35 (h : ji_MF M) : ji_gR M 0 35 = some 17 := ji_rs_of (i := 16) h.2 rfl
theorem mr_36 (h : ji_MF M) : ji_gR M 0 36 = some 18 := ji_rs_of (i := 17) h.2 rfl
theorem mr_37 (h : ji_MF M) : ji_gR M 0 37 = some 19 := ji_rs_of (i := 18) h.2 rfl
theorem mr_38 (h : ji_MF M) : ji_gR M 0 38 = some 20 := ji_rs_of (i := 19) h.2 rfl
theorem mr_39 (h : ji_MF M) : ji_gR M 0 39 = some 21 := ji_rs_of (i := 20) h.2 rfl
theorem mr_40 (h : ji_MF M) : ji_gR M 0 40 = some 22 := ji_rs_of (i := 21) h.2 rfl
theorem mr_41 (h : ji_MF M) : ji_gR M 0 41 = some 23 := ji_rs_of (i := 22) h.2 rfl
theorem mr_42 (h : ji_MF M) : ji_gR M 0 42 = some 24 := ji_rs_of (i := 23) h.2 rfl
theorem mr_43 (h : ji_MF M) : ji_gR M 0 43 = some 25 := ji_rs_of (i := 24) h.2 rfl
theorem mr_44 (h : ji_MF M) : ji_gR M 0 44 = some 26 := ji_rs_of (i := 25) h.2 rfl
theorem mr_45 (h : ji_MF M) : ji_gR M 0 45 = some 27 := ji_rs_of (i := 26) h.2 rfl
theorem mr_47 (h : ji_MF M) : ji_gR M 0 47 = some 28 := ji_rs_of (i := 27) h.2 rfl
theorem mr_48 (h : ji_MF M) : ji_gR M 0 48 = some 29 := ji_rs_of (i := 28) h.2 rfl
theorem mr_49 (h : ji_MF M) : ji_gR M 0 49 = some 30 := ji_rs_of (i := 29) h.2 rfl
theorem mr_52 (h : ji_MF M) : ji_gR M 0 52 = some 31 := ji_rs_of (i := 30) h.2 rfl
theorem mr_53 (h : ji_MF M) : ji_gR M 0 53 = some 32 := ji_rs_of (i := 31) h.2 rfl
theorem mr_54 (h : ji_MF M) : ji_gR M 0 54 = some 33 := ji_rs_of (i := 32) h.2 rfl
theorem mr_55 (h : ji_MF M) : ji_gR M 0 55 = some 34 := ji_rs_of (i := 33) h.2 rfl
theorem mr_56 (h : ji_MF M) : ji_gR M 0 56 = some 35 := ji_rs_of (i := 34) h.2 rfl
theorem mr_60 (h : ji_MF M) : ji_gR M 0 60 = some 36 := ji_rs_of (i := 35) h.2 rfl
theorem mr_61 (h : ji_MF M) : ji_gR M 0 61 = some 37 := ji_rs_of (i := 36) h.2 rfl
theorem mr_62 (h : ji_MF M) : ji_gR M 0 62 = some 38 := ji_rs_of (i := 37) h.2 rfl
theorem mr_63 (h : ji_MF M) : ji_gR M 0 63 = some 39 := ji_rs_of (i := 38) h.2 rfl
theorem mr_64 (h : ji_MF M) : ji_gR M 0 64 = some 40 := ji_rs_of (i := 39) h.2 rfl
theorem mr_65 (h : ji_MF M) : ji_gR M 0 65 = some 41 := ji_rs_of (i := 40) h.2 rfl
theorem mr_66 (h : ji_MF M) : ji_gR M 0 66 = some 42 := ji_rs_of (i := 41) h.2 rfl
theorem mr_67 (h : ji_MF M) : ji_gR M 0 67 = some 43 := ji_rs_of (i := 42) h.2 rfl
theorem mr_68 (h : ji_MF M) : ji_gR M 0 68 = some 44 := ji_rs_of (i := 43) h.2 rfl
theorem mr_69 (h : ji_MF M) : ji_gR M 0 69 = some 45 := ji_rs_of (i := 44) h.2 rfl
theorem mr_70 (h : ji_MF M) : ji_gR M 0 70 = some 46 := ji_rs_of (i := 45) h.2 rfl
theorem mr_72 (h : ji_MF M) : ji_gR M 0 72 = some 47 := ji_rs_of (i := 46) h.2 rfl
theorem mr_73 (h : ji_MF M) : ji_gR M 0 73 = some 48 := ji_rs_of (i := 47) h.2 rfl
theorem mr_74 (h : ji_MF M) : ji_gR M 0 74 = some 49 := ji_rs_of (i := 48) h.2 rfl
theorem mr_75 (h : ji_MF M) : ji_gR M 0 75 = some 50 := ji_rs_of (i := 49) h.2 rfl
theorem mr_76 (h : ji_MF M) : ji_gR M 0 76 = some 51 := ji_rs_of (i := 50) h.2 rfl
theorem mr_77 (h : ji_MF M) : ji_gR M 0 77 = some 52 := ji_rs_of (i := 51) h.2 rfl
theorem mr_78 (h : ji_MF M) : ji_gR M 0 78 = some 53 := ji_rs_of (i := 52) h.2 rfl
theorem mr_79 (h : ji_MF M) : ji_gR M 0 79 = some 54 := ji_rs_of (i := 53) h.2 rfl
theorem mr_80 (h : ji_MF M) : ji_gR M 0 80 = some 55 := ji_rs_of (i := 54) h.2 rfl
theorem ji_XF_sI {a k : Nat} {v : Int32} (h : ji_XF M) (hk : ∀ e ∈ ji_XI, ¬ (e.1 = a ∧ e.2.1 = k)) : ji_XF (ji_sI M a k v) :=
  ⟨h.1, h.2.1, fun e he => (if_neg (hk e he)).trans (h.2.2 e he)⟩
theorem ji_XF_sL {a k : Nat} {v : Int64} (h : ji_XF M) : ji_XF (ji_sL M a k v) := h
theorem ji_XF_sR {a k : Nat} {v : Option Nat} (h : ji_XF M) (hk : ∀ e ∈ ji_XR, ¬ (e.1 = a ∧ e.2.1 = k)) : ji_XF (ji_sR M a k v) :=
  ⟨h.1, fun e he => (if_neg (hk e he)).trans (h.2.1 e he), h.2.2⟩
theorem ji_XF_cp {s i t j n : Nat} (h : ji_XF M) (hk : ∀ e ∈ ji_XI, e.1 ≠ t) : ji_XF (ji_cp M s i t j n) :=
  ⟨h.1, h.2.1, fun e he => (if_neg (fun q => hk e he q.1)).trans (h.2.2 e he)⟩
theorem ji_XF_ar {a k : Nat} {v : Int32} (h : ji_XF M) (hk : ∀ e ∈ ji_XI, ¬ (e.1 = a)) : ji_XF (ji_sI M a k v) := ji_XF_sI h (fun e he q => hk e he q.1)
theorem ji_XF_f {a k : Nat} {v : Int32} (h : ji_XF M) (hk : ∀ e ∈ ji_XI, ¬ (e.2.1 = k)) : ji_XF (ji_sI M a k v) := ji_XF_sI h (fun e he q => hk e he q.2)
theorem ji_MF_sI {a k : Nat} {v : Int32} (h : ji_MF M) : ji_MF (ji_sI M a k v) := h
theorem ji_MF_sL {a k : Nat} {v : Int64} (h : ji_MF M) : ji_MF (ji_sL M a k v) := h
end JIX
