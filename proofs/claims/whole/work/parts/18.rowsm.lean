/-! ===== the rows of the model ===== -/
section JIR
variable {C : ji_C} {M : ji_M} {lv l : ji_L} {l0 l1 l2 l3 l4 l5 l6 l7 l8 l9 l10 l11 : Option Value} {st : List Value} {o : Option Value × ji_M} {x y z : Int32} {u v : Int64} {a b : Nat} {p0 p1 p2 p3 p4 p5 : Value}
theorem s157_0 : ji_Ev C 157 0 M (some (.ref a) :: l) st o ↔ ji_Ev C 157 1 M (some (.ref a) :: l) (.ref a :: st) o := ev_go (S := (1, M, (some (.ref a) :: l), (.ref a :: st))) rfl rfl rfl
theorem s157_1 : ji_Ev C 157 1 M (l0 :: some (.int x) :: l) st o ↔ ji_Ev C 157 2 M (l0 :: some (.int x) :: l) (.int x :: st) o := ev_go (S := (2, M, (l0 :: some (.int x) :: l), (.int x :: st))) rfl rfl rfl
theorem s157_2 : ji_Ev C 157 2 M lv st o ↔ ji_Ev C 157 3 M lv (.int 0 :: st) o := ev_go (S := (3, M, lv, (.int 0 :: st))) rfl rfl rfl
theorem s157_3 : ji_Ev C 157 3 M lv st o ↔ ji_Ev C 157 4 M lv (.int 3 :: st) o := ev_go (S := (4, M, lv, (.int 3 :: st))) rfl rfl rfl
theorem s157_4 : ji_Ev C 157 4 M lv (p2 :: p1 :: p0 :: .ref a :: st) o ↔ (ji_rcb M 9 (.ref a) = true ∧ ji_ok8 st) ∧ ji_evC (C 158 [.ref a, p0, p1, p2] M) (fun v M' => ji_Ev C 157 7 M' lv (v.toList ++ st) o) := ev_inv (k := 157) rfl cd_9_255 rfl
theorem s157_7 : ji_Ev C 157 7 M lv (.int x :: st) o ↔ if x = 0 then ji_Ev C 157 42 M lv st o else ji_Ev C 157 10 M lv st o := ev_brz (c := .eq) rfl (by decide) rfl
theorem s157_10 : ji_Ev C 157 10 M (some (.ref a) :: l) st o ↔ ji_Ev C 157 11 M (some (.ref a) :: l) (.ref a :: st) o := ev_go (S := (11, M, (some (.ref a) :: l), (.ref a :: st))) rfl rfl rfl
theorem s157_11 : ji_Ev C 157 11 M (l0 :: l1 :: some (.int x) :: l) st o ↔ ji_Ev C 157 12 M (l0 :: l1 :: some (.int x) :: l) (.int x :: st) o := ev_go (S := (12, M, (l0 :: l1 :: some (.int x) :: l), (.int x :: st))) rfl rfl rfl
theorem s157_12 : ji_Ev C 157 12 M lv st o ↔ ji_Ev C 157 13 M lv (.int 0 :: st) o := ev_go (S := (13, M, lv, (.int 0 :: st))) rfl rfl rfl
theorem s157_13 : ji_Ev C 157 13 M (l0 :: some (.int x) :: l) st o ↔ ji_Ev C 157 14 M (l0 :: some (.int x) :: l) (.int x :: st) o := ev_go (S := (14, M, (l0 :: some (.int x) :: l), (.int x :: st))) rfl rfl rfl
theorem s157_14 : ji_Ev C 157 14 M lv (.int x :: st) o ↔ if x = 0 then ji_Ev C 157 17 M lv st o else ji_Ev C 157 22 M lv st o := ev_brz (c := .ne) rfl (by decide) rfl
theorem s157_17 : ji_Ev C 157 17 M lv st o ↔ ji_Ev C 157 19 M lv (.int 40 :: st) o := ev_go (S := (19, M, lv, (.int 40 :: st))) rfl rfl rfl
theorem s157_19 : ji_Ev C 157 19 M lv st o ↔ ji_Ev C 157 36 M lv st o := ev_gt rfl (by decide) rfl
theorem s157_22 : ji_Ev C 157 22 M (l0 :: some (.int x) :: l) st o ↔ ji_Ev C 157 23 M (l0 :: some (.int x) :: l) (.int x :: st) o := ev_go (S := (23, M, (l0 :: some (.int x) :: l), (.int x :: st))) rfl rfl rfl
theorem s157_23 : ji_Ev C 157 23 M lv st o ↔ ji_Ev C 157 24 M lv (.int 3 :: st) o := ev_go (S := (24, M, lv, (.int 3 :: st))) rfl rfl rfl
theorem s157_24 : ji_Ev C 157 24 M lv (.int y :: .int x :: st) o ↔ if x = y then ji_Ev C 157 27 M lv st o else ji_Ev C 157 33 M lv st o := ev_brc (c := .ne) rfl (by decide) rfl
theorem s157_27 : ji_Ev C 157 27 M lv st o ↔ ji_Ev C 157 30 M lv (.int (999999) :: st) o := ev_go (S := (30, M, lv, (.int (999999) :: st))) rfl rfl rfl
theorem s157_30 : ji_Ev C 157 30 M lv st o ↔ ji_Ev C 157 36 M lv st o := ev_gt rfl (by decide) rfl
theorem s157_33 : ji_Ev C 157 33 M lv st o ↔ ji_Ev C 157 36 M lv (.int 9999 :: st) o := ev_go (S := (36, M, lv, (.int 9999 :: st))) rfl rfl rfl
theorem s157_36 : ji_Ev C 157 36 M lv (p2 :: p1 :: p0 :: .ref a :: st) o ↔ (ji_rcb M 9 (.ref a) = true ∧ ji_ok8 st) ∧ ji_evC (C 158 [.ref a, p0, p1, p2] M) (fun v M' => ji_Ev C 157 39 M' lv (v.toList ++ st) o) := ev_inv (k := 157) rfl cd_9_255 rfl
theorem s157_39 : ji_Ev C 157 39 M lv (.int x :: st) o ↔ if x = 0 then ji_Ev C 157 42 M lv st o else ji_Ev C 157 46 M lv st o := ev_brz (c := .ne) rfl (by decide) rfl
theorem s157_42 : ji_Ev C 157 42 M lv st o ↔ ji_Ev C 157 45 M lv (.long (-4611686018427387904) :: st) o := ev_go (S := (45, M, lv, (.long (-4611686018427387904) :: st))) rfl rfl rfl
theorem s157_45 : ji_Ev C 157 45 M lv [.long u] o ↔ o = (some (.long u), M) := ev_lret rfl rfl
theorem s157_46 : ji_Ev C 157 46 M (l0 :: some (.int x) :: l) st o ↔ ji_Ev C 157 47 M (l0 :: some (.int x) :: l) (.int x :: st) o := ev_go (S := (47, M, (l0 :: some (.int x) :: l), (.int x :: st))) rfl rfl rfl
theorem s157_47 : ji_Ev C 157 47 M lv (.int x :: st) o ↔ if x = 0 then ji_Ev C 157 50 M lv st o else ji_Ev C 157 58 M lv st o := ev_brz (c := .ne) rfl (by decide) rfl
theorem s157_50 : ji_Ev C 157 50 M (some (.ref a) :: l) st o ↔ ji_Ev C 157 51 M (some (.ref a) :: l) (.ref a :: st) o := ev_go (S := (51, M, (some (.ref a) :: l), (.ref a :: st))) rfl rfl rfl
theorem s157_51 : ji_Ev C 157 51 M lv (.ref a :: st) o ↔ ji_kd M a = some (0, 9) ∧ ji_Ev C 157 54 M lv (.int (ji_gI M a 1) :: st) o := ev_getI (k := 157) rfl fd_9_13 rfl
theorem s157_54 : ji_Ev C 157 54 M lv (.int x :: st) o ↔ ji_Ev C 157 55 M lv (.long x.toInt64 :: st) o := ev_go (S := (55, M, lv, (.long x.toInt64 :: st))) rfl rfl rfl
theorem s157_55 : ji_Ev C 157 55 M lv st o ↔ ji_Ev C 157 88 M lv st o := ev_gt rfl (by decide) rfl
theorem s157_58 : ji_Ev C 157 58 M (l0 :: some (.int x) :: l) st o ↔ ji_Ev C 157 59 M (l0 :: some (.int x) :: l) (.int x :: st) o := ev_go (S := (59, M, (l0 :: some (.int x) :: l), (.int x :: st))) rfl rfl rfl
theorem s157_59 : ji_Ev C 157 59 M lv st o ↔ ji_Ev C 157 60 M lv (.int 1 :: st) o := ev_go (S := (60, M, lv, (.int 1 :: st))) rfl rfl rfl
theorem s157_60 : ji_Ev C 157 60 M lv (.int y :: .int x :: st) o ↔ if x = y then ji_Ev C 157 63 M lv st o else ji_Ev C 157 71 M lv st o := ev_brc (c := .ne) rfl (by decide) rfl
theorem s157_63 : ji_Ev C 157 63 M (some (.ref a) :: l) st o ↔ ji_Ev C 157 64 M (some (.ref a) :: l) (.ref a :: st) o := ev_go (S := (64, M, (some (.ref a) :: l), (.ref a :: st))) rfl rfl rfl
theorem s157_64 : ji_Ev C 157 64 M lv (.ref a :: st) o ↔ ji_kd M a = some (0, 9) ∧ ji_Ev C 157 67 M lv (.int (ji_gI M a 2) :: st) o := ev_getI (k := 157) rfl fd_9_16 rfl
theorem s157_67 : ji_Ev C 157 67 M lv (.int x :: st) o ↔ ji_Ev C 157 68 M lv (.long x.toInt64 :: st) o := ev_go (S := (68, M, lv, (.long x.toInt64 :: st))) rfl rfl rfl
theorem s157_68 : ji_Ev C 157 68 M lv st o ↔ ji_Ev C 157 88 M lv st o := ev_gt rfl (by decide) rfl
theorem s157_71 : ji_Ev C 157 71 M (l0 :: some (.int x) :: l) st o ↔ ji_Ev C 157 72 M (l0 :: some (.int x) :: l) (.int x :: st) o := ev_go (S := (72, M, (l0 :: some (.int x) :: l), (.int x :: st))) rfl rfl rfl
theorem s157_72 : ji_Ev C 157 72 M lv st o ↔ ji_Ev C 157 73 M lv (.int 2 :: st) o := ev_go (S := (73, M, lv, (.int 2 :: st))) rfl rfl rfl
theorem s157_73 : ji_Ev C 157 73 M lv (.int y :: .int x :: st) o ↔ if x = y then ji_Ev C 157 76 M lv st o else ji_Ev C 157 84 M lv st o := ev_brc (c := .ne) rfl (by decide) rfl
theorem s157_76 : ji_Ev C 157 76 M (some (.ref a) :: l) st o ↔ ji_Ev C 157 77 M (some (.ref a) :: l) (.ref a :: st) o := ev_go (S := (77, M, (some (.ref a) :: l), (.ref a :: st))) rfl rfl rfl
theorem s157_77 : ji_Ev C 157 77 M lv (.ref a :: st) o ↔ ji_kd M a = some (0, 9) ∧ ji_Ev C 157 80 M lv (.int (ji_gI M a 3) :: st) o := ev_getI (k := 157) rfl fd_9_19 rfl
theorem s157_80 : ji_Ev C 157 80 M lv (.int x :: st) o ↔ ji_Ev C 157 81 M lv (.long x.toInt64 :: st) o := ev_go (S := (81, M, lv, (.long x.toInt64 :: st))) rfl rfl rfl
theorem s157_81 : ji_Ev C 157 81 M lv st o ↔ ji_Ev C 157 88 M lv st o := ev_gt rfl (by decide) rfl
theorem s157_84 : ji_Ev C 157 84 M (some (.ref a) :: l) st o ↔ ji_Ev C 157 85 M (some (.ref a) :: l) (.ref a :: st) o := ev_go (S := (85, M, (some (.ref a) :: l), (.ref a :: st))) rfl rfl rfl
theorem s157_85 : ji_Ev C 157 85 M lv (.ref a :: st) o ↔ ji_kd M a = some (0, 9) ∧ ji_Ev C 157 88 M lv (.long (ji_gL M a 5) :: st) o := ev_getL (k := 157) rfl fd_9_25 rfl
theorem s157_88 : ji_Ev C 157 88 M lv (.long u :: st) o ↔ 4 < lv.length ∧ ji_Ev C 157 89 M (ji_s2 lv 3 (.long u)) st o := ev_stL rfl rfl rfl
theorem s157_89 : ji_Ev C 157 89 M (l0 :: some (.int x) :: l) st o ↔ ji_Ev C 157 90 M (l0 :: some (.int x) :: l) (.int x :: st) o := ev_go (S := (90, M, (l0 :: some (.int x) :: l), (.int x :: st))) rfl rfl rfl
theorem s157_90 : ji_Ev C 157 90 M lv (.int x :: st) o ↔ if x = 0 then ji_Ev C 157 93 M lv st o else ji_Ev C 157 98 M lv st o := ev_brz (c := .ne) rfl (by decide) rfl
theorem s157_93 : ji_Ev C 157 93 M (some (.ref a) :: l) st o ↔ ji_Ev C 157 94 M (some (.ref a) :: l) (.ref a :: st) o := ev_go (S := (94, M, (some (.ref a) :: l), (.ref a :: st))) rfl rfl rfl
theorem s157_94 : ji_Ev C 157 94 M (l0 :: l1 :: some (.int x) :: l) st o ↔ ji_Ev C 157 95 M (l0 :: l1 :: some (.int x) :: l) (.int x :: st) o := ev_go (S := (95, M, (l0 :: l1 :: some (.int x) :: l), (.int x :: st))) rfl rfl rfl
theorem s157_95 : ji_Ev C 157 95 M lv (.int x :: .ref a :: st) o ↔ ji_kd M a = some (0, 9) ∧ ji_Ev C 157 98 (ji_sI M a 1 x) lv st o := ev_putI (k := 157) rfl fd_9_13 rfl (by decide)
theorem s157_98 : ji_Ev C 157 98 M (l0 :: some (.int x) :: l) st o ↔ ji_Ev C 157 99 M (l0 :: some (.int x) :: l) (.int x :: st) o := ev_go (S := (99, M, (l0 :: some (.int x) :: l), (.int x :: st))) rfl rfl rfl
theorem s157_99 : ji_Ev C 157 99 M lv st o ↔ ji_Ev C 157 100 M lv (.int 1 :: st) o := ev_go (S := (100, M, lv, (.int 1 :: st))) rfl rfl rfl
theorem s157_100 : ji_Ev C 157 100 M lv (.int y :: .int x :: st) o ↔ if x = y then ji_Ev C 157 103 M lv st o else ji_Ev C 157 108 M lv st o := ev_brc (c := .ne) rfl (by decide) rfl
theorem s157_103 : ji_Ev C 157 103 M (some (.ref a) :: l) st o ↔ ji_Ev C 157 104 M (some (.ref a) :: l) (.ref a :: st) o := ev_go (S := (104, M, (some (.ref a) :: l), (.ref a :: st))) rfl rfl rfl
theorem s157_104 : ji_Ev C 157 104 M (l0 :: l1 :: some (.int x) :: l) st o ↔ ji_Ev C 157 105 M (l0 :: l1 :: some (.int x) :: l) (.int x :: st) o := ev_go (S := (105, M, (l0 :: l1 :: some (.int x) :: l), (.int x :: st))) rfl rfl rfl
theorem s157_105 : ji_Ev C 157 105 M lv (.int x :: .ref a :: st) o ↔ ji_kd M a = some (0, 9) ∧ ji_Ev C 157 108 (ji_sI M a 2 x) lv st o := ev_putI (k := 157) rfl fd_9_16 rfl (by decide)
theorem s157_108 : ji_Ev C 157 108 M (l0 :: some (.int x) :: l) st o ↔ ji_Ev C 157 109 M (l0 :: some (.int x) :: l) (.int x :: st) o := ev_go (S := (109, M, (l0 :: some (.int x) :: l), (.int x :: st))) rfl rfl rfl
theorem s157_109 : ji_Ev C 157 109 M lv st o ↔ ji_Ev C 157 110 M lv (.int 2 :: st) o := ev_go (S := (110, M, lv, (.int 2 :: st))) rfl rfl rfl
theorem s157_110 : ji_Ev C 157 110 M lv (.int y :: .int x :: st) o ↔ if x = y then ji_Ev C 157 113 M lv st o else ji_Ev C 157 118 M lv st o := ev_brc (c := .ne) rfl (by decide) rfl
theorem s157_113 : ji_Ev C 157 113 M (some (.ref a) :: l) st o ↔ ji_Ev C 157 114 M (some (.ref a) :: l) (.ref a :: st) o := ev_go (S := (114, M, (some (.ref a) :: l), (.ref a :: st))) rfl rfl rfl
theorem s157_114 : ji_Ev C 157 114 M (l0 :: l1 :: some (.int x) :: l) st o ↔ ji_Ev C 157 115 M (l0 :: l1 :: some (.int x) :: l) (.int x :: st) o := ev_go (S := (115, M, (l0 :: l1 :: some (.int x) :: l), (.int x :: st))) rfl rfl rfl
theorem s157_115 : ji_Ev C 157 115 M lv (.int x :: .ref a :: st) o ↔ ji_kd M a = some (0, 9) ∧ ji_Ev C 157 118 (ji_sI M a 3 x) lv st o := ev_putI (k := 157) rfl fd_9_19 rfl (by decide)
theorem s157_118 : ji_Ev C 157 118 M (l0 :: some (.int x) :: l) st o ↔ ji_Ev C 157 119 M (l0 :: some (.int x) :: l) (.int x :: st) o := ev_go (S := (119, M, (l0 :: some (.int x) :: l), (.int x :: st))) rfl rfl rfl
theorem s157_119 : ji_Ev C 157 119 M lv st o ↔ ji_Ev C 157 120 M lv (.int 3 :: st) o := ev_go (S := (120, M, lv, (.int 3 :: st))) rfl rfl rfl
theorem s157_120 : ji_Ev C 157 120 M lv (.int y :: .int x :: st) o ↔ if x = y then ji_Ev C 157 123 M lv st o else ji_Ev C 157 129 M lv st o := ev_brc (c := .ne) rfl (by decide) rfl
theorem s157_123 : ji_Ev C 157 123 M (some (.ref a) :: l) st o ↔ ji_Ev C 157 124 M (some (.ref a) :: l) (.ref a :: st) o := ev_go (S := (124, M, (some (.ref a) :: l), (.ref a :: st))) rfl rfl rfl
theorem s157_124 : ji_Ev C 157 124 M (l0 :: l1 :: some (.int x) :: l) st o ↔ ji_Ev C 157 125 M (l0 :: l1 :: some (.int x) :: l) (.int x :: st) o := ev_go (S := (125, M, (l0 :: l1 :: some (.int x) :: l), (.int x :: st))) rfl rfl rfl
theorem s157_125 : ji_Ev C 157 125 M lv (.int x :: st) o ↔ ji_Ev C 157 126 M lv (.long x.toInt64 :: st) o := ev_go (S := (126, M, lv, (.long x.toInt64 :: st))) rfl rfl rfl
theorem s157_126 : ji_Ev C 157 126 M lv (.long u :: .ref a :: st) o ↔ ji_kd M a = some (0, 9) ∧ ji_Ev C 157 129 (ji_sL M a 5 u) lv st o := ev_putL (k := 157) rfl fd_9_25 rfl (by decide)
theorem s157_129 : ji_Ev C 157 129 M (l0 :: l1 :: l2 :: some (.long u) :: l) st o ↔ ji_Ev C 157 130 M (l0 :: l1 :: l2 :: some (.long u) :: l) (.long u :: st) o := ev_go (S := (130, M, (l0 :: l1 :: l2 :: some (.long u) :: l), (.long u :: st))) rfl rfl rfl
theorem s157_130 : ji_Ev C 157 130 M lv [.long u] o ↔ o = (some (.long u), M) := ev_lret rfl rfl
theorem s158_0 : ji_Ev C 158 0 M (l0 :: some (.int x) :: l) st o ↔ ji_Ev C 158 1 M (l0 :: some (.int x) :: l) (.int x :: st) o := ev_go (S := (1, M, (l0 :: some (.int x) :: l), (.int x :: st))) rfl rfl rfl
theorem s158_1 : ji_Ev C 158 1 M (l0 :: l1 :: some (.int x) :: l) st o ↔ ji_Ev C 158 2 M (l0 :: l1 :: some (.int x) :: l) (.int x :: st) o := ev_go (S := (2, M, (l0 :: l1 :: some (.int x) :: l), (.int x :: st))) rfl rfl rfl
theorem s158_2 : ji_Ev C 158 2 M lv (.int y :: .int x :: st) o ↔ if x < y then ji_Ev C 158 14 M lv st o else ji_Ev C 158 5 M lv st o := ev_brc (c := .lt) rfl (by decide) rfl
theorem s158_5 : ji_Ev C 158 5 M (l0 :: some (.int x) :: l) st o ↔ ji_Ev C 158 6 M (l0 :: some (.int x) :: l) (.int x :: st) o := ev_go (S := (6, M, (l0 :: some (.int x) :: l), (.int x :: st))) rfl rfl rfl
theorem s158_6 : ji_Ev C 158 6 M (l0 :: l1 :: l2 :: some (.int x) :: l) st o ↔ ji_Ev C 158 7 M (l0 :: l1 :: l2 :: some (.int x) :: l) (.int x :: st) o := ev_go (S := (7, M, (l0 :: l1 :: l2 :: some (.int x) :: l), (.int x :: st))) rfl rfl rfl
theorem s158_7 : ji_Ev C 158 7 M lv (.int y :: .int x :: st) o ↔ if y < x then ji_Ev C 158 14 M lv st o else ji_Ev C 158 10 M lv st o := ev_brc (c := .gt) rfl (by decide) rfl
theorem s158_10 : ji_Ev C 158 10 M lv st o ↔ ji_Ev C 158 11 M lv (.int 1 :: st) o := ev_go (S := (11, M, lv, (.int 1 :: st))) rfl rfl rfl
theorem s158_11 : ji_Ev C 158 11 M lv st o ↔ ji_Ev C 158 15 M lv st o := ev_gt rfl (by decide) rfl
theorem s158_14 : ji_Ev C 158 14 M lv st o ↔ ji_Ev C 158 15 M lv (.int 0 :: st) o := ev_go (S := (15, M, lv, (.int 0 :: st))) rfl rfl rfl
theorem s158_15 : ji_Ev C 158 15 M lv [.int x] o ↔ narrow .boolean (.int x) = .int x ∧ o = (some (.int x), M) := ev_iretb rfl rfl
theorem s159_0 : ji_Ev C 159 0 M (some (.ref a) :: l) st o ↔ ji_Ev C 159 1 M (some (.ref a) :: l) (.ref a :: st) o := ev_go (S := (1, M, (some (.ref a) :: l), (.ref a :: st))) rfl rfl rfl
theorem s159_1 : ji_Ev C 159 1 M (l0 :: some (.int x) :: l) st o ↔ ji_Ev C 159 2 M (l0 :: some (.int x) :: l) (.int x :: st) o := ev_go (S := (2, M, (l0 :: some (.int x) :: l), (.int x :: st))) rfl rfl rfl
theorem s159_2 : ji_Ev C 159 2 M lv st o ↔ ji_Ev C 159 3 M lv (.int 1 :: st) o := ev_go (S := (3, M, lv, (.int 1 :: st))) rfl rfl rfl
theorem s159_3 : ji_Ev C 159 3 M lv st o ↔ ji_Ev C 159 5 M lv (.int 100 :: st) o := ev_go (S := (5, M, lv, (.int 100 :: st))) rfl rfl rfl
theorem s159_5 : ji_Ev C 159 5 M lv (p2 :: p1 :: p0 :: .ref a :: st) o ↔ (ji_rcb M 9 (.ref a) = true ∧ ji_ok8 st) ∧ ji_evC (C 158 [.ref a, p0, p1, p2] M) (fun v M' => ji_Ev C 159 8 M' lv (v.toList ++ st) o) := ev_inv (k := 159) rfl cd_9_255 rfl
theorem s159_8 : ji_Ev C 159 8 M lv (.int x :: st) o ↔ if x = 0 then ji_Ev C 159 11 M lv st o else ji_Ev C 159 14 M lv st o := ev_brz (c := .ne) rfl (by decide) rfl
theorem s159_11 : ji_Ev C 159 11 M lv st o ↔ ji_Ev C 159 13 M lv (.int (-2) :: st) o := ev_go (S := (13, M, lv, (.int (-2) :: st))) rfl rfl rfl
theorem s159_13 : ji_Ev C 159 13 M lv [.int x] o ↔ o = (some (.int x), M) := ev_ireti rfl rfl
theorem s159_14 : ji_Ev C 159 14 M (some (.ref a) :: l) st o ↔ ji_Ev C 159 15 M (some (.ref a) :: l) (.ref a :: st) o := ev_go (S := (15, M, (some (.ref a) :: l), (.ref a :: st))) rfl rfl rfl
theorem s159_15 : ji_Ev C 159 15 M lv (.ref a :: st) o ↔ ji_kd M a = some (0, 9) ∧ ji_Ev C 159 18 M lv (.int (ji_gI M a 0) :: st) o := ev_getI (k := 159) rfl fd_9_7 rfl
theorem s159_18 : ji_Ev C 159 18 M (l0 :: some (.int x) :: l) st o ↔ ji_Ev C 159 19 M (l0 :: some (.int x) :: l) (.int x :: st) o := ev_go (S := (19, M, (l0 :: some (.int x) :: l), (.int x :: st))) rfl rfl rfl
theorem s159_19 : ji_Ev C 159 19 M lv (.int y :: .int x :: st) o ↔ ji_Ev C 159 20 M lv (.int (x + y) :: st) o := ev_go (S := (20, M, lv, (.int (x + y) :: st))) rfl rfl rfl
theorem s159_20 : ji_Ev C 159 20 M lv st o ↔ ji_Ev C 159 23 M lv (.int 999 :: st) o := ev_go (S := (23, M, lv, (.int 999 :: st))) rfl rfl rfl
theorem s159_23 : ji_Ev C 159 23 M lv (.int y :: .int x :: st) o ↔ if y < x then ji_Ev C 159 26 M lv st o else ji_Ev C 159 29 M lv st o := ev_brc (c := .le) rfl (by decide) rfl
theorem s159_26 : ji_Ev C 159 26 M lv st o ↔ ji_Ev C 159 28 M lv (.int (-4) :: st) o := ev_go (S := (28, M, lv, (.int (-4) :: st))) rfl rfl rfl
theorem s159_28 : ji_Ev C 159 28 M lv [.int x] o ↔ o = (some (.int x), M) := ev_ireti rfl rfl
theorem s159_29 : ji_Ev C 159 29 M lv st o ↔ ji_Ev C 159 30 M lv (.int 0 :: st) o := ev_go (S := (30, M, lv, (.int 0 :: st))) rfl rfl rfl
theorem s159_30 : ji_Ev C 159 30 M lv (.int x :: st) o ↔ 2 < lv.length ∧ ji_Ev C 159 31 M (ji_s1 lv 2 (.int x)) st o := ev_stI rfl rfl rfl
theorem s159_31 : ji_Ev C 159 31 M (l0 :: l1 :: some (.int x) :: l) st o ↔ ji_Ev C 159 32 M (l0 :: l1 :: some (.int x) :: l) (.int x :: st) o := ev_go (S := (32, M, (l0 :: l1 :: some (.int x) :: l), (.int x :: st))) rfl rfl rfl
theorem s159_32 : ji_Ev C 159 32 M (l0 :: some (.int x) :: l) st o ↔ ji_Ev C 159 33 M (l0 :: some (.int x) :: l) (.int x :: st) o := ev_go (S := (33, M, (l0 :: some (.int x) :: l), (.int x :: st))) rfl rfl rfl
theorem s159_33 : ji_Ev C 159 33 M lv (.int y :: .int x :: st) o ↔ if x < y then ji_Ev C 159 36 M lv st o else ji_Ev C 159 46 M lv st o := ev_brc (c := .ge) rfl (by decide) rfl
theorem s159_36 : ji_Ev C 159 36 M (some (.ref a) :: l) st o ↔ ji_Ev C 159 37 M (some (.ref a) :: l) (.ref a :: st) o := ev_go (S := (37, M, (some (.ref a) :: l), (.ref a :: st))) rfl rfl rfl
theorem s159_37 : ji_Ev C 159 37 M lv (.ref a :: st) o ↔ (ji_rcb M 9 (.ref a) = true ∧ ji_ok8 st) ∧ ji_evC (C 160 [.ref a] M) (fun v M' => ji_Ev C 159 40 M' lv (v.toList ++ st) o) := ev_inv (k := 159) rfl cd_9_272 rfl
theorem s159_40 : ji_Ev C 159 40 M lv st o ↔ ji_evL (lv.getD 2 none) ji_isI (fun v => match v with | .int x => 2 < lv.length ∧ ji_Ev C 159 43 M (ji_s1 lv 2 (.int (x + Int32.ofInt 1))) st o | _ => False) := ev_iinc rfl
theorem s159_43 : ji_Ev C 159 43 M lv st o ↔ ji_Ev C 159 31 M lv st o := ev_gt rfl (by decide) rfl
theorem s159_46 : ji_Ev C 159 46 M (some (.ref a) :: l) st o ↔ ji_Ev C 159 47 M (some (.ref a) :: l) (.ref a :: st) o := ev_go (S := (47, M, (some (.ref a) :: l), (.ref a :: st))) rfl rfl rfl
theorem s159_47 : ji_Ev C 159 47 M lv (.ref a :: st) o ↔ ji_kd M a = some (0, 9) ∧ ji_Ev C 159 50 M lv (.int (ji_gI M a 0) :: st) o := ev_getI (k := 159) rfl fd_9_7 rfl
theorem s159_50 : ji_Ev C 159 50 M lv [.int x] o ↔ o = (some (.int x), M) := ev_ireti rfl rfl
theorem s160_0 : ji_Ev C 160 0 M lv st o ↔ ji_Ev C 160 1 M lv (.int 0 :: st) o := ev_go (S := (1, M, lv, (.int 0 :: st))) rfl rfl rfl
theorem s160_1 : ji_Ev C 160 1 M lv (.int x :: st) o ↔ 1 < lv.length ∧ ji_Ev C 160 2 M (ji_s1 lv 1 (.int x)) st o := ev_stI rfl rfl rfl
theorem s160_2 : ji_Ev C 160 2 M (l0 :: some (.int x) :: l) st o ↔ ji_Ev C 160 3 M (l0 :: some (.int x) :: l) (.int x :: st) o := ev_go (S := (3, M, (l0 :: some (.int x) :: l), (.int x :: st))) rfl rfl rfl
theorem s160_3 : ji_Ev C 160 3 M (some (.ref a) :: l) st o ↔ ji_Ev C 160 4 M (some (.ref a) :: l) (.ref a :: st) o := ev_go (S := (4, M, (some (.ref a) :: l), (.ref a :: st))) rfl rfl rfl
theorem s160_4 : ji_Ev C 160 4 M lv (.ref a :: st) o ↔ ji_kd M a = some (0, 9) ∧ ji_Ev C 160 7 M lv (.int (ji_gI M a 4) :: st) o := ev_getI (k := 160) rfl fd_9_22 rfl
theorem s160_7 : ji_Ev C 160 7 M lv (.int y :: .int x :: st) o ↔ if x < y then ji_Ev C 160 10 M lv st o else ji_Ev C 160 217 M lv st o := ev_brc (c := .ge) rfl (by decide) rfl
theorem s160_10 : ji_Ev C 160 10 M (some (.ref a) :: l) st o ↔ ji_Ev C 160 11 M (some (.ref a) :: l) (.ref a :: st) o := ev_go (S := (11, M, (some (.ref a) :: l), (.ref a :: st))) rfl rfl rfl
theorem s160_11 : ji_Ev C 160 11 M lv (.int x :: st) o ↔ ji_Ev C 160 12 M lv (.int x :: .int x :: st) o := ev_go (S := (12, M, lv, (.int x :: .int x :: st))) rfl rfl rfl
theorem s160_11r : ji_Ev C 160 11 M lv (.ref a :: st) o ↔ ji_Ev C 160 12 M lv (.ref a :: .ref a :: st) o := ev_go (S := (12, M, lv, (.ref a :: .ref a :: st))) rfl rfl rfl
theorem s160_12 : ji_Ev C 160 12 M lv (.ref a :: st) o ↔ ji_kd M a = some (0, 9) ∧ ji_Ev C 160 15 M lv (.long (ji_gL M a 5) :: st) o := ev_getL (k := 160) rfl fd_9_25 rfl
theorem s160_15 : ji_Ev C 160 15 M (some (.ref a) :: l) st o ↔ ji_Ev C 160 16 M (some (.ref a) :: l) (.ref a :: st) o := ev_go (S := (16, M, (some (.ref a) :: l), (.ref a :: st))) rfl rfl rfl
theorem s160_16 : ji_Ev C 160 16 M (l0 :: some (.int x) :: l) st o ↔ ji_Ev C 160 17 M (l0 :: some (.int x) :: l) (.int x :: st) o := ev_go (S := (17, M, (l0 :: some (.int x) :: l), (.int x :: st))) rfl rfl rfl
theorem s160_17 : ji_Ev C 160 17 M lv (p0 :: .ref a :: st) o ↔ (ji_rcb M 9 (.ref a) = true ∧ ji_ok8 st) ∧ ji_evC (C 161 [.ref a, p0] M) (fun v M' => ji_Ev C 160 20 M' lv (v.toList ++ st) o) := ev_inv (k := 160) rfl cd_9_262 rfl
theorem s160_20 : ji_Ev C 160 20 M lv (.int x :: st) o ↔ ji_Ev C 160 21 M lv (.long x.toInt64 :: st) o := ev_go (S := (21, M, lv, (.long x.toInt64 :: st))) rfl rfl rfl
theorem s160_21 : ji_Ev C 160 21 M lv (.long v :: .long u :: st) o ↔ ji_Ev C 160 22 M lv (.long (u - v) :: st) o := ev_go (S := (22, M, lv, (.long (u - v) :: st))) rfl rfl rfl
theorem s160_22 : ji_Ev C 160 22 M lv (.long u :: .ref a :: st) o ↔ ji_kd M a = some (0, 9) ∧ ji_Ev C 160 25 (ji_sL M a 5 u) lv st o := ev_putL (k := 160) rfl fd_9_25 rfl (by decide)
theorem s160_25 : ji_Ev C 160 25 M (some (.ref a) :: l) st o ↔ ji_Ev C 160 26 M (some (.ref a) :: l) (.ref a :: st) o := ev_go (S := (26, M, (some (.ref a) :: l), (.ref a :: st))) rfl rfl rfl
theorem s160_26 : ji_Ev C 160 26 M lv (.ref a :: st) o ↔ ji_kd M a = some (0, 9) ∧ ji_Ev C 160 29 M lv (ji_rv (ji_gR M a 10) :: st) o := ev_getR (k := 160) rfl fd_9_42 rfl
theorem s160_29 : ji_Ev C 160 29 M (l0 :: some (.int x) :: l) st o ↔ ji_Ev C 160 30 M (l0 :: some (.int x) :: l) (.int x :: st) o := ev_go (S := (30, M, (l0 :: some (.int x) :: l), (.int x :: st))) rfl rfl rfl
theorem s160_30 : ji_Ev C 160 30 M lv (.int x :: .ref a :: st) o ↔ ji_Ev C 160 31 M lv (.int x :: .ref a :: .int x :: .ref a :: st) o := ev_go (S := (31, M, lv, (.int x :: .ref a :: .int x :: .ref a :: st))) rfl rfl rfl
theorem s160_31 : ji_Ev C 160 31 M lv (.int x :: .ref a :: st) o ↔ ji_evA (ji_kd M a) (fun n => vp_in x n ∧ ji_Ev C 160 32 M lv (.int (ji_gI M a x.toNatClampNeg) :: st) o) := ev_iald rfl
theorem s160_32 : ji_Ev C 160 32 M (some (.ref a) :: l) st o ↔ ji_Ev C 160 33 M (some (.ref a) :: l) (.ref a :: st) o := ev_go (S := (33, M, (some (.ref a) :: l), (.ref a :: st))) rfl rfl rfl
theorem s160_33 : ji_Ev C 160 33 M (some (.ref a) :: l) st o ↔ ji_Ev C 160 34 M (some (.ref a) :: l) (.ref a :: st) o := ev_go (S := (34, M, (some (.ref a) :: l), (.ref a :: st))) rfl rfl rfl
theorem s160_34 : ji_Ev C 160 34 M lv (.ref a :: st) o ↔ ji_kd M a = some (0, 9) ∧ ji_Ev C 160 37 M lv (ji_rv (ji_gR M a 12) :: st) o := ev_getR (k := 160) rfl fd_9_48 rfl
theorem s160_37 : ji_Ev C 160 37 M (l0 :: some (.int x) :: l) st o ↔ ji_Ev C 160 38 M (l0 :: some (.int x) :: l) (.int x :: st) o := ev_go (S := (38, M, (l0 :: some (.int x) :: l), (.int x :: st))) rfl rfl rfl
theorem s160_38 : ji_Ev C 160 38 M lv (.int x :: .ref a :: st) o ↔ ji_evA (ji_kd M a) (fun n => vp_in x n ∧ ji_Ev C 160 39 M lv (.int (ji_gI M a x.toNatClampNeg) :: st) o) := ev_iald rfl
theorem s160_39 : ji_Ev C 160 39 M lv (p0 :: .ref a :: st) o ↔ (ji_rcb M 9 (.ref a) = true ∧ ji_ok8 st) ∧ ji_evC (C 162 [.ref a, p0] M) (fun v M' => ji_Ev C 160 42 M' lv (v.toList ++ st) o) := ev_inv (k := 160) rfl cd_9_266 rfl
theorem s160_42 : ji_Ev C 160 42 M lv (.int y :: .int x :: st) o ↔ ji_Ev C 160 43 M lv (.int (x + y) :: st) o := ev_go (S := (43, M, lv, (.int (x + y) :: st))) rfl rfl rfl
theorem s160_43 : ji_Ev C 160 43 M lv (.int y :: .int x :: .ref a :: st) o ↔ ji_evA (ji_kd M a) (fun n => vp_in x n ∧ ji_Ev C 160 44 (ji_sI M a x.toNatClampNeg y) lv st o) := ev_iast rfl
theorem s160_44 : ji_Ev C 160 44 M (some (.ref a) :: l) st o ↔ ji_Ev C 160 45 M (some (.ref a) :: l) (.ref a :: st) o := ev_go (S := (45, M, (some (.ref a) :: l), (.ref a :: st))) rfl rfl rfl
theorem s160_45 : ji_Ev C 160 45 M lv (.ref a :: st) o ↔ ji_kd M a = some (0, 9) ∧ ji_Ev C 160 48 M lv (ji_rv (ji_gR M a 10) :: st) o := ev_getR (k := 160) rfl fd_9_42 rfl
theorem s160_48 : ji_Ev C 160 48 M (l0 :: some (.int x) :: l) st o ↔ ji_Ev C 160 49 M (l0 :: some (.int x) :: l) (.int x :: st) o := ev_go (S := (49, M, (l0 :: some (.int x) :: l), (.int x :: st))) rfl rfl rfl
theorem s160_49 : ji_Ev C 160 49 M lv (.int x :: .ref a :: st) o ↔ ji_evA (ji_kd M a) (fun n => vp_in x n ∧ ji_Ev C 160 50 M lv (.int (ji_gI M a x.toNatClampNeg) :: st) o) := ev_iald rfl
theorem s160_50 : ji_Ev C 160 50 M lv st o ↔ ji_Ev C 160 53 M lv (.int 1000 :: st) o := ev_go (S := (53, M, lv, (.int 1000 :: st))) rfl rfl rfl
theorem s160_53 : ji_Ev C 160 53 M lv (.int y :: .int x :: st) o ↔ if y < x then ji_Ev C 160 56 M lv st o else ji_Ev C 160 65 M lv st o := ev_brc (c := .le) rfl (by decide) rfl
theorem s160_56 : ji_Ev C 160 56 M (some (.ref a) :: l) st o ↔ ji_Ev C 160 57 M (some (.ref a) :: l) (.ref a :: st) o := ev_go (S := (57, M, (some (.ref a) :: l), (.ref a :: st))) rfl rfl rfl
theorem s160_57 : ji_Ev C 160 57 M lv (.ref a :: st) o ↔ ji_kd M a = some (0, 9) ∧ ji_Ev C 160 60 M lv (ji_rv (ji_gR M a 10) :: st) o := ev_getR (k := 160) rfl fd_9_42 rfl
theorem s160_60 : ji_Ev C 160 60 M (l0 :: some (.int x) :: l) st o ↔ ji_Ev C 160 61 M (l0 :: some (.int x) :: l) (.int x :: st) o := ev_go (S := (61, M, (l0 :: some (.int x) :: l), (.int x :: st))) rfl rfl rfl
theorem s160_61 : ji_Ev C 160 61 M lv st o ↔ ji_Ev C 160 64 M lv (.int 1000 :: st) o := ev_go (S := (64, M, lv, (.int 1000 :: st))) rfl rfl rfl
theorem s160_64 : ji_Ev C 160 64 M lv (.int y :: .int x :: .ref a :: st) o ↔ ji_evA (ji_kd M a) (fun n => vp_in x n ∧ ji_Ev C 160 65 (ji_sI M a x.toNatClampNeg y) lv st o) := ev_iast rfl
theorem s160_65 : ji_Ev C 160 65 M (some (.ref a) :: l) st o ↔ ji_Ev C 160 66 M (some (.ref a) :: l) (.ref a :: st) o := ev_go (S := (66, M, (some (.ref a) :: l), (.ref a :: st))) rfl rfl rfl
theorem s160_66 : ji_Ev C 160 66 M lv (.ref a :: st) o ↔ ji_kd M a = some (0, 9) ∧ ji_Ev C 160 69 M lv (ji_rv (ji_gR M a 10) :: st) o := ev_getR (k := 160) rfl fd_9_42 rfl
theorem s160_69 : ji_Ev C 160 69 M (l0 :: some (.int x) :: l) st o ↔ ji_Ev C 160 70 M (l0 :: some (.int x) :: l) (.int x :: st) o := ev_go (S := (70, M, (l0 :: some (.int x) :: l), (.int x :: st))) rfl rfl rfl
theorem s160_70 : ji_Ev C 160 70 M lv (.int x :: .ref a :: st) o ↔ ji_evA (ji_kd M a) (fun n => vp_in x n ∧ ji_Ev C 160 71 M lv (.int (ji_gI M a x.toNatClampNeg) :: st) o) := ev_iald rfl
theorem s160_71 : ji_Ev C 160 71 M lv st o ↔ ji_Ev C 160 73 M lv (.int 100 :: st) o := ev_go (S := (73, M, lv, (.int 100 :: st))) rfl rfl rfl
theorem s160_73 : ji_Ev C 160 73 M lv (.int y :: .int x :: st) o ↔ if x < y then ji_Ev C 160 95 M lv st o else ji_Ev C 160 76 M lv st o := ev_brc (c := .lt) rfl (by decide) rfl
theorem s160_76 : ji_Ev C 160 76 M (some (.ref a) :: l) st o ↔ ji_Ev C 160 77 M (some (.ref a) :: l) (.ref a :: st) o := ev_go (S := (77, M, (some (.ref a) :: l), (.ref a :: st))) rfl rfl rfl
theorem s160_77 : ji_Ev C 160 77 M lv (.ref a :: st) o ↔ ji_kd M a = some (0, 9) ∧ ji_Ev C 160 80 M lv (ji_rv (ji_gR M a 11) :: st) o := ev_getR (k := 160) rfl fd_9_45 rfl
theorem s160_80 : ji_Ev C 160 80 M (l0 :: some (.int x) :: l) st o ↔ ji_Ev C 160 81 M (l0 :: some (.int x) :: l) (.int x :: st) o := ev_go (S := (81, M, (l0 :: some (.int x) :: l), (.int x :: st))) rfl rfl rfl
theorem s160_81 : ji_Ev C 160 81 M lv (.int x :: .ref a :: st) o ↔ ji_Ev C 160 82 M lv (.int x :: .ref a :: .int x :: .ref a :: st) o := ev_go (S := (82, M, lv, (.int x :: .ref a :: .int x :: .ref a :: st))) rfl rfl rfl
theorem s160_82 : ji_Ev C 160 82 M lv (.int x :: .ref a :: st) o ↔ ji_evA (ji_kd M a) (fun n => vp_in x n ∧ ji_Ev C 160 83 M lv (.int (ji_gI M a x.toNatClampNeg) :: st) o) := ev_iald rfl
theorem s160_83 : ji_Ev C 160 83 M (some (.ref a) :: l) st o ↔ ji_Ev C 160 84 M (some (.ref a) :: l) (.ref a :: st) o := ev_go (S := (84, M, (some (.ref a) :: l), (.ref a :: st))) rfl rfl rfl
theorem s160_84 : ji_Ev C 160 84 M (some (.ref a) :: l) st o ↔ ji_Ev C 160 85 M (some (.ref a) :: l) (.ref a :: st) o := ev_go (S := (85, M, (some (.ref a) :: l), (.ref a :: st))) rfl rfl rfl
theorem s160_85 : ji_Ev C 160 85 M lv (.ref a :: st) o ↔ ji_kd M a = some (0, 9) ∧ ji_Ev C 160 88 M lv (ji_rv (ji_gR M a 12) :: st) o := ev_getR (k := 160) rfl fd_9_48 rfl
theorem s160_88 : ji_Ev C 160 88 M (l0 :: some (.int x) :: l) st o ↔ ji_Ev C 160 89 M (l0 :: some (.int x) :: l) (.int x :: st) o := ev_go (S := (89, M, (l0 :: some (.int x) :: l), (.int x :: st))) rfl rfl rfl
theorem s160_89 : ji_Ev C 160 89 M lv (.int x :: .ref a :: st) o ↔ ji_evA (ji_kd M a) (fun n => vp_in x n ∧ ji_Ev C 160 90 M lv (.int (ji_gI M a x.toNatClampNeg) :: st) o) := ev_iald rfl
theorem s160_90 : ji_Ev C 160 90 M lv (p0 :: .ref a :: st) o ↔ (ji_rcb M 9 (.ref a) = true ∧ ji_ok8 st) ∧ ji_evC (C 163 [.ref a, p0] M) (fun v M' => ji_Ev C 160 93 M' lv (v.toList ++ st) o) := ev_inv (k := 160) rfl cd_9_269 rfl
theorem s160_93 : ji_Ev C 160 93 M lv (.int y :: .int x :: st) o ↔ ji_Ev C 160 94 M lv (.int (x + y) :: st) o := ev_go (S := (94, M, lv, (.int (x + y) :: st))) rfl rfl rfl
theorem s160_94 : ji_Ev C 160 94 M lv (.int y :: .int x :: .ref a :: st) o ↔ ji_evA (ji_kd M a) (fun n => vp_in x n ∧ ji_Ev C 160 95 (ji_sI M a x.toNatClampNeg y) lv st o) := ev_iast rfl
theorem s160_95 : ji_Ev C 160 95 M (some (.ref a) :: l) st o ↔ ji_Ev C 160 96 M (some (.ref a) :: l) (.ref a :: st) o := ev_go (S := (96, M, (some (.ref a) :: l), (.ref a :: st))) rfl rfl rfl
theorem s160_96 : ji_Ev C 160 96 M lv (.ref a :: st) o ↔ ji_kd M a = some (0, 9) ∧ ji_Ev C 160 99 M lv (ji_rv (ji_gR M a 11) :: st) o := ev_getR (k := 160) rfl fd_9_45 rfl
theorem s160_99 : ji_Ev C 160 99 M (l0 :: some (.int x) :: l) st o ↔ ji_Ev C 160 100 M (l0 :: some (.int x) :: l) (.int x :: st) o := ev_go (S := (100, M, (l0 :: some (.int x) :: l), (.int x :: st))) rfl rfl rfl
theorem s160_100 : ji_Ev C 160 100 M lv (.int x :: .ref a :: st) o ↔ ji_evA (ji_kd M a) (fun n => vp_in x n ∧ ji_Ev C 160 101 M lv (.int (ji_gI M a x.toNatClampNeg) :: st) o) := ev_iald rfl
theorem s160_101 : ji_Ev C 160 101 M lv st o ↔ ji_Ev C 160 104 M lv (.int 1000 :: st) o := ev_go (S := (104, M, lv, (.int 1000 :: st))) rfl rfl rfl
theorem s160_104 : ji_Ev C 160 104 M lv (.int y :: .int x :: st) o ↔ if y < x then ji_Ev C 160 107 M lv st o else ji_Ev C 160 116 M lv st o := ev_brc (c := .le) rfl (by decide) rfl
theorem s160_107 : ji_Ev C 160 107 M (some (.ref a) :: l) st o ↔ ji_Ev C 160 108 M (some (.ref a) :: l) (.ref a :: st) o := ev_go (S := (108, M, (some (.ref a) :: l), (.ref a :: st))) rfl rfl rfl
theorem s160_108 : ji_Ev C 160 108 M lv (.ref a :: st) o ↔ ji_kd M a = some (0, 9) ∧ ji_Ev C 160 111 M lv (ji_rv (ji_gR M a 11) :: st) o := ev_getR (k := 160) rfl fd_9_45 rfl
theorem s160_111 : ji_Ev C 160 111 M (l0 :: some (.int x) :: l) st o ↔ ji_Ev C 160 112 M (l0 :: some (.int x) :: l) (.int x :: st) o := ev_go (S := (112, M, (l0 :: some (.int x) :: l), (.int x :: st))) rfl rfl rfl
theorem s160_112 : ji_Ev C 160 112 M lv st o ↔ ji_Ev C 160 115 M lv (.int 1000 :: st) o := ev_go (S := (115, M, lv, (.int 1000 :: st))) rfl rfl rfl
theorem s160_115 : ji_Ev C 160 115 M lv (.int y :: .int x :: .ref a :: st) o ↔ ji_evA (ji_kd M a) (fun n => vp_in x n ∧ ji_Ev C 160 116 (ji_sI M a x.toNatClampNeg y) lv st o) := ev_iast rfl
theorem s160_116 : ji_Ev C 160 116 M (some (.ref a) :: l) st o ↔ ji_Ev C 160 117 M (some (.ref a) :: l) (.ref a :: st) o := ev_go (S := (117, M, (some (.ref a) :: l), (.ref a :: st))) rfl rfl rfl
theorem s160_117 : ji_Ev C 160 117 M lv (.ref a :: st) o ↔ ji_kd M a = some (0, 9) ∧ ji_Ev C 160 120 M lv (.int (ji_gI M a 0) :: st) o := ev_getI (k := 160) rfl fd_9_7 rfl
theorem s160_120 : ji_Ev C 160 120 M lv st o ↔ ji_Ev C 160 121 M lv (.int 1 :: st) o := ev_go (S := (121, M, lv, (.int 1 :: st))) rfl rfl rfl
theorem s160_121 : ji_Ev C 160 121 M lv (.int y :: .int x :: st) o ↔ ji_Ev C 160 122 M lv (.int (x + y) :: st) o := ev_go (S := (122, M, lv, (.int (x + y) :: st))) rfl rfl rfl
theorem s160_122 : ji_Ev C 160 122 M (some (.ref a) :: l) st o ↔ ji_Ev C 160 123 M (some (.ref a) :: l) (.ref a :: st) o := ev_go (S := (123, M, (some (.ref a) :: l), (.ref a :: st))) rfl rfl rfl
theorem s160_123 : ji_Ev C 160 123 M lv (.ref a :: st) o ↔ ji_kd M a = some (0, 9) ∧ ji_Ev C 160 126 M lv (ji_rv (ji_gR M a 13) :: st) o := ev_getR (k := 160) rfl fd_9_51 rfl
theorem s160_126 : ji_Ev C 160 126 M (l0 :: some (.int x) :: l) st o ↔ ji_Ev C 160 127 M (l0 :: some (.int x) :: l) (.int x :: st) o := ev_go (S := (127, M, (l0 :: some (.int x) :: l), (.int x :: st))) rfl rfl rfl
theorem s160_127 : ji_Ev C 160 127 M lv (.int x :: .ref a :: st) o ↔ ji_evA (ji_kd M a) (fun n => vp_in x n ∧ ji_Ev C 160 128 M lv (.int (ji_gI M a x.toNatClampNeg) :: st) o) := ev_iald rfl
theorem s160_128 : ji_Ev C 160 128 M lv (.int y :: .int x :: st) o ↔ ji_Ev C 160 129 M lv (.int (x - y) :: st) o := ev_go (S := (129, M, lv, (.int (x - y) :: st))) rfl rfl rfl
theorem s160_129 : ji_Ev C 160 129 M lv (.int x :: st) o ↔ 2 < lv.length ∧ ji_Ev C 160 130 M (ji_s1 lv 2 (.int x)) st o := ev_stI rfl rfl rfl
theorem s160_130 : ji_Ev C 160 130 M (some (.ref a) :: l) st o ↔ ji_Ev C 160 131 M (some (.ref a) :: l) (.ref a :: st) o := ev_go (S := (131, M, (some (.ref a) :: l), (.ref a :: st))) rfl rfl rfl
theorem s160_131 : ji_Ev C 160 131 M lv (.ref a :: st) o ↔ ji_kd M a = some (0, 9) ∧ ji_Ev C 160 134 M lv (ji_rv (ji_gR M a 12) :: st) o := ev_getR (k := 160) rfl fd_9_48 rfl
theorem s160_134 : ji_Ev C 160 134 M (l0 :: some (.int x) :: l) st o ↔ ji_Ev C 160 135 M (l0 :: some (.int x) :: l) (.int x :: st) o := ev_go (S := (135, M, (l0 :: some (.int x) :: l), (.int x :: st))) rfl rfl rfl
theorem s160_135 : ji_Ev C 160 135 M lv (.int x :: .ref a :: st) o ↔ ji_evA (ji_kd M a) (fun n => vp_in x n ∧ ji_Ev C 160 136 M lv (.int (ji_gI M a x.toNatClampNeg) :: st) o) := ev_iald rfl
theorem s160_136 : ji_Ev C 160 136 M lv st o ↔ ji_Ev C 160 137 M lv (.int 1 :: st) o := ev_go (S := (137, M, lv, (.int 1 :: st))) rfl rfl rfl
theorem s160_137 : ji_Ev C 160 137 M lv (.int y :: .int x :: st) o ↔ if x = y then ji_Ev C 160 140 M lv st o else ji_Ev C 160 150 M lv st o := ev_brc (c := .ne) rfl (by decide) rfl
theorem s160_140 : ji_Ev C 160 140 M (l0 :: l1 :: some (.int x) :: l) st o ↔ ji_Ev C 160 141 M (l0 :: l1 :: some (.int x) :: l) (.int x :: st) o := ev_go (S := (141, M, (l0 :: l1 :: some (.int x) :: l), (.int x :: st))) rfl rfl rfl
theorem s160_141 : ji_Ev C 160 141 M lv st o ↔ ji_Ev C 160 143 M lv (.int 48 :: st) o := ev_go (S := (143, M, lv, (.int 48 :: st))) rfl rfl rfl
theorem s160_143 : ji_Ev C 160 143 M lv (.int y :: .int x :: st) o ↔ if x < y then ji_Ev C 160 150 M lv st o else ji_Ev C 160 146 M lv st o := ev_brc (c := .lt) rfl (by decide) rfl
theorem s160_146 : ji_Ev C 160 146 M lv st o ↔ ji_Ev C 160 147 M lv (.int 4 :: st) o := ev_go (S := (147, M, lv, (.int 4 :: st))) rfl rfl rfl
theorem s160_147 : ji_Ev C 160 147 M lv st o ↔ ji_Ev C 160 187 M lv st o := ev_gt rfl (by decide) rfl
theorem s160_150 : ji_Ev C 160 150 M (some (.ref a) :: l) st o ↔ ji_Ev C 160 151 M (some (.ref a) :: l) (.ref a :: st) o := ev_go (S := (151, M, (some (.ref a) :: l), (.ref a :: st))) rfl rfl rfl
theorem s160_151 : ji_Ev C 160 151 M lv (.ref a :: st) o ↔ ji_kd M a = some (0, 9) ∧ ji_Ev C 160 154 M lv (ji_rv (ji_gR M a 12) :: st) o := ev_getR (k := 160) rfl fd_9_48 rfl
theorem s160_154 : ji_Ev C 160 154 M (l0 :: some (.int x) :: l) st o ↔ ji_Ev C 160 155 M (l0 :: some (.int x) :: l) (.int x :: st) o := ev_go (S := (155, M, (l0 :: some (.int x) :: l), (.int x :: st))) rfl rfl rfl
theorem s160_155 : ji_Ev C 160 155 M lv (.int x :: .ref a :: st) o ↔ ji_evA (ji_kd M a) (fun n => vp_in x n ∧ ji_Ev C 160 156 M lv (.int (ji_gI M a x.toNatClampNeg) :: st) o) := ev_iald rfl
theorem s160_156 : ji_Ev C 160 156 M lv st o ↔ ji_Ev C 160 157 M lv (.int 3 :: st) o := ev_go (S := (157, M, lv, (.int 3 :: st))) rfl rfl rfl
theorem s160_157 : ji_Ev C 160 157 M lv (.int y :: .int x :: st) o ↔ if x = y then ji_Ev C 160 160 M lv st o else ji_Ev C 160 166 M lv st o := ev_brc (c := .ne) rfl (by decide) rfl
theorem s160_160 : ji_Ev C 160 160 M (l0 :: l1 :: some (.int x) :: l) st o ↔ ji_Ev C 160 161 M (l0 :: l1 :: some (.int x) :: l) (.int x :: st) o := ev_go (S := (161, M, (l0 :: l1 :: some (.int x) :: l), (.int x :: st))) rfl rfl rfl
theorem s160_161 : ji_Ev C 160 161 M lv st o ↔ ji_Ev C 160 163 M lv (.int 72 :: st) o := ev_go (S := (163, M, lv, (.int 72 :: st))) rfl rfl rfl
theorem s160_163 : ji_Ev C 160 163 M lv (.int y :: .int x :: st) o ↔ if x < y then ji_Ev C 160 166 M lv st o else ji_Ev C 160 182 M lv st o := ev_brc (c := .ge) rfl (by decide) rfl
theorem s160_166 : ji_Ev C 160 166 M (some (.ref a) :: l) st o ↔ ji_Ev C 160 167 M (some (.ref a) :: l) (.ref a :: st) o := ev_go (S := (167, M, (some (.ref a) :: l), (.ref a :: st))) rfl rfl rfl
theorem s160_167 : ji_Ev C 160 167 M lv (.ref a :: st) o ↔ ji_kd M a = some (0, 9) ∧ ji_Ev C 160 170 M lv (ji_rv (ji_gR M a 12) :: st) o := ev_getR (k := 160) rfl fd_9_48 rfl
theorem s160_170 : ji_Ev C 160 170 M (l0 :: some (.int x) :: l) st o ↔ ji_Ev C 160 171 M (l0 :: some (.int x) :: l) (.int x :: st) o := ev_go (S := (171, M, (l0 :: some (.int x) :: l), (.int x :: st))) rfl rfl rfl
theorem s160_171 : ji_Ev C 160 171 M lv (.int x :: .ref a :: st) o ↔ ji_evA (ji_kd M a) (fun n => vp_in x n ∧ ji_Ev C 160 172 M lv (.int (ji_gI M a x.toNatClampNeg) :: st) o) := ev_iald rfl
theorem s160_172 : ji_Ev C 160 172 M lv st o ↔ ji_Ev C 160 173 M lv (.int 5 :: st) o := ev_go (S := (173, M, lv, (.int 5 :: st))) rfl rfl rfl
theorem s160_173 : ji_Ev C 160 173 M lv (.int y :: .int x :: st) o ↔ if x = y then ji_Ev C 160 176 M lv st o else ji_Ev C 160 186 M lv st o := ev_brc (c := .ne) rfl (by decide) rfl
theorem s160_176 : ji_Ev C 160 176 M (l0 :: l1 :: some (.int x) :: l) st o ↔ ji_Ev C 160 177 M (l0 :: l1 :: some (.int x) :: l) (.int x :: st) o := ev_go (S := (177, M, (l0 :: l1 :: some (.int x) :: l), (.int x :: st))) rfl rfl rfl
theorem s160_177 : ji_Ev C 160 177 M lv st o ↔ ji_Ev C 160 179 M lv (.int 96 :: st) o := ev_go (S := (179, M, lv, (.int 96 :: st))) rfl rfl rfl
theorem s160_179 : ji_Ev C 160 179 M lv (.int y :: .int x :: st) o ↔ if x < y then ji_Ev C 160 186 M lv st o else ji_Ev C 160 182 M lv st o := ev_brc (c := .lt) rfl (by decide) rfl
theorem s160_182 : ji_Ev C 160 182 M lv st o ↔ ji_Ev C 160 183 M lv (.int 0 :: st) o := ev_go (S := (183, M, lv, (.int 0 :: st))) rfl rfl rfl
theorem s160_183 : ji_Ev C 160 183 M lv st o ↔ ji_Ev C 160 187 M lv st o := ev_gt rfl (by decide) rfl
theorem s160_186 : ji_Ev C 160 186 M lv st o ↔ ji_Ev C 160 187 M lv (.int (-1) :: st) o := ev_go (S := (187, M, lv, (.int (-1) :: st))) rfl rfl rfl
theorem s160_187 : ji_Ev C 160 187 M lv (.int x :: st) o ↔ 3 < lv.length ∧ ji_Ev C 160 188 M (ji_s1 lv 3 (.int x)) st o := ev_stI rfl rfl rfl
theorem s160_188 : ji_Ev C 160 188 M (l0 :: l1 :: l2 :: some (.int x) :: l) st o ↔ ji_Ev C 160 189 M (l0 :: l1 :: l2 :: some (.int x) :: l) (.int x :: st) o := ev_go (S := (189, M, (l0 :: l1 :: l2 :: some (.int x) :: l), (.int x :: st))) rfl rfl rfl
theorem s160_189 : ji_Ev C 160 189 M lv (.int x :: st) o ↔ if x < 0 then ji_Ev C 160 211 M lv st o else ji_Ev C 160 192 M lv st o := ev_brz (c := .lt) rfl (by decide) rfl
theorem s160_192 : ji_Ev C 160 192 M (some (.ref a) :: l) st o ↔ ji_Ev C 160 193 M (some (.ref a) :: l) (.ref a :: st) o := ev_go (S := (193, M, (some (.ref a) :: l), (.ref a :: st))) rfl rfl rfl
theorem s160_193 : ji_Ev C 160 193 M lv (.ref a :: st) o ↔ ji_kd M a = some (0, 9) ∧ ji_Ev C 160 196 M lv (ji_rv (ji_gR M a 12) :: st) o := ev_getR (k := 160) rfl fd_9_48 rfl
theorem s160_196 : ji_Ev C 160 196 M (l0 :: some (.int x) :: l) st o ↔ ji_Ev C 160 197 M (l0 :: some (.int x) :: l) (.int x :: st) o := ev_go (S := (197, M, (l0 :: some (.int x) :: l), (.int x :: st))) rfl rfl rfl
theorem s160_197 : ji_Ev C 160 197 M (l0 :: l1 :: l2 :: some (.int x) :: l) st o ↔ ji_Ev C 160 198 M (l0 :: l1 :: l2 :: some (.int x) :: l) (.int x :: st) o := ev_go (S := (198, M, (l0 :: l1 :: l2 :: some (.int x) :: l), (.int x :: st))) rfl rfl rfl
theorem s160_198 : ji_Ev C 160 198 M lv (.int y :: .int x :: .ref a :: st) o ↔ ji_evA (ji_kd M a) (fun n => vp_in x n ∧ ji_Ev C 160 199 (ji_sI M a x.toNatClampNeg y) lv st o) := ev_iast rfl
theorem s160_199 : ji_Ev C 160 199 M (some (.ref a) :: l) st o ↔ ji_Ev C 160 200 M (some (.ref a) :: l) (.ref a :: st) o := ev_go (S := (200, M, (some (.ref a) :: l), (.ref a :: st))) rfl rfl rfl
theorem s160_200 : ji_Ev C 160 200 M lv (.ref a :: st) o ↔ ji_kd M a = some (0, 9) ∧ ji_Ev C 160 203 M lv (ji_rv (ji_gR M a 13) :: st) o := ev_getR (k := 160) rfl fd_9_51 rfl
theorem s160_203 : ji_Ev C 160 203 M (l0 :: some (.int x) :: l) st o ↔ ji_Ev C 160 204 M (l0 :: some (.int x) :: l) (.int x :: st) o := ev_go (S := (204, M, (l0 :: some (.int x) :: l), (.int x :: st))) rfl rfl rfl
theorem s160_204 : ji_Ev C 160 204 M (some (.ref a) :: l) st o ↔ ji_Ev C 160 205 M (some (.ref a) :: l) (.ref a :: st) o := ev_go (S := (205, M, (some (.ref a) :: l), (.ref a :: st))) rfl rfl rfl
theorem s160_205 : ji_Ev C 160 205 M lv (.ref a :: st) o ↔ ji_kd M a = some (0, 9) ∧ ji_Ev C 160 208 M lv (.int (ji_gI M a 0) :: st) o := ev_getI (k := 160) rfl fd_9_7 rfl
theorem s160_208 : ji_Ev C 160 208 M lv st o ↔ ji_Ev C 160 209 M lv (.int 1 :: st) o := ev_go (S := (209, M, lv, (.int 1 :: st))) rfl rfl rfl
theorem s160_209 : ji_Ev C 160 209 M lv (.int y :: .int x :: st) o ↔ ji_Ev C 160 210 M lv (.int (x + y) :: st) o := ev_go (S := (210, M, lv, (.int (x + y) :: st))) rfl rfl rfl
theorem s160_210 : ji_Ev C 160 210 M lv (.int y :: .int x :: .ref a :: st) o ↔ ji_evA (ji_kd M a) (fun n => vp_in x n ∧ ji_Ev C 160 211 (ji_sI M a x.toNatClampNeg y) lv st o) := ev_iast rfl
theorem s160_211 : ji_Ev C 160 211 M lv st o ↔ ji_evL (lv.getD 1 none) ji_isI (fun v => match v with | .int x => 1 < lv.length ∧ ji_Ev C 160 214 M (ji_s1 lv 1 (.int (x + Int32.ofInt 1))) st o | _ => False) := ev_iinc rfl
theorem s160_214 : ji_Ev C 160 214 M lv st o ↔ ji_Ev C 160 2 M lv st o := ev_gt rfl (by decide) rfl
theorem s160_217 : ji_Ev C 160 217 M (some (.ref a) :: l) st o ↔ ji_Ev C 160 218 M (some (.ref a) :: l) (.ref a :: st) o := ev_go (S := (218, M, (some (.ref a) :: l), (.ref a :: st))) rfl rfl rfl
theorem s160_218 : ji_Ev C 160 218 M lv (.int x :: st) o ↔ ji_Ev C 160 219 M lv (.int x :: .int x :: st) o := ev_go (S := (219, M, lv, (.int x :: .int x :: st))) rfl rfl rfl
theorem s160_218r : ji_Ev C 160 218 M lv (.ref a :: st) o ↔ ji_Ev C 160 219 M lv (.ref a :: .ref a :: st) o := ev_go (S := (219, M, lv, (.ref a :: .ref a :: st))) rfl rfl rfl
theorem s160_219 : ji_Ev C 160 219 M lv (.ref a :: st) o ↔ ji_kd M a = some (0, 9) ∧ ji_Ev C 160 222 M lv (.int (ji_gI M a 0) :: st) o := ev_getI (k := 160) rfl fd_9_7 rfl
theorem s160_222 : ji_Ev C 160 222 M lv st o ↔ ji_Ev C 160 223 M lv (.int 1 :: st) o := ev_go (S := (223, M, lv, (.int 1 :: st))) rfl rfl rfl
theorem s160_223 : ji_Ev C 160 223 M lv (.int y :: .int x :: st) o ↔ ji_Ev C 160 224 M lv (.int (x + y) :: st) o := ev_go (S := (224, M, lv, (.int (x + y) :: st))) rfl rfl rfl
theorem s160_224 : ji_Ev C 160 224 M lv (.int x :: .ref a :: st) o ↔ ji_kd M a = some (0, 9) ∧ ji_Ev C 160 227 (ji_sI M a 0 x) lv st o := ev_putI (k := 160) rfl fd_9_7 rfl (by decide)
theorem s160_227 : ji_Ev C 160 227 M lv [] o ↔ o = (none, M) := ev_vret rfl rfl
theorem s161_0 : ji_Ev C 161 0 M (some (.ref a) :: l) st o ↔ ji_Ev C 161 1 M (some (.ref a) :: l) (.ref a :: st) o := ev_go (S := (1, M, (some (.ref a) :: l), (.ref a :: st))) rfl rfl rfl
theorem s161_1 : ji_Ev C 161 1 M lv (.ref a :: st) o ↔ ji_kd M a = some (0, 9) ∧ ji_Ev C 161 4 M lv (ji_rv (ji_gR M a 12) :: st) o := ev_getR (k := 161) rfl fd_9_48 rfl
theorem s161_4 : ji_Ev C 161 4 M (l0 :: some (.int x) :: l) st o ↔ ji_Ev C 161 5 M (l0 :: some (.int x) :: l) (.int x :: st) o := ev_go (S := (5, M, (l0 :: some (.int x) :: l), (.int x :: st))) rfl rfl rfl
theorem s161_5 : ji_Ev C 161 5 M lv (.int x :: .ref a :: st) o ↔ ji_evA (ji_kd M a) (fun n => vp_in x n ∧ ji_Ev C 161 6 M lv (.int (ji_gI M a x.toNatClampNeg) :: st) o) := ev_iald rfl
theorem s161_6 : ji_Ev C 161 6 M lv st o ↔ ji_Ev C 161 7 M lv (.int 2 :: st) o := ev_go (S := (7, M, lv, (.int 2 :: st))) rfl rfl rfl
theorem s161_7 : ji_Ev C 161 7 M lv (.int y :: .int x :: st) o ↔ if x = y then ji_Ev C 161 10 M lv st o else ji_Ev C 161 24 M lv st o := ev_brc (c := .ne) rfl (by decide) rfl
theorem s161_10 : ji_Ev C 161 10 M (some (.ref a) :: l) st o ↔ ji_Ev C 161 11 M (some (.ref a) :: l) (.ref a :: st) o := ev_go (S := (11, M, (some (.ref a) :: l), (.ref a :: st))) rfl rfl rfl
theorem s161_11 : ji_Ev C 161 11 M lv (.ref a :: st) o ↔ ji_kd M a = some (0, 9) ∧ ji_Ev C 161 14 M lv (ji_rv (ji_gR M a 8) :: st) o := ev_getR (k := 161) rfl fd_9_36 rfl
theorem s161_14 : ji_Ev C 161 14 M (l0 :: some (.int x) :: l) st o ↔ ji_Ev C 161 15 M (l0 :: some (.int x) :: l) (.int x :: st) o := ev_go (S := (15, M, (l0 :: some (.int x) :: l), (.int x :: st))) rfl rfl rfl
theorem s161_15 : ji_Ev C 161 15 M lv (.int x :: .ref a :: st) o ↔ ji_evA (ji_kd M a) (fun n => vp_in x n ∧ ji_Ev C 161 16 M lv (.int (ji_gI M a x.toNatClampNeg) :: st) o) := ev_iald rfl
theorem s161_16 : ji_Ev C 161 16 M lv st o ↔ ji_Ev C 161 18 M lv (.int 20 :: st) o := ev_go (S := (18, M, lv, (.int 20 :: st))) rfl rfl rfl
theorem s161_18 : ji_Ev C 161 18 M lv (.int y :: .int x :: st) o ↔ ¬ y = 0 ∧ ji_Ev C 161 19 M lv (.int (x / y) :: st) o := ev_dvI rfl
theorem s161_19 : ji_Ev C 161 19 M lv st o ↔ ji_Ev C 161 20 M lv (.int 1 :: st) o := ev_go (S := (20, M, lv, (.int 1 :: st))) rfl rfl rfl
theorem s161_20 : ji_Ev C 161 20 M lv (.int y :: .int x :: st) o ↔ ji_Ev C 161 21 M lv (.int (x + y) :: st) o := ev_go (S := (21, M, lv, (.int (x + y) :: st))) rfl rfl rfl
theorem s161_21 : ji_Ev C 161 21 M lv st o ↔ ji_Ev C 161 53 M lv st o := ev_gt rfl (by decide) rfl
theorem s161_24 : ji_Ev C 161 24 M (some (.ref a) :: l) st o ↔ ji_Ev C 161 25 M (some (.ref a) :: l) (.ref a :: st) o := ev_go (S := (25, M, (some (.ref a) :: l), (.ref a :: st))) rfl rfl rfl
theorem s161_25 : ji_Ev C 161 25 M lv (.ref a :: st) o ↔ ji_kd M a = some (0, 9) ∧ ji_Ev C 161 28 M lv (ji_rv (ji_gR M a 12) :: st) o := ev_getR (k := 161) rfl fd_9_48 rfl
theorem s161_28 : ji_Ev C 161 28 M (l0 :: some (.int x) :: l) st o ↔ ji_Ev C 161 29 M (l0 :: some (.int x) :: l) (.int x :: st) o := ev_go (S := (29, M, (l0 :: some (.int x) :: l), (.int x :: st))) rfl rfl rfl
theorem s161_29 : ji_Ev C 161 29 M lv (.int x :: .ref a :: st) o ↔ ji_evA (ji_kd M a) (fun n => vp_in x n ∧ ji_Ev C 161 30 M lv (.int (ji_gI M a x.toNatClampNeg) :: st) o) := ev_iald rfl
theorem s161_30 : ji_Ev C 161 30 M lv st o ↔ ji_Ev C 161 31 M lv (.int 3 :: st) o := ev_go (S := (31, M, lv, (.int 3 :: st))) rfl rfl rfl
theorem s161_31 : ji_Ev C 161 31 M lv (.int y :: .int x :: st) o ↔ if x = y then ji_Ev C 161 34 M lv st o else ji_Ev C 161 38 M lv st o := ev_brc (c := .ne) rfl (by decide) rfl
theorem s161_34 : ji_Ev C 161 34 M lv st o ↔ ji_Ev C 161 35 M lv (.int 2 :: st) o := ev_go (S := (35, M, lv, (.int 2 :: st))) rfl rfl rfl
theorem s161_35 : ji_Ev C 161 35 M lv st o ↔ ji_Ev C 161 53 M lv st o := ev_gt rfl (by decide) rfl
theorem s161_38 : ji_Ev C 161 38 M (some (.ref a) :: l) st o ↔ ji_Ev C 161 39 M (some (.ref a) :: l) (.ref a :: st) o := ev_go (S := (39, M, (some (.ref a) :: l), (.ref a :: st))) rfl rfl rfl
theorem s161_39 : ji_Ev C 161 39 M lv (.ref a :: st) o ↔ ji_kd M a = some (0, 9) ∧ ji_Ev C 161 42 M lv (ji_rv (ji_gR M a 12) :: st) o := ev_getR (k := 161) rfl fd_9_48 rfl
theorem s161_42 : ji_Ev C 161 42 M (l0 :: some (.int x) :: l) st o ↔ ji_Ev C 161 43 M (l0 :: some (.int x) :: l) (.int x :: st) o := ev_go (S := (43, M, (l0 :: some (.int x) :: l), (.int x :: st))) rfl rfl rfl
theorem s161_43 : ji_Ev C 161 43 M lv (.int x :: .ref a :: st) o ↔ ji_evA (ji_kd M a) (fun n => vp_in x n ∧ ji_Ev C 161 44 M lv (.int (ji_gI M a x.toNatClampNeg) :: st) o) := ev_iald rfl
theorem s161_44 : ji_Ev C 161 44 M lv st o ↔ ji_Ev C 161 45 M lv (.int 5 :: st) o := ev_go (S := (45, M, lv, (.int 5 :: st))) rfl rfl rfl
theorem s161_45 : ji_Ev C 161 45 M lv (.int y :: .int x :: st) o ↔ if x = y then ji_Ev C 161 48 M lv st o else ji_Ev C 161 52 M lv st o := ev_brc (c := .ne) rfl (by decide) rfl
theorem s161_48 : ji_Ev C 161 48 M lv st o ↔ ji_Ev C 161 49 M lv (.int 5 :: st) o := ev_go (S := (49, M, lv, (.int 5 :: st))) rfl rfl rfl
theorem s161_49 : ji_Ev C 161 49 M lv st o ↔ ji_Ev C 161 53 M lv st o := ev_gt rfl (by decide) rfl
theorem s161_52 : ji_Ev C 161 52 M lv st o ↔ ji_Ev C 161 53 M lv (.int 0 :: st) o := ev_go (S := (53, M, lv, (.int 0 :: st))) rfl rfl rfl
theorem s161_53 : ji_Ev C 161 53 M lv [.int x] o ↔ o = (some (.int x), M) := ev_ireti rfl rfl
theorem s162_0 : ji_Ev C 162 0 M (l0 :: some (.int x) :: l) st o ↔ ji_Ev C 162 1 M (l0 :: some (.int x) :: l) (.int x :: st) o := ev_go (S := (1, M, (l0 :: some (.int x) :: l), (.int x :: st))) rfl rfl rfl
theorem s162_1 : ji_Ev C 162 1 M lv st o ↔ ji_Ev C 162 2 M lv (.int 1 :: st) o := ev_go (S := (2, M, lv, (.int 1 :: st))) rfl rfl rfl
theorem s162_2 : ji_Ev C 162 2 M lv (.int y :: .int x :: st) o ↔ if x = y then ji_Ev C 162 5 M lv st o else ji_Ev C 162 17 M lv st o := ev_brc (c := .ne) rfl (by decide) rfl
theorem s162_5 : ji_Ev C 162 5 M lv st o ↔ ji_Ev C 162 6 M lv (.int 2 :: st) o := ev_go (S := (6, M, lv, (.int 2 :: st))) rfl rfl rfl
theorem s162_6 : ji_Ev C 162 6 M (some (.ref a) :: l) st o ↔ ji_Ev C 162 7 M (some (.ref a) :: l) (.ref a :: st) o := ev_go (S := (7, M, (some (.ref a) :: l), (.ref a :: st))) rfl rfl rfl
theorem s162_7 : ji_Ev C 162 7 M lv (.ref a :: st) o ↔ ji_kd M a = some (0, 9) ∧ ji_Ev C 162 10 M lv (.int (ji_gI M a 1) :: st) o := ev_getI (k := 162) rfl fd_9_13 rfl
theorem s162_10 : ji_Ev C 162 10 M lv st o ↔ ji_Ev C 162 12 M lv (.int 10 :: st) o := ev_go (S := (12, M, lv, (.int 10 :: st))) rfl rfl rfl
theorem s162_12 : ji_Ev C 162 12 M lv (.int y :: .int x :: st) o ↔ ¬ y = 0 ∧ ji_Ev C 162 13 M lv (.int (x / y) :: st) o := ev_dvI rfl
theorem s162_13 : ji_Ev C 162 13 M lv (.int y :: .int x :: st) o ↔ ji_Ev C 162 14 M lv (.int (x + y) :: st) o := ev_go (S := (14, M, lv, (.int (x + y) :: st))) rfl rfl rfl
theorem s162_14 : ji_Ev C 162 14 M lv st o ↔ ji_Ev C 162 48 M lv st o := ev_gt rfl (by decide) rfl
theorem s162_17 : ji_Ev C 162 17 M (l0 :: some (.int x) :: l) st o ↔ ji_Ev C 162 18 M (l0 :: some (.int x) :: l) (.int x :: st) o := ev_go (S := (18, M, (l0 :: some (.int x) :: l), (.int x :: st))) rfl rfl rfl
theorem s162_18 : ji_Ev C 162 18 M lv st o ↔ ji_Ev C 162 19 M lv (.int 3 :: st) o := ev_go (S := (19, M, lv, (.int 3 :: st))) rfl rfl rfl
theorem s162_19 : ji_Ev C 162 19 M lv (.int y :: .int x :: st) o ↔ if x = y then ji_Ev C 162 22 M lv st o else ji_Ev C 162 26 M lv st o := ev_brc (c := .ne) rfl (by decide) rfl
theorem s162_22 : ji_Ev C 162 22 M lv st o ↔ ji_Ev C 162 23 M lv (.int 1 :: st) o := ev_go (S := (23, M, lv, (.int 1 :: st))) rfl rfl rfl
theorem s162_23 : ji_Ev C 162 23 M lv st o ↔ ji_Ev C 162 48 M lv st o := ev_gt rfl (by decide) rfl
theorem s162_26 : ji_Ev C 162 26 M (l0 :: some (.int x) :: l) st o ↔ ji_Ev C 162 27 M (l0 :: some (.int x) :: l) (.int x :: st) o := ev_go (S := (27, M, (l0 :: some (.int x) :: l), (.int x :: st))) rfl rfl rfl
theorem s162_27 : ji_Ev C 162 27 M lv st o ↔ ji_Ev C 162 28 M lv (.int 4 :: st) o := ev_go (S := (28, M, lv, (.int 4 :: st))) rfl rfl rfl
theorem s162_28 : ji_Ev C 162 28 M lv (.int y :: .int x :: st) o ↔ if x = y then ji_Ev C 162 31 M lv st o else ji_Ev C 162 47 M lv st o := ev_brc (c := .ne) rfl (by decide) rfl
theorem s162_31 : ji_Ev C 162 31 M lv st o ↔ ji_Ev C 162 32 M lv (.int 2 :: st) o := ev_go (S := (32, M, lv, (.int 2 :: st))) rfl rfl rfl
theorem s162_32 : ji_Ev C 162 32 M lv st o ↔ ji_Ev C 162 33 M lv (.int 2 :: st) o := ev_go (S := (33, M, lv, (.int 2 :: st))) rfl rfl rfl
theorem s162_33 : ji_Ev C 162 33 M (some (.ref a) :: l) st o ↔ ji_Ev C 162 34 M (some (.ref a) :: l) (.ref a :: st) o := ev_go (S := (34, M, (some (.ref a) :: l), (.ref a :: st))) rfl rfl rfl
theorem s162_34 : ji_Ev C 162 34 M lv (.ref a :: st) o ↔ ji_kd M a = some (0, 9) ∧ ji_Ev C 162 37 M lv (.int (ji_gI M a 1) :: st) o := ev_getI (k := 162) rfl fd_9_13 rfl
theorem s162_37 : ji_Ev C 162 37 M lv st o ↔ ji_Ev C 162 39 M lv (.int 10 :: st) o := ev_go (S := (39, M, lv, (.int 10 :: st))) rfl rfl rfl
theorem s162_39 : ji_Ev C 162 39 M lv (.int y :: .int x :: st) o ↔ ¬ y = 0 ∧ ji_Ev C 162 40 M lv (.int (x / y) :: st) o := ev_dvI rfl
theorem s162_40 : ji_Ev C 162 40 M lv (.int y :: .int x :: st) o ↔ ji_Ev C 162 41 M lv (.int (x + y) :: st) o := ev_go (S := (41, M, lv, (.int (x + y) :: st))) rfl rfl rfl
theorem s162_41 : ji_Ev C 162 41 M lv (.int y :: .int x :: st) o ↔ ji_Ev C 162 42 M lv (.int (x * y) :: st) o := ev_go (S := (42, M, lv, (.int (x * y) :: st))) rfl rfl rfl
theorem s162_42 : ji_Ev C 162 42 M lv st o ↔ ji_Ev C 162 43 M lv (.int 5 :: st) o := ev_go (S := (43, M, lv, (.int 5 :: st))) rfl rfl rfl
theorem s162_43 : ji_Ev C 162 43 M lv (.int y :: .int x :: st) o ↔ ji_Ev C 162 44 M lv (.int (x + y) :: st) o := ev_go (S := (44, M, lv, (.int (x + y) :: st))) rfl rfl rfl
theorem s162_44 : ji_Ev C 162 44 M lv st o ↔ ji_Ev C 162 48 M lv st o := ev_gt rfl (by decide) rfl
theorem s162_47 : ji_Ev C 162 47 M lv st o ↔ ji_Ev C 162 48 M lv (.int 0 :: st) o := ev_go (S := (48, M, lv, (.int 0 :: st))) rfl rfl rfl
theorem s162_48 : ji_Ev C 162 48 M lv [.int x] o ↔ o = (some (.int x), M) := ev_ireti rfl rfl
theorem s163_0 : ji_Ev C 163 0 M (l0 :: some (.int x) :: l) st o ↔ ji_Ev C 163 1 M (l0 :: some (.int x) :: l) (.int x :: st) o := ev_go (S := (1, M, (l0 :: some (.int x) :: l), (.int x :: st))) rfl rfl rfl
theorem s163_1 : ji_Ev C 163 1 M lv st o ↔ ji_Ev C 163 2 M lv (.int 1 :: st) o := ev_go (S := (2, M, lv, (.int 1 :: st))) rfl rfl rfl
theorem s163_2 : ji_Ev C 163 2 M lv (.int y :: .int x :: st) o ↔ if x = y then ji_Ev C 163 5 M lv st o else ji_Ev C 163 9 M lv st o := ev_brc (c := .ne) rfl (by decide) rfl
theorem s163_5 : ji_Ev C 163 5 M lv st o ↔ ji_Ev C 163 6 M lv (.int 3 :: st) o := ev_go (S := (6, M, lv, (.int 3 :: st))) rfl rfl rfl
theorem s163_6 : ji_Ev C 163 6 M lv st o ↔ ji_Ev C 163 34 M lv st o := ev_gt rfl (by decide) rfl
theorem s163_9 : ji_Ev C 163 9 M (l0 :: some (.int x) :: l) st o ↔ ji_Ev C 163 10 M (l0 :: some (.int x) :: l) (.int x :: st) o := ev_go (S := (10, M, (l0 :: some (.int x) :: l), (.int x :: st))) rfl rfl rfl
theorem s163_10 : ji_Ev C 163 10 M lv st o ↔ ji_Ev C 163 11 M lv (.int 3 :: st) o := ev_go (S := (11, M, lv, (.int 3 :: st))) rfl rfl rfl
theorem s163_11 : ji_Ev C 163 11 M lv (.int y :: .int x :: st) o ↔ if x = y then ji_Ev C 163 19 M lv st o else ji_Ev C 163 14 M lv st o := ev_brc (c := .eq) rfl (by decide) rfl
theorem s163_14 : ji_Ev C 163 14 M (l0 :: some (.int x) :: l) st o ↔ ji_Ev C 163 15 M (l0 :: some (.int x) :: l) (.int x :: st) o := ev_go (S := (15, M, (l0 :: some (.int x) :: l), (.int x :: st))) rfl rfl rfl
theorem s163_15 : ji_Ev C 163 15 M lv st o ↔ ji_Ev C 163 16 M lv (.int 5 :: st) o := ev_go (S := (16, M, lv, (.int 5 :: st))) rfl rfl rfl
theorem s163_16 : ji_Ev C 163 16 M lv (.int y :: .int x :: st) o ↔ if x = y then ji_Ev C 163 19 M lv st o else ji_Ev C 163 23 M lv st o := ev_brc (c := .ne) rfl (by decide) rfl
theorem s163_19 : ji_Ev C 163 19 M lv st o ↔ ji_Ev C 163 20 M lv (.int 1 :: st) o := ev_go (S := (20, M, lv, (.int 1 :: st))) rfl rfl rfl
theorem s163_20 : ji_Ev C 163 20 M lv st o ↔ ji_Ev C 163 34 M lv st o := ev_gt rfl (by decide) rfl
theorem s163_23 : ji_Ev C 163 23 M (l0 :: some (.int x) :: l) st o ↔ ji_Ev C 163 24 M (l0 :: some (.int x) :: l) (.int x :: st) o := ev_go (S := (24, M, (l0 :: some (.int x) :: l), (.int x :: st))) rfl rfl rfl
theorem s163_24 : ji_Ev C 163 24 M lv st o ↔ ji_Ev C 163 25 M lv (.int 4 :: st) o := ev_go (S := (25, M, lv, (.int 4 :: st))) rfl rfl rfl
theorem s163_25 : ji_Ev C 163 25 M lv (.int y :: .int x :: st) o ↔ if x = y then ji_Ev C 163 28 M lv st o else ji_Ev C 163 33 M lv st o := ev_brc (c := .ne) rfl (by decide) rfl
theorem s163_28 : ji_Ev C 163 28 M lv st o ↔ ji_Ev C 163 30 M lv (.int 7 :: st) o := ev_go (S := (30, M, lv, (.int 7 :: st))) rfl rfl rfl
theorem s163_30 : ji_Ev C 163 30 M lv st o ↔ ji_Ev C 163 34 M lv st o := ev_gt rfl (by decide) rfl
theorem s163_33 : ji_Ev C 163 33 M lv st o ↔ ji_Ev C 163 34 M lv (.int 0 :: st) o := ev_go (S := (34, M, lv, (.int 0 :: st))) rfl rfl rfl
theorem s163_34 : ji_Ev C 163 34 M lv [.int x] o ↔ o = (some (.int x), M) := ev_ireti rfl rfl
theorem s164_0 : ji_Ev C 164 0 M (some (.ref a) :: l) st o ↔ ji_Ev C 164 1 M (some (.ref a) :: l) (.ref a :: st) o := ev_go (S := (1, M, (some (.ref a) :: l), (.ref a :: st))) rfl rfl rfl
theorem s164_1 : ji_Ev C 164 1 M (l0 :: some (.int x) :: l) st o ↔ ji_Ev C 164 2 M (l0 :: some (.int x) :: l) (.int x :: st) o := ev_go (S := (2, M, (l0 :: some (.int x) :: l), (.int x :: st))) rfl rfl rfl
theorem s164_2 : ji_Ev C 164 2 M lv st o ↔ ji_Ev C 164 3 M lv (.int 0 :: st) o := ev_go (S := (3, M, lv, (.int 0 :: st))) rfl rfl rfl
theorem s164_3 : ji_Ev C 164 3 M lv st o ↔ ji_Ev C 164 6 M lv (.int 3999 :: st) o := ev_go (S := (6, M, lv, (.int 3999 :: st))) rfl rfl rfl
theorem s164_6 : ji_Ev C 164 6 M lv (p2 :: p1 :: p0 :: .ref a :: st) o ↔ (ji_rcb M 9 (.ref a) = true ∧ ji_ok8 st) ∧ ji_evC (C 158 [.ref a, p0, p1, p2] M) (fun v M' => ji_Ev C 164 9 M' lv (v.toList ++ st) o) := ev_inv (k := 164) rfl cd_9_255 rfl
theorem s164_9 : ji_Ev C 164 9 M lv (.int x :: st) o ↔ if x = 0 then ji_Ev C 164 47 M lv st o else ji_Ev C 164 12 M lv st o := ev_brz (c := .eq) rfl (by decide) rfl
theorem s164_12 : ji_Ev C 164 12 M (some (.ref a) :: l) st o ↔ ji_Ev C 164 13 M (some (.ref a) :: l) (.ref a :: st) o := ev_go (S := (13, M, (some (.ref a) :: l), (.ref a :: st))) rfl rfl rfl
theorem s164_13 : ji_Ev C 164 13 M (l0 :: some (.int x) :: l) st o ↔ ji_Ev C 164 14 M (l0 :: some (.int x) :: l) (.int x :: st) o := ev_go (S := (14, M, (l0 :: some (.int x) :: l), (.int x :: st))) rfl rfl rfl
theorem s164_14 : ji_Ev C 164 14 M lv st o ↔ ji_Ev C 164 16 M lv (.int 100 :: st) o := ev_go (S := (16, M, lv, (.int 100 :: st))) rfl rfl rfl
theorem s164_16 : ji_Ev C 164 16 M lv (.int y :: .int x :: st) o ↔ ¬ y = 0 ∧ ji_Ev C 164 17 M lv (.int (x / y) :: st) o := ev_dvI rfl
theorem s164_17 : ji_Ev C 164 17 M lv st o ↔ ji_Ev C 164 19 M lv (.int 10 :: st) o := ev_go (S := (19, M, lv, (.int 10 :: st))) rfl rfl rfl
theorem s164_19 : ji_Ev C 164 19 M lv (.int y :: .int x :: st) o ↔ ¬ y = 0 ∧ ji_Ev C 164 20 M lv (.int (x - x / y * y) :: st) o := ev_dvR rfl
theorem s164_20 : ji_Ev C 164 20 M lv st o ↔ ji_Ev C 164 21 M lv (.int 0 :: st) o := ev_go (S := (21, M, lv, (.int 0 :: st))) rfl rfl rfl
theorem s164_21 : ji_Ev C 164 21 M lv st o ↔ ji_Ev C 164 22 M lv (.int 3 :: st) o := ev_go (S := (22, M, lv, (.int 3 :: st))) rfl rfl rfl
theorem s164_22 : ji_Ev C 164 22 M lv (p2 :: p1 :: p0 :: .ref a :: st) o ↔ (ji_rcb M 9 (.ref a) = true ∧ ji_ok8 st) ∧ ji_evC (C 158 [.ref a, p0, p1, p2] M) (fun v M' => ji_Ev C 164 25 M' lv (v.toList ++ st) o) := ev_inv (k := 164) rfl cd_9_255 rfl
theorem s164_25 : ji_Ev C 164 25 M lv (.int x :: st) o ↔ if x = 0 then ji_Ev C 164 47 M lv st o else ji_Ev C 164 28 M lv st o := ev_brz (c := .eq) rfl (by decide) rfl
theorem s164_28 : ji_Ev C 164 28 M (l0 :: some (.int x) :: l) st o ↔ ji_Ev C 164 29 M (l0 :: some (.int x) :: l) (.int x :: st) o := ev_go (S := (29, M, (l0 :: some (.int x) :: l), (.int x :: st))) rfl rfl rfl
theorem s164_29 : ji_Ev C 164 29 M lv st o ↔ ji_Ev C 164 31 M lv (.int 100 :: st) o := ev_go (S := (31, M, lv, (.int 100 :: st))) rfl rfl rfl
theorem s164_31 : ji_Ev C 164 31 M lv (.int y :: .int x :: st) o ↔ ¬ y = 0 ∧ ji_Ev C 164 32 M lv (.int (x - x / y * y) :: st) o := ev_dvR rfl
theorem s164_32 : ji_Ev C 164 32 M lv (.int x :: st) o ↔ if x = 0 then ji_Ev C 164 47 M lv st o else ji_Ev C 164 35 M lv st o := ev_brz (c := .eq) rfl (by decide) rfl
theorem s164_35 : ji_Ev C 164 35 M (some (.ref a) :: l) st o ↔ ji_Ev C 164 36 M (some (.ref a) :: l) (.ref a :: st) o := ev_go (S := (36, M, (some (.ref a) :: l), (.ref a :: st))) rfl rfl rfl
theorem s164_36 : ji_Ev C 164 36 M (l0 :: l1 :: some (.int x) :: l) st o ↔ ji_Ev C 164 37 M (l0 :: l1 :: some (.int x) :: l) (.int x :: st) o := ev_go (S := (37, M, (l0 :: l1 :: some (.int x) :: l), (.int x :: st))) rfl rfl rfl
theorem s164_37 : ji_Ev C 164 37 M lv st o ↔ ji_Ev C 164 38 M lv (.int 0 :: st) o := ev_go (S := (38, M, lv, (.int 0 :: st))) rfl rfl rfl
theorem s164_38 : ji_Ev C 164 38 M lv st o ↔ ji_Ev C 164 41 M lv (.int 999 :: st) o := ev_go (S := (41, M, lv, (.int 999 :: st))) rfl rfl rfl
theorem s164_41 : ji_Ev C 164 41 M lv (p2 :: p1 :: p0 :: .ref a :: st) o ↔ (ji_rcb M 9 (.ref a) = true ∧ ji_ok8 st) ∧ ji_evC (C 158 [.ref a, p0, p1, p2] M) (fun v M' => ji_Ev C 164 44 M' lv (v.toList ++ st) o) := ev_inv (k := 164) rfl cd_9_255 rfl
theorem s164_44 : ji_Ev C 164 44 M lv (.int x :: st) o ↔ if x = 0 then ji_Ev C 164 47 M lv st o else ji_Ev C 164 50 M lv st o := ev_brz (c := .ne) rfl (by decide) rfl
theorem s164_47 : ji_Ev C 164 47 M lv st o ↔ ji_Ev C 164 49 M lv (.int (-2) :: st) o := ev_go (S := (49, M, lv, (.int (-2) :: st))) rfl rfl rfl
theorem s164_49 : ji_Ev C 164 49 M lv [.int x] o ↔ o = (some (.int x), M) := ev_ireti rfl rfl
theorem s164_50 : ji_Ev C 164 50 M (some (.ref a) :: l) st o ↔ ji_Ev C 164 51 M (some (.ref a) :: l) (.ref a :: st) o := ev_go (S := (51, M, (some (.ref a) :: l), (.ref a :: st))) rfl rfl rfl
theorem s164_51 : ji_Ev C 164 51 M lv (.ref a :: st) o ↔ ji_kd M a = some (0, 9) ∧ ji_Ev C 164 54 M lv (.int (ji_gI M a 4) :: st) o := ev_getI (k := 164) rfl fd_9_22 rfl
theorem s164_54 : ji_Ev C 164 54 M lv st o ↔ ji_Ev C 164 56 M lv (.int 24 :: st) o := ev_go (S := (56, M, lv, (.int 24 :: st))) rfl rfl rfl
theorem s164_56 : ji_Ev C 164 56 M lv (.int y :: .int x :: st) o ↔ if x = y then ji_Ev C 164 59 M lv st o else ji_Ev C 164 62 M lv st o := ev_brc (c := .ne) rfl (by decide) rfl
theorem s164_59 : ji_Ev C 164 59 M lv st o ↔ ji_Ev C 164 61 M lv (.int (-4) :: st) o := ev_go (S := (61, M, lv, (.int (-4) :: st))) rfl rfl rfl
theorem s164_61 : ji_Ev C 164 61 M lv [.int x] o ↔ o = (some (.int x), M) := ev_ireti rfl rfl
theorem s164_62 : ji_Ev C 164 62 M (some (.ref a) :: l) st o ↔ ji_Ev C 164 63 M (some (.ref a) :: l) (.ref a :: st) o := ev_go (S := (63, M, (some (.ref a) :: l), (.ref a :: st))) rfl rfl rfl
theorem s164_63 : ji_Ev C 164 63 M lv (.ref a :: st) o ↔ ji_kd M a = some (0, 9) ∧ ji_Ev C 164 66 M lv (ji_rv (ji_gR M a 6) :: st) o := ev_getR (k := 164) rfl fd_9_29 rfl
theorem s164_66 : ji_Ev C 164 66 M (some (.ref a) :: l) st o ↔ ji_Ev C 164 67 M (some (.ref a) :: l) (.ref a :: st) o := ev_go (S := (67, M, (some (.ref a) :: l), (.ref a :: st))) rfl rfl rfl
theorem s164_67 : ji_Ev C 164 67 M lv (.ref a :: st) o ↔ ji_kd M a = some (0, 9) ∧ ji_Ev C 164 70 M lv (.int (ji_gI M a 4) :: st) o := ev_getI (k := 164) rfl fd_9_22 rfl
theorem s164_70 : ji_Ev C 164 70 M (l0 :: some (.int x) :: l) st o ↔ ji_Ev C 164 71 M (l0 :: some (.int x) :: l) (.int x :: st) o := ev_go (S := (71, M, (l0 :: some (.int x) :: l), (.int x :: st))) rfl rfl rfl
theorem s164_71 : ji_Ev C 164 71 M lv st o ↔ ji_Ev C 164 74 M lv (.int 1000 :: st) o := ev_go (S := (74, M, lv, (.int 1000 :: st))) rfl rfl rfl
theorem s164_74 : ji_Ev C 164 74 M lv (.int y :: .int x :: st) o ↔ ¬ y = 0 ∧ ji_Ev C 164 75 M lv (.int (x / y) :: st) o := ev_dvI rfl
theorem s164_75 : ji_Ev C 164 75 M lv (.int y :: .int x :: .ref a :: st) o ↔ ji_evA (ji_kd M a) (fun n => vp_in x n ∧ ji_Ev C 164 76 (ji_sI M a x.toNatClampNeg y) lv st o) := ev_iast rfl
theorem s164_76 : ji_Ev C 164 76 M (some (.ref a) :: l) st o ↔ ji_Ev C 164 77 M (some (.ref a) :: l) (.ref a :: st) o := ev_go (S := (77, M, (some (.ref a) :: l), (.ref a :: st))) rfl rfl rfl
theorem s164_77 : ji_Ev C 164 77 M lv (.ref a :: st) o ↔ ji_kd M a = some (0, 9) ∧ ji_Ev C 164 80 M lv (ji_rv (ji_gR M a 7) :: st) o := ev_getR (k := 164) rfl fd_9_33 rfl
theorem s164_80 : ji_Ev C 164 80 M (some (.ref a) :: l) st o ↔ ji_Ev C 164 81 M (some (.ref a) :: l) (.ref a :: st) o := ev_go (S := (81, M, (some (.ref a) :: l), (.ref a :: st))) rfl rfl rfl
theorem s164_81 : ji_Ev C 164 81 M lv (.ref a :: st) o ↔ ji_kd M a = some (0, 9) ∧ ji_Ev C 164 84 M lv (.int (ji_gI M a 4) :: st) o := ev_getI (k := 164) rfl fd_9_22 rfl
theorem s164_84 : ji_Ev C 164 84 M (l0 :: some (.int x) :: l) st o ↔ ji_Ev C 164 85 M (l0 :: some (.int x) :: l) (.int x :: st) o := ev_go (S := (85, M, (l0 :: some (.int x) :: l), (.int x :: st))) rfl rfl rfl
theorem s164_85 : ji_Ev C 164 85 M lv st o ↔ ji_Ev C 164 87 M lv (.int 100 :: st) o := ev_go (S := (87, M, lv, (.int 100 :: st))) rfl rfl rfl
theorem s164_87 : ji_Ev C 164 87 M lv (.int y :: .int x :: st) o ↔ ¬ y = 0 ∧ ji_Ev C 164 88 M lv (.int (x / y) :: st) o := ev_dvI rfl
theorem s164_88 : ji_Ev C 164 88 M lv st o ↔ ji_Ev C 164 90 M lv (.int 10 :: st) o := ev_go (S := (90, M, lv, (.int 10 :: st))) rfl rfl rfl
theorem s164_90 : ji_Ev C 164 90 M lv (.int y :: .int x :: st) o ↔ ¬ y = 0 ∧ ji_Ev C 164 91 M lv (.int (x - x / y * y) :: st) o := ev_dvR rfl
theorem s164_91 : ji_Ev C 164 91 M lv (.int y :: .int x :: .ref a :: st) o ↔ ji_evA (ji_kd M a) (fun n => vp_in x n ∧ ji_Ev C 164 92 (ji_sI M a x.toNatClampNeg y) lv st o) := ev_iast rfl
theorem s164_92 : ji_Ev C 164 92 M (some (.ref a) :: l) st o ↔ ji_Ev C 164 93 M (some (.ref a) :: l) (.ref a :: st) o := ev_go (S := (93, M, (some (.ref a) :: l), (.ref a :: st))) rfl rfl rfl
theorem s164_93 : ji_Ev C 164 93 M lv (.ref a :: st) o ↔ ji_kd M a = some (0, 9) ∧ ji_Ev C 164 96 M lv (ji_rv (ji_gR M a 8) :: st) o := ev_getR (k := 164) rfl fd_9_36 rfl
theorem s164_96 : ji_Ev C 164 96 M (some (.ref a) :: l) st o ↔ ji_Ev C 164 97 M (some (.ref a) :: l) (.ref a :: st) o := ev_go (S := (97, M, (some (.ref a) :: l), (.ref a :: st))) rfl rfl rfl
theorem s164_97 : ji_Ev C 164 97 M lv (.ref a :: st) o ↔ ji_kd M a = some (0, 9) ∧ ji_Ev C 164 100 M lv (.int (ji_gI M a 4) :: st) o := ev_getI (k := 164) rfl fd_9_22 rfl
theorem s164_100 : ji_Ev C 164 100 M (l0 :: some (.int x) :: l) st o ↔ ji_Ev C 164 101 M (l0 :: some (.int x) :: l) (.int x :: st) o := ev_go (S := (101, M, (l0 :: some (.int x) :: l), (.int x :: st))) rfl rfl rfl
theorem s164_101 : ji_Ev C 164 101 M lv st o ↔ ji_Ev C 164 103 M lv (.int 100 :: st) o := ev_go (S := (103, M, lv, (.int 100 :: st))) rfl rfl rfl
theorem s164_103 : ji_Ev C 164 103 M lv (.int y :: .int x :: st) o ↔ ¬ y = 0 ∧ ji_Ev C 164 104 M lv (.int (x - x / y * y) :: st) o := ev_dvR rfl
theorem s164_104 : ji_Ev C 164 104 M lv (.int y :: .int x :: .ref a :: st) o ↔ ji_evA (ji_kd M a) (fun n => vp_in x n ∧ ji_Ev C 164 105 (ji_sI M a x.toNatClampNeg y) lv st o) := ev_iast rfl
theorem s164_105 : ji_Ev C 164 105 M (some (.ref a) :: l) st o ↔ ji_Ev C 164 106 M (some (.ref a) :: l) (.ref a :: st) o := ev_go (S := (106, M, (some (.ref a) :: l), (.ref a :: st))) rfl rfl rfl
theorem s164_106 : ji_Ev C 164 106 M lv (.ref a :: st) o ↔ ji_kd M a = some (0, 9) ∧ ji_Ev C 164 109 M lv (ji_rv (ji_gR M a 9) :: st) o := ev_getR (k := 164) rfl fd_9_39 rfl
theorem s164_109 : ji_Ev C 164 109 M (some (.ref a) :: l) st o ↔ ji_Ev C 164 110 M (some (.ref a) :: l) (.ref a :: st) o := ev_go (S := (110, M, (some (.ref a) :: l), (.ref a :: st))) rfl rfl rfl
theorem s164_110 : ji_Ev C 164 110 M lv (.ref a :: st) o ↔ ji_kd M a = some (0, 9) ∧ ji_Ev C 164 113 M lv (.int (ji_gI M a 4) :: st) o := ev_getI (k := 164) rfl fd_9_22 rfl
theorem s164_113 : ji_Ev C 164 113 M (l0 :: l1 :: some (.int x) :: l) st o ↔ ji_Ev C 164 114 M (l0 :: l1 :: some (.int x) :: l) (.int x :: st) o := ev_go (S := (114, M, (l0 :: l1 :: some (.int x) :: l), (.int x :: st))) rfl rfl rfl
theorem s164_114 : ji_Ev C 164 114 M lv (.int y :: .int x :: .ref a :: st) o ↔ ji_evA (ji_kd M a) (fun n => vp_in x n ∧ ji_Ev C 164 115 (ji_sI M a x.toNatClampNeg y) lv st o) := ev_iast rfl
theorem s164_115 : ji_Ev C 164 115 M (some (.ref a) :: l) st o ↔ ji_Ev C 164 116 M (some (.ref a) :: l) (.ref a :: st) o := ev_go (S := (116, M, (some (.ref a) :: l), (.ref a :: st))) rfl rfl rfl
theorem s164_116 : ji_Ev C 164 116 M lv (.ref a :: st) o ↔ ji_kd M a = some (0, 9) ∧ ji_Ev C 164 119 M lv (ji_rv (ji_gR M a 10) :: st) o := ev_getR (k := 164) rfl fd_9_42 rfl
theorem s164_119 : ji_Ev C 164 119 M (some (.ref a) :: l) st o ↔ ji_Ev C 164 120 M (some (.ref a) :: l) (.ref a :: st) o := ev_go (S := (120, M, (some (.ref a) :: l), (.ref a :: st))) rfl rfl rfl
theorem s164_120 : ji_Ev C 164 120 M lv (.ref a :: st) o ↔ ji_kd M a = some (0, 9) ∧ ji_Ev C 164 123 M lv (.int (ji_gI M a 4) :: st) o := ev_getI (k := 164) rfl fd_9_22 rfl
theorem s164_123 : ji_Ev C 164 123 M lv st o ↔ ji_Ev C 164 124 M lv (.int 0 :: st) o := ev_go (S := (124, M, lv, (.int 0 :: st))) rfl rfl rfl
theorem s164_124 : ji_Ev C 164 124 M lv (.int y :: .int x :: .ref a :: st) o ↔ ji_evA (ji_kd M a) (fun n => vp_in x n ∧ ji_Ev C 164 125 (ji_sI M a x.toNatClampNeg y) lv st o) := ev_iast rfl
theorem s164_125 : ji_Ev C 164 125 M (some (.ref a) :: l) st o ↔ ji_Ev C 164 126 M (some (.ref a) :: l) (.ref a :: st) o := ev_go (S := (126, M, (some (.ref a) :: l), (.ref a :: st))) rfl rfl rfl
theorem s164_126 : ji_Ev C 164 126 M lv (.ref a :: st) o ↔ ji_kd M a = some (0, 9) ∧ ji_Ev C 164 129 M lv (ji_rv (ji_gR M a 11) :: st) o := ev_getR (k := 164) rfl fd_9_45 rfl
theorem s164_129 : ji_Ev C 164 129 M (some (.ref a) :: l) st o ↔ ji_Ev C 164 130 M (some (.ref a) :: l) (.ref a :: st) o := ev_go (S := (130, M, (some (.ref a) :: l), (.ref a :: st))) rfl rfl rfl
theorem s164_130 : ji_Ev C 164 130 M lv (.ref a :: st) o ↔ ji_kd M a = some (0, 9) ∧ ji_Ev C 164 133 M lv (.int (ji_gI M a 4) :: st) o := ev_getI (k := 164) rfl fd_9_22 rfl
theorem s164_133 : ji_Ev C 164 133 M lv st o ↔ ji_Ev C 164 134 M lv (.int 0 :: st) o := ev_go (S := (134, M, lv, (.int 0 :: st))) rfl rfl rfl
theorem s164_134 : ji_Ev C 164 134 M lv (.int y :: .int x :: .ref a :: st) o ↔ ji_evA (ji_kd M a) (fun n => vp_in x n ∧ ji_Ev C 164 135 (ji_sI M a x.toNatClampNeg y) lv st o) := ev_iast rfl
theorem s164_135 : ji_Ev C 164 135 M (some (.ref a) :: l) st o ↔ ji_Ev C 164 136 M (some (.ref a) :: l) (.ref a :: st) o := ev_go (S := (136, M, (some (.ref a) :: l), (.ref a :: st))) rfl rfl rfl
theorem s164_136 : ji_Ev C 164 136 M lv (.ref a :: st) o ↔ ji_kd M a = some (0, 9) ∧ ji_Ev C 164 139 M lv (ji_rv (ji_gR M a 12) :: st) o := ev_getR (k := 164) rfl fd_9_48 rfl
theorem s164_139 : ji_Ev C 164 139 M (some (.ref a) :: l) st o ↔ ji_Ev C 164 140 M (some (.ref a) :: l) (.ref a :: st) o := ev_go (S := (140, M, (some (.ref a) :: l), (.ref a :: st))) rfl rfl rfl
theorem s164_140 : ji_Ev C 164 140 M lv (.ref a :: st) o ↔ ji_kd M a = some (0, 9) ∧ ji_Ev C 164 143 M lv (.int (ji_gI M a 4) :: st) o := ev_getI (k := 164) rfl fd_9_22 rfl
theorem s164_143 : ji_Ev C 164 143 M lv st o ↔ ji_Ev C 164 144 M lv (.int 1 :: st) o := ev_go (S := (144, M, lv, (.int 1 :: st))) rfl rfl rfl
theorem s164_144 : ji_Ev C 164 144 M lv (.int y :: .int x :: .ref a :: st) o ↔ ji_evA (ji_kd M a) (fun n => vp_in x n ∧ ji_Ev C 164 145 (ji_sI M a x.toNatClampNeg y) lv st o) := ev_iast rfl
theorem s164_145 : ji_Ev C 164 145 M (some (.ref a) :: l) st o ↔ ji_Ev C 164 146 M (some (.ref a) :: l) (.ref a :: st) o := ev_go (S := (146, M, (some (.ref a) :: l), (.ref a :: st))) rfl rfl rfl
theorem s164_146 : ji_Ev C 164 146 M lv (.ref a :: st) o ↔ ji_kd M a = some (0, 9) ∧ ji_Ev C 164 149 M lv (ji_rv (ji_gR M a 13) :: st) o := ev_getR (k := 164) rfl fd_9_51 rfl
theorem s164_149 : ji_Ev C 164 149 M (some (.ref a) :: l) st o ↔ ji_Ev C 164 150 M (some (.ref a) :: l) (.ref a :: st) o := ev_go (S := (150, M, (some (.ref a) :: l), (.ref a :: st))) rfl rfl rfl
theorem s164_150 : ji_Ev C 164 150 M lv (.ref a :: st) o ↔ ji_kd M a = some (0, 9) ∧ ji_Ev C 164 153 M lv (.int (ji_gI M a 4) :: st) o := ev_getI (k := 164) rfl fd_9_22 rfl
theorem s164_153 : ji_Ev C 164 153 M (some (.ref a) :: l) st o ↔ ji_Ev C 164 154 M (some (.ref a) :: l) (.ref a :: st) o := ev_go (S := (154, M, (some (.ref a) :: l), (.ref a :: st))) rfl rfl rfl
theorem s164_154 : ji_Ev C 164 154 M lv (.ref a :: st) o ↔ ji_kd M a = some (0, 9) ∧ ji_Ev C 164 157 M lv (.int (ji_gI M a 0) :: st) o := ev_getI (k := 164) rfl fd_9_7 rfl
theorem s164_157 : ji_Ev C 164 157 M lv (.int y :: .int x :: .ref a :: st) o ↔ ji_evA (ji_kd M a) (fun n => vp_in x n ∧ ji_Ev C 164 158 (ji_sI M a x.toNatClampNeg y) lv st o) := ev_iast rfl
theorem s164_158 : ji_Ev C 164 158 M (some (.ref a) :: l) st o ↔ ji_Ev C 164 159 M (some (.ref a) :: l) (.ref a :: st) o := ev_go (S := (159, M, (some (.ref a) :: l), (.ref a :: st))) rfl rfl rfl
theorem s164_159 : ji_Ev C 164 159 M lv (.int x :: st) o ↔ ji_Ev C 164 160 M lv (.int x :: .int x :: st) o := ev_go (S := (160, M, lv, (.int x :: .int x :: st))) rfl rfl rfl
theorem s164_159r : ji_Ev C 164 159 M lv (.ref a :: st) o ↔ ji_Ev C 164 160 M lv (.ref a :: .ref a :: st) o := ev_go (S := (160, M, lv, (.ref a :: .ref a :: st))) rfl rfl rfl
theorem s164_160 : ji_Ev C 164 160 M lv (.ref a :: st) o ↔ ji_kd M a = some (0, 9) ∧ ji_Ev C 164 163 M lv (.int (ji_gI M a 4) :: st) o := ev_getI (k := 164) rfl fd_9_22 rfl
theorem s164_163 : ji_Ev C 164 163 M lv st o ↔ ji_Ev C 164 164 M lv (.int 1 :: st) o := ev_go (S := (164, M, lv, (.int 1 :: st))) rfl rfl rfl
theorem s164_164 : ji_Ev C 164 164 M lv (.int y :: .int x :: st) o ↔ ji_Ev C 164 165 M lv (.int (x + y) :: st) o := ev_go (S := (165, M, lv, (.int (x + y) :: st))) rfl rfl rfl
theorem s164_165 : ji_Ev C 164 165 M lv (.int x :: .ref a :: st) o ↔ ji_kd M a = some (0, 9) ∧ ji_Ev C 164 168 (ji_sI M a 4 x) lv st o := ev_putI (k := 164) rfl fd_9_22 rfl (by decide)
theorem s164_168 : ji_Ev C 164 168 M (some (.ref a) :: l) st o ↔ ji_Ev C 164 169 M (some (.ref a) :: l) (.ref a :: st) o := ev_go (S := (169, M, (some (.ref a) :: l), (.ref a :: st))) rfl rfl rfl
theorem s164_169 : ji_Ev C 164 169 M lv (.ref a :: st) o ↔ ji_kd M a = some (0, 9) ∧ ji_Ev C 164 172 M lv (.int (ji_gI M a 4) :: st) o := ev_getI (k := 164) rfl fd_9_22 rfl
theorem s164_172 : ji_Ev C 164 172 M lv st o ↔ ji_Ev C 164 173 M lv (.int 1 :: st) o := ev_go (S := (173, M, lv, (.int 1 :: st))) rfl rfl rfl
theorem s164_173 : ji_Ev C 164 173 M lv (.int y :: .int x :: st) o ↔ ji_Ev C 164 174 M lv (.int (x - y) :: st) o := ev_go (S := (174, M, lv, (.int (x - y) :: st))) rfl rfl rfl
theorem s164_174 : ji_Ev C 164 174 M lv [.int x] o ↔ o = (some (.int x), M) := ev_ireti rfl rfl
theorem s165_0 : ji_Ev C 165 0 M (some (.ref a) :: l) st o ↔ ji_Ev C 165 1 M (some (.ref a) :: l) (.ref a :: st) o := ev_go (S := (1, M, (some (.ref a) :: l), (.ref a :: st))) rfl rfl rfl
theorem s165_1 : ji_Ev C 165 1 M (l0 :: some (.int x) :: l) st o ↔ ji_Ev C 165 2 M (l0 :: some (.int x) :: l) (.int x :: st) o := ev_go (S := (2, M, (l0 :: some (.int x) :: l), (.int x :: st))) rfl rfl rfl
theorem s165_2 : ji_Ev C 165 2 M lv (p0 :: .ref a :: st) o ↔ (ji_rcb M 9 (.ref a) = true ∧ ji_ok8 st) ∧ ji_evC (C 166 [.ref a, p0] M) (fun v M' => ji_Ev C 165 5 M' lv (v.toList ++ st) o) := ev_inv (k := 165) rfl cd_9_275 rfl
theorem s165_5 : ji_Ev C 165 5 M lv (.int x :: st) o ↔ if x = 0 then ji_Ev C 165 8 M lv st o else ji_Ev C 165 11 M lv st o := ev_brz (c := .ne) rfl (by decide) rfl
theorem s165_8 : ji_Ev C 165 8 M lv st o ↔ ji_Ev C 165 10 M lv (.int (-2) :: st) o := ev_go (S := (10, M, lv, (.int (-2) :: st))) rfl rfl rfl
theorem s165_10 : ji_Ev C 165 10 M lv [.int x] o ↔ o = (some (.int x), M) := ev_ireti rfl rfl
theorem s165_11 : ji_Ev C 165 11 M (l0 :: l1 :: some (.int x) :: l) st o ↔ ji_Ev C 165 12 M (l0 :: l1 :: some (.int x) :: l) (.int x :: st) o := ev_go (S := (12, M, (l0 :: l1 :: some (.int x) :: l), (.int x :: st))) rfl rfl rfl
theorem s165_12 : ji_Ev C 165 12 M lv (.int x :: st) o ↔ if x = 0 then ji_Ev C 165 76 M lv st o else if x = 1 then ji_Ev C 165 83 M lv st o else if x = 2 then ji_Ev C 165 90 M lv st o else if x = 3 then ji_Ev C 165 97 M lv st o else if x = 4 then ji_Ev C 165 104 M lv st o else if x = 5 then ji_Ev C 165 111 M lv st o else if x = 6 then ji_Ev C 165 118 M lv st o else if x = 7 then ji_Ev C 165 125 M lv st o else if x = 8 then ji_Ev C 165 132 M lv st o else if x = 9 then ji_Ev C 165 138 M lv st o else if x = 10 then ji_Ev C 165 150 M lv st o else if x = 11 then ji_Ev C 165 161 M lv st o else ji_Ev C 165 172 M lv st o := by
  refine (ev_swT rfl (by decide)).trans ?_
  show ji_Ev C 165 ((12 : Int) + (if x = 0 then 64 else if x = 1 then 71 else if x = 2 then 78 else if x = 3 then 85 else if x = 4 then 92 else if x = 5 then 99 else if x = 6 then 106 else if x = 7 then 113 else if x = 8 then 120 else if x = 9 then 126 else if x = 10 then 138 else if x = 11 then 149 else 160)).toNat M lv st o ↔ _
  by_cases h0 : x = 0
  · rw [if_pos h0, if_pos h0]; exact Iff.rfl
  rw [if_neg h0, if_neg h0]
  by_cases h1 : x = 1
  · rw [if_pos h1, if_pos h1]; exact Iff.rfl
  rw [if_neg h1, if_neg h1]
  by_cases h2 : x = 2
  · rw [if_pos h2, if_pos h2]; exact Iff.rfl
  rw [if_neg h2, if_neg h2]
  by_cases h3 : x = 3
  · rw [if_pos h3, if_pos h3]; exact Iff.rfl
  rw [if_neg h3, if_neg h3]
  by_cases h4 : x = 4
  · rw [if_pos h4, if_pos h4]; exact Iff.rfl
  rw [if_neg h4, if_neg h4]
  by_cases h5 : x = 5
  · rw [if_pos h5, if_pos h5]; exact Iff.rfl
  rw [if_neg h5, if_neg h5]
  by_cases h6 : x = 6
  · rw [if_pos h6, if_pos h6]; exact Iff.rfl
  rw [if_neg h6, if_neg h6]
  by_cases h7 : x = 7
  · rw [if_pos h7, if_pos h7]; exact Iff.rfl
  rw [if_neg h7, if_neg h7]
  by_cases h8 : x = 8
  · rw [if_pos h8, if_pos h8]; exact Iff.rfl
  rw [if_neg h8, if_neg h8]
  by_cases h9 : x = 9
  · rw [if_pos h9, if_pos h9]; exact Iff.rfl
  rw [if_neg h9, if_neg h9]
  by_cases h10 : x = 10
  · rw [if_pos h10, if_pos h10]; exact Iff.rfl
  rw [if_neg h10, if_neg h10]
  by_cases h11 : x = 11
  · rw [if_pos h11, if_pos h11]; exact Iff.rfl
  rw [if_neg h11, if_neg h11]
  exact Iff.rfl
theorem s165_76 : ji_Ev C 165 76 M (some (.ref a) :: l) st o ↔ ji_Ev C 165 77 M (some (.ref a) :: l) (.ref a :: st) o := ev_go (S := (77, M, (some (.ref a) :: l), (.ref a :: st))) rfl rfl rfl
theorem s165_77 : ji_Ev C 165 77 M lv (.ref a :: st) o ↔ ji_kd M a = some (0, 9) ∧ ji_Ev C 165 80 M lv (ji_rv (ji_gR M a 12) :: st) o := ev_getR (k := 165) rfl fd_9_48 rfl
theorem s165_80 : ji_Ev C 165 80 M (l0 :: some (.int x) :: l) st o ↔ ji_Ev C 165 81 M (l0 :: some (.int x) :: l) (.int x :: st) o := ev_go (S := (81, M, (l0 :: some (.int x) :: l), (.int x :: st))) rfl rfl rfl
theorem s165_81 : ji_Ev C 165 81 M lv (.int x :: .ref a :: st) o ↔ ji_evA (ji_kd M a) (fun n => vp_in x n ∧ ji_Ev C 165 82 M lv (.int (ji_gI M a x.toNatClampNeg) :: st) o) := ev_iald rfl
theorem s165_82 : ji_Ev C 165 82 M lv [.int x] o ↔ o = (some (.int x), M) := ev_ireti rfl rfl
theorem s165_83 : ji_Ev C 165 83 M (some (.ref a) :: l) st o ↔ ji_Ev C 165 84 M (some (.ref a) :: l) (.ref a :: st) o := ev_go (S := (84, M, (some (.ref a) :: l), (.ref a :: st))) rfl rfl rfl
theorem s165_84 : ji_Ev C 165 84 M lv (.ref a :: st) o ↔ ji_kd M a = some (0, 9) ∧ ji_Ev C 165 87 M lv (ji_rv (ji_gR M a 6) :: st) o := ev_getR (k := 165) rfl fd_9_29 rfl
theorem s165_87 : ji_Ev C 165 87 M (l0 :: some (.int x) :: l) st o ↔ ji_Ev C 165 88 M (l0 :: some (.int x) :: l) (.int x :: st) o := ev_go (S := (88, M, (l0 :: some (.int x) :: l), (.int x :: st))) rfl rfl rfl
theorem s165_88 : ji_Ev C 165 88 M lv (.int x :: .ref a :: st) o ↔ ji_evA (ji_kd M a) (fun n => vp_in x n ∧ ji_Ev C 165 89 M lv (.int (ji_gI M a x.toNatClampNeg) :: st) o) := ev_iald rfl
theorem s165_89 : ji_Ev C 165 89 M lv [.int x] o ↔ o = (some (.int x), M) := ev_ireti rfl rfl
theorem s165_90 : ji_Ev C 165 90 M (some (.ref a) :: l) st o ↔ ji_Ev C 165 91 M (some (.ref a) :: l) (.ref a :: st) o := ev_go (S := (91, M, (some (.ref a) :: l), (.ref a :: st))) rfl rfl rfl
theorem s165_91 : ji_Ev C 165 91 M lv (.ref a :: st) o ↔ ji_kd M a = some (0, 9) ∧ ji_Ev C 165 94 M lv (ji_rv (ji_gR M a 7) :: st) o := ev_getR (k := 165) rfl fd_9_33 rfl
theorem s165_94 : ji_Ev C 165 94 M (l0 :: some (.int x) :: l) st o ↔ ji_Ev C 165 95 M (l0 :: some (.int x) :: l) (.int x :: st) o := ev_go (S := (95, M, (l0 :: some (.int x) :: l), (.int x :: st))) rfl rfl rfl
theorem s165_95 : ji_Ev C 165 95 M lv (.int x :: .ref a :: st) o ↔ ji_evA (ji_kd M a) (fun n => vp_in x n ∧ ji_Ev C 165 96 M lv (.int (ji_gI M a x.toNatClampNeg) :: st) o) := ev_iald rfl
theorem s165_96 : ji_Ev C 165 96 M lv [.int x] o ↔ o = (some (.int x), M) := ev_ireti rfl rfl
theorem s165_97 : ji_Ev C 165 97 M (some (.ref a) :: l) st o ↔ ji_Ev C 165 98 M (some (.ref a) :: l) (.ref a :: st) o := ev_go (S := (98, M, (some (.ref a) :: l), (.ref a :: st))) rfl rfl rfl
theorem s165_98 : ji_Ev C 165 98 M lv (.ref a :: st) o ↔ ji_kd M a = some (0, 9) ∧ ji_Ev C 165 101 M lv (ji_rv (ji_gR M a 8) :: st) o := ev_getR (k := 165) rfl fd_9_36 rfl
theorem s165_101 : ji_Ev C 165 101 M (l0 :: some (.int x) :: l) st o ↔ ji_Ev C 165 102 M (l0 :: some (.int x) :: l) (.int x :: st) o := ev_go (S := (102, M, (l0 :: some (.int x) :: l), (.int x :: st))) rfl rfl rfl
theorem s165_102 : ji_Ev C 165 102 M lv (.int x :: .ref a :: st) o ↔ ji_evA (ji_kd M a) (fun n => vp_in x n ∧ ji_Ev C 165 103 M lv (.int (ji_gI M a x.toNatClampNeg) :: st) o) := ev_iald rfl
theorem s165_103 : ji_Ev C 165 103 M lv [.int x] o ↔ o = (some (.int x), M) := ev_ireti rfl rfl
theorem s165_104 : ji_Ev C 165 104 M (some (.ref a) :: l) st o ↔ ji_Ev C 165 105 M (some (.ref a) :: l) (.ref a :: st) o := ev_go (S := (105, M, (some (.ref a) :: l), (.ref a :: st))) rfl rfl rfl
theorem s165_105 : ji_Ev C 165 105 M lv (.ref a :: st) o ↔ ji_kd M a = some (0, 9) ∧ ji_Ev C 165 108 M lv (ji_rv (ji_gR M a 9) :: st) o := ev_getR (k := 165) rfl fd_9_39 rfl
theorem s165_108 : ji_Ev C 165 108 M (l0 :: some (.int x) :: l) st o ↔ ji_Ev C 165 109 M (l0 :: some (.int x) :: l) (.int x :: st) o := ev_go (S := (109, M, (l0 :: some (.int x) :: l), (.int x :: st))) rfl rfl rfl
theorem s165_109 : ji_Ev C 165 109 M lv (.int x :: .ref a :: st) o ↔ ji_evA (ji_kd M a) (fun n => vp_in x n ∧ ji_Ev C 165 110 M lv (.int (ji_gI M a x.toNatClampNeg) :: st) o) := ev_iald rfl
theorem s165_110 : ji_Ev C 165 110 M lv [.int x] o ↔ o = (some (.int x), M) := ev_ireti rfl rfl
theorem s165_111 : ji_Ev C 165 111 M (some (.ref a) :: l) st o ↔ ji_Ev C 165 112 M (some (.ref a) :: l) (.ref a :: st) o := ev_go (S := (112, M, (some (.ref a) :: l), (.ref a :: st))) rfl rfl rfl
theorem s165_112 : ji_Ev C 165 112 M lv (.ref a :: st) o ↔ ji_kd M a = some (0, 9) ∧ ji_Ev C 165 115 M lv (ji_rv (ji_gR M a 10) :: st) o := ev_getR (k := 165) rfl fd_9_42 rfl
theorem s165_115 : ji_Ev C 165 115 M (l0 :: some (.int x) :: l) st o ↔ ji_Ev C 165 116 M (l0 :: some (.int x) :: l) (.int x :: st) o := ev_go (S := (116, M, (l0 :: some (.int x) :: l), (.int x :: st))) rfl rfl rfl
theorem s165_116 : ji_Ev C 165 116 M lv (.int x :: .ref a :: st) o ↔ ji_evA (ji_kd M a) (fun n => vp_in x n ∧ ji_Ev C 165 117 M lv (.int (ji_gI M a x.toNatClampNeg) :: st) o) := ev_iald rfl
theorem s165_117 : ji_Ev C 165 117 M lv [.int x] o ↔ o = (some (.int x), M) := ev_ireti rfl rfl
theorem s165_118 : ji_Ev C 165 118 M (some (.ref a) :: l) st o ↔ ji_Ev C 165 119 M (some (.ref a) :: l) (.ref a :: st) o := ev_go (S := (119, M, (some (.ref a) :: l), (.ref a :: st))) rfl rfl rfl
theorem s165_119 : ji_Ev C 165 119 M lv (.ref a :: st) o ↔ ji_kd M a = some (0, 9) ∧ ji_Ev C 165 122 M lv (ji_rv (ji_gR M a 11) :: st) o := ev_getR (k := 165) rfl fd_9_45 rfl
theorem s165_122 : ji_Ev C 165 122 M (l0 :: some (.int x) :: l) st o ↔ ji_Ev C 165 123 M (l0 :: some (.int x) :: l) (.int x :: st) o := ev_go (S := (123, M, (l0 :: some (.int x) :: l), (.int x :: st))) rfl rfl rfl
theorem s165_123 : ji_Ev C 165 123 M lv (.int x :: .ref a :: st) o ↔ ji_evA (ji_kd M a) (fun n => vp_in x n ∧ ji_Ev C 165 124 M lv (.int (ji_gI M a x.toNatClampNeg) :: st) o) := ev_iald rfl
theorem s165_124 : ji_Ev C 165 124 M lv [.int x] o ↔ o = (some (.int x), M) := ev_ireti rfl rfl
theorem s165_125 : ji_Ev C 165 125 M (some (.ref a) :: l) st o ↔ ji_Ev C 165 126 M (some (.ref a) :: l) (.ref a :: st) o := ev_go (S := (126, M, (some (.ref a) :: l), (.ref a :: st))) rfl rfl rfl
theorem s165_126 : ji_Ev C 165 126 M lv (.ref a :: st) o ↔ ji_kd M a = some (0, 9) ∧ ji_Ev C 165 129 M lv (ji_rv (ji_gR M a 13) :: st) o := ev_getR (k := 165) rfl fd_9_51 rfl
theorem s165_129 : ji_Ev C 165 129 M (l0 :: some (.int x) :: l) st o ↔ ji_Ev C 165 130 M (l0 :: some (.int x) :: l) (.int x :: st) o := ev_go (S := (130, M, (l0 :: some (.int x) :: l), (.int x :: st))) rfl rfl rfl
theorem s165_130 : ji_Ev C 165 130 M lv (.int x :: .ref a :: st) o ↔ ji_evA (ji_kd M a) (fun n => vp_in x n ∧ ji_Ev C 165 131 M lv (.int (ji_gI M a x.toNatClampNeg) :: st) o) := ev_iald rfl
theorem s165_131 : ji_Ev C 165 131 M lv [.int x] o ↔ o = (some (.int x), M) := ev_ireti rfl rfl
theorem s165_132 : ji_Ev C 165 132 M (some (.ref a) :: l) st o ↔ ji_Ev C 165 133 M (some (.ref a) :: l) (.ref a :: st) o := ev_go (S := (133, M, (some (.ref a) :: l), (.ref a :: st))) rfl rfl rfl
theorem s165_133 : ji_Ev C 165 133 M (l0 :: some (.int x) :: l) st o ↔ ji_Ev C 165 134 M (l0 :: some (.int x) :: l) (.int x :: st) o := ev_go (S := (134, M, (l0 :: some (.int x) :: l), (.int x :: st))) rfl rfl rfl
theorem s165_134 : ji_Ev C 165 134 M lv (p0 :: .ref a :: st) o ↔ (ji_rcb M 9 (.ref a) = true ∧ ji_ok8 st) ∧ ji_evC (C 161 [.ref a, p0] M) (fun v M' => ji_Ev C 165 137 M' lv (v.toList ++ st) o) := ev_inv (k := 165) rfl cd_9_262 rfl
theorem s165_137 : ji_Ev C 165 137 M lv [.int x] o ↔ o = (some (.int x), M) := ev_ireti rfl rfl
theorem s165_138 : ji_Ev C 165 138 M (some (.ref a) :: l) st o ↔ ji_Ev C 165 139 M (some (.ref a) :: l) (.ref a :: st) o := ev_go (S := (139, M, (some (.ref a) :: l), (.ref a :: st))) rfl rfl rfl
theorem s165_139 : ji_Ev C 165 139 M (l0 :: some (.int x) :: l) st o ↔ ji_Ev C 165 140 M (l0 :: some (.int x) :: l) (.int x :: st) o := ev_go (S := (140, M, (l0 :: some (.int x) :: l), (.int x :: st))) rfl rfl rfl
theorem s165_140 : ji_Ev C 165 140 M (some (.ref a) :: l) st o ↔ ji_Ev C 165 141 M (some (.ref a) :: l) (.ref a :: st) o := ev_go (S := (141, M, (some (.ref a) :: l), (.ref a :: st))) rfl rfl rfl
theorem s165_141 : ji_Ev C 165 141 M lv (.ref a :: st) o ↔ ji_kd M a = some (0, 9) ∧ ji_Ev C 165 144 M lv (ji_rv (ji_gR M a 12) :: st) o := ev_getR (k := 165) rfl fd_9_48 rfl
theorem s165_144 : ji_Ev C 165 144 M (l0 :: some (.int x) :: l) st o ↔ ji_Ev C 165 145 M (l0 :: some (.int x) :: l) (.int x :: st) o := ev_go (S := (145, M, (l0 :: some (.int x) :: l), (.int x :: st))) rfl rfl rfl
theorem s165_145 : ji_Ev C 165 145 M lv (.int x :: .ref a :: st) o ↔ ji_evA (ji_kd M a) (fun n => vp_in x n ∧ ji_Ev C 165 146 M lv (.int (ji_gI M a x.toNatClampNeg) :: st) o) := ev_iald rfl
theorem s165_146 : ji_Ev C 165 146 M lv (p1 :: p0 :: .ref a :: st) o ↔ (ji_rcb M 9 (.ref a) = true ∧ ji_ok8 st) ∧ ji_evC (C 167 [.ref a, p0, p1] M) (fun v M' => ji_Ev C 165 149 M' lv (v.toList ++ st) o) := ev_inv (k := 165) rfl cd_9_279 rfl
theorem s165_149 : ji_Ev C 165 149 M lv [.int x] o ↔ o = (some (.int x), M) := ev_ireti rfl rfl
theorem s165_150 : ji_Ev C 165 150 M (some (.ref a) :: l) st o ↔ ji_Ev C 165 151 M (some (.ref a) :: l) (.ref a :: st) o := ev_go (S := (151, M, (some (.ref a) :: l), (.ref a :: st))) rfl rfl rfl
theorem s165_151 : ji_Ev C 165 151 M (some (.ref a) :: l) st o ↔ ji_Ev C 165 152 M (some (.ref a) :: l) (.ref a :: st) o := ev_go (S := (152, M, (some (.ref a) :: l), (.ref a :: st))) rfl rfl rfl
theorem s165_152 : ji_Ev C 165 152 M lv (.ref a :: st) o ↔ ji_kd M a = some (0, 9) ∧ ji_Ev C 165 155 M lv (ji_rv (ji_gR M a 12) :: st) o := ev_getR (k := 165) rfl fd_9_48 rfl
theorem s165_155 : ji_Ev C 165 155 M (l0 :: some (.int x) :: l) st o ↔ ji_Ev C 165 156 M (l0 :: some (.int x) :: l) (.int x :: st) o := ev_go (S := (156, M, (l0 :: some (.int x) :: l), (.int x :: st))) rfl rfl rfl
theorem s165_156 : ji_Ev C 165 156 M lv (.int x :: .ref a :: st) o ↔ ji_evA (ji_kd M a) (fun n => vp_in x n ∧ ji_Ev C 165 157 M lv (.int (ji_gI M a x.toNatClampNeg) :: st) o) := ev_iald rfl
theorem s165_157 : ji_Ev C 165 157 M lv (p0 :: .ref a :: st) o ↔ (ji_rcb M 9 (.ref a) = true ∧ ji_ok8 st) ∧ ji_evC (C 162 [.ref a, p0] M) (fun v M' => ji_Ev C 165 160 M' lv (v.toList ++ st) o) := ev_inv (k := 165) rfl cd_9_266 rfl
theorem s165_160 : ji_Ev C 165 160 M lv [.int x] o ↔ o = (some (.int x), M) := ev_ireti rfl rfl
theorem s165_161 : ji_Ev C 165 161 M (some (.ref a) :: l) st o ↔ ji_Ev C 165 162 M (some (.ref a) :: l) (.ref a :: st) o := ev_go (S := (162, M, (some (.ref a) :: l), (.ref a :: st))) rfl rfl rfl
theorem s165_162 : ji_Ev C 165 162 M (some (.ref a) :: l) st o ↔ ji_Ev C 165 163 M (some (.ref a) :: l) (.ref a :: st) o := ev_go (S := (163, M, (some (.ref a) :: l), (.ref a :: st))) rfl rfl rfl
theorem s165_163 : ji_Ev C 165 163 M lv (.ref a :: st) o ↔ ji_kd M a = some (0, 9) ∧ ji_Ev C 165 166 M lv (ji_rv (ji_gR M a 12) :: st) o := ev_getR (k := 165) rfl fd_9_48 rfl
theorem s165_166 : ji_Ev C 165 166 M (l0 :: some (.int x) :: l) st o ↔ ji_Ev C 165 167 M (l0 :: some (.int x) :: l) (.int x :: st) o := ev_go (S := (167, M, (l0 :: some (.int x) :: l), (.int x :: st))) rfl rfl rfl
theorem s165_167 : ji_Ev C 165 167 M lv (.int x :: .ref a :: st) o ↔ ji_evA (ji_kd M a) (fun n => vp_in x n ∧ ji_Ev C 165 168 M lv (.int (ji_gI M a x.toNatClampNeg) :: st) o) := ev_iald rfl
theorem s165_168 : ji_Ev C 165 168 M lv (p0 :: .ref a :: st) o ↔ (ji_rcb M 9 (.ref a) = true ∧ ji_ok8 st) ∧ ji_evC (C 163 [.ref a, p0] M) (fun v M' => ji_Ev C 165 171 M' lv (v.toList ++ st) o) := ev_inv (k := 165) rfl cd_9_269 rfl
theorem s165_171 : ji_Ev C 165 171 M lv [.int x] o ↔ o = (some (.int x), M) := ev_ireti rfl rfl
theorem s165_172 : ji_Ev C 165 172 M lv st o ↔ ji_Ev C 165 174 M lv (.int (-2) :: st) o := ev_go (S := (174, M, lv, (.int (-2) :: st))) rfl rfl rfl
theorem s165_174 : ji_Ev C 165 174 M lv [.int x] o ↔ o = (some (.int x), M) := ev_ireti rfl rfl
theorem s166_0 : ji_Ev C 166 0 M (some (.ref a) :: l) st o ↔ ji_Ev C 166 1 M (some (.ref a) :: l) (.ref a :: st) o := ev_go (S := (1, M, (some (.ref a) :: l), (.ref a :: st))) rfl rfl rfl
theorem s166_1 : ji_Ev C 166 1 M (l0 :: some (.int x) :: l) st o ↔ ji_Ev C 166 2 M (l0 :: some (.int x) :: l) (.int x :: st) o := ev_go (S := (2, M, (l0 :: some (.int x) :: l), (.int x :: st))) rfl rfl rfl
theorem s166_2 : ji_Ev C 166 2 M lv st o ↔ ji_Ev C 166 3 M lv (.int 0 :: st) o := ev_go (S := (3, M, lv, (.int 0 :: st))) rfl rfl rfl
theorem s166_3 : ji_Ev C 166 3 M (some (.ref a) :: l) st o ↔ ji_Ev C 166 4 M (some (.ref a) :: l) (.ref a :: st) o := ev_go (S := (4, M, (some (.ref a) :: l), (.ref a :: st))) rfl rfl rfl
theorem s166_4 : ji_Ev C 166 4 M lv (.ref a :: st) o ↔ ji_kd M a = some (0, 9) ∧ ji_Ev C 166 7 M lv (.int (ji_gI M a 4) :: st) o := ev_getI (k := 166) rfl fd_9_22 rfl
theorem s166_7 : ji_Ev C 166 7 M lv st o ↔ ji_Ev C 166 8 M lv (.int 1 :: st) o := ev_go (S := (8, M, lv, (.int 1 :: st))) rfl rfl rfl
theorem s166_8 : ji_Ev C 166 8 M lv (.int y :: .int x :: st) o ↔ ji_Ev C 166 9 M lv (.int (x - y) :: st) o := ev_go (S := (9, M, lv, (.int (x - y) :: st))) rfl rfl rfl
theorem s166_9 : ji_Ev C 166 9 M lv (p2 :: p1 :: p0 :: .ref a :: st) o ↔ (ji_rcb M 9 (.ref a) = true ∧ ji_ok8 st) ∧ ji_evC (C 158 [.ref a, p0, p1, p2] M) (fun v M' => ji_Ev C 166 12 M' lv (v.toList ++ st) o) := ev_inv (k := 166) rfl cd_9_255 rfl
theorem s166_12 : ji_Ev C 166 12 M lv [.int x] o ↔ narrow .boolean (.int x) = .int x ∧ o = (some (.int x), M) := ev_iretb rfl rfl
theorem s167_0 : ji_Ev C 167 0 M (l0 :: l1 :: some (.int x) :: l) st o ↔ ji_Ev C 167 1 M (l0 :: l1 :: some (.int x) :: l) (.int x :: st) o := ev_go (S := (1, M, (l0 :: l1 :: some (.int x) :: l), (.int x :: st))) rfl rfl rfl
theorem s167_1 : ji_Ev C 167 1 M lv st o ↔ ji_Ev C 167 2 M lv (.int 1 :: st) o := ev_go (S := (2, M, lv, (.int 1 :: st))) rfl rfl rfl
theorem s167_2 : ji_Ev C 167 2 M lv (.int y :: .int x :: st) o ↔ if x = y then ji_Ev C 167 10 M lv st o else ji_Ev C 167 5 M lv st o := ev_brc (c := .eq) rfl (by decide) rfl
theorem s167_5 : ji_Ev C 167 5 M (l0 :: l1 :: some (.int x) :: l) st o ↔ ji_Ev C 167 6 M (l0 :: l1 :: some (.int x) :: l) (.int x :: st) o := ev_go (S := (6, M, (l0 :: l1 :: some (.int x) :: l), (.int x :: st))) rfl rfl rfl
theorem s167_6 : ji_Ev C 167 6 M lv st o ↔ ji_Ev C 167 7 M lv (.int 2 :: st) o := ev_go (S := (7, M, lv, (.int 2 :: st))) rfl rfl rfl
theorem s167_7 : ji_Ev C 167 7 M lv (.int y :: .int x :: st) o ↔ if x = y then ji_Ev C 167 10 M lv st o else ji_Ev C 167 19 M lv st o := ev_brc (c := .ne) rfl (by decide) rfl
theorem s167_10 : ji_Ev C 167 10 M (some (.ref a) :: l) st o ↔ ji_Ev C 167 11 M (some (.ref a) :: l) (.ref a :: st) o := ev_go (S := (11, M, (some (.ref a) :: l), (.ref a :: st))) rfl rfl rfl
theorem s167_11 : ji_Ev C 167 11 M lv (.ref a :: st) o ↔ ji_kd M a = some (0, 9) ∧ ji_Ev C 167 14 M lv (ji_rv (ji_gR M a 8) :: st) o := ev_getR (k := 167) rfl fd_9_36 rfl
theorem s167_14 : ji_Ev C 167 14 M (l0 :: some (.int x) :: l) st o ↔ ji_Ev C 167 15 M (l0 :: some (.int x) :: l) (.int x :: st) o := ev_go (S := (15, M, (l0 :: some (.int x) :: l), (.int x :: st))) rfl rfl rfl
theorem s167_15 : ji_Ev C 167 15 M lv (.int x :: .ref a :: st) o ↔ ji_evA (ji_kd M a) (fun n => vp_in x n ∧ ji_Ev C 167 16 M lv (.int (ji_gI M a x.toNatClampNeg) :: st) o) := ev_iald rfl
theorem s167_16 : ji_Ev C 167 16 M lv st o ↔ ji_Ev C 167 59 M lv st o := ev_gt rfl (by decide) rfl
theorem s167_19 : ji_Ev C 167 19 M (l0 :: l1 :: some (.int x) :: l) st o ↔ ji_Ev C 167 20 M (l0 :: l1 :: some (.int x) :: l) (.int x :: st) o := ev_go (S := (20, M, (l0 :: l1 :: some (.int x) :: l), (.int x :: st))) rfl rfl rfl
theorem s167_20 : ji_Ev C 167 20 M lv st o ↔ ji_Ev C 167 21 M lv (.int 3 :: st) o := ev_go (S := (21, M, lv, (.int 3 :: st))) rfl rfl rfl
theorem s167_21 : ji_Ev C 167 21 M lv (.int y :: .int x :: st) o ↔ if x = y then ji_Ev C 167 29 M lv st o else ji_Ev C 167 24 M lv st o := ev_brc (c := .eq) rfl (by decide) rfl
theorem s167_24 : ji_Ev C 167 24 M (l0 :: l1 :: some (.int x) :: l) st o ↔ ji_Ev C 167 25 M (l0 :: l1 :: some (.int x) :: l) (.int x :: st) o := ev_go (S := (25, M, (l0 :: l1 :: some (.int x) :: l), (.int x :: st))) rfl rfl rfl
theorem s167_25 : ji_Ev C 167 25 M lv st o ↔ ji_Ev C 167 26 M lv (.int 5 :: st) o := ev_go (S := (26, M, lv, (.int 5 :: st))) rfl rfl rfl
theorem s167_26 : ji_Ev C 167 26 M lv (.int y :: .int x :: st) o ↔ if x = y then ji_Ev C 167 29 M lv st o else ji_Ev C 167 40 M lv st o := ev_brc (c := .ne) rfl (by decide) rfl
theorem s167_29 : ji_Ev C 167 29 M lv st o ↔ ji_Ev C 167 30 M lv (.int 2 :: st) o := ev_go (S := (30, M, lv, (.int 2 :: st))) rfl rfl rfl
theorem s167_30 : ji_Ev C 167 30 M (some (.ref a) :: l) st o ↔ ji_Ev C 167 31 M (some (.ref a) :: l) (.ref a :: st) o := ev_go (S := (31, M, (some (.ref a) :: l), (.ref a :: st))) rfl rfl rfl
theorem s167_31 : ji_Ev C 167 31 M lv (.ref a :: st) o ↔ ji_kd M a = some (0, 9) ∧ ji_Ev C 167 34 M lv (ji_rv (ji_gR M a 8) :: st) o := ev_getR (k := 167) rfl fd_9_36 rfl
theorem s167_34 : ji_Ev C 167 34 M (l0 :: some (.int x) :: l) st o ↔ ji_Ev C 167 35 M (l0 :: some (.int x) :: l) (.int x :: st) o := ev_go (S := (35, M, (l0 :: some (.int x) :: l), (.int x :: st))) rfl rfl rfl
theorem s167_35 : ji_Ev C 167 35 M lv (.int x :: .ref a :: st) o ↔ ji_evA (ji_kd M a) (fun n => vp_in x n ∧ ji_Ev C 167 36 M lv (.int (ji_gI M a x.toNatClampNeg) :: st) o) := ev_iald rfl
theorem s167_36 : ji_Ev C 167 36 M lv (.int y :: .int x :: st) o ↔ ji_Ev C 167 37 M lv (.int (x * y) :: st) o := ev_go (S := (37, M, lv, (.int (x * y) :: st))) rfl rfl rfl
theorem s167_37 : ji_Ev C 167 37 M lv st o ↔ ji_Ev C 167 59 M lv st o := ev_gt rfl (by decide) rfl
theorem s167_40 : ji_Ev C 167 40 M (l0 :: l1 :: some (.int x) :: l) st o ↔ ji_Ev C 167 41 M (l0 :: l1 :: some (.int x) :: l) (.int x :: st) o := ev_go (S := (41, M, (l0 :: l1 :: some (.int x) :: l), (.int x :: st))) rfl rfl rfl
theorem s167_41 : ji_Ev C 167 41 M lv st o ↔ ji_Ev C 167 42 M lv (.int 4 :: st) o := ev_go (S := (42, M, lv, (.int 4 :: st))) rfl rfl rfl
theorem s167_42 : ji_Ev C 167 42 M lv (.int y :: .int x :: st) o ↔ if x = y then ji_Ev C 167 45 M lv st o else ji_Ev C 167 58 M lv st o := ev_brc (c := .ne) rfl (by decide) rfl
theorem s167_45 : ji_Ev C 167 45 M (some (.ref a) :: l) st o ↔ ji_Ev C 167 46 M (some (.ref a) :: l) (.ref a :: st) o := ev_go (S := (46, M, (some (.ref a) :: l), (.ref a :: st))) rfl rfl rfl
theorem s167_46 : ji_Ev C 167 46 M lv (.ref a :: st) o ↔ ji_kd M a = some (0, 9) ∧ ji_Ev C 167 49 M lv (ji_rv (ji_gR M a 8) :: st) o := ev_getR (k := 167) rfl fd_9_36 rfl
theorem s167_49 : ji_Ev C 167 49 M (l0 :: some (.int x) :: l) st o ↔ ji_Ev C 167 50 M (l0 :: some (.int x) :: l) (.int x :: st) o := ev_go (S := (50, M, (l0 :: some (.int x) :: l), (.int x :: st))) rfl rfl rfl
theorem s167_50 : ji_Ev C 167 50 M lv (.int x :: .ref a :: st) o ↔ ji_evA (ji_kd M a) (fun n => vp_in x n ∧ ji_Ev C 167 51 M lv (.int (ji_gI M a x.toNatClampNeg) :: st) o) := ev_iald rfl
theorem s167_51 : ji_Ev C 167 51 M lv st o ↔ ji_Ev C 167 52 M lv (.int 2 :: st) o := ev_go (S := (52, M, lv, (.int 2 :: st))) rfl rfl rfl
theorem s167_52 : ji_Ev C 167 52 M lv (.int y :: .int x :: st) o ↔ ¬ y = 0 ∧ ji_Ev C 167 53 M lv (.int (x / y) :: st) o := ev_dvI rfl
theorem s167_53 : ji_Ev C 167 53 M lv st o ↔ ji_Ev C 167 54 M lv (.int 1 :: st) o := ev_go (S := (54, M, lv, (.int 1 :: st))) rfl rfl rfl
theorem s167_54 : ji_Ev C 167 54 M lv (.int y :: .int x :: st) o ↔ ji_Ev C 167 55 M lv (.int (x + y) :: st) o := ev_go (S := (55, M, lv, (.int (x + y) :: st))) rfl rfl rfl
theorem s167_55 : ji_Ev C 167 55 M lv st o ↔ ji_Ev C 167 59 M lv st o := ev_gt rfl (by decide) rfl
theorem s167_58 : ji_Ev C 167 58 M lv st o ↔ ji_Ev C 167 59 M lv (.int 0 :: st) o := ev_go (S := (59, M, lv, (.int 0 :: st))) rfl rfl rfl
theorem s167_59 : ji_Ev C 167 59 M lv [.int x] o ↔ o = (some (.int x), M) := ev_ireti rfl rfl
theorem s168_0 : ji_Ev C 168 0 M (some (.ref a) :: l) st o ↔ ji_Ev C 168 1 M (some (.ref a) :: l) (.ref a :: st) o := ev_go (S := (1, M, (some (.ref a) :: l), (.ref a :: st))) rfl rfl rfl
theorem s168_1 : ji_Ev C 168 1 M (l0 :: some (.int x) :: l) st o ↔ ji_Ev C 168 2 M (l0 :: some (.int x) :: l) (.int x :: st) o := ev_go (S := (2, M, (l0 :: some (.int x) :: l), (.int x :: st))) rfl rfl rfl
theorem s168_2 : ji_Ev C 168 2 M lv (p0 :: .ref a :: st) o ↔ (ji_rcb M 9 (.ref a) = true ∧ ji_ok8 st) ∧ ji_evC (C 166 [.ref a, p0] M) (fun v M' => ji_Ev C 168 5 M' lv (v.toList ++ st) o) := ev_inv (k := 168) rfl cd_9_275 rfl
theorem s168_5 : ji_Ev C 168 5 M lv (.int x :: st) o ↔ if x = 0 then ji_Ev C 168 18 M lv st o else ji_Ev C 168 8 M lv st o := ev_brz (c := .eq) rfl (by decide) rfl
theorem s168_8 : ji_Ev C 168 8 M (some (.ref a) :: l) st o ↔ ji_Ev C 168 9 M (some (.ref a) :: l) (.ref a :: st) o := ev_go (S := (9, M, (some (.ref a) :: l), (.ref a :: st))) rfl rfl rfl
theorem s168_9 : ji_Ev C 168 9 M (l0 :: l1 :: some (.int x) :: l) st o ↔ ji_Ev C 168 10 M (l0 :: l1 :: some (.int x) :: l) (.int x :: st) o := ev_go (S := (10, M, (l0 :: l1 :: some (.int x) :: l), (.int x :: st))) rfl rfl rfl
theorem s168_10 : ji_Ev C 168 10 M lv st o ↔ ji_Ev C 168 11 M lv (.int 0 :: st) o := ev_go (S := (11, M, lv, (.int 0 :: st))) rfl rfl rfl
theorem s168_11 : ji_Ev C 168 11 M lv st o ↔ ji_Ev C 168 12 M lv (.int 5 :: st) o := ev_go (S := (12, M, lv, (.int 5 :: st))) rfl rfl rfl
theorem s168_12 : ji_Ev C 168 12 M lv (p2 :: p1 :: p0 :: .ref a :: st) o ↔ (ji_rcb M 9 (.ref a) = true ∧ ji_ok8 st) ∧ ji_evC (C 158 [.ref a, p0, p1, p2] M) (fun v M' => ji_Ev C 168 15 M' lv (v.toList ++ st) o) := ev_inv (k := 168) rfl cd_9_255 rfl
theorem s168_15 : ji_Ev C 168 15 M lv (.int x :: st) o ↔ if x = 0 then ji_Ev C 168 18 M lv st o else ji_Ev C 168 21 M lv st o := ev_brz (c := .ne) rfl (by decide) rfl
theorem s168_18 : ji_Ev C 168 18 M lv st o ↔ ji_Ev C 168 20 M lv (.int (-2) :: st) o := ev_go (S := (20, M, lv, (.int (-2) :: st))) rfl rfl rfl
theorem s168_20 : ji_Ev C 168 20 M lv [.int x] o ↔ o = (some (.int x), M) := ev_ireti rfl rfl
theorem s168_21 : ji_Ev C 168 21 M (some (.ref a) :: l) st o ↔ ji_Ev C 168 22 M (some (.ref a) :: l) (.ref a :: st) o := ev_go (S := (22, M, (some (.ref a) :: l), (.ref a :: st))) rfl rfl rfl
theorem s168_22 : ji_Ev C 168 22 M (some (.ref a) :: l) st o ↔ ji_Ev C 168 23 M (some (.ref a) :: l) (.ref a :: st) o := ev_go (S := (23, M, (some (.ref a) :: l), (.ref a :: st))) rfl rfl rfl
theorem s168_23 : ji_Ev C 168 23 M lv (.ref a :: st) o ↔ ji_kd M a = some (0, 9) ∧ ji_Ev C 168 26 M lv (ji_rv (ji_gR M a 12) :: st) o := ev_getR (k := 168) rfl fd_9_48 rfl
theorem s168_26 : ji_Ev C 168 26 M (l0 :: some (.int x) :: l) st o ↔ ji_Ev C 168 27 M (l0 :: some (.int x) :: l) (.int x :: st) o := ev_go (S := (27, M, (l0 :: some (.int x) :: l), (.int x :: st))) rfl rfl rfl
theorem s168_27 : ji_Ev C 168 27 M lv (.int x :: .ref a :: st) o ↔ ji_evA (ji_kd M a) (fun n => vp_in x n ∧ ji_Ev C 168 28 M lv (.int (ji_gI M a x.toNatClampNeg) :: st) o) := ev_iald rfl
theorem s168_28 : ji_Ev C 168 28 M (l0 :: l1 :: some (.int x) :: l) st o ↔ ji_Ev C 168 29 M (l0 :: l1 :: some (.int x) :: l) (.int x :: st) o := ev_go (S := (29, M, (l0 :: l1 :: some (.int x) :: l), (.int x :: st))) rfl rfl rfl
theorem s168_29 : ji_Ev C 168 29 M lv (p1 :: p0 :: .ref a :: st) o ↔ (ji_rcb M 9 (.ref a) = true ∧ ji_ok8 st) ∧ ji_evC (C 169 [.ref a, p0, p1] M) (fun v M' => ji_Ev C 168 32 M' lv (v.toList ++ st) o) := ev_inv (k := 168) rfl cd_9_297 rfl
theorem s168_32 : ji_Ev C 168 32 M lv (.int x :: st) o ↔ if x = 0 then ji_Ev C 168 48 M lv st o else ji_Ev C 168 35 M lv st o := ev_brz (c := .eq) rfl (by decide) rfl
theorem s168_35 : ji_Ev C 168 35 M (l0 :: l1 :: some (.int x) :: l) st o ↔ ji_Ev C 168 36 M (l0 :: l1 :: some (.int x) :: l) (.int x :: st) o := ev_go (S := (36, M, (l0 :: l1 :: some (.int x) :: l), (.int x :: st))) rfl rfl rfl
theorem s168_36 : ji_Ev C 168 36 M lv st o ↔ ji_Ev C 168 37 M lv (.int 5 :: st) o := ev_go (S := (37, M, lv, (.int 5 :: st))) rfl rfl rfl
theorem s168_37 : ji_Ev C 168 37 M lv (.int y :: .int x :: st) o ↔ if x = y then ji_Ev C 168 40 M lv st o else ji_Ev C 168 51 M lv st o := ev_brc (c := .ne) rfl (by decide) rfl
theorem s168_40 : ji_Ev C 168 40 M (some (.ref a) :: l) st o ↔ ji_Ev C 168 41 M (some (.ref a) :: l) (.ref a :: st) o := ev_go (S := (41, M, (some (.ref a) :: l), (.ref a :: st))) rfl rfl rfl
theorem s168_41 : ji_Ev C 168 41 M (l0 :: some (.int x) :: l) st o ↔ ji_Ev C 168 42 M (l0 :: some (.int x) :: l) (.int x :: st) o := ev_go (S := (42, M, (l0 :: some (.int x) :: l), (.int x :: st))) rfl rfl rfl
theorem s168_42 : ji_Ev C 168 42 M lv (p0 :: .ref a :: st) o ↔ (ji_rcb M 9 (.ref a) = true ∧ ji_ok8 st) ∧ ji_evC (C 170 [.ref a, p0] M) (fun v M' => ji_Ev C 168 45 M' lv (v.toList ++ st) o) := ev_inv (k := 168) rfl cd_9_301 rfl
theorem s168_45 : ji_Ev C 168 45 M lv (.int x :: st) o ↔ if x = 0 then ji_Ev C 168 48 M lv st o else ji_Ev C 168 51 M lv st o := ev_brz (c := .ne) rfl (by decide) rfl
theorem s168_48 : ji_Ev C 168 48 M lv st o ↔ ji_Ev C 168 50 M lv (.int (-3) :: st) o := ev_go (S := (50, M, lv, (.int (-3) :: st))) rfl rfl rfl
theorem s168_50 : ji_Ev C 168 50 M lv [.int x] o ↔ o = (some (.int x), M) := ev_ireti rfl rfl
theorem s168_51 : ji_Ev C 168 51 M (some (.ref a) :: l) st o ↔ ji_Ev C 168 52 M (some (.ref a) :: l) (.ref a :: st) o := ev_go (S := (52, M, (some (.ref a) :: l), (.ref a :: st))) rfl rfl rfl
theorem s168_52 : ji_Ev C 168 52 M (l0 :: some (.int x) :: l) st o ↔ ji_Ev C 168 53 M (l0 :: some (.int x) :: l) (.int x :: st) o := ev_go (S := (53, M, (l0 :: some (.int x) :: l), (.int x :: st))) rfl rfl rfl
theorem s168_53 : ji_Ev C 168 53 M (l0 :: l1 :: some (.int x) :: l) st o ↔ ji_Ev C 168 54 M (l0 :: l1 :: some (.int x) :: l) (.int x :: st) o := ev_go (S := (54, M, (l0 :: l1 :: some (.int x) :: l), (.int x :: st))) rfl rfl rfl
theorem s168_54 : ji_Ev C 168 54 M lv (p1 :: p0 :: .ref a :: st) o ↔ (ji_rcb M 9 (.ref a) = true ∧ ji_ok8 st) ∧ ji_evC (C 188 [.ref a, p0, p1] M) (fun v M' => ji_Ev C 168 57 M' lv (v.toList ++ st) o) := ev_inv (k := 168) rfl cd_9_304 rfl
theorem s168_57 : ji_Ev C 168 57 M lv (.int x :: st) o ↔ if x = 0 then ji_Ev C 168 60 M lv st o else ji_Ev C 168 63 M lv st o := ev_brz (c := .ne) rfl (by decide) rfl
theorem s168_60 : ji_Ev C 168 60 M lv st o ↔ ji_Ev C 168 62 M lv (.int (-4) :: st) o := ev_go (S := (62, M, lv, (.int (-4) :: st))) rfl rfl rfl
theorem s168_62 : ji_Ev C 168 62 M lv [.int x] o ↔ o = (some (.int x), M) := ev_ireti rfl rfl
theorem s168_63 : ji_Ev C 168 63 M (some (.ref a) :: l) st o ↔ ji_Ev C 168 64 M (some (.ref a) :: l) (.ref a :: st) o := ev_go (S := (64, M, (some (.ref a) :: l), (.ref a :: st))) rfl rfl rfl
theorem s168_64 : ji_Ev C 168 64 M lv (.ref a :: st) o ↔ ji_kd M a = some (0, 9) ∧ ji_Ev C 168 67 M lv (ji_rv (ji_gR M a 12) :: st) o := ev_getR (k := 168) rfl fd_9_48 rfl
theorem s168_67 : ji_Ev C 168 67 M (l0 :: some (.int x) :: l) st o ↔ ji_Ev C 168 68 M (l0 :: some (.int x) :: l) (.int x :: st) o := ev_go (S := (68, M, (l0 :: some (.int x) :: l), (.int x :: st))) rfl rfl rfl
theorem s168_68 : ji_Ev C 168 68 M lv (.int x :: .ref a :: st) o ↔ ji_evA (ji_kd M a) (fun n => vp_in x n ∧ ji_Ev C 168 69 M lv (.int (ji_gI M a x.toNatClampNeg) :: st) o) := ev_iald rfl
theorem s168_69 : ji_Ev C 168 69 M lv (.int x :: st) o ↔ 3 < lv.length ∧ ji_Ev C 168 70 M (ji_s1 lv 3 (.int x)) st o := ev_stI rfl rfl rfl
theorem s168_70 : ji_Ev C 168 70 M (some (.ref a) :: l) st o ↔ ji_Ev C 168 71 M (some (.ref a) :: l) (.ref a :: st) o := ev_go (S := (71, M, (some (.ref a) :: l), (.ref a :: st))) rfl rfl rfl
theorem s168_71 : ji_Ev C 168 71 M lv (.ref a :: st) o ↔ ji_kd M a = some (0, 9) ∧ ji_Ev C 168 74 M lv (ji_rv (ji_gR M a 12) :: st) o := ev_getR (k := 168) rfl fd_9_48 rfl
theorem s168_74 : ji_Ev C 168 74 M (l0 :: some (.int x) :: l) st o ↔ ji_Ev C 168 75 M (l0 :: some (.int x) :: l) (.int x :: st) o := ev_go (S := (75, M, (l0 :: some (.int x) :: l), (.int x :: st))) rfl rfl rfl
theorem s168_75 : ji_Ev C 168 75 M (l0 :: l1 :: some (.int x) :: l) st o ↔ ji_Ev C 168 76 M (l0 :: l1 :: some (.int x) :: l) (.int x :: st) o := ev_go (S := (76, M, (l0 :: l1 :: some (.int x) :: l), (.int x :: st))) rfl rfl rfl
theorem s168_76 : ji_Ev C 168 76 M lv (.int y :: .int x :: .ref a :: st) o ↔ ji_evA (ji_kd M a) (fun n => vp_in x n ∧ ji_Ev C 168 77 (ji_sI M a x.toNatClampNeg y) lv st o) := ev_iast rfl
theorem s168_77 : ji_Ev C 168 77 M (some (.ref a) :: l) st o ↔ ji_Ev C 168 78 M (some (.ref a) :: l) (.ref a :: st) o := ev_go (S := (78, M, (some (.ref a) :: l), (.ref a :: st))) rfl rfl rfl
theorem s168_78 : ji_Ev C 168 78 M lv (.ref a :: st) o ↔ ji_kd M a = some (0, 9) ∧ ji_Ev C 168 81 M lv (ji_rv (ji_gR M a 13) :: st) o := ev_getR (k := 168) rfl fd_9_51 rfl
theorem s168_81 : ji_Ev C 168 81 M (l0 :: some (.int x) :: l) st o ↔ ji_Ev C 168 82 M (l0 :: some (.int x) :: l) (.int x :: st) o := ev_go (S := (82, M, (l0 :: some (.int x) :: l), (.int x :: st))) rfl rfl rfl
theorem s168_82 : ji_Ev C 168 82 M (some (.ref a) :: l) st o ↔ ji_Ev C 168 83 M (some (.ref a) :: l) (.ref a :: st) o := ev_go (S := (83, M, (some (.ref a) :: l), (.ref a :: st))) rfl rfl rfl
theorem s168_83 : ji_Ev C 168 83 M lv (.ref a :: st) o ↔ ji_kd M a = some (0, 9) ∧ ji_Ev C 168 86 M lv (.int (ji_gI M a 0) :: st) o := ev_getI (k := 168) rfl fd_9_7 rfl
theorem s168_86 : ji_Ev C 168 86 M lv (.int y :: .int x :: .ref a :: st) o ↔ ji_evA (ji_kd M a) (fun n => vp_in x n ∧ ji_Ev C 168 87 (ji_sI M a x.toNatClampNeg y) lv st o) := ev_iast rfl
theorem s168_87 : ji_Ev C 168 87 M (l0 :: l1 :: l2 :: some (.int x) :: l) st o ↔ ji_Ev C 168 88 M (l0 :: l1 :: l2 :: some (.int x) :: l) (.int x :: st) o := ev_go (S := (88, M, (l0 :: l1 :: l2 :: some (.int x) :: l), (.int x :: st))) rfl rfl rfl
theorem s168_88 : ji_Ev C 168 88 M lv [.int x] o ↔ o = (some (.int x), M) := ev_ireti rfl rfl
theorem s169_0 : ji_Ev C 169 0 M (l0 :: l1 :: some (.int x) :: l) st o ↔ ji_Ev C 169 1 M (l0 :: l1 :: some (.int x) :: l) (.int x :: st) o := ev_go (S := (1, M, (l0 :: l1 :: some (.int x) :: l), (.int x :: st))) rfl rfl rfl
theorem s169_1 : ji_Ev C 169 1 M lv st o ↔ ji_Ev C 169 2 M lv (.int 2 :: st) o := ev_go (S := (2, M, lv, (.int 2 :: st))) rfl rfl rfl
theorem s169_2 : ji_Ev C 169 2 M lv (.int y :: .int x :: st) o ↔ if x = y then ji_Ev C 169 5 M lv st o else ji_Ev C 169 21 M lv st o := ev_brc (c := .ne) rfl (by decide) rfl
theorem s169_5 : ji_Ev C 169 5 M (l0 :: some (.int x) :: l) st o ↔ ji_Ev C 169 6 M (l0 :: some (.int x) :: l) (.int x :: st) o := ev_go (S := (6, M, (l0 :: some (.int x) :: l), (.int x :: st))) rfl rfl rfl
theorem s169_6 : ji_Ev C 169 6 M lv st o ↔ ji_Ev C 169 7 M lv (.int 1 :: st) o := ev_go (S := (7, M, lv, (.int 1 :: st))) rfl rfl rfl
theorem s169_7 : ji_Ev C 169 7 M lv (.int y :: .int x :: st) o ↔ if x = y then ji_Ev C 169 15 M lv st o else ji_Ev C 169 10 M lv st o := ev_brc (c := .eq) rfl (by decide) rfl
theorem s169_10 : ji_Ev C 169 10 M (l0 :: some (.int x) :: l) st o ↔ ji_Ev C 169 11 M (l0 :: some (.int x) :: l) (.int x :: st) o := ev_go (S := (11, M, (l0 :: some (.int x) :: l), (.int x :: st))) rfl rfl rfl
theorem s169_11 : ji_Ev C 169 11 M lv st o ↔ ji_Ev C 169 12 M lv (.int 4 :: st) o := ev_go (S := (12, M, lv, (.int 4 :: st))) rfl rfl rfl
theorem s169_12 : ji_Ev C 169 12 M lv (.int y :: .int x :: st) o ↔ if x = y then ji_Ev C 169 15 M lv st o else ji_Ev C 169 19 M lv st o := ev_brc (c := .ne) rfl (by decide) rfl
theorem s169_15 : ji_Ev C 169 15 M lv st o ↔ ji_Ev C 169 16 M lv (.int 1 :: st) o := ev_go (S := (16, M, lv, (.int 1 :: st))) rfl rfl rfl
theorem s169_16 : ji_Ev C 169 16 M lv st o ↔ ji_Ev C 169 20 M lv st o := ev_gt rfl (by decide) rfl
theorem s169_19 : ji_Ev C 169 19 M lv st o ↔ ji_Ev C 169 20 M lv (.int 0 :: st) o := ev_go (S := (20, M, lv, (.int 0 :: st))) rfl rfl rfl
theorem s169_20 : ji_Ev C 169 20 M lv [.int x] o ↔ narrow .boolean (.int x) = .int x ∧ o = (some (.int x), M) := ev_iretb rfl rfl
theorem s169_21 : ji_Ev C 169 21 M (l0 :: l1 :: some (.int x) :: l) st o ↔ ji_Ev C 169 22 M (l0 :: l1 :: some (.int x) :: l) (.int x :: st) o := ev_go (S := (22, M, (l0 :: l1 :: some (.int x) :: l), (.int x :: st))) rfl rfl rfl
theorem s169_22 : ji_Ev C 169 22 M lv st o ↔ ji_Ev C 169 23 M lv (.int 3 :: st) o := ev_go (S := (23, M, lv, (.int 3 :: st))) rfl rfl rfl
theorem s169_23 : ji_Ev C 169 23 M lv (.int y :: .int x :: st) o ↔ if x = y then ji_Ev C 169 26 M lv st o else ji_Ev C 169 47 M lv st o := ev_brc (c := .ne) rfl (by decide) rfl
theorem s169_26 : ji_Ev C 169 26 M (l0 :: some (.int x) :: l) st o ↔ ji_Ev C 169 27 M (l0 :: some (.int x) :: l) (.int x :: st) o := ev_go (S := (27, M, (l0 :: some (.int x) :: l), (.int x :: st))) rfl rfl rfl
theorem s169_27 : ji_Ev C 169 27 M lv st o ↔ ji_Ev C 169 28 M lv (.int 1 :: st) o := ev_go (S := (28, M, lv, (.int 1 :: st))) rfl rfl rfl
theorem s169_28 : ji_Ev C 169 28 M lv (.int y :: .int x :: st) o ↔ if x = y then ji_Ev C 169 41 M lv st o else ji_Ev C 169 31 M lv st o := ev_brc (c := .eq) rfl (by decide) rfl
theorem s169_31 : ji_Ev C 169 31 M (l0 :: some (.int x) :: l) st o ↔ ji_Ev C 169 32 M (l0 :: some (.int x) :: l) (.int x :: st) o := ev_go (S := (32, M, (l0 :: some (.int x) :: l), (.int x :: st))) rfl rfl rfl
theorem s169_32 : ji_Ev C 169 32 M lv st o ↔ ji_Ev C 169 33 M lv (.int 2 :: st) o := ev_go (S := (33, M, lv, (.int 2 :: st))) rfl rfl rfl
theorem s169_33 : ji_Ev C 169 33 M lv (.int y :: .int x :: st) o ↔ if x = y then ji_Ev C 169 41 M lv st o else ji_Ev C 169 36 M lv st o := ev_brc (c := .eq) rfl (by decide) rfl
theorem s169_36 : ji_Ev C 169 36 M (l0 :: some (.int x) :: l) st o ↔ ji_Ev C 169 37 M (l0 :: some (.int x) :: l) (.int x :: st) o := ev_go (S := (37, M, (l0 :: some (.int x) :: l), (.int x :: st))) rfl rfl rfl
theorem s169_37 : ji_Ev C 169 37 M lv st o ↔ ji_Ev C 169 38 M lv (.int 4 :: st) o := ev_go (S := (38, M, lv, (.int 4 :: st))) rfl rfl rfl
theorem s169_38 : ji_Ev C 169 38 M lv (.int y :: .int x :: st) o ↔ if x = y then ji_Ev C 169 41 M lv st o else ji_Ev C 169 45 M lv st o := ev_brc (c := .ne) rfl (by decide) rfl
theorem s169_41 : ji_Ev C 169 41 M lv st o ↔ ji_Ev C 169 42 M lv (.int 1 :: st) o := ev_go (S := (42, M, lv, (.int 1 :: st))) rfl rfl rfl
theorem s169_42 : ji_Ev C 169 42 M lv st o ↔ ji_Ev C 169 46 M lv st o := ev_gt rfl (by decide) rfl
theorem s169_45 : ji_Ev C 169 45 M lv st o ↔ ji_Ev C 169 46 M lv (.int 0 :: st) o := ev_go (S := (46, M, lv, (.int 0 :: st))) rfl rfl rfl
theorem s169_46 : ji_Ev C 169 46 M lv [.int x] o ↔ narrow .boolean (.int x) = .int x ∧ o = (some (.int x), M) := ev_iretb rfl rfl
theorem s169_47 : ji_Ev C 169 47 M (l0 :: l1 :: some (.int x) :: l) st o ↔ ji_Ev C 169 48 M (l0 :: l1 :: some (.int x) :: l) (.int x :: st) o := ev_go (S := (48, M, (l0 :: l1 :: some (.int x) :: l), (.int x :: st))) rfl rfl rfl
theorem s169_48 : ji_Ev C 169 48 M lv st o ↔ ji_Ev C 169 49 M lv (.int 5 :: st) o := ev_go (S := (49, M, lv, (.int 5 :: st))) rfl rfl rfl
theorem s169_49 : ji_Ev C 169 49 M lv (.int y :: .int x :: st) o ↔ if x = y then ji_Ev C 169 52 M lv st o else ji_Ev C 169 65 M lv st o := ev_brc (c := .ne) rfl (by decide) rfl
theorem s169_52 : ji_Ev C 169 52 M (l0 :: some (.int x) :: l) st o ↔ ji_Ev C 169 53 M (l0 :: some (.int x) :: l) (.int x :: st) o := ev_go (S := (53, M, (l0 :: some (.int x) :: l), (.int x :: st))) rfl rfl rfl
theorem s169_53 : ji_Ev C 169 53 M lv st o ↔ ji_Ev C 169 54 M lv (.int 3 :: st) o := ev_go (S := (54, M, lv, (.int 3 :: st))) rfl rfl rfl
theorem s169_54 : ji_Ev C 169 54 M lv (.int y :: .int x :: st) o ↔ if x = y then ji_Ev C 169 57 M lv st o else ji_Ev C 169 61 M lv st o := ev_brc (c := .ne) rfl (by decide) rfl
theorem s169_57 : ji_Ev C 169 57 M lv st o ↔ ji_Ev C 169 58 M lv (.int 1 :: st) o := ev_go (S := (58, M, lv, (.int 1 :: st))) rfl rfl rfl
theorem s169_58 : ji_Ev C 169 58 M lv st o ↔ ji_Ev C 169 80 M lv st o := ev_gt rfl (by decide) rfl
theorem s169_61 : ji_Ev C 169 61 M lv st o ↔ ji_Ev C 169 62 M lv (.int 0 :: st) o := ev_go (S := (62, M, lv, (.int 0 :: st))) rfl rfl rfl
theorem s169_62 : ji_Ev C 169 62 M lv st o ↔ ji_Ev C 169 80 M lv st o := ev_gt rfl (by decide) rfl
theorem s169_65 : ji_Ev C 169 65 M (l0 :: l1 :: some (.int x) :: l) st o ↔ ji_Ev C 169 66 M (l0 :: l1 :: some (.int x) :: l) (.int x :: st) o := ev_go (S := (66, M, (l0 :: l1 :: some (.int x) :: l), (.int x :: st))) rfl rfl rfl
theorem s169_66 : ji_Ev C 169 66 M lv st o ↔ ji_Ev C 169 67 M lv (.int 1 :: st) o := ev_go (S := (67, M, lv, (.int 1 :: st))) rfl rfl rfl
theorem s169_67 : ji_Ev C 169 67 M lv (.int y :: .int x :: st) o ↔ if x = y then ji_Ev C 169 70 M lv st o else ji_Ev C 169 79 M lv st o := ev_brc (c := .ne) rfl (by decide) rfl
theorem s169_70 : ji_Ev C 169 70 M (l0 :: some (.int x) :: l) st o ↔ ji_Ev C 169 71 M (l0 :: some (.int x) :: l) (.int x :: st) o := ev_go (S := (71, M, (l0 :: some (.int x) :: l), (.int x :: st))) rfl rfl rfl
theorem s169_71 : ji_Ev C 169 71 M lv st o ↔ ji_Ev C 169 72 M lv (.int 2 :: st) o := ev_go (S := (72, M, lv, (.int 2 :: st))) rfl rfl rfl
theorem s169_72 : ji_Ev C 169 72 M lv (.int y :: .int x :: st) o ↔ if x = y then ji_Ev C 169 75 M lv st o else ji_Ev C 169 79 M lv st o := ev_brc (c := .ne) rfl (by decide) rfl
theorem s169_75 : ji_Ev C 169 75 M lv st o ↔ ji_Ev C 169 76 M lv (.int 1 :: st) o := ev_go (S := (76, M, lv, (.int 1 :: st))) rfl rfl rfl
theorem s169_76 : ji_Ev C 169 76 M lv st o ↔ ji_Ev C 169 80 M lv st o := ev_gt rfl (by decide) rfl
theorem s169_79 : ji_Ev C 169 79 M lv st o ↔ ji_Ev C 169 80 M lv (.int 0 :: st) o := ev_go (S := (80, M, lv, (.int 0 :: st))) rfl rfl rfl
theorem s169_80 : ji_Ev C 169 80 M lv [.int x] o ↔ narrow .boolean (.int x) = .int x ∧ o = (some (.int x), M) := ev_iretb rfl rfl
theorem s170_0 : ji_Ev C 170 0 M (some (.ref a) :: l) st o ↔ ji_Ev C 170 1 M (some (.ref a) :: l) (.ref a :: st) o := ev_go (S := (1, M, (some (.ref a) :: l), (.ref a :: st))) rfl rfl rfl
theorem s170_1 : ji_Ev C 170 1 M (some (.ref a) :: l) st o ↔ ji_Ev C 170 2 M (some (.ref a) :: l) (.ref a :: st) o := ev_go (S := (2, M, (some (.ref a) :: l), (.ref a :: st))) rfl rfl rfl
theorem s170_2 : ji_Ev C 170 2 M lv (.ref a :: st) o ↔ ji_kd M a = some (0, 9) ∧ ji_Ev C 170 5 M lv (.int (ji_gI M a 16) :: st) o := ev_getI (k := 170) rfl fd_9_60 rfl
theorem s170_5 : ji_Ev C 170 5 M (l0 :: some (.int x) :: l) st o ↔ ji_Ev C 170 6 M (l0 :: some (.int x) :: l) (.int x :: st) o := ev_go (S := (6, M, (l0 :: some (.int x) :: l), (.int x :: st))) rfl rfl rfl
theorem s170_6 : ji_Ev C 170 6 M lv st o ↔ ji_Ev C 170 7 M lv (.int 1 :: st) o := ev_go (S := (7, M, lv, (.int 1 :: st))) rfl rfl rfl
theorem s170_7 : ji_Ev C 170 7 M lv (p2 :: p1 :: p0 :: .ref a :: st) o ↔ (ji_rcb M 9 (.ref a) = true ∧ ji_ok8 st) ∧ ji_evC (C 171 [.ref a, p0, p1, p2] M) (fun v M' => ji_Ev C 170 10 M' lv (v.toList ++ st) o) := ev_inv (k := 170) rfl cd_9_290 rfl
theorem s170_10 : ji_Ev C 170 10 M lv (.int x :: st) o ↔ if x = 0 then ji_Ev C 170 40 M lv st o else ji_Ev C 170 13 M lv st o := ev_brz (c := .eq) rfl (by decide) rfl
theorem s170_13 : ji_Ev C 170 13 M (some (.ref a) :: l) st o ↔ ji_Ev C 170 14 M (some (.ref a) :: l) (.ref a :: st) o := ev_go (S := (14, M, (some (.ref a) :: l), (.ref a :: st))) rfl rfl rfl
theorem s170_14 : ji_Ev C 170 14 M (some (.ref a) :: l) st o ↔ ji_Ev C 170 15 M (some (.ref a) :: l) (.ref a :: st) o := ev_go (S := (15, M, (some (.ref a) :: l), (.ref a :: st))) rfl rfl rfl
theorem s170_15 : ji_Ev C 170 15 M lv (.ref a :: st) o ↔ ji_kd M a = some (0, 9) ∧ ji_Ev C 170 18 M lv (ji_rv (ji_gR M a 7) :: st) o := ev_getR (k := 170) rfl fd_9_33 rfl
theorem s170_18 : ji_Ev C 170 18 M (l0 :: some (.int x) :: l) st o ↔ ji_Ev C 170 19 M (l0 :: some (.int x) :: l) (.int x :: st) o := ev_go (S := (19, M, (l0 :: some (.int x) :: l), (.int x :: st))) rfl rfl rfl
theorem s170_19 : ji_Ev C 170 19 M lv (.int x :: .ref a :: st) o ↔ ji_evA (ji_kd M a) (fun n => vp_in x n ∧ ji_Ev C 170 20 M lv (.int (ji_gI M a x.toNatClampNeg) :: st) o) := ev_iald rfl
theorem s170_20 : ji_Ev C 170 20 M (some (.ref a) :: l) st o ↔ ji_Ev C 170 21 M (some (.ref a) :: l) (.ref a :: st) o := ev_go (S := (21, M, (some (.ref a) :: l), (.ref a :: st))) rfl rfl rfl
theorem s170_21 : ji_Ev C 170 21 M lv (.ref a :: st) o ↔ ji_kd M a = some (0, 9) ∧ ji_Ev C 170 24 M lv (ji_rv (ji_gR M a 6) :: st) o := ev_getR (k := 170) rfl fd_9_29 rfl
theorem s170_24 : ji_Ev C 170 24 M (l0 :: some (.int x) :: l) st o ↔ ji_Ev C 170 25 M (l0 :: some (.int x) :: l) (.int x :: st) o := ev_go (S := (25, M, (l0 :: some (.int x) :: l), (.int x :: st))) rfl rfl rfl
theorem s170_25 : ji_Ev C 170 25 M lv (.int x :: .ref a :: st) o ↔ ji_evA (ji_kd M a) (fun n => vp_in x n ∧ ji_Ev C 170 26 M lv (.int (ji_gI M a x.toNatClampNeg) :: st) o) := ev_iald rfl
theorem s170_26 : ji_Ev C 170 26 M (some (.ref a) :: l) st o ↔ ji_Ev C 170 27 M (some (.ref a) :: l) (.ref a :: st) o := ev_go (S := (27, M, (some (.ref a) :: l), (.ref a :: st))) rfl rfl rfl
theorem s170_27 : ji_Ev C 170 27 M lv (.ref a :: st) o ↔ ji_kd M a = some (0, 9) ∧ ji_Ev C 170 30 M lv (.int (ji_gI M a 0) :: st) o := ev_getI (k := 170) rfl fd_9_7 rfl
theorem s170_30 : ji_Ev C 170 30 M lv (p2 :: p1 :: p0 :: .ref a :: st) o ↔ (ji_rcb M 9 (.ref a) = true ∧ ji_ok8 st) ∧ ji_evC (C 187 [.ref a, p0, p1, p2] M) (fun v M' => ji_Ev C 170 33 M' lv (v.toList ++ st) o) := ev_inv (k := 170) rfl cd_9_294 rfl
theorem s170_33 : ji_Ev C 170 33 M lv (.int x :: st) o ↔ if x = 0 then ji_Ev C 170 36 M lv st o else ji_Ev C 170 40 M lv st o := ev_brz (c := .ne) rfl (by decide) rfl
theorem s170_36 : ji_Ev C 170 36 M lv st o ↔ ji_Ev C 170 37 M lv (.int 1 :: st) o := ev_go (S := (37, M, lv, (.int 1 :: st))) rfl rfl rfl
theorem s170_37 : ji_Ev C 170 37 M lv st o ↔ ji_Ev C 170 41 M lv st o := ev_gt rfl (by decide) rfl
theorem s170_40 : ji_Ev C 170 40 M lv st o ↔ ji_Ev C 170 41 M lv (.int 0 :: st) o := ev_go (S := (41, M, lv, (.int 0 :: st))) rfl rfl rfl
theorem s170_41 : ji_Ev C 170 41 M lv [.int x] o ↔ narrow .boolean (.int x) = .int x ∧ o = (some (.int x), M) := ev_iretb rfl rfl
theorem s171_0 : ji_Ev C 171 0 M (l0 :: some (.int x) :: l) st o ↔ ji_Ev C 171 1 M (l0 :: some (.int x) :: l) (.int x :: st) o := ev_go (S := (1, M, (l0 :: some (.int x) :: l), (.int x :: st))) rfl rfl rfl
theorem s171_1 : ji_Ev C 171 1 M lv (.int x :: st) o ↔ if x = 0 then ji_Ev C 171 4 M lv st o else ji_Ev C 171 54 M lv st o := ev_brz (c := .ne) rfl (by decide) rfl
theorem s171_4 : ji_Ev C 171 4 M (l0 :: l1 :: l2 :: some (.int x) :: l) st o ↔ ji_Ev C 171 5 M (l0 :: l1 :: l2 :: some (.int x) :: l) (.int x :: st) o := ev_go (S := (5, M, (l0 :: l1 :: l2 :: some (.int x) :: l), (.int x :: st))) rfl rfl rfl
theorem s171_5 : ji_Ev C 171 5 M lv (.int x :: st) o ↔ if x = 0 then ji_Ev C 171 8 M lv st o else ji_Ev C 171 24 M lv st o := ev_brz (c := .ne) rfl (by decide) rfl
theorem s171_8 : ji_Ev C 171 8 M (some (.ref a) :: l) st o ↔ ji_Ev C 171 9 M (some (.ref a) :: l) (.ref a :: st) o := ev_go (S := (9, M, (some (.ref a) :: l), (.ref a :: st))) rfl rfl rfl
theorem s171_9 : ji_Ev C 171 9 M lv (.ref a :: st) o ↔ ji_kd M a = some (0, 9) ∧ ji_Ev C 171 12 M lv (ji_rv (ji_gR M a 10) :: st) o := ev_getR (k := 171) rfl fd_9_42 rfl
theorem s171_12 : ji_Ev C 171 12 M (l0 :: l1 :: some (.int x) :: l) st o ↔ ji_Ev C 171 13 M (l0 :: l1 :: some (.int x) :: l) (.int x :: st) o := ev_go (S := (13, M, (l0 :: l1 :: some (.int x) :: l), (.int x :: st))) rfl rfl rfl
theorem s171_13 : ji_Ev C 171 13 M lv (.int x :: .ref a :: st) o ↔ ji_evA (ji_kd M a) (fun n => vp_in x n ∧ ji_Ev C 171 14 M lv (.int (ji_gI M a x.toNatClampNeg) :: st) o) := ev_iald rfl
theorem s171_14 : ji_Ev C 171 14 M (some (.ref a) :: l) st o ↔ ji_Ev C 171 15 M (some (.ref a) :: l) (.ref a :: st) o := ev_go (S := (15, M, (some (.ref a) :: l), (.ref a :: st))) rfl rfl rfl
theorem s171_15 : ji_Ev C 171 15 M lv (.ref a :: st) o ↔ ji_kd M a = some (0, 9) ∧ ji_Ev C 171 18 M lv (ji_rv (ji_gR M a 9) :: st) o := ev_getR (k := 171) rfl fd_9_39 rfl
theorem s171_18 : ji_Ev C 171 18 M (l0 :: l1 :: some (.int x) :: l) st o ↔ ji_Ev C 171 19 M (l0 :: l1 :: some (.int x) :: l) (.int x :: st) o := ev_go (S := (19, M, (l0 :: l1 :: some (.int x) :: l), (.int x :: st))) rfl rfl rfl
theorem s171_19 : ji_Ev C 171 19 M lv (.int x :: .ref a :: st) o ↔ ji_evA (ji_kd M a) (fun n => vp_in x n ∧ ji_Ev C 171 20 M lv (.int (ji_gI M a x.toNatClampNeg) :: st) o) := ev_iald rfl
theorem s171_20 : ji_Ev C 171 20 M lv (.int y :: .int x :: st) o ↔ ji_Ev C 171 21 M lv (.int (x + y) :: st) o := ev_go (S := (21, M, lv, (.int (x + y) :: st))) rfl rfl rfl
theorem s171_21 : ji_Ev C 171 21 M lv st o ↔ ji_Ev C 171 53 M lv st o := ev_gt rfl (by decide) rfl
theorem s171_24 : ji_Ev C 171 24 M (l0 :: l1 :: l2 :: some (.int x) :: l) st o ↔ ji_Ev C 171 25 M (l0 :: l1 :: l2 :: some (.int x) :: l) (.int x :: st) o := ev_go (S := (25, M, (l0 :: l1 :: l2 :: some (.int x) :: l), (.int x :: st))) rfl rfl rfl
theorem s171_25 : ji_Ev C 171 25 M lv st o ↔ ji_Ev C 171 26 M lv (.int 1 :: st) o := ev_go (S := (26, M, lv, (.int 1 :: st))) rfl rfl rfl
theorem s171_26 : ji_Ev C 171 26 M lv (.int y :: .int x :: st) o ↔ if x = y then ji_Ev C 171 29 M lv st o else ji_Ev C 171 47 M lv st o := ev_brc (c := .ne) rfl (by decide) rfl
theorem s171_29 : ji_Ev C 171 29 M (some (.ref a) :: l) st o ↔ ji_Ev C 171 30 M (some (.ref a) :: l) (.ref a :: st) o := ev_go (S := (30, M, (some (.ref a) :: l), (.ref a :: st))) rfl rfl rfl
theorem s171_30 : ji_Ev C 171 30 M lv (.ref a :: st) o ↔ ji_kd M a = some (0, 9) ∧ ji_Ev C 171 33 M lv (ji_rv (ji_gR M a 7) :: st) o := ev_getR (k := 171) rfl fd_9_33 rfl
theorem s171_33 : ji_Ev C 171 33 M (l0 :: l1 :: some (.int x) :: l) st o ↔ ji_Ev C 171 34 M (l0 :: l1 :: some (.int x) :: l) (.int x :: st) o := ev_go (S := (34, M, (l0 :: l1 :: some (.int x) :: l), (.int x :: st))) rfl rfl rfl
theorem s171_34 : ji_Ev C 171 34 M lv (.int x :: .ref a :: st) o ↔ ji_evA (ji_kd M a) (fun n => vp_in x n ∧ ji_Ev C 171 35 M lv (.int (ji_gI M a x.toNatClampNeg) :: st) o) := ev_iald rfl
theorem s171_35 : ji_Ev C 171 35 M lv st o ↔ ji_Ev C 171 36 M lv (.int 2 :: st) o := ev_go (S := (36, M, lv, (.int 2 :: st))) rfl rfl rfl
theorem s171_36 : ji_Ev C 171 36 M lv (.int y :: .int x :: st) o ↔ if x < y then ji_Ev C 171 39 M lv st o else ji_Ev C 171 43 M lv st o := ev_brc (c := .ge) rfl (by decide) rfl
theorem s171_39 : ji_Ev C 171 39 M lv st o ↔ ji_Ev C 171 40 M lv (.int 1 :: st) o := ev_go (S := (40, M, lv, (.int 1 :: st))) rfl rfl rfl
theorem s171_40 : ji_Ev C 171 40 M lv st o ↔ ji_Ev C 171 53 M lv st o := ev_gt rfl (by decide) rfl
theorem s171_43 : ji_Ev C 171 43 M lv st o ↔ ji_Ev C 171 44 M lv (.int 0 :: st) o := ev_go (S := (44, M, lv, (.int 0 :: st))) rfl rfl rfl
theorem s171_44 : ji_Ev C 171 44 M lv st o ↔ ji_Ev C 171 53 M lv st o := ev_gt rfl (by decide) rfl
theorem s171_47 : ji_Ev C 171 47 M (some (.ref a) :: l) st o ↔ ji_Ev C 171 48 M (some (.ref a) :: l) (.ref a :: st) o := ev_go (S := (48, M, (some (.ref a) :: l), (.ref a :: st))) rfl rfl rfl
theorem s171_48 : ji_Ev C 171 48 M lv (.ref a :: st) o ↔ ji_kd M a = some (0, 9) ∧ ji_Ev C 171 51 M lv (ji_rv (ji_gR M a 9) :: st) o := ev_getR (k := 171) rfl fd_9_39 rfl
theorem s171_51 : ji_Ev C 171 51 M (l0 :: l1 :: some (.int x) :: l) st o ↔ ji_Ev C 171 52 M (l0 :: l1 :: some (.int x) :: l) (.int x :: st) o := ev_go (S := (52, M, (l0 :: l1 :: some (.int x) :: l), (.int x :: st))) rfl rfl rfl
theorem s171_52 : ji_Ev C 171 52 M lv (.int x :: .ref a :: st) o ↔ ji_evA (ji_kd M a) (fun n => vp_in x n ∧ ji_Ev C 171 53 M lv (.int (ji_gI M a x.toNatClampNeg) :: st) o) := ev_iald rfl
theorem s171_53 : ji_Ev C 171 53 M lv [.int x] o ↔ o = (some (.int x), M) := ev_ireti rfl rfl
theorem s171_54 : ji_Ev C 171 54 M (some (.ref a) :: l) st o ↔ ji_Ev C 171 55 M (some (.ref a) :: l) (.ref a :: st) o := ev_go (S := (55, M, (some (.ref a) :: l), (.ref a :: st))) rfl rfl rfl
theorem s171_55 : ji_Ev C 171 55 M lv (.ref a :: st) o ↔ ji_kd M a = some (0, 9) ∧ ji_Ev C 171 58 M lv (ji_rv (ji_gR M a 28) :: st) o := ev_getR (k := 171) rfl fd_9_96 rfl
theorem s171_58 : ji_Ev C 171 58 M lv st o ↔ ji_Ev C 171 59 M lv (.int 0 :: st) o := ev_go (S := (59, M, lv, (.int 0 :: st))) rfl rfl rfl
theorem s171_59 : ji_Ev C 171 59 M (some (.ref a) :: l) st o ↔ ji_Ev C 171 60 M (some (.ref a) :: l) (.ref a :: st) o := ev_go (S := (60, M, (some (.ref a) :: l), (.ref a :: st))) rfl rfl rfl
theorem s171_60 : ji_Ev C 171 60 M lv (.ref a :: st) o ↔ ji_kd M a = some (0, 9) ∧ ji_Ev C 171 63 M lv (ji_rv (ji_gR M a 10) :: st) o := ev_getR (k := 171) rfl fd_9_42 rfl
theorem s171_63 : ji_Ev C 171 63 M (l0 :: l1 :: some (.int x) :: l) st o ↔ ji_Ev C 171 64 M (l0 :: l1 :: some (.int x) :: l) (.int x :: st) o := ev_go (S := (64, M, (l0 :: l1 :: some (.int x) :: l), (.int x :: st))) rfl rfl rfl
theorem s171_64 : ji_Ev C 171 64 M lv (.int x :: .ref a :: st) o ↔ ji_evA (ji_kd M a) (fun n => vp_in x n ∧ ji_Ev C 171 65 M lv (.int (ji_gI M a x.toNatClampNeg) :: st) o) := ev_iald rfl
theorem s171_65 : ji_Ev C 171 65 M lv (.int y :: .int x :: .ref a :: st) o ↔ ji_evA (ji_kd M a) (fun n => vp_in x n ∧ ji_Ev C 171 66 (ji_sI M a x.toNatClampNeg y) lv st o) := ev_iast rfl
theorem s171_66 : ji_Ev C 171 66 M (some (.ref a) :: l) st o ↔ ji_Ev C 171 67 M (some (.ref a) :: l) (.ref a :: st) o := ev_go (S := (67, M, (some (.ref a) :: l), (.ref a :: st))) rfl rfl rfl
theorem s171_67 : ji_Ev C 171 67 M lv (.ref a :: st) o ↔ ji_kd M a = some (0, 9) ∧ ji_Ev C 171 70 M lv (ji_rv (ji_gR M a 28) :: st) o := ev_getR (k := 171) rfl fd_9_96 rfl
theorem s171_70 : ji_Ev C 171 70 M lv st o ↔ ji_Ev C 171 71 M lv (.int 1 :: st) o := ev_go (S := (71, M, lv, (.int 1 :: st))) rfl rfl rfl
theorem s171_71 : ji_Ev C 171 71 M (some (.ref a) :: l) st o ↔ ji_Ev C 171 72 M (some (.ref a) :: l) (.ref a :: st) o := ev_go (S := (72, M, (some (.ref a) :: l), (.ref a :: st))) rfl rfl rfl
theorem s171_72 : ji_Ev C 171 72 M lv (.ref a :: st) o ↔ ji_kd M a = some (0, 9) ∧ ji_Ev C 171 75 M lv (ji_rv (ji_gR M a 7) :: st) o := ev_getR (k := 171) rfl fd_9_33 rfl
theorem s171_75 : ji_Ev C 171 75 M (l0 :: l1 :: some (.int x) :: l) st o ↔ ji_Ev C 171 76 M (l0 :: l1 :: some (.int x) :: l) (.int x :: st) o := ev_go (S := (76, M, (l0 :: l1 :: some (.int x) :: l), (.int x :: st))) rfl rfl rfl
theorem s171_76 : ji_Ev C 171 76 M lv (.int x :: .ref a :: st) o ↔ ji_evA (ji_kd M a) (fun n => vp_in x n ∧ ji_Ev C 171 77 M lv (.int (ji_gI M a x.toNatClampNeg) :: st) o) := ev_iald rfl
theorem s171_77 : ji_Ev C 171 77 M lv (.int y :: .int x :: .ref a :: st) o ↔ ji_evA (ji_kd M a) (fun n => vp_in x n ∧ ji_Ev C 171 78 (ji_sI M a x.toNatClampNeg y) lv st o) := ev_iast rfl
theorem s171_78 : ji_Ev C 171 78 M (some (.ref a) :: l) st o ↔ ji_Ev C 171 79 M (some (.ref a) :: l) (.ref a :: st) o := ev_go (S := (79, M, (some (.ref a) :: l), (.ref a :: st))) rfl rfl rfl
theorem s171_79 : ji_Ev C 171 79 M lv (.ref a :: st) o ↔ ji_kd M a = some (0, 9) ∧ ji_Ev C 171 82 M lv (ji_rv (ji_gR M a 28) :: st) o := ev_getR (k := 171) rfl fd_9_96 rfl
theorem s171_82 : ji_Ev C 171 82 M lv st o ↔ ji_Ev C 171 83 M lv (.int 2 :: st) o := ev_go (S := (83, M, lv, (.int 2 :: st))) rfl rfl rfl
theorem s171_83 : ji_Ev C 171 83 M (some (.ref a) :: l) st o ↔ ji_Ev C 171 84 M (some (.ref a) :: l) (.ref a :: st) o := ev_go (S := (84, M, (some (.ref a) :: l), (.ref a :: st))) rfl rfl rfl
theorem s171_84 : ji_Ev C 171 84 M lv (.ref a :: st) o ↔ ji_kd M a = some (0, 9) ∧ ji_Ev C 171 87 M lv (ji_rv (ji_gR M a 6) :: st) o := ev_getR (k := 171) rfl fd_9_29 rfl
theorem s171_87 : ji_Ev C 171 87 M (l0 :: l1 :: some (.int x) :: l) st o ↔ ji_Ev C 171 88 M (l0 :: l1 :: some (.int x) :: l) (.int x :: st) o := ev_go (S := (88, M, (l0 :: l1 :: some (.int x) :: l), (.int x :: st))) rfl rfl rfl
theorem s171_88 : ji_Ev C 171 88 M lv (.int x :: .ref a :: st) o ↔ ji_evA (ji_kd M a) (fun n => vp_in x n ∧ ji_Ev C 171 89 M lv (.int (ji_gI M a x.toNatClampNeg) :: st) o) := ev_iald rfl
theorem s171_89 : ji_Ev C 171 89 M lv (.int y :: .int x :: .ref a :: st) o ↔ ji_evA (ji_kd M a) (fun n => vp_in x n ∧ ji_Ev C 171 90 (ji_sI M a x.toNatClampNeg y) lv st o) := ev_iast rfl
theorem s171_90 : ji_Ev C 171 90 M (some (.ref a) :: l) st o ↔ ji_Ev C 171 91 M (some (.ref a) :: l) (.ref a :: st) o := ev_go (S := (91, M, (some (.ref a) :: l), (.ref a :: st))) rfl rfl rfl
theorem s171_91 : ji_Ev C 171 91 M lv (.ref a :: st) o ↔ ji_kd M a = some (0, 9) ∧ ji_Ev C 171 94 M lv (ji_rv (ji_gR M a 28) :: st) o := ev_getR (k := 171) rfl fd_9_96 rfl
theorem s171_94 : ji_Ev C 171 94 M lv st o ↔ ji_Ev C 171 95 M lv (.int 3 :: st) o := ev_go (S := (95, M, lv, (.int 3 :: st))) rfl rfl rfl
theorem s171_95 : ji_Ev C 171 95 M (some (.ref a) :: l) st o ↔ ji_Ev C 171 96 M (some (.ref a) :: l) (.ref a :: st) o := ev_go (S := (96, M, (some (.ref a) :: l), (.ref a :: st))) rfl rfl rfl
theorem s171_96 : ji_Ev C 171 96 M lv (.ref a :: st) o ↔ ji_kd M a = some (0, 9) ∧ ji_Ev C 171 99 M lv (ji_rv (ji_gR M a 9) :: st) o := ev_getR (k := 171) rfl fd_9_39 rfl
theorem s171_99 : ji_Ev C 171 99 M (l0 :: l1 :: some (.int x) :: l) st o ↔ ji_Ev C 171 100 M (l0 :: l1 :: some (.int x) :: l) (.int x :: st) o := ev_go (S := (100, M, (l0 :: l1 :: some (.int x) :: l), (.int x :: st))) rfl rfl rfl
theorem s171_100 : ji_Ev C 171 100 M lv (.int x :: .ref a :: st) o ↔ ji_evA (ji_kd M a) (fun n => vp_in x n ∧ ji_Ev C 171 101 M lv (.int (ji_gI M a x.toNatClampNeg) :: st) o) := ev_iald rfl
theorem s171_101 : ji_Ev C 171 101 M lv (.int y :: .int x :: .ref a :: st) o ↔ ji_evA (ji_kd M a) (fun n => vp_in x n ∧ ji_Ev C 171 102 (ji_sI M a x.toNatClampNeg y) lv st o) := ev_iast rfl
theorem s171_102 : ji_Ev C 171 102 M (some (.ref a) :: l) st o ↔ ji_Ev C 171 103 M (some (.ref a) :: l) (.ref a :: st) o := ev_go (S := (103, M, (some (.ref a) :: l), (.ref a :: st))) rfl rfl rfl
theorem s171_103 : ji_Ev C 171 103 M lv (.ref a :: st) o ↔ ji_kd M a = some (0, 9) ∧ ji_Ev C 171 106 M lv (ji_rv (ji_gR M a 28) :: st) o := ev_getR (k := 171) rfl fd_9_96 rfl
theorem s171_106 : ji_Ev C 171 106 M lv st o ↔ ji_Ev C 171 107 M lv (.int 4 :: st) o := ev_go (S := (107, M, lv, (.int 4 :: st))) rfl rfl rfl
theorem s171_107 : ji_Ev C 171 107 M (some (.ref a) :: l) st o ↔ ji_Ev C 171 108 M (some (.ref a) :: l) (.ref a :: st) o := ev_go (S := (108, M, (some (.ref a) :: l), (.ref a :: st))) rfl rfl rfl
theorem s171_108 : ji_Ev C 171 108 M lv (.ref a :: st) o ↔ ji_kd M a = some (0, 9) ∧ ji_Ev C 171 111 M lv (.int (ji_gI M a 0) :: st) o := ev_getI (k := 171) rfl fd_9_7 rfl
theorem s171_111 : ji_Ev C 171 111 M (some (.ref a) :: l) st o ↔ ji_Ev C 171 112 M (some (.ref a) :: l) (.ref a :: st) o := ev_go (S := (112, M, (some (.ref a) :: l), (.ref a :: st))) rfl rfl rfl
theorem s171_112 : ji_Ev C 171 112 M lv (.ref a :: st) o ↔ ji_kd M a = some (0, 9) ∧ ji_Ev C 171 115 M lv (ji_rv (ji_gR M a 13) :: st) o := ev_getR (k := 171) rfl fd_9_51 rfl
theorem s171_115 : ji_Ev C 171 115 M (l0 :: l1 :: some (.int x) :: l) st o ↔ ji_Ev C 171 116 M (l0 :: l1 :: some (.int x) :: l) (.int x :: st) o := ev_go (S := (116, M, (l0 :: l1 :: some (.int x) :: l), (.int x :: st))) rfl rfl rfl
theorem s171_116 : ji_Ev C 171 116 M lv (.int x :: .ref a :: st) o ↔ ji_evA (ji_kd M a) (fun n => vp_in x n ∧ ji_Ev C 171 117 M lv (.int (ji_gI M a x.toNatClampNeg) :: st) o) := ev_iald rfl
theorem s171_117 : ji_Ev C 171 117 M lv (.int y :: .int x :: st) o ↔ ji_Ev C 171 118 M lv (.int (x - y) :: st) o := ev_go (S := (118, M, lv, (.int (x - y) :: st))) rfl rfl rfl
theorem s171_118 : ji_Ev C 171 118 M lv (.int y :: .int x :: .ref a :: st) o ↔ ji_evA (ji_kd M a) (fun n => vp_in x n ∧ ji_Ev C 171 119 (ji_sI M a x.toNatClampNeg y) lv st o) := ev_iast rfl
theorem s171_119 : ji_Ev C 171 119 M (some (.ref a) :: l) st o ↔ ji_Ev C 171 120 M (some (.ref a) :: l) (.ref a :: st) o := ev_go (S := (120, M, (some (.ref a) :: l), (.ref a :: st))) rfl rfl rfl
theorem s171_120 : ji_Ev C 171 120 M lv (.ref a :: st) o ↔ ji_kd M a = some (0, 9) ∧ ji_Ev C 171 123 M lv (ji_rv (ji_gR M a 28) :: st) o := ev_getR (k := 171) rfl fd_9_96 rfl
theorem s171_123 : ji_Ev C 171 123 M lv st o ↔ ji_Ev C 171 124 M lv (.int 5 :: st) o := ev_go (S := (124, M, lv, (.int 5 :: st))) rfl rfl rfl
theorem s171_124 : ji_Ev C 171 124 M (some (.ref a) :: l) st o ↔ ji_Ev C 171 125 M (some (.ref a) :: l) (.ref a :: st) o := ev_go (S := (125, M, (some (.ref a) :: l), (.ref a :: st))) rfl rfl rfl
theorem s171_125 : ji_Ev C 171 125 M lv (.ref a :: st) o ↔ ji_kd M a = some (0, 9) ∧ ji_Ev C 171 128 M lv (ji_rv (ji_gR M a 8) :: st) o := ev_getR (k := 171) rfl fd_9_36 rfl
theorem s171_128 : ji_Ev C 171 128 M (l0 :: l1 :: some (.int x) :: l) st o ↔ ji_Ev C 171 129 M (l0 :: l1 :: some (.int x) :: l) (.int x :: st) o := ev_go (S := (129, M, (l0 :: l1 :: some (.int x) :: l), (.int x :: st))) rfl rfl rfl
theorem s171_129 : ji_Ev C 171 129 M lv (.int x :: .ref a :: st) o ↔ ji_evA (ji_kd M a) (fun n => vp_in x n ∧ ji_Ev C 171 130 M lv (.int (ji_gI M a x.toNatClampNeg) :: st) o) := ev_iald rfl
theorem s171_130 : ji_Ev C 171 130 M lv (.int y :: .int x :: .ref a :: st) o ↔ ji_evA (ji_kd M a) (fun n => vp_in x n ∧ ji_Ev C 171 131 (ji_sI M a x.toNatClampNeg y) lv st o) := ev_iast rfl
theorem s171_131 : ji_Ev C 171 131 M (some (.ref a) :: l) st o ↔ ji_Ev C 171 132 M (some (.ref a) :: l) (.ref a :: st) o := ev_go (S := (132, M, (some (.ref a) :: l), (.ref a :: st))) rfl rfl rfl
theorem s171_132 : ji_Ev C 171 132 M (l0 :: some (.int x) :: l) st o ↔ ji_Ev C 171 133 M (l0 :: some (.int x) :: l) (.int x :: st) o := ev_go (S := (133, M, (l0 :: some (.int x) :: l), (.int x :: st))) rfl rfl rfl
theorem s171_133 : ji_Ev C 171 133 M lv (p0 :: .ref a :: st) o ↔ (ji_rcb M 9 (.ref a) = true ∧ ji_ok8 st) ∧ ji_evC (C 172 [.ref a, p0] M) (fun v M' => ji_Ev C 171 136 M' lv (v.toList ++ st) o) := ev_inv (k := 171) rfl cd_9_393 rfl
theorem s171_136 : ji_Ev C 171 136 M lv (.int x :: st) o ↔ if x = 0 then ji_Ev C 171 148 M lv st o else ji_Ev C 171 139 M lv st o := ev_brz (c := .eq) rfl (by decide) rfl
theorem s171_139 : ji_Ev C 171 139 M (some (.ref a) :: l) st o ↔ ji_Ev C 171 140 M (some (.ref a) :: l) (.ref a :: st) o := ev_go (S := (140, M, (some (.ref a) :: l), (.ref a :: st))) rfl rfl rfl
theorem s171_140 : ji_Ev C 171 140 M lv (.ref a :: st) o ↔ ji_kd M a = some (0, 9) ∧ ji_Ev C 171 143 M lv (ji_rv (ji_gR M a 32) :: st) o := ev_getR (k := 171) rfl fd_9_108 rfl
theorem s171_143 : ji_Ev C 171 143 M (l0 :: l1 :: l2 :: some (.int x) :: l) st o ↔ ji_Ev C 171 144 M (l0 :: l1 :: l2 :: some (.int x) :: l) (.int x :: st) o := ev_go (S := (144, M, (l0 :: l1 :: l2 :: some (.int x) :: l), (.int x :: st))) rfl rfl rfl
theorem s171_144 : ji_Ev C 171 144 M lv (.int x :: .ref a :: st) o ↔ ji_evA (ji_kd M a) (fun n => vp_in x n ∧ ji_Ev C 171 145 M lv (.int (ji_gI M a x.toNatClampNeg) :: st) o) := ev_iald rfl
theorem s171_145 : ji_Ev C 171 145 M lv st o ↔ ji_Ev C 171 149 M lv st o := ev_gt rfl (by decide) rfl
theorem s171_148 : ji_Ev C 171 148 M lv st o ↔ ji_Ev C 171 149 M lv (.int 0 :: st) o := ev_go (S := (149, M, lv, (.int 0 :: st))) rfl rfl rfl
theorem s171_149 : ji_Ev C 171 149 M lv [.int x] o ↔ o = (some (.int x), M) := ev_ireti rfl rfl
theorem s172_0 : ji_Ev C 172 0 M (some (.ref a) :: l) st o ↔ ji_Ev C 172 1 M (some (.ref a) :: l) (.ref a :: st) o := ev_go (S := (1, M, (some (.ref a) :: l), (.ref a :: st))) rfl rfl rfl
theorem s172_1 : ji_Ev C 172 1 M lv st o ↔ ji_Ev C 172 4 M lv (.int 160 :: st) o := ev_go (S := (4, M, lv, (.int 160 :: st))) rfl rfl rfl
theorem s172_4 : ji_Ev C 172 4 M (l0 :: some (.int x) :: l) st o ↔ ji_Ev C 172 5 M (l0 :: some (.int x) :: l) (.int x :: st) o := ev_go (S := (5, M, (l0 :: some (.int x) :: l), (.int x :: st))) rfl rfl rfl
theorem s172_5 : ji_Ev C 172 5 M lv (.int y :: .int x :: st) o ↔ ji_Ev C 172 6 M lv (.int (x * y) :: st) o := ev_go (S := (6, M, lv, (.int (x * y) :: st))) rfl rfl rfl
theorem s172_6 : ji_Ev C 172 6 M lv (.int x :: .ref a :: st) o ↔ ji_kd M a = some (0, 9) ∧ ji_Ev C 172 9 (ji_sI M a 20 x) lv st o := ev_putI (k := 172) rfl fd_9_72 rfl (by decide)
theorem s172_9 : ji_Ev C 172 9 M (some (.ref a) :: l) st o ↔ ji_Ev C 172 10 M (some (.ref a) :: l) (.ref a :: st) o := ev_go (S := (10, M, (some (.ref a) :: l), (.ref a :: st))) rfl rfl rfl
theorem s172_10 : ji_Ev C 172 10 M (some (.ref a) :: l) st o ↔ ji_Ev C 172 11 M (some (.ref a) :: l) (.ref a :: st) o := ev_go (S := (11, M, (some (.ref a) :: l), (.ref a :: st))) rfl rfl rfl
theorem s172_11 : ji_Ev C 172 11 M lv (.ref a :: st) o ↔ ji_kd M a = some (0, 9) ∧ ji_Ev C 172 14 M lv (ji_rv (ji_gR M a 19) :: st) o := ev_getR (k := 172) rfl fd_9_69 rfl
theorem s172_14 : ji_Ev C 172 14 M (l0 :: some (.int x) :: l) st o ↔ ji_Ev C 172 15 M (l0 :: some (.int x) :: l) (.int x :: st) o := ev_go (S := (15, M, (l0 :: some (.int x) :: l), (.int x :: st))) rfl rfl rfl
theorem s172_15 : ji_Ev C 172 15 M lv (.int x :: .ref a :: st) o ↔ ji_evA (ji_kd M a) (fun n => vp_in x n ∧ ji_Ev C 172 16 M lv (.int (ji_gI M a x.toNatClampNeg) :: st) o) := ev_iald rfl
theorem s172_16 : ji_Ev C 172 16 M lv (.int x :: .ref a :: st) o ↔ ji_kd M a = some (0, 9) ∧ ji_Ev C 172 19 (ji_sI M a 21 x) lv st o := ev_putI (k := 172) rfl fd_9_75 rfl (by decide)
theorem s172_19 : ji_Ev C 172 19 M (some (.ref a) :: l) st o ↔ ji_Ev C 172 20 M (some (.ref a) :: l) (.ref a :: st) o := ev_go (S := (20, M, (some (.ref a) :: l), (.ref a :: st))) rfl rfl rfl
theorem s172_20 : ji_Ev C 172 20 M lv st o ↔ ji_Ev C 172 21 M lv (.int 0 :: st) o := ev_go (S := (21, M, lv, (.int 0 :: st))) rfl rfl rfl
theorem s172_21 : ji_Ev C 172 21 M lv (.int x :: .ref a :: st) o ↔ ji_kd M a = some (0, 9) ∧ ji_Ev C 172 24 (ji_sI M a 22 x) lv st o := ev_putI (k := 172) rfl fd_9_78 rfl (by decide)
theorem s172_24 : ji_Ev C 172 24 M (some (.ref a) :: l) st o ↔ ji_Ev C 172 25 M (some (.ref a) :: l) (.ref a :: st) o := ev_go (S := (25, M, (some (.ref a) :: l), (.ref a :: st))) rfl rfl rfl
theorem s172_25 : ji_Ev C 172 25 M lv (.ref a :: st) o ↔ (ji_rcb M 9 (.ref a) = true ∧ ji_ok8 st) ∧ ji_evC (C 173 [.ref a] M) (fun v M' => ji_Ev C 172 28 M' lv (v.toList ++ st) o) := ev_inv (k := 172) rfl cd_9_367 rfl
theorem s172_28 : ji_Ev C 172 28 M lv st o ↔ ji_Ev C 172 29 M lv (.int 0 :: st) o := ev_go (S := (29, M, lv, (.int 0 :: st))) rfl rfl rfl
theorem s172_29 : ji_Ev C 172 29 M lv (.int x :: st) o ↔ 2 < lv.length ∧ ji_Ev C 172 30 M (ji_s1 lv 2 (.int x)) st o := ev_stI rfl rfl rfl
theorem s172_30 : ji_Ev C 172 30 M (l0 :: l1 :: some (.int x) :: l) st o ↔ ji_Ev C 172 31 M (l0 :: l1 :: some (.int x) :: l) (.int x :: st) o := ev_go (S := (31, M, (l0 :: l1 :: some (.int x) :: l), (.int x :: st))) rfl rfl rfl
theorem s172_31 : ji_Ev C 172 31 M lv st o ↔ ji_Ev C 172 32 M lv (.int 3 :: st) o := ev_go (S := (32, M, lv, (.int 3 :: st))) rfl rfl rfl
theorem s172_32 : ji_Ev C 172 32 M lv (.int y :: .int x :: st) o ↔ if x < y then ji_Ev C 172 35 M lv st o else ji_Ev C 172 89 M lv st o := ev_brc (c := .ge) rfl (by decide) rfl
theorem s172_35 : ji_Ev C 172 35 M (some (.ref a) :: l) st o ↔ ji_Ev C 172 36 M (some (.ref a) :: l) (.ref a :: st) o := ev_go (S := (36, M, (some (.ref a) :: l), (.ref a :: st))) rfl rfl rfl
theorem s172_36 : ji_Ev C 172 36 M (l0 :: l1 :: some (.int x) :: l) st o ↔ ji_Ev C 172 37 M (l0 :: l1 :: some (.int x) :: l) (.int x :: st) o := ev_go (S := (37, M, (l0 :: l1 :: some (.int x) :: l), (.int x :: st))) rfl rfl rfl
theorem s172_37 : ji_Ev C 172 37 M lv (p0 :: .ref a :: st) o ↔ (ji_rcb M 9 (.ref a) = true ∧ ji_ok8 st) ∧ ji_evC (C 178 [.ref a, p0] M) (fun v M' => ji_Ev C 172 40 M' lv (v.toList ++ st) o) := ev_inv (k := 172) rfl cd_9_373 rfl
theorem s172_40 : ji_Ev C 172 40 M lv (.int x :: st) o ↔ if x = 0 then ji_Ev C 172 43 M lv st o else ji_Ev C 172 45 M lv st o := ev_brz (c := .ne) rfl (by decide) rfl
theorem s172_43 : ji_Ev C 172 43 M lv st o ↔ ji_Ev C 172 44 M lv (.int 0 :: st) o := ev_go (S := (44, M, lv, (.int 0 :: st))) rfl rfl rfl
theorem s172_44 : ji_Ev C 172 44 M lv [.int x] o ↔ narrow .boolean (.int x) = .int x ∧ o = (some (.int x), M) := ev_iretb rfl rfl
theorem s172_45 : ji_Ev C 172 45 M (some (.ref a) :: l) st o ↔ ji_Ev C 172 46 M (some (.ref a) :: l) (.ref a :: st) o := ev_go (S := (46, M, (some (.ref a) :: l), (.ref a :: st))) rfl rfl rfl
theorem s172_46 : ji_Ev C 172 46 M lv (.ref a :: st) o ↔ (ji_rcb M 9 (.ref a) = true ∧ ji_ok8 st) ∧ ji_evC (C 173 [.ref a] M) (fun v M' => ji_Ev C 172 49 M' lv (v.toList ++ st) o) := ev_inv (k := 172) rfl cd_9_367 rfl
theorem s172_49 : ji_Ev C 172 49 M (some (.ref a) :: l) st o ↔ ji_Ev C 172 50 M (some (.ref a) :: l) (.ref a :: st) o := ev_go (S := (50, M, (some (.ref a) :: l), (.ref a :: st))) rfl rfl rfl
theorem s172_50 : ji_Ev C 172 50 M lv (.ref a :: st) o ↔ (ji_rcb M 9 (.ref a) = true ∧ ji_ok8 st) ∧ ji_evC (C 179 [.ref a] M) (fun v M' => ji_Ev C 172 53 M' lv (v.toList ++ st) o) := ev_inv (k := 172) rfl cd_9_389 rfl
theorem s172_53 : ji_Ev C 172 53 M lv (.int x :: st) o ↔ if x = 0 then ji_Ev C 172 65 M lv st o else ji_Ev C 172 56 M lv st o := ev_brz (c := .eq) rfl (by decide) rfl
theorem s172_56 : ji_Ev C 172 56 M (some (.ref a) :: l) st o ↔ ji_Ev C 172 57 M (some (.ref a) :: l) (.ref a :: st) o := ev_go (S := (57, M, (some (.ref a) :: l), (.ref a :: st))) rfl rfl rfl
theorem s172_57 : ji_Ev C 172 57 M lv (.ref a :: st) o ↔ ji_kd M a = some (0, 9) ∧ ji_Ev C 172 60 M lv (.int (ji_gI M a 23) :: st) o := ev_getI (k := 172) rfl fd_9_81 rfl
theorem s172_60 : ji_Ev C 172 60 M lv st o ↔ ji_Ev C 172 62 M lv (.int 59 :: st) o := ev_go (S := (62, M, lv, (.int 59 :: st))) rfl rfl rfl
theorem s172_62 : ji_Ev C 172 62 M lv (.int y :: .int x :: st) o ↔ if x = y then ji_Ev C 172 67 M lv st o else ji_Ev C 172 65 M lv st o := ev_brc (c := .eq) rfl (by decide) rfl
theorem s172_65 : ji_Ev C 172 65 M lv st o ↔ ji_Ev C 172 66 M lv (.int 0 :: st) o := ev_go (S := (66, M, lv, (.int 0 :: st))) rfl rfl rfl
theorem s172_66 : ji_Ev C 172 66 M lv [.int x] o ↔ narrow .boolean (.int x) = .int x ∧ o = (some (.int x), M) := ev_iretb rfl rfl
theorem s172_67 : ji_Ev C 172 67 M (some (.ref a) :: l) st o ↔ ji_Ev C 172 68 M (some (.ref a) :: l) (.ref a :: st) o := ev_go (S := (68, M, (some (.ref a) :: l), (.ref a :: st))) rfl rfl rfl
theorem s172_68 : ji_Ev C 172 68 M lv (.ref a :: st) o ↔ ji_kd M a = some (0, 9) ∧ ji_Ev C 172 71 M lv (ji_rv (ji_gR M a 32) :: st) o := ev_getR (k := 172) rfl fd_9_108 rfl
theorem s172_71 : ji_Ev C 172 71 M (l0 :: l1 :: some (.int x) :: l) st o ↔ ji_Ev C 172 72 M (l0 :: l1 :: some (.int x) :: l) (.int x :: st) o := ev_go (S := (72, M, (l0 :: l1 :: some (.int x) :: l), (.int x :: st))) rfl rfl rfl
theorem s172_72 : ji_Ev C 172 72 M (some (.ref a) :: l) st o ↔ ji_Ev C 172 73 M (some (.ref a) :: l) (.ref a :: st) o := ev_go (S := (73, M, (some (.ref a) :: l), (.ref a :: st))) rfl rfl rfl
theorem s172_73 : ji_Ev C 172 73 M lv (.ref a :: st) o ↔ ji_kd M a = some (0, 9) ∧ ji_Ev C 172 76 M lv (ji_rv (ji_gR M a 27) :: st) o := ev_getR (k := 172) rfl fd_9_93 rfl
theorem s172_76 : ji_Ev C 172 76 M lv st o ↔ ji_Ev C 172 77 M lv (.int 0 :: st) o := ev_go (S := (77, M, lv, (.int 0 :: st))) rfl rfl rfl
theorem s172_77 : ji_Ev C 172 77 M lv (.int x :: .ref a :: st) o ↔ ji_evA (ji_kd M a) (fun n => vp_in x n ∧ ji_Ev C 172 78 M lv (.int (ji_gI M a x.toNatClampNeg) :: st) o) := ev_iald rfl
theorem s172_78 : ji_Ev C 172 78 M lv (.int y :: .int x :: .ref a :: st) o ↔ ji_evA (ji_kd M a) (fun n => vp_in x n ∧ ji_Ev C 172 79 (ji_sI M a x.toNatClampNeg y) lv st o) := ev_iast rfl
theorem s172_79 : ji_Ev C 172 79 M (some (.ref a) :: l) st o ↔ ji_Ev C 172 80 M (some (.ref a) :: l) (.ref a :: st) o := ev_go (S := (80, M, (some (.ref a) :: l), (.ref a :: st))) rfl rfl rfl
theorem s172_80 : ji_Ev C 172 80 M lv (.ref a :: st) o ↔ (ji_rcb M 9 (.ref a) = true ∧ ji_ok8 st) ∧ ji_evC (C 173 [.ref a] M) (fun v M' => ji_Ev C 172 83 M' lv (v.toList ++ st) o) := ev_inv (k := 172) rfl cd_9_367 rfl
theorem s172_83 : ji_Ev C 172 83 M lv st o ↔ ji_evL (lv.getD 2 none) ji_isI (fun v => match v with | .int x => 2 < lv.length ∧ ji_Ev C 172 86 M (ji_s1 lv 2 (.int (x + Int32.ofInt 1))) st o | _ => False) := ev_iinc rfl
theorem s172_86 : ji_Ev C 172 86 M lv st o ↔ ji_Ev C 172 30 M lv st o := ev_gt rfl (by decide) rfl
theorem s172_89 : ji_Ev C 172 89 M (some (.ref a) :: l) st o ↔ ji_Ev C 172 90 M (some (.ref a) :: l) (.ref a :: st) o := ev_go (S := (90, M, (some (.ref a) :: l), (.ref a :: st))) rfl rfl rfl
theorem s172_90 : ji_Ev C 172 90 M lv (.ref a :: st) o ↔ ji_kd M a = some (0, 9) ∧ ji_Ev C 172 93 M lv (.int (ji_gI M a 23) :: st) o := ev_getI (k := 172) rfl fd_9_81 rfl
theorem s172_93 : ji_Ev C 172 93 M lv (.int x :: st) o ↔ if x = 0 then ji_Ev C 172 96 M lv st o else ji_Ev C 172 100 M lv st o := ev_brz (c := .ne) rfl (by decide) rfl
theorem s172_96 : ji_Ev C 172 96 M lv st o ↔ ji_Ev C 172 97 M lv (.int 1 :: st) o := ev_go (S := (97, M, lv, (.int 1 :: st))) rfl rfl rfl
theorem s172_97 : ji_Ev C 172 97 M lv st o ↔ ji_Ev C 172 101 M lv st o := ev_gt rfl (by decide) rfl
theorem s172_100 : ji_Ev C 172 100 M lv st o ↔ ji_Ev C 172 101 M lv (.int 0 :: st) o := ev_go (S := (101, M, lv, (.int 0 :: st))) rfl rfl rfl
theorem s172_101 : ji_Ev C 172 101 M lv [.int x] o ↔ narrow .boolean (.int x) = .int x ∧ o = (some (.int x), M) := ev_iretb rfl rfl
theorem s173_0 : ji_Ev C 173 0 M (some (.ref a) :: l) st o ↔ ji_Ev C 173 1 M (some (.ref a) :: l) (.ref a :: st) o := ev_go (S := (1, M, (some (.ref a) :: l), (.ref a :: st))) rfl rfl rfl
theorem s173_1 : ji_Ev C 173 1 M (some (.ref a) :: l) st o ↔ ji_Ev C 173 2 M (some (.ref a) :: l) (.ref a :: st) o := ev_go (S := (2, M, (some (.ref a) :: l), (.ref a :: st))) rfl rfl rfl
theorem s173_2 : ji_Ev C 173 2 M lv (.ref a :: st) o ↔ ji_kd M a = some (0, 9) ∧ ji_Ev C 173 5 M lv (.int (ji_gI M a 22) :: st) o := ev_getI (k := 173) rfl fd_9_78 rfl
theorem s173_5 : ji_Ev C 173 5 M lv (p0 :: .ref a :: st) o ↔ (ji_rcb M 9 (.ref a) = true ∧ ji_ok8 st) ∧ ji_evC (C 174 [.ref a, p0] M) (fun v M' => ji_Ev C 173 8 M' lv (v.toList ++ st) o) := ev_inv (k := 173) rfl cd_9_341 rfl
theorem s173_8 : ji_Ev C 173 8 M lv st o ↔ ji_Ev C 173 10 M lv (.int 32 :: st) o := ev_go (S := (10, M, lv, (.int 32 :: st))) rfl rfl rfl
theorem s173_10 : ji_Ev C 173 10 M lv (.int y :: .int x :: st) o ↔ if x = y then ji_Ev C 173 26 M lv st o else ji_Ev C 173 13 M lv st o := ev_brc (c := .eq) rfl (by decide) rfl
theorem s173_13 : ji_Ev C 173 13 M (some (.ref a) :: l) st o ↔ ji_Ev C 173 14 M (some (.ref a) :: l) (.ref a :: st) o := ev_go (S := (14, M, (some (.ref a) :: l), (.ref a :: st))) rfl rfl rfl
theorem s173_14 : ji_Ev C 173 14 M (some (.ref a) :: l) st o ↔ ji_Ev C 173 15 M (some (.ref a) :: l) (.ref a :: st) o := ev_go (S := (15, M, (some (.ref a) :: l), (.ref a :: st))) rfl rfl rfl
theorem s173_15 : ji_Ev C 173 15 M lv (.ref a :: st) o ↔ ji_kd M a = some (0, 9) ∧ ji_Ev C 173 18 M lv (.int (ji_gI M a 22) :: st) o := ev_getI (k := 173) rfl fd_9_78 rfl
theorem s173_18 : ji_Ev C 173 18 M lv (p0 :: .ref a :: st) o ↔ (ji_rcb M 9 (.ref a) = true ∧ ji_ok8 st) ∧ ji_evC (C 174 [.ref a, p0] M) (fun v M' => ji_Ev C 173 21 M' lv (v.toList ++ st) o) := ev_inv (k := 173) rfl cd_9_341 rfl
theorem s173_21 : ji_Ev C 173 21 M lv st o ↔ ji_Ev C 173 23 M lv (.int 10 :: st) o := ev_go (S := (23, M, lv, (.int 10 :: st))) rfl rfl rfl
theorem s173_23 : ji_Ev C 173 23 M lv (.int y :: .int x :: st) o ↔ if x = y then ji_Ev C 173 26 M lv st o else ji_Ev C 173 39 M lv st o := ev_brc (c := .ne) rfl (by decide) rfl
theorem s173_26 : ji_Ev C 173 26 M (some (.ref a) :: l) st o ↔ ji_Ev C 173 27 M (some (.ref a) :: l) (.ref a :: st) o := ev_go (S := (27, M, (some (.ref a) :: l), (.ref a :: st))) rfl rfl rfl
theorem s173_27 : ji_Ev C 173 27 M lv (.int x :: st) o ↔ ji_Ev C 173 28 M lv (.int x :: .int x :: st) o := ev_go (S := (28, M, lv, (.int x :: .int x :: st))) rfl rfl rfl
theorem s173_27r : ji_Ev C 173 27 M lv (.ref a :: st) o ↔ ji_Ev C 173 28 M lv (.ref a :: .ref a :: st) o := ev_go (S := (28, M, lv, (.ref a :: .ref a :: st))) rfl rfl rfl
theorem s173_28 : ji_Ev C 173 28 M lv (.ref a :: st) o ↔ ji_kd M a = some (0, 9) ∧ ji_Ev C 173 31 M lv (.int (ji_gI M a 22) :: st) o := ev_getI (k := 173) rfl fd_9_78 rfl
theorem s173_31 : ji_Ev C 173 31 M lv st o ↔ ji_Ev C 173 32 M lv (.int 1 :: st) o := ev_go (S := (32, M, lv, (.int 1 :: st))) rfl rfl rfl
theorem s173_32 : ji_Ev C 173 32 M lv (.int y :: .int x :: st) o ↔ ji_Ev C 173 33 M lv (.int (x + y) :: st) o := ev_go (S := (33, M, lv, (.int (x + y) :: st))) rfl rfl rfl
theorem s173_33 : ji_Ev C 173 33 M lv (.int x :: .ref a :: st) o ↔ ji_kd M a = some (0, 9) ∧ ji_Ev C 173 36 (ji_sI M a 22 x) lv st o := ev_putI (k := 173) rfl fd_9_78 rfl (by decide)
theorem s173_36 : ji_Ev C 173 36 M lv st o ↔ ji_Ev C 173 0 M lv st o := ev_gt rfl (by decide) rfl
theorem s173_39 : ji_Ev C 173 39 M (some (.ref a) :: l) st o ↔ ji_Ev C 173 40 M (some (.ref a) :: l) (.ref a :: st) o := ev_go (S := (40, M, (some (.ref a) :: l), (.ref a :: st))) rfl rfl rfl
theorem s173_40 : ji_Ev C 173 40 M (some (.ref a) :: l) st o ↔ ji_Ev C 173 41 M (some (.ref a) :: l) (.ref a :: st) o := ev_go (S := (41, M, (some (.ref a) :: l), (.ref a :: st))) rfl rfl rfl
theorem s173_41 : ji_Ev C 173 41 M lv (.ref a :: st) o ↔ ji_kd M a = some (0, 9) ∧ ji_Ev C 173 44 M lv (.int (ji_gI M a 22) :: st) o := ev_getI (k := 173) rfl fd_9_78 rfl
theorem s173_44 : ji_Ev C 173 44 M lv (.int x :: .ref a :: st) o ↔ ji_kd M a = some (0, 9) ∧ ji_Ev C 173 47 (ji_sI M a 24 x) lv st o := ev_putI (k := 173) rfl fd_9_84 rfl (by decide)
theorem s173_47 : ji_Ev C 173 47 M (some (.ref a) :: l) st o ↔ ji_Ev C 173 48 M (some (.ref a) :: l) (.ref a :: st) o := ev_go (S := (48, M, (some (.ref a) :: l), (.ref a :: st))) rfl rfl rfl
theorem s173_48 : ji_Ev C 173 48 M (some (.ref a) :: l) st o ↔ ji_Ev C 173 49 M (some (.ref a) :: l) (.ref a :: st) o := ev_go (S := (49, M, (some (.ref a) :: l), (.ref a :: st))) rfl rfl rfl
theorem s173_49 : ji_Ev C 173 49 M lv (.ref a :: st) o ↔ ji_kd M a = some (0, 9) ∧ ji_Ev C 173 52 M lv (.int (ji_gI M a 22) :: st) o := ev_getI (k := 173) rfl fd_9_78 rfl
theorem s173_52 : ji_Ev C 173 52 M lv (p0 :: .ref a :: st) o ↔ (ji_rcb M 9 (.ref a) = true ∧ ji_ok8 st) ∧ ji_evC (C 174 [.ref a, p0] M) (fun v M' => ji_Ev C 173 55 M' lv (v.toList ++ st) o) := ev_inv (k := 173) rfl cd_9_341 rfl
theorem s173_55 : ji_Ev C 173 55 M lv (.int x :: st) o ↔ 1 < lv.length ∧ ji_Ev C 173 56 M (ji_s1 lv 1 (.int x)) st o := ev_stI rfl rfl rfl
theorem s173_56 : ji_Ev C 173 56 M (some (.ref a) :: l) st o ↔ ji_Ev C 173 57 M (some (.ref a) :: l) (.ref a :: st) o := ev_go (S := (57, M, (some (.ref a) :: l), (.ref a :: st))) rfl rfl rfl
theorem s173_57 : ji_Ev C 173 57 M lv (.ref a :: st) o ↔ ji_kd M a = some (0, 9) ∧ ji_Ev C 173 60 M lv (.int (ji_gI M a 22) :: st) o := ev_getI (k := 173) rfl fd_9_78 rfl
theorem s173_60 : ji_Ev C 173 60 M (some (.ref a) :: l) st o ↔ ji_Ev C 173 61 M (some (.ref a) :: l) (.ref a :: st) o := ev_go (S := (61, M, (some (.ref a) :: l), (.ref a :: st))) rfl rfl rfl
theorem s173_61 : ji_Ev C 173 61 M lv (.ref a :: st) o ↔ ji_kd M a = some (0, 9) ∧ ji_Ev C 173 64 M lv (.int (ji_gI M a 21) :: st) o := ev_getI (k := 173) rfl fd_9_75 rfl
theorem s173_64 : ji_Ev C 173 64 M lv (.int y :: .int x :: st) o ↔ if x = y then ji_Ev C 173 67 M lv st o else ji_Ev C 173 75 M lv st o := ev_brc (c := .ne) rfl (by decide) rfl
theorem s173_67 : ji_Ev C 173 67 M (some (.ref a) :: l) st o ↔ ji_Ev C 173 68 M (some (.ref a) :: l) (.ref a :: st) o := ev_go (S := (68, M, (some (.ref a) :: l), (.ref a :: st))) rfl rfl rfl
theorem s173_68 : ji_Ev C 173 68 M lv st o ↔ ji_Ev C 173 69 M lv (.int 0 :: st) o := ev_go (S := (69, M, lv, (.int 0 :: st))) rfl rfl rfl
theorem s173_69 : ji_Ev C 173 69 M lv (.int x :: .ref a :: st) o ↔ ji_kd M a = some (0, 9) ∧ ji_Ev C 173 72 (ji_sI M a 23 x) lv st o := ev_putI (k := 173) rfl fd_9_81 rfl (by decide)
theorem s173_72 : ji_Ev C 173 72 M lv st o ↔ ji_Ev C 173 383 M lv st o := ev_gt rfl (by decide) rfl
theorem s173_75 : ji_Ev C 173 75 M (some (.ref a) :: l) st o ↔ ji_Ev C 173 76 M (some (.ref a) :: l) (.ref a :: st) o := ev_go (S := (76, M, (some (.ref a) :: l), (.ref a :: st))) rfl rfl rfl
theorem s173_76 : ji_Ev C 173 76 M (l0 :: some (.int x) :: l) st o ↔ ji_Ev C 173 77 M (l0 :: some (.int x) :: l) (.int x :: st) o := ev_go (S := (77, M, (l0 :: some (.int x) :: l), (.int x :: st))) rfl rfl rfl
theorem s173_77 : ji_Ev C 173 77 M lv (p0 :: .ref a :: st) o ↔ (ji_rcb M 9 (.ref a) = true ∧ ji_ok8 st) ∧ ji_evC (C 175 [.ref a, p0] M) (fun v M' => ji_Ev C 173 80 M' lv (v.toList ++ st) o) := ev_inv (k := 173) rfl cd_9_344 rfl
theorem s173_80 : ji_Ev C 173 80 M lv (.int x :: st) o ↔ if x = 0 then ji_Ev C 173 204 M lv st o else ji_Ev C 173 83 M lv st o := ev_brz (c := .eq) rfl (by decide) rfl
theorem s173_83 : ji_Ev C 173 83 M lv st o ↔ ji_Ev C 173 84 M lv (.long 0 :: st) o := ev_go (S := (84, M, lv, (.long 0 :: st))) rfl rfl rfl
theorem s173_84 : ji_Ev C 173 84 M lv (.long u :: st) o ↔ 3 < lv.length ∧ ji_Ev C 173 85 M (ji_s2 lv 2 (.long u)) st o := ev_stL rfl rfl rfl
theorem s173_85 : ji_Ev C 173 85 M lv st o ↔ ji_Ev C 173 86 M lv (.int 0 :: st) o := ev_go (S := (86, M, lv, (.int 0 :: st))) rfl rfl rfl
theorem s173_86 : ji_Ev C 173 86 M lv (.int x :: st) o ↔ 4 < lv.length ∧ ji_Ev C 173 88 M (ji_s1 lv 4 (.int x)) st o := ev_stI rfl rfl rfl
theorem s173_88 : ji_Ev C 173 88 M (some (.ref a) :: l) st o ↔ ji_Ev C 173 89 M (some (.ref a) :: l) (.ref a :: st) o := ev_go (S := (89, M, (some (.ref a) :: l), (.ref a :: st))) rfl rfl rfl
theorem s173_89 : ji_Ev C 173 89 M (some (.ref a) :: l) st o ↔ ji_Ev C 173 90 M (some (.ref a) :: l) (.ref a :: st) o := ev_go (S := (90, M, (some (.ref a) :: l), (.ref a :: st))) rfl rfl rfl
theorem s173_90 : ji_Ev C 173 90 M (some (.ref a) :: l) st o ↔ ji_Ev C 173 91 M (some (.ref a) :: l) (.ref a :: st) o := ev_go (S := (91, M, (some (.ref a) :: l), (.ref a :: st))) rfl rfl rfl
theorem s173_91 : ji_Ev C 173 91 M lv (.ref a :: st) o ↔ ji_kd M a = some (0, 9) ∧ ji_Ev C 173 94 M lv (.int (ji_gI M a 22) :: st) o := ev_getI (k := 173) rfl fd_9_78 rfl
theorem s173_94 : ji_Ev C 173 94 M lv (p0 :: .ref a :: st) o ↔ (ji_rcb M 9 (.ref a) = true ∧ ji_ok8 st) ∧ ji_evC (C 174 [.ref a, p0] M) (fun v M' => ji_Ev C 173 97 M' lv (v.toList ++ st) o) := ev_inv (k := 173) rfl cd_9_341 rfl
theorem s173_97 : ji_Ev C 173 97 M lv (p0 :: .ref a :: st) o ↔ (ji_rcb M 9 (.ref a) = true ∧ ji_ok8 st) ∧ ji_evC (C 175 [.ref a, p0] M) (fun v M' => ji_Ev C 173 100 M' lv (v.toList ++ st) o) := ev_inv (k := 173) rfl cd_9_344 rfl
theorem s173_100 : ji_Ev C 173 100 M lv (.int x :: st) o ↔ if x = 0 then ji_Ev C 173 152 M lv st o else ji_Ev C 173 103 M lv st o := ev_brz (c := .eq) rfl (by decide) rfl
theorem s173_103 : ji_Ev C 173 103 M (l0 :: l1 :: l2 :: l3 :: some (.int x) :: l) st o ↔ ji_Ev C 173 105 M (l0 :: l1 :: l2 :: l3 :: some (.int x) :: l) (.int x :: st) o := ev_go (S := (105, M, (l0 :: l1 :: l2 :: l3 :: some (.int x) :: l), (.int x :: st))) rfl rfl rfl
theorem s173_105 : ji_Ev C 173 105 M lv st o ↔ ji_Ev C 173 107 M lv (.int 6 :: st) o := ev_go (S := (107, M, lv, (.int 6 :: st))) rfl rfl rfl
theorem s173_107 : ji_Ev C 173 107 M lv (.int y :: .int x :: st) o ↔ if x < y then ji_Ev C 173 110 M lv st o else ji_Ev C 173 132 M lv st o := ev_brc (c := .ge) rfl (by decide) rfl
theorem s173_110 : ji_Ev C 173 110 M lv st o ↔ ji_Ev C 173 113 M lv (.long (32) :: st) o := ev_go (S := (113, M, lv, (.long (32) :: st))) rfl rfl rfl
theorem s173_113 : ji_Ev C 173 113 M (l0 :: l1 :: some (.long u) :: l) st o ↔ ji_Ev C 173 114 M (l0 :: l1 :: some (.long u) :: l) (.long u :: st) o := ev_go (S := (114, M, (l0 :: l1 :: some (.long u) :: l), (.long u :: st))) rfl rfl rfl
theorem s173_114 : ji_Ev C 173 114 M lv (.long v :: .long u :: st) o ↔ ji_Ev C 173 115 M lv (.long (u * v) :: st) o := ev_go (S := (115, M, lv, (.long (u * v) :: st))) rfl rfl rfl
theorem s173_115 : ji_Ev C 173 115 M (some (.ref a) :: l) st o ↔ ji_Ev C 173 116 M (some (.ref a) :: l) (.ref a :: st) o := ev_go (S := (116, M, (some (.ref a) :: l), (.ref a :: st))) rfl rfl rfl
theorem s173_116 : ji_Ev C 173 116 M (some (.ref a) :: l) st o ↔ ji_Ev C 173 117 M (some (.ref a) :: l) (.ref a :: st) o := ev_go (S := (117, M, (some (.ref a) :: l), (.ref a :: st))) rfl rfl rfl
theorem s173_117 : ji_Ev C 173 117 M lv (.ref a :: st) o ↔ ji_kd M a = some (0, 9) ∧ ji_Ev C 173 120 M lv (.int (ji_gI M a 22) :: st) o := ev_getI (k := 173) rfl fd_9_78 rfl
theorem s173_120 : ji_Ev C 173 120 M lv (p0 :: .ref a :: st) o ↔ (ji_rcb M 9 (.ref a) = true ∧ ji_ok8 st) ∧ ji_evC (C 174 [.ref a, p0] M) (fun v M' => ji_Ev C 173 123 M' lv (v.toList ++ st) o) := ev_inv (k := 173) rfl cd_9_341 rfl
theorem s173_123 : ji_Ev C 173 123 M lv (.int x :: st) o ↔ ji_Ev C 173 124 M lv (.long x.toInt64 :: st) o := ev_go (S := (124, M, lv, (.long x.toInt64 :: st))) rfl rfl rfl
theorem s173_124 : ji_Ev C 173 124 M lv (.long v :: .long u :: st) o ↔ ji_Ev C 173 125 M lv (.long (u + v) :: st) o := ev_go (S := (125, M, lv, (.long (u + v) :: st))) rfl rfl rfl
theorem s173_125 : ji_Ev C 173 125 M lv st o ↔ ji_Ev C 173 128 M lv (.long (96) :: st) o := ev_go (S := (128, M, lv, (.long (96) :: st))) rfl rfl rfl
theorem s173_128 : ji_Ev C 173 128 M lv (.long v :: .long u :: st) o ↔ ji_Ev C 173 129 M lv (.long (u - v) :: st) o := ev_go (S := (129, M, lv, (.long (u - v) :: st))) rfl rfl rfl
theorem s173_129 : ji_Ev C 173 129 M lv st o ↔ ji_Ev C 173 135 M lv st o := ev_gt rfl (by decide) rfl
theorem s173_132 : ji_Ev C 173 132 M lv st o ↔ ji_Ev C 173 135 M lv (.long (-1) :: st) o := ev_go (S := (135, M, lv, (.long (-1) :: st))) rfl rfl rfl
theorem s173_135 : ji_Ev C 173 135 M lv (.long u :: st) o ↔ 3 < lv.length ∧ ji_Ev C 173 136 M (ji_s2 lv 2 (.long u)) st o := ev_stL rfl rfl rfl
theorem s173_136 : ji_Ev C 173 136 M lv st o ↔ ji_evL (lv.getD 4 none) ji_isI (fun v => match v with | .int x => 4 < lv.length ∧ ji_Ev C 173 139 M (ji_s1 lv 4 (.int (x + Int32.ofInt 1))) st o | _ => False) := ev_iinc rfl
theorem s173_139 : ji_Ev C 173 139 M (some (.ref a) :: l) st o ↔ ji_Ev C 173 140 M (some (.ref a) :: l) (.ref a :: st) o := ev_go (S := (140, M, (some (.ref a) :: l), (.ref a :: st))) rfl rfl rfl
theorem s173_140 : ji_Ev C 173 140 M lv (.int x :: st) o ↔ ji_Ev C 173 141 M lv (.int x :: .int x :: st) o := ev_go (S := (141, M, lv, (.int x :: .int x :: st))) rfl rfl rfl
theorem s173_140r : ji_Ev C 173 140 M lv (.ref a :: st) o ↔ ji_Ev C 173 141 M lv (.ref a :: .ref a :: st) o := ev_go (S := (141, M, lv, (.ref a :: .ref a :: st))) rfl rfl rfl
theorem s173_141 : ji_Ev C 173 141 M lv (.ref a :: st) o ↔ ji_kd M a = some (0, 9) ∧ ji_Ev C 173 144 M lv (.int (ji_gI M a 22) :: st) o := ev_getI (k := 173) rfl fd_9_78 rfl
theorem s173_144 : ji_Ev C 173 144 M lv st o ↔ ji_Ev C 173 145 M lv (.int 1 :: st) o := ev_go (S := (145, M, lv, (.int 1 :: st))) rfl rfl rfl
theorem s173_145 : ji_Ev C 173 145 M lv (.int y :: .int x :: st) o ↔ ji_Ev C 173 146 M lv (.int (x + y) :: st) o := ev_go (S := (146, M, lv, (.int (x + y) :: st))) rfl rfl rfl
theorem s173_146 : ji_Ev C 173 146 M lv (.int x :: .ref a :: st) o ↔ ji_kd M a = some (0, 9) ∧ ji_Ev C 173 149 (ji_sI M a 22 x) lv st o := ev_putI (k := 173) rfl fd_9_78 rfl (by decide)
theorem s173_149 : ji_Ev C 173 149 M lv st o ↔ ji_Ev C 173 88 M lv st o := ev_gt rfl (by decide) rfl
theorem s173_152 : ji_Ev C 173 152 M (some (.ref a) :: l) st o ↔ ji_Ev C 173 153 M (some (.ref a) :: l) (.ref a :: st) o := ev_go (S := (153, M, (some (.ref a) :: l), (.ref a :: st))) rfl rfl rfl
theorem s173_153 : ji_Ev C 173 153 M (l0 :: l1 :: l2 :: l3 :: some (.int x) :: l) st o ↔ ji_Ev C 173 155 M (l0 :: l1 :: l2 :: l3 :: some (.int x) :: l) (.int x :: st) o := ev_go (S := (155, M, (l0 :: l1 :: l2 :: l3 :: some (.int x) :: l), (.int x :: st))) rfl rfl rfl
theorem s173_155 : ji_Ev C 173 155 M lv st o ↔ ji_Ev C 173 157 M lv (.int 6 :: st) o := ev_go (S := (157, M, lv, (.int 6 :: st))) rfl rfl rfl
theorem s173_157 : ji_Ev C 173 157 M lv (.int y :: .int x :: st) o ↔ if y < x then ji_Ev C 173 160 M lv st o else ji_Ev C 173 164 M lv st o := ev_brc (c := .le) rfl (by decide) rfl
theorem s173_160 : ji_Ev C 173 160 M lv st o ↔ ji_Ev C 173 161 M lv (.int (-1) :: st) o := ev_go (S := (161, M, lv, (.int (-1) :: st))) rfl rfl rfl
theorem s173_161 : ji_Ev C 173 161 M lv st o ↔ ji_Ev C 173 169 M lv st o := ev_gt rfl (by decide) rfl
theorem s173_164 : ji_Ev C 173 164 M (some (.ref a) :: l) st o ↔ ji_Ev C 173 165 M (some (.ref a) :: l) (.ref a :: st) o := ev_go (S := (165, M, (some (.ref a) :: l), (.ref a :: st))) rfl rfl rfl
theorem s173_165 : ji_Ev C 173 165 M (l0 :: l1 :: some (.long u) :: l) st o ↔ ji_Ev C 173 166 M (l0 :: l1 :: some (.long u) :: l) (.long u :: st) o := ev_go (S := (166, M, (l0 :: l1 :: some (.long u) :: l), (.long u :: st))) rfl rfl rfl
theorem s173_166 : ji_Ev C 173 166 M lv (p0 :: .ref a :: st) o ↔ (ji_rcb M 9 (.ref a) = true ∧ ji_ok8 st) ∧ ji_evC (C 176 [.ref a, p0] M) (fun v M' => ji_Ev C 173 169 M' lv (v.toList ++ st) o) := ev_inv (k := 173) rfl cd_9_353 rfl
theorem s173_169 : ji_Ev C 173 169 M lv (.int x :: .ref a :: st) o ↔ ji_kd M a = some (0, 9) ∧ ji_Ev C 173 172 (ji_sI M a 25 x) lv st o := ev_putI (k := 173) rfl fd_9_87 rfl (by decide)
theorem s173_172 : ji_Ev C 173 172 M (some (.ref a) :: l) st o ↔ ji_Ev C 173 173 M (some (.ref a) :: l) (.ref a :: st) o := ev_go (S := (173, M, (some (.ref a) :: l), (.ref a :: st))) rfl rfl rfl
theorem s173_173 : ji_Ev C 173 173 M (some (.ref a) :: l) st o ↔ ji_Ev C 173 174 M (some (.ref a) :: l) (.ref a :: st) o := ev_go (S := (174, M, (some (.ref a) :: l), (.ref a :: st))) rfl rfl rfl
theorem s173_174 : ji_Ev C 173 174 M lv (.ref a :: st) o ↔ ji_kd M a = some (0, 9) ∧ ji_Ev C 173 177 M lv (.int (ji_gI M a 25) :: st) o := ev_getI (k := 173) rfl fd_9_87 rfl
theorem s173_177 : ji_Ev C 173 177 M lv (.int x :: st) o ↔ if x < 0 then ji_Ev C 173 180 M lv st o else ji_Ev C 173 184 M lv st o := ev_brz (c := .ge) rfl (by decide) rfl
theorem s173_180 : ji_Ev C 173 180 M lv st o ↔ ji_Ev C 173 181 M lv (.int (-1) :: st) o := ev_go (S := (181, M, lv, (.int (-1) :: st))) rfl rfl rfl
theorem s173_181 : ji_Ev C 173 181 M lv st o ↔ ji_Ev C 173 198 M lv st o := ev_gt rfl (by decide) rfl
theorem s173_184 : ji_Ev C 173 184 M (some (.ref a) :: l) st o ↔ ji_Ev C 173 185 M (some (.ref a) :: l) (.ref a :: st) o := ev_go (S := (185, M, (some (.ref a) :: l), (.ref a :: st))) rfl rfl rfl
theorem s173_185 : ji_Ev C 173 185 M lv (.ref a :: st) o ↔ ji_kd M a = some (0, 9) ∧ ji_Ev C 173 188 M lv (.int (ji_gI M a 25) :: st) o := ev_getI (k := 173) rfl fd_9_87 rfl
theorem s173_188 : ji_Ev C 173 188 M lv st o ↔ ji_Ev C 173 190 M lv (.int 10 :: st) o := ev_go (S := (190, M, lv, (.int 10 :: st))) rfl rfl rfl
theorem s173_190 : ji_Ev C 173 190 M lv (.int y :: .int x :: st) o ↔ if x < y then ji_Ev C 173 193 M lv st o else ji_Ev C 173 197 M lv st o := ev_brc (c := .ge) rfl (by decide) rfl
theorem s173_193 : ji_Ev C 173 193 M lv st o ↔ ji_Ev C 173 194 M lv (.int 3 :: st) o := ev_go (S := (194, M, lv, (.int 3 :: st))) rfl rfl rfl
theorem s173_194 : ji_Ev C 173 194 M lv st o ↔ ji_Ev C 173 198 M lv st o := ev_gt rfl (by decide) rfl
theorem s173_197 : ji_Ev C 173 197 M lv st o ↔ ji_Ev C 173 198 M lv (.int 2 :: st) o := ev_go (S := (198, M, lv, (.int 2 :: st))) rfl rfl rfl
theorem s173_198 : ji_Ev C 173 198 M lv (.int x :: .ref a :: st) o ↔ ji_kd M a = some (0, 9) ∧ ji_Ev C 173 201 (ji_sI M a 23 x) lv st o := ev_putI (k := 173) rfl fd_9_81 rfl (by decide)
theorem s173_201 : ji_Ev C 173 201 M lv st o ↔ ji_Ev C 173 383 M lv st o := ev_gt rfl (by decide) rfl
theorem s173_204 : ji_Ev C 173 204 M (some (.ref a) :: l) st o ↔ ji_Ev C 173 205 M (some (.ref a) :: l) (.ref a :: st) o := ev_go (S := (205, M, (some (.ref a) :: l), (.ref a :: st))) rfl rfl rfl
theorem s173_205 : ji_Ev C 173 205 M (l0 :: some (.int x) :: l) st o ↔ ji_Ev C 173 206 M (l0 :: some (.int x) :: l) (.int x :: st) o := ev_go (S := (206, M, (l0 :: some (.int x) :: l), (.int x :: st))) rfl rfl rfl
theorem s173_206 : ji_Ev C 173 206 M lv (p0 :: .ref a :: st) o ↔ (ji_rcb M 9 (.ref a) = true ∧ ji_ok8 st) ∧ ji_evC (C 177 [.ref a, p0] M) (fun v M' => ji_Ev C 173 209 M' lv (v.toList ++ st) o) := ev_inv (k := 173) rfl cd_9_357 rfl
theorem s173_209 : ji_Ev C 173 209 M lv (.int x :: st) o ↔ if x = 0 then ji_Ev C 173 306 M lv st o else ji_Ev C 173 212 M lv st o := ev_brz (c := .eq) rfl (by decide) rfl
theorem s173_212 : ji_Ev C 173 212 M (some (.ref a) :: l) st o ↔ ji_Ev C 173 213 M (some (.ref a) :: l) (.ref a :: st) o := ev_go (S := (213, M, (some (.ref a) :: l), (.ref a :: st))) rfl rfl rfl
theorem s173_213 : ji_Ev C 173 213 M lv st o ↔ ji_Ev C 173 214 M lv (.int 0 :: st) o := ev_go (S := (214, M, lv, (.int 0 :: st))) rfl rfl rfl
theorem s173_214 : ji_Ev C 173 214 M lv (.int x :: .ref a :: st) o ↔ ji_kd M a = some (0, 9) ∧ ji_Ev C 173 217 (ji_sI M a 25 x) lv st o := ev_putI (k := 173) rfl fd_9_87 rfl (by decide)
theorem s173_217 : ji_Ev C 173 217 M (some (.ref a) :: l) st o ↔ ji_Ev C 173 218 M (some (.ref a) :: l) (.ref a :: st) o := ev_go (S := (218, M, (some (.ref a) :: l), (.ref a :: st))) rfl rfl rfl
theorem s173_218 : ji_Ev C 173 218 M (some (.ref a) :: l) st o ↔ ji_Ev C 173 219 M (some (.ref a) :: l) (.ref a :: st) o := ev_go (S := (219, M, (some (.ref a) :: l), (.ref a :: st))) rfl rfl rfl
theorem s173_219 : ji_Ev C 173 219 M (some (.ref a) :: l) st o ↔ ji_Ev C 173 220 M (some (.ref a) :: l) (.ref a :: st) o := ev_go (S := (220, M, (some (.ref a) :: l), (.ref a :: st))) rfl rfl rfl
theorem s173_220 : ji_Ev C 173 220 M lv (.ref a :: st) o ↔ ji_kd M a = some (0, 9) ∧ ji_Ev C 173 223 M lv (.int (ji_gI M a 22) :: st) o := ev_getI (k := 173) rfl fd_9_78 rfl
theorem s173_223 : ji_Ev C 173 223 M lv (p0 :: .ref a :: st) o ↔ (ji_rcb M 9 (.ref a) = true ∧ ji_ok8 st) ∧ ji_evC (C 174 [.ref a, p0] M) (fun v M' => ji_Ev C 173 226 M' lv (v.toList ++ st) o) := ev_inv (k := 173) rfl cd_9_341 rfl
theorem s173_226 : ji_Ev C 173 226 M lv (p0 :: .ref a :: st) o ↔ (ji_rcb M 9 (.ref a) = true ∧ ji_ok8 st) ∧ ji_evC (C 177 [.ref a, p0] M) (fun v M' => ji_Ev C 173 229 M' lv (v.toList ++ st) o) := ev_inv (k := 173) rfl cd_9_357 rfl
theorem s173_229 : ji_Ev C 173 229 M lv (.int x :: st) o ↔ if x = 0 then ji_Ev C 173 281 M lv st o else ji_Ev C 173 232 M lv st o := ev_brz (c := .eq) rfl (by decide) rfl
theorem s173_232 : ji_Ev C 173 232 M (some (.ref a) :: l) st o ↔ ji_Ev C 173 233 M (some (.ref a) :: l) (.ref a :: st) o := ev_go (S := (233, M, (some (.ref a) :: l), (.ref a :: st))) rfl rfl rfl
theorem s173_233 : ji_Ev C 173 233 M lv (.ref a :: st) o ↔ ji_kd M a = some (0, 9) ∧ ji_Ev C 173 236 M lv (.int (ji_gI M a 22) :: st) o := ev_getI (k := 173) rfl fd_9_78 rfl
theorem s173_236 : ji_Ev C 173 236 M (some (.ref a) :: l) st o ↔ ji_Ev C 173 237 M (some (.ref a) :: l) (.ref a :: st) o := ev_go (S := (237, M, (some (.ref a) :: l), (.ref a :: st))) rfl rfl rfl
theorem s173_237 : ji_Ev C 173 237 M lv (.ref a :: st) o ↔ ji_kd M a = some (0, 9) ∧ ji_Ev C 173 240 M lv (.int (ji_gI M a 24) :: st) o := ev_getI (k := 173) rfl fd_9_84 rfl
theorem s173_240 : ji_Ev C 173 240 M lv (.int y :: .int x :: st) o ↔ ji_Ev C 173 241 M lv (.int (x - y) :: st) o := ev_go (S := (241, M, lv, (.int (x - y) :: st))) rfl rfl rfl
theorem s173_241 : ji_Ev C 173 241 M lv st o ↔ ji_Ev C 173 242 M lv (.int 4 :: st) o := ev_go (S := (242, M, lv, (.int 4 :: st))) rfl rfl rfl
theorem s173_242 : ji_Ev C 173 242 M lv (.int y :: .int x :: st) o ↔ if x < y then ji_Ev C 173 245 M lv st o else ji_Ev C 173 268 M lv st o := ev_brc (c := .ge) rfl (by decide) rfl
theorem s173_245 : ji_Ev C 173 245 M (some (.ref a) :: l) st o ↔ ji_Ev C 173 246 M (some (.ref a) :: l) (.ref a :: st) o := ev_go (S := (246, M, (some (.ref a) :: l), (.ref a :: st))) rfl rfl rfl
theorem s173_246 : ji_Ev C 173 246 M lv st o ↔ ji_Ev C 173 248 M lv (.int 10 :: st) o := ev_go (S := (248, M, lv, (.int 10 :: st))) rfl rfl rfl
theorem s173_248 : ji_Ev C 173 248 M (some (.ref a) :: l) st o ↔ ji_Ev C 173 249 M (some (.ref a) :: l) (.ref a :: st) o := ev_go (S := (249, M, (some (.ref a) :: l), (.ref a :: st))) rfl rfl rfl
theorem s173_249 : ji_Ev C 173 249 M lv (.ref a :: st) o ↔ ji_kd M a = some (0, 9) ∧ ji_Ev C 173 252 M lv (.int (ji_gI M a 25) :: st) o := ev_getI (k := 173) rfl fd_9_87 rfl
theorem s173_252 : ji_Ev C 173 252 M lv (.int y :: .int x :: st) o ↔ ji_Ev C 173 253 M lv (.int (x * y) :: st) o := ev_go (S := (253, M, lv, (.int (x * y) :: st))) rfl rfl rfl
theorem s173_253 : ji_Ev C 173 253 M (some (.ref a) :: l) st o ↔ ji_Ev C 173 254 M (some (.ref a) :: l) (.ref a :: st) o := ev_go (S := (254, M, (some (.ref a) :: l), (.ref a :: st))) rfl rfl rfl
theorem s173_254 : ji_Ev C 173 254 M (some (.ref a) :: l) st o ↔ ji_Ev C 173 255 M (some (.ref a) :: l) (.ref a :: st) o := ev_go (S := (255, M, (some (.ref a) :: l), (.ref a :: st))) rfl rfl rfl
theorem s173_255 : ji_Ev C 173 255 M lv (.ref a :: st) o ↔ ji_kd M a = some (0, 9) ∧ ji_Ev C 173 258 M lv (.int (ji_gI M a 22) :: st) o := ev_getI (k := 173) rfl fd_9_78 rfl
theorem s173_258 : ji_Ev C 173 258 M lv (p0 :: .ref a :: st) o ↔ (ji_rcb M 9 (.ref a) = true ∧ ji_ok8 st) ∧ ji_evC (C 174 [.ref a, p0] M) (fun v M' => ji_Ev C 173 261 M' lv (v.toList ++ st) o) := ev_inv (k := 173) rfl cd_9_341 rfl
theorem s173_261 : ji_Ev C 173 261 M lv (.int y :: .int x :: st) o ↔ ji_Ev C 173 262 M lv (.int (x + y) :: st) o := ev_go (S := (262, M, lv, (.int (x + y) :: st))) rfl rfl rfl
theorem s173_262 : ji_Ev C 173 262 M lv st o ↔ ji_Ev C 173 264 M lv (.int 48 :: st) o := ev_go (S := (264, M, lv, (.int 48 :: st))) rfl rfl rfl
theorem s173_264 : ji_Ev C 173 264 M lv (.int y :: .int x :: st) o ↔ ji_Ev C 173 265 M lv (.int (x - y) :: st) o := ev_go (S := (265, M, lv, (.int (x - y) :: st))) rfl rfl rfl
theorem s173_265 : ji_Ev C 173 265 M lv (.int x :: .ref a :: st) o ↔ ji_kd M a = some (0, 9) ∧ ji_Ev C 173 268 (ji_sI M a 25 x) lv st o := ev_putI (k := 173) rfl fd_9_87 rfl (by decide)
theorem s173_268 : ji_Ev C 173 268 M (some (.ref a) :: l) st o ↔ ji_Ev C 173 269 M (some (.ref a) :: l) (.ref a :: st) o := ev_go (S := (269, M, (some (.ref a) :: l), (.ref a :: st))) rfl rfl rfl
theorem s173_269 : ji_Ev C 173 269 M lv (.int x :: st) o ↔ ji_Ev C 173 270 M lv (.int x :: .int x :: st) o := ev_go (S := (270, M, lv, (.int x :: .int x :: st))) rfl rfl rfl
theorem s173_269r : ji_Ev C 173 269 M lv (.ref a :: st) o ↔ ji_Ev C 173 270 M lv (.ref a :: .ref a :: st) o := ev_go (S := (270, M, lv, (.ref a :: .ref a :: st))) rfl rfl rfl
theorem s173_270 : ji_Ev C 173 270 M lv (.ref a :: st) o ↔ ji_kd M a = some (0, 9) ∧ ji_Ev C 173 273 M lv (.int (ji_gI M a 22) :: st) o := ev_getI (k := 173) rfl fd_9_78 rfl
theorem s173_273 : ji_Ev C 173 273 M lv st o ↔ ji_Ev C 173 274 M lv (.int 1 :: st) o := ev_go (S := (274, M, lv, (.int 1 :: st))) rfl rfl rfl
theorem s173_274 : ji_Ev C 173 274 M lv (.int y :: .int x :: st) o ↔ ji_Ev C 173 275 M lv (.int (x + y) :: st) o := ev_go (S := (275, M, lv, (.int (x + y) :: st))) rfl rfl rfl
theorem s173_275 : ji_Ev C 173 275 M lv (.int x :: .ref a :: st) o ↔ ji_kd M a = some (0, 9) ∧ ji_Ev C 173 278 (ji_sI M a 22 x) lv st o := ev_putI (k := 173) rfl fd_9_78 rfl (by decide)
theorem s173_278 : ji_Ev C 173 278 M lv st o ↔ ji_Ev C 173 217 M lv st o := ev_gt rfl (by decide) rfl
theorem s173_281 : ji_Ev C 173 281 M (some (.ref a) :: l) st o ↔ ji_Ev C 173 282 M (some (.ref a) :: l) (.ref a :: st) o := ev_go (S := (282, M, (some (.ref a) :: l), (.ref a :: st))) rfl rfl rfl
theorem s173_282 : ji_Ev C 173 282 M (some (.ref a) :: l) st o ↔ ji_Ev C 173 283 M (some (.ref a) :: l) (.ref a :: st) o := ev_go (S := (283, M, (some (.ref a) :: l), (.ref a :: st))) rfl rfl rfl
theorem s173_283 : ji_Ev C 173 283 M lv (.ref a :: st) o ↔ ji_kd M a = some (0, 9) ∧ ji_Ev C 173 286 M lv (.int (ji_gI M a 22) :: st) o := ev_getI (k := 173) rfl fd_9_78 rfl
theorem s173_286 : ji_Ev C 173 286 M (some (.ref a) :: l) st o ↔ ji_Ev C 173 287 M (some (.ref a) :: l) (.ref a :: st) o := ev_go (S := (287, M, (some (.ref a) :: l), (.ref a :: st))) rfl rfl rfl
theorem s173_287 : ji_Ev C 173 287 M lv (.ref a :: st) o ↔ ji_kd M a = some (0, 9) ∧ ji_Ev C 173 290 M lv (.int (ji_gI M a 24) :: st) o := ev_getI (k := 173) rfl fd_9_84 rfl
theorem s173_290 : ji_Ev C 173 290 M lv (.int y :: .int x :: st) o ↔ ji_Ev C 173 291 M lv (.int (x - y) :: st) o := ev_go (S := (291, M, lv, (.int (x - y) :: st))) rfl rfl rfl
theorem s173_291 : ji_Ev C 173 291 M lv st o ↔ ji_Ev C 173 292 M lv (.int 4 :: st) o := ev_go (S := (292, M, lv, (.int 4 :: st))) rfl rfl rfl
theorem s173_292 : ji_Ev C 173 292 M lv (.int y :: .int x :: st) o ↔ if y < x then ji_Ev C 173 295 M lv st o else ji_Ev C 173 299 M lv st o := ev_brc (c := .le) rfl (by decide) rfl
theorem s173_295 : ji_Ev C 173 295 M lv st o ↔ ji_Ev C 173 296 M lv (.int (-1) :: st) o := ev_go (S := (296, M, lv, (.int (-1) :: st))) rfl rfl rfl
theorem s173_296 : ji_Ev C 173 296 M lv st o ↔ ji_Ev C 173 300 M lv st o := ev_gt rfl (by decide) rfl
theorem s173_299 : ji_Ev C 173 299 M lv st o ↔ ji_Ev C 173 300 M lv (.int 1 :: st) o := ev_go (S := (300, M, lv, (.int 1 :: st))) rfl rfl rfl
theorem s173_300 : ji_Ev C 173 300 M lv (.int x :: .ref a :: st) o ↔ ji_kd M a = some (0, 9) ∧ ji_Ev C 173 303 (ji_sI M a 23 x) lv st o := ev_putI (k := 173) rfl fd_9_81 rfl (by decide)
theorem s173_303 : ji_Ev C 173 303 M lv st o ↔ ji_Ev C 173 383 M lv st o := ev_gt rfl (by decide) rfl
theorem s173_306 : ji_Ev C 173 306 M (l0 :: some (.int x) :: l) st o ↔ ji_Ev C 173 307 M (l0 :: some (.int x) :: l) (.int x :: st) o := ev_go (S := (307, M, (l0 :: some (.int x) :: l), (.int x :: st))) rfl rfl rfl
theorem s173_307 : ji_Ev C 173 307 M lv st o ↔ ji_Ev C 173 309 M lv (.int 40 :: st) o := ev_go (S := (309, M, lv, (.int 40 :: st))) rfl rfl rfl
theorem s173_309 : ji_Ev C 173 309 M lv (.int y :: .int x :: st) o ↔ if x = y then ji_Ev C 173 354 M lv st o else ji_Ev C 173 312 M lv st o := ev_brc (c := .eq) rfl (by decide) rfl
theorem s173_312 : ji_Ev C 173 312 M (l0 :: some (.int x) :: l) st o ↔ ji_Ev C 173 313 M (l0 :: some (.int x) :: l) (.int x :: st) o := ev_go (S := (313, M, (l0 :: some (.int x) :: l), (.int x :: st))) rfl rfl rfl
theorem s173_313 : ji_Ev C 173 313 M lv st o ↔ ji_Ev C 173 315 M lv (.int 41 :: st) o := ev_go (S := (315, M, lv, (.int 41 :: st))) rfl rfl rfl
theorem s173_315 : ji_Ev C 173 315 M lv (.int y :: .int x :: st) o ↔ if x = y then ji_Ev C 173 354 M lv st o else ji_Ev C 173 318 M lv st o := ev_brc (c := .eq) rfl (by decide) rfl
theorem s173_318 : ji_Ev C 173 318 M (l0 :: some (.int x) :: l) st o ↔ ji_Ev C 173 319 M (l0 :: some (.int x) :: l) (.int x :: st) o := ev_go (S := (319, M, (l0 :: some (.int x) :: l), (.int x :: st))) rfl rfl rfl
theorem s173_319 : ji_Ev C 173 319 M lv st o ↔ ji_Ev C 173 321 M lv (.int 59 :: st) o := ev_go (S := (321, M, lv, (.int 59 :: st))) rfl rfl rfl
theorem s173_321 : ji_Ev C 173 321 M lv (.int y :: .int x :: st) o ↔ if x = y then ji_Ev C 173 354 M lv st o else ji_Ev C 173 324 M lv st o := ev_brc (c := .eq) rfl (by decide) rfl
theorem s173_324 : ji_Ev C 173 324 M (l0 :: some (.int x) :: l) st o ↔ ji_Ev C 173 325 M (l0 :: some (.int x) :: l) (.int x :: st) o := ev_go (S := (325, M, (l0 :: some (.int x) :: l), (.int x :: st))) rfl rfl rfl
theorem s173_325 : ji_Ev C 173 325 M lv st o ↔ ji_Ev C 173 327 M lv (.int 43 :: st) o := ev_go (S := (327, M, lv, (.int 43 :: st))) rfl rfl rfl
theorem s173_327 : ji_Ev C 173 327 M lv (.int y :: .int x :: st) o ↔ if x = y then ji_Ev C 173 354 M lv st o else ji_Ev C 173 330 M lv st o := ev_brc (c := .eq) rfl (by decide) rfl
theorem s173_330 : ji_Ev C 173 330 M (l0 :: some (.int x) :: l) st o ↔ ji_Ev C 173 331 M (l0 :: some (.int x) :: l) (.int x :: st) o := ev_go (S := (331, M, (l0 :: some (.int x) :: l), (.int x :: st))) rfl rfl rfl
theorem s173_331 : ji_Ev C 173 331 M lv st o ↔ ji_Ev C 173 333 M lv (.int 45 :: st) o := ev_go (S := (333, M, lv, (.int 45 :: st))) rfl rfl rfl
theorem s173_333 : ji_Ev C 173 333 M lv (.int y :: .int x :: st) o ↔ if x = y then ji_Ev C 173 354 M lv st o else ji_Ev C 173 336 M lv st o := ev_brc (c := .eq) rfl (by decide) rfl
theorem s173_336 : ji_Ev C 173 336 M (l0 :: some (.int x) :: l) st o ↔ ji_Ev C 173 337 M (l0 :: some (.int x) :: l) (.int x :: st) o := ev_go (S := (337, M, (l0 :: some (.int x) :: l), (.int x :: st))) rfl rfl rfl
theorem s173_337 : ji_Ev C 173 337 M lv st o ↔ ji_Ev C 173 339 M lv (.int 42 :: st) o := ev_go (S := (339, M, lv, (.int 42 :: st))) rfl rfl rfl
theorem s173_339 : ji_Ev C 173 339 M lv (.int y :: .int x :: st) o ↔ if x = y then ji_Ev C 173 354 M lv st o else ji_Ev C 173 342 M lv st o := ev_brc (c := .eq) rfl (by decide) rfl
theorem s173_342 : ji_Ev C 173 342 M (l0 :: some (.int x) :: l) st o ↔ ji_Ev C 173 343 M (l0 :: some (.int x) :: l) (.int x :: st) o := ev_go (S := (343, M, (l0 :: some (.int x) :: l), (.int x :: st))) rfl rfl rfl
theorem s173_343 : ji_Ev C 173 343 M lv st o ↔ ji_Ev C 173 345 M lv (.int 60 :: st) o := ev_go (S := (345, M, lv, (.int 60 :: st))) rfl rfl rfl
theorem s173_345 : ji_Ev C 173 345 M lv (.int y :: .int x :: st) o ↔ if x = y then ji_Ev C 173 354 M lv st o else ji_Ev C 173 348 M lv st o := ev_brc (c := .eq) rfl (by decide) rfl
theorem s173_348 : ji_Ev C 173 348 M (l0 :: some (.int x) :: l) st o ↔ ji_Ev C 173 349 M (l0 :: some (.int x) :: l) (.int x :: st) o := ev_go (S := (349, M, (l0 :: some (.int x) :: l), (.int x :: st))) rfl rfl rfl
theorem s173_349 : ji_Ev C 173 349 M lv st o ↔ ji_Ev C 173 351 M lv (.int 61 :: st) o := ev_go (S := (351, M, lv, (.int 61 :: st))) rfl rfl rfl
theorem s173_351 : ji_Ev C 173 351 M lv (.int y :: .int x :: st) o ↔ if x = y then ji_Ev C 173 354 M lv st o else ji_Ev C 173 358 M lv st o := ev_brc (c := .ne) rfl (by decide) rfl
theorem s173_354 : ji_Ev C 173 354 M lv st o ↔ ji_Ev C 173 355 M lv (.int 1 :: st) o := ev_go (S := (355, M, lv, (.int 1 :: st))) rfl rfl rfl
theorem s173_355 : ji_Ev C 173 355 M lv st o ↔ ji_Ev C 173 359 M lv st o := ev_gt rfl (by decide) rfl
theorem s173_358 : ji_Ev C 173 358 M lv st o ↔ ji_Ev C 173 359 M lv (.int 0 :: st) o := ev_go (S := (359, M, lv, (.int 0 :: st))) rfl rfl rfl
theorem s173_359 : ji_Ev C 173 359 M lv (.int x :: st) o ↔ 2 < lv.length ∧ ji_Ev C 173 360 M (ji_s1 lv 2 (.int x)) st o := ev_stI rfl rfl rfl
theorem s173_360 : ji_Ev C 173 360 M (some (.ref a) :: l) st o ↔ ji_Ev C 173 361 M (some (.ref a) :: l) (.ref a :: st) o := ev_go (S := (361, M, (some (.ref a) :: l), (.ref a :: st))) rfl rfl rfl
theorem s173_361 : ji_Ev C 173 361 M (l0 :: l1 :: some (.int x) :: l) st o ↔ ji_Ev C 173 362 M (l0 :: l1 :: some (.int x) :: l) (.int x :: st) o := ev_go (S := (362, M, (l0 :: l1 :: some (.int x) :: l), (.int x :: st))) rfl rfl rfl
theorem s173_362 : ji_Ev C 173 362 M lv (.int x :: st) o ↔ if x = 0 then ji_Ev C 173 369 M lv st o else ji_Ev C 173 365 M lv st o := ev_brz (c := .eq) rfl (by decide) rfl
theorem s173_365 : ji_Ev C 173 365 M (l0 :: some (.int x) :: l) st o ↔ ji_Ev C 173 366 M (l0 :: some (.int x) :: l) (.int x :: st) o := ev_go (S := (366, M, (l0 :: some (.int x) :: l), (.int x :: st))) rfl rfl rfl
theorem s173_366 : ji_Ev C 173 366 M lv st o ↔ ji_Ev C 173 370 M lv st o := ev_gt rfl (by decide) rfl
theorem s173_369 : ji_Ev C 173 369 M lv st o ↔ ji_Ev C 173 370 M lv (.int (-1) :: st) o := ev_go (S := (370, M, lv, (.int (-1) :: st))) rfl rfl rfl
theorem s173_370 : ji_Ev C 173 370 M lv (.int x :: .ref a :: st) o ↔ ji_kd M a = some (0, 9) ∧ ji_Ev C 173 373 (ji_sI M a 23 x) lv st o := ev_putI (k := 173) rfl fd_9_81 rfl (by decide)
theorem s173_373 : ji_Ev C 173 373 M (some (.ref a) :: l) st o ↔ ji_Ev C 173 374 M (some (.ref a) :: l) (.ref a :: st) o := ev_go (S := (374, M, (some (.ref a) :: l), (.ref a :: st))) rfl rfl rfl
theorem s173_374 : ji_Ev C 173 374 M lv (.int x :: st) o ↔ ji_Ev C 173 375 M lv (.int x :: .int x :: st) o := ev_go (S := (375, M, lv, (.int x :: .int x :: st))) rfl rfl rfl
theorem s173_374r : ji_Ev C 173 374 M lv (.ref a :: st) o ↔ ji_Ev C 173 375 M lv (.ref a :: .ref a :: st) o := ev_go (S := (375, M, lv, (.ref a :: .ref a :: st))) rfl rfl rfl
theorem s173_375 : ji_Ev C 173 375 M lv (.ref a :: st) o ↔ ji_kd M a = some (0, 9) ∧ ji_Ev C 173 378 M lv (.int (ji_gI M a 22) :: st) o := ev_getI (k := 173) rfl fd_9_78 rfl
theorem s173_378 : ji_Ev C 173 378 M lv st o ↔ ji_Ev C 173 379 M lv (.int 1 :: st) o := ev_go (S := (379, M, lv, (.int 1 :: st))) rfl rfl rfl
theorem s173_379 : ji_Ev C 173 379 M lv (.int y :: .int x :: st) o ↔ ji_Ev C 173 380 M lv (.int (x + y) :: st) o := ev_go (S := (380, M, lv, (.int (x + y) :: st))) rfl rfl rfl
theorem s173_380 : ji_Ev C 173 380 M lv (.int x :: .ref a :: st) o ↔ ji_kd M a = some (0, 9) ∧ ji_Ev C 173 383 (ji_sI M a 22 x) lv st o := ev_putI (k := 173) rfl fd_9_78 rfl (by decide)
theorem s173_383 : ji_Ev C 173 383 M lv [] o ↔ o = (none, M) := ev_vret rfl rfl
theorem s174_0 : ji_Ev C 174 0 M (l0 :: some (.int x) :: l) st o ↔ ji_Ev C 174 1 M (l0 :: some (.int x) :: l) (.int x :: st) o := ev_go (S := (1, M, (l0 :: some (.int x) :: l), (.int x :: st))) rfl rfl rfl
theorem s174_1 : ji_Ev C 174 1 M (some (.ref a) :: l) st o ↔ ji_Ev C 174 2 M (some (.ref a) :: l) (.ref a :: st) o := ev_go (S := (2, M, (some (.ref a) :: l), (.ref a :: st))) rfl rfl rfl
theorem s174_2 : ji_Ev C 174 2 M lv (.ref a :: st) o ↔ ji_kd M a = some (0, 9) ∧ ji_Ev C 174 5 M lv (.int (ji_gI M a 21) :: st) o := ev_getI (k := 174) rfl fd_9_75 rfl
theorem s174_5 : ji_Ev C 174 5 M lv (.int y :: .int x :: st) o ↔ if x < y then ji_Ev C 174 8 M lv st o else ji_Ev C 174 22 M lv st o := ev_brc (c := .ge) rfl (by decide) rfl
theorem s174_8 : ji_Ev C 174 8 M (some (.ref a) :: l) st o ↔ ji_Ev C 174 9 M (some (.ref a) :: l) (.ref a :: st) o := ev_go (S := (9, M, (some (.ref a) :: l), (.ref a :: st))) rfl rfl rfl
theorem s174_9 : ji_Ev C 174 9 M lv (.ref a :: st) o ↔ ji_kd M a = some (0, 9) ∧ ji_Ev C 174 12 M lv (ji_rv (ji_gR M a 18) :: st) o := ev_getR (k := 174) rfl fd_9_66 rfl
theorem s174_12 : ji_Ev C 174 12 M (some (.ref a) :: l) st o ↔ ji_Ev C 174 13 M (some (.ref a) :: l) (.ref a :: st) o := ev_go (S := (13, M, (some (.ref a) :: l), (.ref a :: st))) rfl rfl rfl
theorem s174_13 : ji_Ev C 174 13 M lv (.ref a :: st) o ↔ ji_kd M a = some (0, 9) ∧ ji_Ev C 174 16 M lv (.int (ji_gI M a 20) :: st) o := ev_getI (k := 174) rfl fd_9_72 rfl
theorem s174_16 : ji_Ev C 174 16 M (l0 :: some (.int x) :: l) st o ↔ ji_Ev C 174 17 M (l0 :: some (.int x) :: l) (.int x :: st) o := ev_go (S := (17, M, (l0 :: some (.int x) :: l), (.int x :: st))) rfl rfl rfl
theorem s174_17 : ji_Ev C 174 17 M lv (.int y :: .int x :: st) o ↔ ji_Ev C 174 18 M lv (.int (x + y) :: st) o := ev_go (S := (18, M, lv, (.int (x + y) :: st))) rfl rfl rfl
theorem s174_18 : ji_Ev C 174 18 M lv (.int x :: .ref a :: st) o ↔ ji_evA (ji_kd M a) (fun n => vp_in x n ∧ ji_Ev C 174 19 M lv (.int (ji_gI M a x.toNatClampNeg) :: st) o) := ev_iald rfl
theorem s174_19 : ji_Ev C 174 19 M lv st o ↔ ji_Ev C 174 23 M lv st o := ev_gt rfl (by decide) rfl
theorem s174_22 : ji_Ev C 174 22 M lv st o ↔ ji_Ev C 174 23 M lv (.int (-1) :: st) o := ev_go (S := (23, M, lv, (.int (-1) :: st))) rfl rfl rfl
theorem s174_23 : ji_Ev C 174 23 M lv [.int x] o ↔ o = (some (.int x), M) := ev_ireti rfl rfl
theorem s175_0 : ji_Ev C 175 0 M (some (.ref a) :: l) st o ↔ ji_Ev C 175 1 M (some (.ref a) :: l) (.ref a :: st) o := ev_go (S := (1, M, (some (.ref a) :: l), (.ref a :: st))) rfl rfl rfl
theorem s175_1 : ji_Ev C 175 1 M (l0 :: some (.int x) :: l) st o ↔ ji_Ev C 175 2 M (l0 :: some (.int x) :: l) (.int x :: st) o := ev_go (S := (2, M, (l0 :: some (.int x) :: l), (.int x :: st))) rfl rfl rfl
theorem s175_2 : ji_Ev C 175 2 M lv st o ↔ ji_Ev C 175 4 M lv (.int 97 :: st) o := ev_go (S := (4, M, lv, (.int 97 :: st))) rfl rfl rfl
theorem s175_4 : ji_Ev C 175 4 M lv st o ↔ ji_Ev C 175 6 M lv (.int 122 :: st) o := ev_go (S := (6, M, lv, (.int 122 :: st))) rfl rfl rfl
theorem s175_6 : ji_Ev C 175 6 M lv (p2 :: p1 :: p0 :: .ref a :: st) o ↔ (ji_rcb M 9 (.ref a) = true ∧ ji_ok8 st) ∧ ji_evC (C 158 [.ref a, p0, p1, p2] M) (fun v M' => ji_Ev C 175 9 M' lv (v.toList ++ st) o) := ev_inv (k := 175) rfl cd_9_255 rfl
theorem s175_9 : ji_Ev C 175 9 M lv [.int x] o ↔ narrow .boolean (.int x) = .int x ∧ o = (some (.int x), M) := ev_iretb rfl rfl
theorem s176_0 : ji_Ev C 176 0 M (l0 :: some (.long u) :: l) st o ↔ ji_Ev C 176 1 M (l0 :: some (.long u) :: l) (.long u :: st) o := ev_go (S := (1, M, (l0 :: some (.long u) :: l), (.long u :: st))) rfl rfl rfl
theorem s176_1 : ji_Ev C 176 1 M lv st o ↔ ji_Ev C 176 4 M lv (.long (6605428) :: st) o := ev_go (S := (4, M, lv, (.long (6605428) :: st))) rfl rfl rfl
theorem s176_4 : ji_Ev C 176 4 M lv (.long v :: .long u :: st) o ↔ ji_Ev C 176 5 M lv (.int (lg_cmp u v) :: st) o := ev_go (S := (5, M, lv, (.int (lg_cmp u v) :: st))) rfl rfl rfl
theorem s176_5 : ji_Ev C 176 5 M lv (.int x :: st) o ↔ if x = 0 then ji_Ev C 176 8 M lv st o else ji_Ev C 176 10 M lv st o := ev_brz (c := .ne) rfl (by decide) rfl
theorem s176_8 : ji_Ev C 176 8 M lv st o ↔ ji_Ev C 176 9 M lv (.int 0 :: st) o := ev_go (S := (9, M, lv, (.int 0 :: st))) rfl rfl rfl
theorem s176_9 : ji_Ev C 176 9 M lv [.int x] o ↔ o = (some (.int x), M) := ev_ireti rfl rfl
theorem s176_10 : ji_Ev C 176 10 M (l0 :: some (.long u) :: l) st o ↔ ji_Ev C 176 11 M (l0 :: some (.long u) :: l) (.long u :: st) o := ev_go (S := (11, M, (l0 :: some (.long u) :: l), (.long u :: st))) rfl rfl rfl
theorem s176_11 : ji_Ev C 176 11 M lv st o ↔ ji_Ev C 176 14 M lv (.long (13369) :: st) o := ev_go (S := (14, M, lv, (.long (13369) :: st))) rfl rfl rfl
theorem s176_14 : ji_Ev C 176 14 M lv (.long v :: .long u :: st) o ↔ ji_Ev C 176 15 M lv (.int (lg_cmp u v) :: st) o := ev_go (S := (15, M, lv, (.int (lg_cmp u v) :: st))) rfl rfl rfl
theorem s176_15 : ji_Ev C 176 15 M lv (.int x :: st) o ↔ if x = 0 then ji_Ev C 176 18 M lv st o else ji_Ev C 176 20 M lv st o := ev_brz (c := .ne) rfl (by decide) rfl
theorem s176_18 : ji_Ev C 176 18 M lv st o ↔ ji_Ev C 176 19 M lv (.int 1 :: st) o := ev_go (S := (19, M, lv, (.int 1 :: st))) rfl rfl rfl
theorem s176_19 : ji_Ev C 176 19 M lv [.int x] o ↔ o = (some (.int x), M) := ev_ireti rfl rfl
theorem s176_20 : ji_Ev C 176 20 M (l0 :: some (.long u) :: l) st o ↔ ji_Ev C 176 21 M (l0 :: some (.long u) :: l) (.long u :: st) o := ev_go (S := (21, M, (l0 :: some (.long u) :: l), (.long u :: st))) rfl rfl rfl
theorem s176_21 : ji_Ev C 176 21 M lv st o ↔ ji_Ev C 176 24 M lv (.long (23114405) :: st) o := ev_go (S := (24, M, lv, (.long (23114405) :: st))) rfl rfl rfl
theorem s176_24 : ji_Ev C 176 24 M lv (.long v :: .long u :: st) o ↔ ji_Ev C 176 25 M lv (.int (lg_cmp u v) :: st) o := ev_go (S := (25, M, lv, (.int (lg_cmp u v) :: st))) rfl rfl rfl
theorem s176_25 : ji_Ev C 176 25 M lv (.int x :: st) o ↔ if x = 0 then ji_Ev C 176 28 M lv st o else ji_Ev C 176 30 M lv st o := ev_brz (c := .ne) rfl (by decide) rfl
theorem s176_28 : ji_Ev C 176 28 M lv st o ↔ ji_Ev C 176 29 M lv (.int 2 :: st) o := ev_go (S := (29, M, lv, (.int 2 :: st))) rfl rfl rfl
theorem s176_29 : ji_Ev C 176 29 M lv [.int x] o ↔ o = (some (.int x), M) := ev_ireti rfl rfl
theorem s176_30 : ji_Ev C 176 30 M (l0 :: some (.long u) :: l) st o ↔ ji_Ev C 176 31 M (l0 :: some (.long u) :: l) (.long u :: st) o := ev_go (S := (31, M, (l0 :: some (.long u) :: l), (.long u :: st))) rfl rfl rfl
theorem s176_31 : ji_Ev C 176 31 M lv st o ↔ ji_Ev C 176 34 M lv (.long (498) :: st) o := ev_go (S := (34, M, lv, (.long (498) :: st))) rfl rfl rfl
theorem s176_34 : ji_Ev C 176 34 M lv (.long v :: .long u :: st) o ↔ ji_Ev C 176 35 M lv (.int (lg_cmp u v) :: st) o := ev_go (S := (35, M, lv, (.int (lg_cmp u v) :: st))) rfl rfl rfl
theorem s176_35 : ji_Ev C 176 35 M lv (.int x :: st) o ↔ if x = 0 then ji_Ev C 176 38 M lv st o else ji_Ev C 176 40 M lv st o := ev_brz (c := .ne) rfl (by decide) rfl
theorem s176_38 : ji_Ev C 176 38 M lv st o ↔ ji_Ev C 176 39 M lv (.int 3 :: st) o := ev_go (S := (39, M, lv, (.int 3 :: st))) rfl rfl rfl
theorem s176_39 : ji_Ev C 176 39 M lv [.int x] o ↔ o = (some (.int x), M) := ev_ireti rfl rfl
theorem s176_40 : ji_Ev C 176 40 M (l0 :: some (.long u) :: l) st o ↔ ji_Ev C 176 41 M (l0 :: some (.long u) :: l) (.long u :: st) o := ev_go (S := (41, M, (l0 :: some (.long u) :: l), (.long u :: st))) rfl rfl rfl
theorem s176_41 : ji_Ev C 176 41 M lv st o ↔ ji_Ev C 176 44 M lv (.long (1476) :: st) o := ev_go (S := (44, M, lv, (.long (1476) :: st))) rfl rfl rfl
theorem s176_44 : ji_Ev C 176 44 M lv (.long v :: .long u :: st) o ↔ ji_Ev C 176 45 M lv (.int (lg_cmp u v) :: st) o := ev_go (S := (45, M, lv, (.int (lg_cmp u v) :: st))) rfl rfl rfl
theorem s176_45 : ji_Ev C 176 45 M lv (.int x :: st) o ↔ if x = 0 then ji_Ev C 176 48 M lv st o else ji_Ev C 176 50 M lv st o := ev_brz (c := .ne) rfl (by decide) rfl
theorem s176_48 : ji_Ev C 176 48 M lv st o ↔ ji_Ev C 176 49 M lv (.int 4 :: st) o := ev_go (S := (49, M, lv, (.int 4 :: st))) rfl rfl rfl
theorem s176_49 : ji_Ev C 176 49 M lv [.int x] o ↔ o = (some (.int x), M) := ev_ireti rfl rfl
theorem s176_50 : ji_Ev C 176 50 M (l0 :: some (.long u) :: l) st o ↔ ji_Ev C 176 51 M (l0 :: some (.long u) :: l) (.long u :: st) o := ev_go (S := (51, M, (l0 :: some (.long u) :: l), (.long u :: st))) rfl rfl rfl
theorem s176_51 : ji_Ev C 176 51 M lv st o ↔ ji_Ev C 176 54 M lv (.long (14836) :: st) o := ev_go (S := (54, M, lv, (.long (14836) :: st))) rfl rfl rfl
theorem s176_54 : ji_Ev C 176 54 M lv (.long v :: .long u :: st) o ↔ ji_Ev C 176 55 M lv (.int (lg_cmp u v) :: st) o := ev_go (S := (55, M, lv, (.int (lg_cmp u v) :: st))) rfl rfl rfl
theorem s176_55 : ji_Ev C 176 55 M lv (.int x :: st) o ↔ if x = 0 then ji_Ev C 176 58 M lv st o else ji_Ev C 176 60 M lv st o := ev_brz (c := .ne) rfl (by decide) rfl
theorem s176_58 : ji_Ev C 176 58 M lv st o ↔ ji_Ev C 176 59 M lv (.int 5 :: st) o := ev_go (S := (59, M, lv, (.int 5 :: st))) rfl rfl rfl
theorem s176_59 : ji_Ev C 176 59 M lv [.int x] o ↔ o = (some (.int x), M) := ev_ireti rfl rfl
theorem s176_60 : ji_Ev C 176 60 M (l0 :: some (.long u) :: l) st o ↔ ji_Ev C 176 61 M (l0 :: some (.long u) :: l) (.long u :: st) o := ev_go (S := (61, M, (l0 :: some (.long u) :: l), (.long u :: st))) rfl rfl rfl
theorem s176_61 : ji_Ev C 176 61 M lv st o ↔ ji_Ev C 176 64 M lv (.long (14144900) :: st) o := ev_go (S := (64, M, lv, (.long (14144900) :: st))) rfl rfl rfl
theorem s176_64 : ji_Ev C 176 64 M lv (.long v :: .long u :: st) o ↔ ji_Ev C 176 65 M lv (.int (lg_cmp u v) :: st) o := ev_go (S := (65, M, lv, (.int (lg_cmp u v) :: st))) rfl rfl rfl
theorem s176_65 : ji_Ev C 176 65 M lv (.int x :: st) o ↔ if x = 0 then ji_Ev C 176 68 M lv st o else ji_Ev C 176 71 M lv st o := ev_brz (c := .ne) rfl (by decide) rfl
theorem s176_68 : ji_Ev C 176 68 M lv st o ↔ ji_Ev C 176 70 M lv (.int 10 :: st) o := ev_go (S := (70, M, lv, (.int 10 :: st))) rfl rfl rfl
theorem s176_70 : ji_Ev C 176 70 M lv [.int x] o ↔ o = (some (.int x), M) := ev_ireti rfl rfl
theorem s176_71 : ji_Ev C 176 71 M (l0 :: some (.long u) :: l) st o ↔ ji_Ev C 176 72 M (l0 :: some (.long u) :: l) (.long u :: st) o := ev_go (S := (72, M, (l0 :: some (.long u) :: l), (.long u :: st))) rfl rfl rfl
theorem s176_72 : ji_Ev C 176 72 M lv st o ↔ ji_Ev C 176 75 M lv (.long (9675) :: st) o := ev_go (S := (75, M, lv, (.long (9675) :: st))) rfl rfl rfl
theorem s176_75 : ji_Ev C 176 75 M lv (.long v :: .long u :: st) o ↔ ji_Ev C 176 76 M lv (.int (lg_cmp u v) :: st) o := ev_go (S := (76, M, lv, (.int (lg_cmp u v) :: st))) rfl rfl rfl
theorem s176_76 : ji_Ev C 176 76 M lv (.int x :: st) o ↔ if x = 0 then ji_Ev C 176 79 M lv st o else ji_Ev C 176 82 M lv st o := ev_brz (c := .ne) rfl (by decide) rfl
theorem s176_79 : ji_Ev C 176 79 M lv st o ↔ ji_Ev C 176 81 M lv (.int 11 :: st) o := ev_go (S := (81, M, lv, (.int 11 :: st))) rfl rfl rfl
theorem s176_81 : ji_Ev C 176 81 M lv [.int x] o ↔ o = (some (.int x), M) := ev_ireti rfl rfl
theorem s176_82 : ji_Ev C 176 82 M (l0 :: some (.long u) :: l) st o ↔ ji_Ev C 176 83 M (l0 :: some (.long u) :: l) (.long u :: st) o := ev_go (S := (83, M, (l0 :: some (.long u) :: l), (.long u :: st))) rfl rfl rfl
theorem s176_83 : ji_Ev C 176 83 M lv st o ↔ ji_Ev C 176 86 M lv (.long (16826546) :: st) o := ev_go (S := (86, M, lv, (.long (16826546) :: st))) rfl rfl rfl
theorem s176_86 : ji_Ev C 176 86 M lv (.long v :: .long u :: st) o ↔ ji_Ev C 176 87 M lv (.int (lg_cmp u v) :: st) o := ev_go (S := (87, M, lv, (.int (lg_cmp u v) :: st))) rfl rfl rfl
theorem s176_87 : ji_Ev C 176 87 M lv (.int x :: st) o ↔ if x = 0 then ji_Ev C 176 90 M lv st o else ji_Ev C 176 93 M lv st o := ev_brz (c := .ne) rfl (by decide) rfl
theorem s176_90 : ji_Ev C 176 90 M lv st o ↔ ji_Ev C 176 92 M lv (.int 12 :: st) o := ev_go (S := (92, M, lv, (.int 12 :: st))) rfl rfl rfl
theorem s176_92 : ji_Ev C 176 92 M lv [.int x] o ↔ o = (some (.int x), M) := ev_ireti rfl rfl
theorem s176_93 : ji_Ev C 176 93 M (l0 :: some (.long u) :: l) st o ↔ ji_Ev C 176 94 M (l0 :: some (.long u) :: l) (.long u :: st) o := ev_go (S := (94, M, (l0 :: some (.long u) :: l), (.long u :: st))) rfl rfl rfl
theorem s176_94 : ji_Ev C 176 94 M lv st o ↔ ji_Ev C 176 97 M lv (.long (24627848) :: st) o := ev_go (S := (97, M, lv, (.long (24627848) :: st))) rfl rfl rfl
theorem s176_97 : ji_Ev C 176 97 M lv (.long v :: .long u :: st) o ↔ ji_Ev C 176 98 M lv (.int (lg_cmp u v) :: st) o := ev_go (S := (98, M, lv, (.int (lg_cmp u v) :: st))) rfl rfl rfl
theorem s176_98 : ji_Ev C 176 98 M lv (.int x :: st) o ↔ if x = 0 then ji_Ev C 176 101 M lv st o else ji_Ev C 176 104 M lv st o := ev_brz (c := .ne) rfl (by decide) rfl
theorem s176_101 : ji_Ev C 176 101 M lv st o ↔ ji_Ev C 176 103 M lv (.int 13 :: st) o := ev_go (S := (103, M, lv, (.int 13 :: st))) rfl rfl rfl
theorem s176_103 : ji_Ev C 176 103 M lv [.int x] o ↔ o = (some (.int x), M) := ev_ireti rfl rfl
theorem s176_104 : ji_Ev C 176 104 M (l0 :: some (.long u) :: l) st o ↔ ji_Ev C 176 105 M (l0 :: some (.long u) :: l) (.long u :: st) o := ev_go (S := (105, M, (l0 :: some (.long u) :: l), (.long u :: st))) rfl rfl rfl
theorem s176_105 : ji_Ev C 176 105 M lv st o ↔ ji_Ev C 176 108 M lv (.long (1253) :: st) o := ev_go (S := (108, M, lv, (.long (1253) :: st))) rfl rfl rfl
theorem s176_108 : ji_Ev C 176 108 M lv (.long v :: .long u :: st) o ↔ ji_Ev C 176 109 M lv (.int (lg_cmp u v) :: st) o := ev_go (S := (109, M, lv, (.int (lg_cmp u v) :: st))) rfl rfl rfl
theorem s176_109 : ji_Ev C 176 109 M lv (.int x :: st) o ↔ if x = 0 then ji_Ev C 176 112 M lv st o else ji_Ev C 176 115 M lv st o := ev_brz (c := .ne) rfl (by decide) rfl
theorem s176_112 : ji_Ev C 176 112 M lv st o ↔ ji_Ev C 176 114 M lv (.int 14 :: st) o := ev_go (S := (114, M, lv, (.int 14 :: st))) rfl rfl rfl
theorem s176_114 : ji_Ev C 176 114 M lv [.int x] o ↔ o = (some (.int x), M) := ev_ireti rfl rfl
theorem s176_115 : ji_Ev C 176 115 M (l0 :: some (.long u) :: l) st o ↔ ji_Ev C 176 116 M (l0 :: some (.long u) :: l) (.long u :: st) o := ev_go (S := (116, M, (l0 :: some (.long u) :: l), (.long u :: st))) rfl rfl rfl
theorem s176_116 : ji_Ev C 176 116 M lv st o ↔ ji_Ev C 176 119 M lv (.long (632645) :: st) o := ev_go (S := (119, M, lv, (.long (632645) :: st))) rfl rfl rfl
theorem s176_119 : ji_Ev C 176 119 M lv (.long v :: .long u :: st) o ↔ ji_Ev C 176 120 M lv (.int (lg_cmp u v) :: st) o := ev_go (S := (120, M, lv, (.int (lg_cmp u v) :: st))) rfl rfl rfl
theorem s176_120 : ji_Ev C 176 120 M lv (.int x :: st) o ↔ if x = 0 then ji_Ev C 176 123 M lv st o else ji_Ev C 176 128 M lv st o := ev_brz (c := .ne) rfl (by decide) rfl
theorem s176_123 : ji_Ev C 176 123 M lv st o ↔ ji_Ev C 176 125 M lv (.int 15 :: st) o := ev_go (S := (125, M, lv, (.int 15 :: st))) rfl rfl rfl
theorem s176_125 : ji_Ev C 176 125 M lv st o ↔ ji_Ev C 176 129 M lv st o := ev_gt rfl (by decide) rfl
theorem s176_128 : ji_Ev C 176 128 M lv st o ↔ ji_Ev C 176 129 M lv (.int (-1) :: st) o := ev_go (S := (129, M, lv, (.int (-1) :: st))) rfl rfl rfl
theorem s176_129 : ji_Ev C 176 129 M lv [.int x] o ↔ o = (some (.int x), M) := ev_ireti rfl rfl
theorem s177_0 : ji_Ev C 177 0 M (some (.ref a) :: l) st o ↔ ji_Ev C 177 1 M (some (.ref a) :: l) (.ref a :: st) o := ev_go (S := (1, M, (some (.ref a) :: l), (.ref a :: st))) rfl rfl rfl
theorem s177_1 : ji_Ev C 177 1 M (l0 :: some (.int x) :: l) st o ↔ ji_Ev C 177 2 M (l0 :: some (.int x) :: l) (.int x :: st) o := ev_go (S := (2, M, (l0 :: some (.int x) :: l), (.int x :: st))) rfl rfl rfl
theorem s177_2 : ji_Ev C 177 2 M lv st o ↔ ji_Ev C 177 4 M lv (.int 48 :: st) o := ev_go (S := (4, M, lv, (.int 48 :: st))) rfl rfl rfl
theorem s177_4 : ji_Ev C 177 4 M lv st o ↔ ji_Ev C 177 6 M lv (.int 57 :: st) o := ev_go (S := (6, M, lv, (.int 57 :: st))) rfl rfl rfl
theorem s177_6 : ji_Ev C 177 6 M lv (p2 :: p1 :: p0 :: .ref a :: st) o ↔ (ji_rcb M 9 (.ref a) = true ∧ ji_ok8 st) ∧ ji_evC (C 158 [.ref a, p0, p1, p2] M) (fun v M' => ji_Ev C 177 9 M' lv (v.toList ++ st) o) := ev_inv (k := 177) rfl cd_9_255 rfl
theorem s177_9 : ji_Ev C 177 9 M lv [.int x] o ↔ narrow .boolean (.int x) = .int x ∧ o = (some (.int x), M) := ev_iretb rfl rfl
theorem s178_0 : ji_Ev C 178 0 M (some (.ref a) :: l) st o ↔ ji_Ev C 178 1 M (some (.ref a) :: l) (.ref a :: st) o := ev_go (S := (1, M, (some (.ref a) :: l), (.ref a :: st))) rfl rfl rfl
theorem s178_1 : ji_Ev C 178 1 M lv (.ref a :: st) o ↔ ji_kd M a = some (0, 9) ∧ ji_Ev C 178 4 M lv (.int (ji_gI M a 23) :: st) o := ev_getI (k := 178) rfl fd_9_81 rfl
theorem s178_4 : ji_Ev C 178 4 M lv st o ↔ ji_Ev C 178 5 M lv (.int 3 :: st) o := ev_go (S := (5, M, lv, (.int 3 :: st))) rfl rfl rfl
theorem s178_5 : ji_Ev C 178 5 M lv (.int y :: .int x :: st) o ↔ if x = y then ji_Ev C 178 8 M lv st o else ji_Ev C 178 20 M lv st o := ev_brc (c := .ne) rfl (by decide) rfl
theorem s178_8 : ji_Ev C 178 8 M (some (.ref a) :: l) st o ↔ ji_Ev C 178 9 M (some (.ref a) :: l) (.ref a :: st) o := ev_go (S := (9, M, (some (.ref a) :: l), (.ref a :: st))) rfl rfl rfl
theorem s178_9 : ji_Ev C 178 9 M lv (.ref a :: st) o ↔ ji_kd M a = some (0, 9) ∧ ji_Ev C 178 12 M lv (.int (ji_gI M a 25) :: st) o := ev_getI (k := 178) rfl fd_9_87 rfl
theorem s178_12 : ji_Ev C 178 12 M (l0 :: some (.int x) :: l) st o ↔ ji_Ev C 178 13 M (l0 :: some (.int x) :: l) (.int x :: st) o := ev_go (S := (13, M, (l0 :: some (.int x) :: l), (.int x :: st))) rfl rfl rfl
theorem s178_13 : ji_Ev C 178 13 M lv (.int y :: .int x :: st) o ↔ if x = y then ji_Ev C 178 16 M lv st o else ji_Ev C 178 20 M lv st o := ev_brc (c := .ne) rfl (by decide) rfl
theorem s178_16 : ji_Ev C 178 16 M lv st o ↔ ji_Ev C 178 17 M lv (.int 1 :: st) o := ev_go (S := (17, M, lv, (.int 1 :: st))) rfl rfl rfl
theorem s178_17 : ji_Ev C 178 17 M lv st o ↔ ji_Ev C 178 21 M lv st o := ev_gt rfl (by decide) rfl
theorem s178_20 : ji_Ev C 178 20 M lv st o ↔ ji_Ev C 178 21 M lv (.int 0 :: st) o := ev_go (S := (21, M, lv, (.int 0 :: st))) rfl rfl rfl
theorem s178_21 : ji_Ev C 178 21 M lv [.int x] o ↔ narrow .boolean (.int x) = .int x ∧ o = (some (.int x), M) := ev_iretb rfl rfl
theorem s179_0 : ji_Ev C 179 0 M (some (.ref a) :: l) st o ↔ ji_Ev C 179 1 M (some (.ref a) :: l) (.ref a :: st) o := ev_go (S := (1, M, (some (.ref a) :: l), (.ref a :: st))) rfl rfl rfl
theorem s179_1 : ji_Ev C 179 1 M lv st o ↔ ji_Ev C 179 2 M lv (.int 0 :: st) o := ev_go (S := (2, M, lv, (.int 0 :: st))) rfl rfl rfl
theorem s179_2 : ji_Ev C 179 2 M lv (.int x :: .ref a :: st) o ↔ ji_kd M a = some (0, 9) ∧ ji_Ev C 179 5 (ji_sI M a 29 x) lv st o := ev_putI (k := 179) rfl fd_9_99 rfl (by decide)
theorem s179_5 : ji_Ev C 179 5 M (some (.ref a) :: l) st o ↔ ji_Ev C 179 6 M (some (.ref a) :: l) (.ref a :: st) o := ev_go (S := (6, M, (some (.ref a) :: l), (.ref a :: st))) rfl rfl rfl
theorem s179_6 : ji_Ev C 179 6 M lv st o ↔ ji_Ev C 179 7 M lv (.int 0 :: st) o := ev_go (S := (7, M, lv, (.int 0 :: st))) rfl rfl rfl
theorem s179_7 : ji_Ev C 179 7 M lv (.int x :: .ref a :: st) o ↔ ji_kd M a = some (0, 9) ∧ ji_Ev C 179 10 (ji_sI M a 30 x) lv st o := ev_putI (k := 179) rfl fd_9_102 rfl (by decide)
theorem s179_10 : ji_Ev C 179 10 M (some (.ref a) :: l) st o ↔ ji_Ev C 179 11 M (some (.ref a) :: l) (.ref a :: st) o := ev_go (S := (11, M, (some (.ref a) :: l), (.ref a :: st))) rfl rfl rfl
theorem s179_11 : ji_Ev C 179 11 M lv st o ↔ ji_Ev C 179 12 M lv (.int 0 :: st) o := ev_go (S := (12, M, lv, (.int 0 :: st))) rfl rfl rfl
theorem s179_12 : ji_Ev C 179 12 M lv (.int x :: .ref a :: st) o ↔ ji_kd M a = some (0, 9) ∧ ji_Ev C 179 15 (ji_sI M a 31 x) lv st o := ev_putI (k := 179) rfl fd_9_105 rfl (by decide)
theorem s179_15 : ji_Ev C 179 15 M lv st o ↔ ji_Ev C 179 16 M lv (.int 1 :: st) o := ev_go (S := (16, M, lv, (.int 1 :: st))) rfl rfl rfl
theorem s179_16 : ji_Ev C 179 16 M lv (.int x :: st) o ↔ 1 < lv.length ∧ ji_Ev C 179 17 M (ji_s1 lv 1 (.int x)) st o := ev_stI rfl rfl rfl
theorem s179_17 : ji_Ev C 179 17 M lv st o ↔ ji_Ev C 179 18 M lv (.int 1 :: st) o := ev_go (S := (18, M, lv, (.int 1 :: st))) rfl rfl rfl
theorem s179_18 : ji_Ev C 179 18 M lv (.int x :: st) o ↔ 2 < lv.length ∧ ji_Ev C 179 19 M (ji_s1 lv 2 (.int x)) st o := ev_stI rfl rfl rfl
theorem s179_19 : ji_Ev C 179 19 M (l0 :: some (.int x) :: l) st o ↔ ji_Ev C 179 20 M (l0 :: some (.int x) :: l) (.int x :: st) o := ev_go (S := (20, M, (l0 :: some (.int x) :: l), (.int x :: st))) rfl rfl rfl
theorem s179_20 : ji_Ev C 179 20 M lv (.int x :: st) o ↔ if x = 0 then ji_Ev C 179 109 M lv st o else ji_Ev C 179 23 M lv st o := ev_brz (c := .eq) rfl (by decide) rfl
theorem s179_23 : ji_Ev C 179 23 M (some (.ref a) :: l) st o ↔ ji_Ev C 179 24 M (some (.ref a) :: l) (.ref a :: st) o := ev_go (S := (24, M, (some (.ref a) :: l), (.ref a :: st))) rfl rfl rfl
theorem s179_24 : ji_Ev C 179 24 M lv (.ref a :: st) o ↔ ji_kd M a = some (0, 9) ∧ ji_Ev C 179 27 M lv (.int (ji_gI M a 23) :: st) o := ev_getI (k := 179) rfl fd_9_81 rfl
theorem s179_27 : ji_Ev C 179 27 M lv st o ↔ ji_Ev C 179 29 M lv (.int 40 :: st) o := ev_go (S := (29, M, lv, (.int 40 :: st))) rfl rfl rfl
theorem s179_29 : ji_Ev C 179 29 M lv (.int y :: .int x :: st) o ↔ if x = y then ji_Ev C 179 53 M lv st o else ji_Ev C 179 32 M lv st o := ev_brc (c := .eq) rfl (by decide) rfl
theorem s179_32 : ji_Ev C 179 32 M (some (.ref a) :: l) st o ↔ ji_Ev C 179 33 M (some (.ref a) :: l) (.ref a :: st) o := ev_go (S := (33, M, (some (.ref a) :: l), (.ref a :: st))) rfl rfl rfl
theorem s179_33 : ji_Ev C 179 33 M lv (.ref a :: st) o ↔ ji_kd M a = some (0, 9) ∧ ji_Ev C 179 36 M lv (.int (ji_gI M a 23) :: st) o := ev_getI (k := 179) rfl fd_9_81 rfl
theorem s179_36 : ji_Ev C 179 36 M lv st o ↔ ji_Ev C 179 38 M lv (.int 45 :: st) o := ev_go (S := (38, M, lv, (.int 45 :: st))) rfl rfl rfl
theorem s179_38 : ji_Ev C 179 38 M lv (.int y :: .int x :: st) o ↔ if x = y then ji_Ev C 179 53 M lv st o else ji_Ev C 179 41 M lv st o := ev_brc (c := .eq) rfl (by decide) rfl
theorem s179_41 : ji_Ev C 179 41 M (l0 :: l1 :: some (.int x) :: l) st o ↔ ji_Ev C 179 42 M (l0 :: l1 :: some (.int x) :: l) (.int x :: st) o := ev_go (S := (42, M, (l0 :: l1 :: some (.int x) :: l), (.int x :: st))) rfl rfl rfl
theorem s179_42 : ji_Ev C 179 42 M lv (.int x :: st) o ↔ if x = 0 then ji_Ev C 179 109 M lv st o else ji_Ev C 179 45 M lv st o := ev_brz (c := .eq) rfl (by decide) rfl
theorem s179_45 : ji_Ev C 179 45 M (some (.ref a) :: l) st o ↔ ji_Ev C 179 46 M (some (.ref a) :: l) (.ref a :: st) o := ev_go (S := (46, M, (some (.ref a) :: l), (.ref a :: st))) rfl rfl rfl
theorem s179_46 : ji_Ev C 179 46 M lv st o ↔ ji_Ev C 179 47 M lv (.int 5 :: st) o := ev_go (S := (47, M, lv, (.int 5 :: st))) rfl rfl rfl
theorem s179_47 : ji_Ev C 179 47 M lv (p0 :: .ref a :: st) o ↔ (ji_rcb M 9 (.ref a) = true ∧ ji_ok8 st) ∧ ji_evC (C 178 [.ref a, p0] M) (fun v M' => ji_Ev C 179 50 M' lv (v.toList ++ st) o) := ev_inv (k := 179) rfl cd_9_373 rfl
theorem s179_50 : ji_Ev C 179 50 M lv (.int x :: st) o ↔ if x = 0 then ji_Ev C 179 109 M lv st o else ji_Ev C 179 53 M lv st o := ev_brz (c := .eq) rfl (by decide) rfl
theorem s179_53 : ji_Ev C 179 53 M (some (.ref a) :: l) st o ↔ ji_Ev C 179 54 M (some (.ref a) :: l) (.ref a :: st) o := ev_go (S := (54, M, (some (.ref a) :: l), (.ref a :: st))) rfl rfl rfl
theorem s179_54 : ji_Ev C 179 54 M lv (.ref a :: st) o ↔ ji_kd M a = some (0, 9) ∧ ji_Ev C 179 57 M lv (.int (ji_gI M a 23) :: st) o := ev_getI (k := 179) rfl fd_9_81 rfl
theorem s179_57 : ji_Ev C 179 57 M lv st o ↔ ji_Ev C 179 59 M lv (.int 40 :: st) o := ev_go (S := (59, M, lv, (.int 40 :: st))) rfl rfl rfl
theorem s179_59 : ji_Ev C 179 59 M lv (.int y :: .int x :: st) o ↔ if x = y then ji_Ev C 179 62 M lv st o else ji_Ev C 179 67 M lv st o := ev_brc (c := .ne) rfl (by decide) rfl
theorem s179_62 : ji_Ev C 179 62 M lv st o ↔ ji_Ev C 179 64 M lv (.int 40 :: st) o := ev_go (S := (64, M, lv, (.int 40 :: st))) rfl rfl rfl
theorem s179_64 : ji_Ev C 179 64 M lv st o ↔ ji_Ev C 179 83 M lv st o := ev_gt rfl (by decide) rfl
theorem s179_67 : ji_Ev C 179 67 M (some (.ref a) :: l) st o ↔ ji_Ev C 179 68 M (some (.ref a) :: l) (.ref a :: st) o := ev_go (S := (68, M, (some (.ref a) :: l), (.ref a :: st))) rfl rfl rfl
theorem s179_68 : ji_Ev C 179 68 M lv (.ref a :: st) o ↔ ji_kd M a = some (0, 9) ∧ ji_Ev C 179 71 M lv (.int (ji_gI M a 23) :: st) o := ev_getI (k := 179) rfl fd_9_81 rfl
theorem s179_71 : ji_Ev C 179 71 M lv st o ↔ ji_Ev C 179 73 M lv (.int 45 :: st) o := ev_go (S := (73, M, lv, (.int 45 :: st))) rfl rfl rfl
theorem s179_73 : ji_Ev C 179 73 M lv (.int y :: .int x :: st) o ↔ if x = y then ji_Ev C 179 76 M lv st o else ji_Ev C 179 81 M lv st o := ev_brc (c := .ne) rfl (by decide) rfl
theorem s179_76 : ji_Ev C 179 76 M lv st o ↔ ji_Ev C 179 78 M lv (.int 126 :: st) o := ev_go (S := (78, M, lv, (.int 126 :: st))) rfl rfl rfl
theorem s179_78 : ji_Ev C 179 78 M lv st o ↔ ji_Ev C 179 83 M lv st o := ev_gt rfl (by decide) rfl
theorem s179_81 : ji_Ev C 179 81 M lv st o ↔ ji_Ev C 179 83 M lv (.int 33 :: st) o := ev_go (S := (83, M, lv, (.int 33 :: st))) rfl rfl rfl
theorem s179_83 : ji_Ev C 179 83 M lv (.int x :: st) o ↔ 3 < lv.length ∧ ji_Ev C 179 84 M (ji_s1 lv 3 (.int x)) st o := ev_stI rfl rfl rfl
theorem s179_84 : ji_Ev C 179 84 M (some (.ref a) :: l) st o ↔ ji_Ev C 179 85 M (some (.ref a) :: l) (.ref a :: st) o := ev_go (S := (85, M, (some (.ref a) :: l), (.ref a :: st))) rfl rfl rfl
theorem s179_85 : ji_Ev C 179 85 M (l0 :: l1 :: l2 :: some (.int x) :: l) st o ↔ ji_Ev C 179 86 M (l0 :: l1 :: l2 :: some (.int x) :: l) (.int x :: st) o := ev_go (S := (86, M, (l0 :: l1 :: l2 :: some (.int x) :: l), (.int x :: st))) rfl rfl rfl
theorem s179_86 : ji_Ev C 179 86 M lv (p0 :: .ref a :: st) o ↔ (ji_rcb M 9 (.ref a) = true ∧ ji_ok8 st) ∧ ji_evC (C 180 [.ref a, p0] M) (fun v M' => ji_Ev C 179 89 M' lv (v.toList ++ st) o) := ev_inv (k := 179) rfl cd_9_376 rfl
theorem s179_89 : ji_Ev C 179 89 M lv (.int x :: st) o ↔ if x = 0 then ji_Ev C 179 92 M lv st o else ji_Ev C 179 94 M lv st o := ev_brz (c := .ne) rfl (by decide) rfl
theorem s179_92 : ji_Ev C 179 92 M lv st o ↔ ji_Ev C 179 93 M lv (.int 0 :: st) o := ev_go (S := (93, M, lv, (.int 0 :: st))) rfl rfl rfl
theorem s179_93 : ji_Ev C 179 93 M lv [.int x] o ↔ narrow .boolean (.int x) = .int x ∧ o = (some (.int x), M) := ev_iretb rfl rfl
theorem s179_94 : ji_Ev C 179 94 M (l0 :: l1 :: l2 :: some (.int x) :: l) st o ↔ ji_Ev C 179 95 M (l0 :: l1 :: l2 :: some (.int x) :: l) (.int x :: st) o := ev_go (S := (95, M, (l0 :: l1 :: l2 :: some (.int x) :: l), (.int x :: st))) rfl rfl rfl
theorem s179_95 : ji_Ev C 179 95 M lv st o ↔ ji_Ev C 179 97 M lv (.int 126 :: st) o := ev_go (S := (97, M, lv, (.int 126 :: st))) rfl rfl rfl
theorem s179_97 : ji_Ev C 179 97 M lv (.int y :: .int x :: st) o ↔ if x = y then ji_Ev C 179 104 M lv st o else ji_Ev C 179 100 M lv st o := ev_brc (c := .eq) rfl (by decide) rfl
theorem s179_100 : ji_Ev C 179 100 M lv st o ↔ ji_Ev C 179 101 M lv (.int 1 :: st) o := ev_go (S := (101, M, lv, (.int 1 :: st))) rfl rfl rfl
theorem s179_101 : ji_Ev C 179 101 M lv st o ↔ ji_Ev C 179 105 M lv st o := ev_gt rfl (by decide) rfl
theorem s179_104 : ji_Ev C 179 104 M lv st o ↔ ji_Ev C 179 105 M lv (.int 0 :: st) o := ev_go (S := (105, M, lv, (.int 0 :: st))) rfl rfl rfl
theorem s179_105 : ji_Ev C 179 105 M lv (.int x :: st) o ↔ 2 < lv.length ∧ ji_Ev C 179 106 M (ji_s1 lv 2 (.int x)) st o := ev_stI rfl rfl rfl
theorem s179_106 : ji_Ev C 179 106 M lv st o ↔ ji_Ev C 179 19 M lv st o := ev_gt rfl (by decide) rfl
theorem s179_109 : ji_Ev C 179 109 M (l0 :: some (.int x) :: l) st o ↔ ji_Ev C 179 110 M (l0 :: some (.int x) :: l) (.int x :: st) o := ev_go (S := (110, M, (l0 :: some (.int x) :: l), (.int x :: st))) rfl rfl rfl
theorem s179_110 : ji_Ev C 179 110 M lv (.int x :: st) o ↔ if x = 0 then ji_Ev C 179 165 M lv st o else ji_Ev C 179 113 M lv st o := ev_brz (c := .eq) rfl (by decide) rfl
theorem s179_113 : ji_Ev C 179 113 M (some (.ref a) :: l) st o ↔ ji_Ev C 179 114 M (some (.ref a) :: l) (.ref a :: st) o := ev_go (S := (114, M, (some (.ref a) :: l), (.ref a :: st))) rfl rfl rfl
theorem s179_114 : ji_Ev C 179 114 M lv (.ref a :: st) o ↔ ji_kd M a = some (0, 9) ∧ ji_Ev C 179 117 M lv (.int (ji_gI M a 23) :: st) o := ev_getI (k := 179) rfl fd_9_81 rfl
theorem s179_117 : ji_Ev C 179 117 M lv st o ↔ ji_Ev C 179 118 M lv (.int 1 :: st) o := ev_go (S := (118, M, lv, (.int 1 :: st))) rfl rfl rfl
theorem s179_118 : ji_Ev C 179 118 M lv (.int y :: .int x :: st) o ↔ if x = y then ji_Ev C 179 129 M lv st o else ji_Ev C 179 121 M lv st o := ev_brc (c := .eq) rfl (by decide) rfl
theorem s179_121 : ji_Ev C 179 121 M (some (.ref a) :: l) st o ↔ ji_Ev C 179 122 M (some (.ref a) :: l) (.ref a :: st) o := ev_go (S := (122, M, (some (.ref a) :: l), (.ref a :: st))) rfl rfl rfl
theorem s179_122 : ji_Ev C 179 122 M lv (.ref a :: st) o ↔ ji_kd M a = some (0, 9) ∧ ji_Ev C 179 125 M lv (.int (ji_gI M a 23) :: st) o := ev_getI (k := 179) rfl fd_9_81 rfl
theorem s179_125 : ji_Ev C 179 125 M lv st o ↔ ji_Ev C 179 126 M lv (.int 2 :: st) o := ev_go (S := (126, M, lv, (.int 2 :: st))) rfl rfl rfl
theorem s179_126 : ji_Ev C 179 126 M lv (.int y :: .int x :: st) o ↔ if x = y then ji_Ev C 179 129 M lv st o else ji_Ev C 179 165 M lv st o := ev_brc (c := .ne) rfl (by decide) rfl
theorem s179_129 : ji_Ev C 179 129 M (some (.ref a) :: l) st o ↔ ji_Ev C 179 130 M (some (.ref a) :: l) (.ref a :: st) o := ev_go (S := (130, M, (some (.ref a) :: l), (.ref a :: st))) rfl rfl rfl
theorem s179_130 : ji_Ev C 179 130 M (some (.ref a) :: l) st o ↔ ji_Ev C 179 131 M (some (.ref a) :: l) (.ref a :: st) o := ev_go (S := (131, M, (some (.ref a) :: l), (.ref a :: st))) rfl rfl rfl
theorem s179_131 : ji_Ev C 179 131 M lv (.ref a :: st) o ↔ ji_kd M a = some (0, 9) ∧ ji_Ev C 179 134 M lv (.int (ji_gI M a 23) :: st) o := ev_getI (k := 179) rfl fd_9_81 rfl
theorem s179_134 : ji_Ev C 179 134 M lv st o ↔ ji_Ev C 179 135 M lv (.int 1 :: st) o := ev_go (S := (135, M, lv, (.int 1 :: st))) rfl rfl rfl
theorem s179_135 : ji_Ev C 179 135 M lv (.int y :: .int x :: st) o ↔ if x = y then ji_Ev C 179 138 M lv st o else ji_Ev C 179 145 M lv st o := ev_brc (c := .ne) rfl (by decide) rfl
theorem s179_138 : ji_Ev C 179 138 M (some (.ref a) :: l) st o ↔ ji_Ev C 179 139 M (some (.ref a) :: l) (.ref a :: st) o := ev_go (S := (139, M, (some (.ref a) :: l), (.ref a :: st))) rfl rfl rfl
theorem s179_139 : ji_Ev C 179 139 M lv (.ref a :: st) o ↔ ji_kd M a = some (0, 9) ∧ ji_Ev C 179 142 M lv (.int (ji_gI M a 25) :: st) o := ev_getI (k := 179) rfl fd_9_87 rfl
theorem s179_142 : ji_Ev C 179 142 M lv st o ↔ ji_Ev C 179 157 M lv st o := ev_gt rfl (by decide) rfl
theorem s179_145 : ji_Ev C 179 145 M (some (.ref a) :: l) st o ↔ ji_Ev C 179 146 M (some (.ref a) :: l) (.ref a :: st) o := ev_go (S := (146, M, (some (.ref a) :: l), (.ref a :: st))) rfl rfl rfl
theorem s179_146 : ji_Ev C 179 146 M lv (.ref a :: st) o ↔ ji_kd M a = some (0, 9) ∧ ji_Ev C 179 149 M lv (ji_rv (ji_gR M a 28) :: st) o := ev_getR (k := 179) rfl fd_9_96 rfl
theorem s179_149 : ji_Ev C 179 149 M (some (.ref a) :: l) st o ↔ ji_Ev C 179 150 M (some (.ref a) :: l) (.ref a :: st) o := ev_go (S := (150, M, (some (.ref a) :: l), (.ref a :: st))) rfl rfl rfl
theorem s179_150 : ji_Ev C 179 150 M lv (.ref a :: st) o ↔ ji_kd M a = some (0, 9) ∧ ji_Ev C 179 153 M lv (.int (ji_gI M a 25) :: st) o := ev_getI (k := 179) rfl fd_9_87 rfl
theorem s179_153 : ji_Ev C 179 153 M lv st o ↔ ji_Ev C 179 155 M lv (.int 10 :: st) o := ev_go (S := (155, M, lv, (.int 10 :: st))) rfl rfl rfl
theorem s179_155 : ji_Ev C 179 155 M lv (.int y :: .int x :: st) o ↔ ji_Ev C 179 156 M lv (.int (x - y) :: st) o := ev_go (S := (156, M, lv, (.int (x - y) :: st))) rfl rfl rfl
theorem s179_156 : ji_Ev C 179 156 M lv (.int x :: .ref a :: st) o ↔ ji_evA (ji_kd M a) (fun n => vp_in x n ∧ ji_Ev C 179 157 M lv (.int (ji_gI M a x.toNatClampNeg) :: st) o) := ev_iald rfl
theorem s179_157 : ji_Ev C 179 157 M lv (p0 :: .ref a :: st) o ↔ (ji_rcb M 9 (.ref a) = true ∧ ji_ok8 st) ∧ ji_evC (C 181 [.ref a, p0] M) (fun v M' => ji_Ev C 179 160 M' lv (v.toList ++ st) o) := ev_inv (k := 179) rfl cd_9_379 rfl
theorem s179_160 : ji_Ev C 179 160 M lv st o ↔ ji_Ev C 179 161 M lv (.int 0 :: st) o := ev_go (S := (161, M, lv, (.int 0 :: st))) rfl rfl rfl
theorem s179_161 : ji_Ev C 179 161 M lv (.int x :: st) o ↔ 1 < lv.length ∧ ji_Ev C 179 162 M (ji_s1 lv 1 (.int x)) st o := ev_stI rfl rfl rfl
theorem s179_162 : ji_Ev C 179 162 M lv st o ↔ ji_Ev C 179 19 M lv st o := ev_gt rfl (by decide) rfl
theorem s179_165 : ji_Ev C 179 165 M (l0 :: some (.int x) :: l) st o ↔ ji_Ev C 179 166 M (l0 :: some (.int x) :: l) (.int x :: st) o := ev_go (S := (166, M, (l0 :: some (.int x) :: l), (.int x :: st))) rfl rfl rfl
theorem s179_166 : ji_Ev C 179 166 M lv (.int x :: st) o ↔ if x = 0 then ji_Ev C 179 171 M lv st o else ji_Ev C 179 169 M lv st o := ev_brz (c := .eq) rfl (by decide) rfl
theorem s179_169 : ji_Ev C 179 169 M lv st o ↔ ji_Ev C 179 170 M lv (.int 0 :: st) o := ev_go (S := (170, M, lv, (.int 0 :: st))) rfl rfl rfl
theorem s179_170 : ji_Ev C 179 170 M lv [.int x] o ↔ narrow .boolean (.int x) = .int x ∧ o = (some (.int x), M) := ev_iretb rfl rfl
theorem s179_171 : ji_Ev C 179 171 M (some (.ref a) :: l) st o ↔ ji_Ev C 179 172 M (some (.ref a) :: l) (.ref a :: st) o := ev_go (S := (172, M, (some (.ref a) :: l), (.ref a :: st))) rfl rfl rfl
theorem s179_172 : ji_Ev C 179 172 M lv (.ref a :: st) o ↔ (ji_rcb M 9 (.ref a) = true ∧ ji_ok8 st) ∧ ji_evC (C 185 [.ref a] M) (fun v M' => ji_Ev C 179 175 M' lv (v.toList ++ st) o) := ev_inv (k := 179) rfl cd_9_382 rfl
theorem s179_175 : ji_Ev C 179 175 M lv (.int x :: st) o ↔ if 0 < x then ji_Ev C 179 178 M lv st o else ji_Ev C 179 216 M lv st o := ev_brz (c := .le) rfl (by decide) rfl
theorem s179_178 : ji_Ev C 179 178 M (some (.ref a) :: l) st o ↔ ji_Ev C 179 179 M (some (.ref a) :: l) (.ref a :: st) o := ev_go (S := (179, M, (some (.ref a) :: l), (.ref a :: st))) rfl rfl rfl
theorem s179_179 : ji_Ev C 179 179 M lv (.ref a :: st) o ↔ (ji_rcb M 9 (.ref a) = true ∧ ji_ok8 st) ∧ ji_evC (C 185 [.ref a] M) (fun v M' => ji_Ev C 179 182 M' lv (v.toList ++ st) o) := ev_inv (k := 179) rfl cd_9_382 rfl
theorem s179_182 : ji_Ev C 179 182 M lv (.int x :: st) o ↔ 3 < lv.length ∧ ji_Ev C 179 183 M (ji_s1 lv 3 (.int x)) st o := ev_stI rfl rfl rfl
theorem s179_183 : ji_Ev C 179 183 M (some (.ref a) :: l) st o ↔ ji_Ev C 179 184 M (some (.ref a) :: l) (.ref a :: st) o := ev_go (S := (184, M, (some (.ref a) :: l), (.ref a :: st))) rfl rfl rfl
theorem s179_184 : ji_Ev C 179 184 M (l0 :: l1 :: l2 :: some (.int x) :: l) st o ↔ ji_Ev C 179 185 M (l0 :: l1 :: l2 :: some (.int x) :: l) (.int x :: st) o := ev_go (S := (185, M, (l0 :: l1 :: l2 :: some (.int x) :: l), (.int x :: st))) rfl rfl rfl
theorem s179_185 : ji_Ev C 179 185 M lv (p0 :: .ref a :: st) o ↔ (ji_rcb M 9 (.ref a) = true ∧ ji_ok8 st) ∧ ji_evC (C 186 [.ref a, p0] M) (fun v M' => ji_Ev C 179 188 M' lv (v.toList ++ st) o) := ev_inv (k := 179) rfl cd_9_386 rfl
theorem s179_188 : ji_Ev C 179 188 M lv (.int x :: st) o ↔ if x = 0 then ji_Ev C 179 191 M lv st o else ji_Ev C 179 193 M lv st o := ev_brz (c := .ne) rfl (by decide) rfl
theorem s179_191 : ji_Ev C 179 191 M lv st o ↔ ji_Ev C 179 192 M lv (.int 0 :: st) o := ev_go (S := (192, M, lv, (.int 0 :: st))) rfl rfl rfl
theorem s179_192 : ji_Ev C 179 192 M lv [.int x] o ↔ narrow .boolean (.int x) = .int x ∧ o = (some (.int x), M) := ev_iretb rfl rfl
theorem s179_193 : ji_Ev C 179 193 M lv st o ↔ ji_Ev C 179 194 M lv (.int 1 :: st) o := ev_go (S := (194, M, lv, (.int 1 :: st))) rfl rfl rfl
theorem s179_194 : ji_Ev C 179 194 M lv (.int x :: st) o ↔ 1 < lv.length ∧ ji_Ev C 179 195 M (ji_s1 lv 1 (.int x)) st o := ev_stI rfl rfl rfl
theorem s179_195 : ji_Ev C 179 195 M (l0 :: l1 :: l2 :: some (.int x) :: l) st o ↔ ji_Ev C 179 196 M (l0 :: l1 :: l2 :: some (.int x) :: l) (.int x :: st) o := ev_go (S := (196, M, (l0 :: l1 :: l2 :: some (.int x) :: l), (.int x :: st))) rfl rfl rfl
theorem s179_196 : ji_Ev C 179 196 M lv st o ↔ ji_Ev C 179 198 M lv (.int 38 :: st) o := ev_go (S := (198, M, lv, (.int 38 :: st))) rfl rfl rfl
theorem s179_198 : ji_Ev C 179 198 M lv (.int y :: .int x :: st) o ↔ if x = y then ji_Ev C 179 207 M lv st o else ji_Ev C 179 201 M lv st o := ev_brc (c := .eq) rfl (by decide) rfl
theorem s179_201 : ji_Ev C 179 201 M (l0 :: l1 :: l2 :: some (.int x) :: l) st o ↔ ji_Ev C 179 202 M (l0 :: l1 :: l2 :: some (.int x) :: l) (.int x :: st) o := ev_go (S := (202, M, (l0 :: l1 :: l2 :: some (.int x) :: l), (.int x :: st))) rfl rfl rfl
theorem s179_202 : ji_Ev C 179 202 M lv st o ↔ ji_Ev C 179 204 M lv (.int 124 :: st) o := ev_go (S := (204, M, lv, (.int 124 :: st))) rfl rfl rfl
theorem s179_204 : ji_Ev C 179 204 M lv (.int y :: .int x :: st) o ↔ if x = y then ji_Ev C 179 207 M lv st o else ji_Ev C 179 211 M lv st o := ev_brc (c := .ne) rfl (by decide) rfl
theorem s179_207 : ji_Ev C 179 207 M lv st o ↔ ji_Ev C 179 208 M lv (.int 1 :: st) o := ev_go (S := (208, M, lv, (.int 1 :: st))) rfl rfl rfl
theorem s179_208 : ji_Ev C 179 208 M lv st o ↔ ji_Ev C 179 212 M lv st o := ev_gt rfl (by decide) rfl
theorem s179_211 : ji_Ev C 179 211 M lv st o ↔ ji_Ev C 179 212 M lv (.int 0 :: st) o := ev_go (S := (212, M, lv, (.int 0 :: st))) rfl rfl rfl
theorem s179_212 : ji_Ev C 179 212 M lv (.int x :: st) o ↔ 2 < lv.length ∧ ji_Ev C 179 213 M (ji_s1 lv 2 (.int x)) st o := ev_stI rfl rfl rfl
theorem s179_213 : ji_Ev C 179 213 M lv st o ↔ ji_Ev C 179 19 M lv st o := ev_gt rfl (by decide) rfl
theorem s179_216 : ji_Ev C 179 216 M (some (.ref a) :: l) st o ↔ ji_Ev C 179 217 M (some (.ref a) :: l) (.ref a :: st) o := ev_go (S := (217, M, (some (.ref a) :: l), (.ref a :: st))) rfl rfl rfl
theorem s179_217 : ji_Ev C 179 217 M lv st o ↔ ji_Ev C 179 218 M lv (.int 1 :: st) o := ev_go (S := (218, M, lv, (.int 1 :: st))) rfl rfl rfl
theorem s179_218 : ji_Ev C 179 218 M lv (p0 :: .ref a :: st) o ↔ (ji_rcb M 9 (.ref a) = true ∧ ji_ok8 st) ∧ ji_evC (C 182 [.ref a, p0] M) (fun v M' => ji_Ev C 179 221 M' lv (v.toList ++ st) o) := ev_inv (k := 179) rfl cd_9_370 rfl
theorem s179_221 : ji_Ev C 179 221 M (some (.ref a) :: l) st o ↔ ji_Ev C 179 222 M (some (.ref a) :: l) (.ref a :: st) o := ev_go (S := (222, M, (some (.ref a) :: l), (.ref a :: st))) rfl rfl rfl
theorem s179_222 : ji_Ev C 179 222 M lv (.ref a :: st) o ↔ ji_kd M a = some (0, 9) ∧ ji_Ev C 179 225 M lv (.int (ji_gI M a 29) :: st) o := ev_getI (k := 179) rfl fd_9_99 rfl
theorem s179_225 : ji_Ev C 179 225 M lv (.int x :: st) o ↔ if x = 0 then ji_Ev C 179 228 M lv st o else ji_Ev C 179 230 M lv st o := ev_brz (c := .ne) rfl (by decide) rfl
theorem s179_228 : ji_Ev C 179 228 M lv st o ↔ ji_Ev C 179 229 M lv (.int 1 :: st) o := ev_go (S := (229, M, lv, (.int 1 :: st))) rfl rfl rfl
theorem s179_229 : ji_Ev C 179 229 M lv [.int x] o ↔ narrow .boolean (.int x) = .int x ∧ o = (some (.int x), M) := ev_iretb rfl rfl
theorem s179_230 : ji_Ev C 179 230 M (some (.ref a) :: l) st o ↔ ji_Ev C 179 231 M (some (.ref a) :: l) (.ref a :: st) o := ev_go (S := (231, M, (some (.ref a) :: l), (.ref a :: st))) rfl rfl rfl
theorem s179_231 : ji_Ev C 179 231 M lv (.ref a :: st) o ↔ ji_kd M a = some (0, 9) ∧ ji_Ev C 179 234 M lv (.int (ji_gI M a 23) :: st) o := ev_getI (k := 179) rfl fd_9_81 rfl
theorem s179_234 : ji_Ev C 179 234 M lv st o ↔ ji_Ev C 179 236 M lv (.int 41 :: st) o := ev_go (S := (236, M, lv, (.int 41 :: st))) rfl rfl rfl
theorem s179_236 : ji_Ev C 179 236 M lv (.int y :: .int x :: st) o ↔ if x = y then ji_Ev C 179 241 M lv st o else ji_Ev C 179 239 M lv st o := ev_brc (c := .eq) rfl (by decide) rfl
theorem s179_239 : ji_Ev C 179 239 M lv st o ↔ ji_Ev C 179 240 M lv (.int 0 :: st) o := ev_go (S := (240, M, lv, (.int 0 :: st))) rfl rfl rfl
theorem s179_240 : ji_Ev C 179 240 M lv [.int x] o ↔ narrow .boolean (.int x) = .int x ∧ o = (some (.int x), M) := ev_iretb rfl rfl
theorem s179_241 : ji_Ev C 179 241 M (some (.ref a) :: l) st o ↔ ji_Ev C 179 242 M (some (.ref a) :: l) (.ref a :: st) o := ev_go (S := (242, M, (some (.ref a) :: l), (.ref a :: st))) rfl rfl rfl
theorem s179_242 : ji_Ev C 179 242 M lv (.int x :: st) o ↔ ji_Ev C 179 243 M lv (.int x :: .int x :: st) o := ev_go (S := (243, M, lv, (.int x :: .int x :: st))) rfl rfl rfl
theorem s179_242r : ji_Ev C 179 242 M lv (.ref a :: st) o ↔ ji_Ev C 179 243 M lv (.ref a :: .ref a :: st) o := ev_go (S := (243, M, lv, (.ref a :: .ref a :: st))) rfl rfl rfl
theorem s179_243 : ji_Ev C 179 243 M lv (.ref a :: st) o ↔ ji_kd M a = some (0, 9) ∧ ji_Ev C 179 246 M lv (.int (ji_gI M a 29) :: st) o := ev_getI (k := 179) rfl fd_9_99 rfl
theorem s179_246 : ji_Ev C 179 246 M lv st o ↔ ji_Ev C 179 247 M lv (.int 1 :: st) o := ev_go (S := (247, M, lv, (.int 1 :: st))) rfl rfl rfl
theorem s179_247 : ji_Ev C 179 247 M lv (.int y :: .int x :: st) o ↔ ji_Ev C 179 248 M lv (.int (x - y) :: st) o := ev_go (S := (248, M, lv, (.int (x - y) :: st))) rfl rfl rfl
theorem s179_248 : ji_Ev C 179 248 M lv (.int x :: .ref a :: st) o ↔ ji_kd M a = some (0, 9) ∧ ji_Ev C 179 251 (ji_sI M a 29 x) lv st o := ev_putI (k := 179) rfl fd_9_99 rfl (by decide)
theorem s179_251 : ji_Ev C 179 251 M (some (.ref a) :: l) st o ↔ ji_Ev C 179 252 M (some (.ref a) :: l) (.ref a :: st) o := ev_go (S := (252, M, (some (.ref a) :: l), (.ref a :: st))) rfl rfl rfl
theorem s179_252 : ji_Ev C 179 252 M lv (.int x :: st) o ↔ ji_Ev C 179 253 M lv (.int x :: .int x :: st) o := ev_go (S := (253, M, lv, (.int x :: .int x :: st))) rfl rfl rfl
theorem s179_252r : ji_Ev C 179 252 M lv (.ref a :: st) o ↔ ji_Ev C 179 253 M lv (.ref a :: .ref a :: st) o := ev_go (S := (253, M, lv, (.ref a :: .ref a :: st))) rfl rfl rfl
theorem s179_253 : ji_Ev C 179 253 M lv (.ref a :: st) o ↔ ji_kd M a = some (0, 9) ∧ ji_Ev C 179 256 M lv (.int (ji_gI M a 31) :: st) o := ev_getI (k := 179) rfl fd_9_105 rfl
theorem s179_256 : ji_Ev C 179 256 M lv st o ↔ ji_Ev C 179 257 M lv (.int 1 :: st) o := ev_go (S := (257, M, lv, (.int 1 :: st))) rfl rfl rfl
theorem s179_257 : ji_Ev C 179 257 M lv (.int y :: .int x :: st) o ↔ ji_Ev C 179 258 M lv (.int (x - y) :: st) o := ev_go (S := (258, M, lv, (.int (x - y) :: st))) rfl rfl rfl
theorem s179_258 : ji_Ev C 179 258 M lv (.int x :: .ref a :: st) o ↔ ji_kd M a = some (0, 9) ∧ ji_Ev C 179 261 (ji_sI M a 31 x) lv st o := ev_putI (k := 179) rfl fd_9_105 rfl (by decide)
theorem s179_261 : ji_Ev C 179 261 M (some (.ref a) :: l) st o ↔ ji_Ev C 179 262 M (some (.ref a) :: l) (.ref a :: st) o := ev_go (S := (262, M, (some (.ref a) :: l), (.ref a :: st))) rfl rfl rfl
theorem s179_262 : ji_Ev C 179 262 M lv st o ↔ ji_Ev C 179 264 M lv (.int 7 :: st) o := ev_go (S := (264, M, lv, (.int 7 :: st))) rfl rfl rfl
theorem s179_264 : ji_Ev C 179 264 M lv (p0 :: .ref a :: st) o ↔ (ji_rcb M 9 (.ref a) = true ∧ ji_ok8 st) ∧ ji_evC (C 182 [.ref a, p0] M) (fun v M' => ji_Ev C 179 267 M' lv (v.toList ++ st) o) := ev_inv (k := 179) rfl cd_9_370 rfl
theorem s179_267 : ji_Ev C 179 267 M (some (.ref a) :: l) st o ↔ ji_Ev C 179 268 M (some (.ref a) :: l) (.ref a :: st) o := ev_go (S := (268, M, (some (.ref a) :: l), (.ref a :: st))) rfl rfl rfl
theorem s179_268 : ji_Ev C 179 268 M lv (.ref a :: st) o ↔ (ji_rcb M 9 (.ref a) = true ∧ ji_ok8 st) ∧ ji_evC (C 173 [.ref a] M) (fun v M' => ji_Ev C 179 271 M' lv (v.toList ++ st) o) := ev_inv (k := 179) rfl cd_9_367 rfl
theorem s179_271 : ji_Ev C 179 271 M lv st o ↔ ji_Ev C 179 19 M lv st o := ev_gt rfl (by decide) rfl
theorem s180_0 : ji_Ev C 180 0 M (some (.ref a) :: l) st o ↔ ji_Ev C 180 1 M (some (.ref a) :: l) (.ref a :: st) o := ev_go (S := (1, M, (some (.ref a) :: l), (.ref a :: st))) rfl rfl rfl
theorem s180_1 : ji_Ev C 180 1 M lv (.ref a :: st) o ↔ ji_kd M a = some (0, 9) ∧ ji_Ev C 180 4 M lv (.int (ji_gI M a 31) :: st) o := ev_getI (k := 180) rfl fd_9_105 rfl
theorem s180_4 : ji_Ev C 180 4 M lv st o ↔ ji_Ev C 180 5 M lv (.int 5 :: st) o := ev_go (S := (5, M, lv, (.int 5 :: st))) rfl rfl rfl
theorem s180_5 : ji_Ev C 180 5 M lv (.int y :: .int x :: st) o ↔ if x = y then ji_Ev C 180 8 M lv st o else ji_Ev C 180 10 M lv st o := ev_brc (c := .ne) rfl (by decide) rfl
theorem s180_8 : ji_Ev C 180 8 M lv st o ↔ ji_Ev C 180 9 M lv (.int 0 :: st) o := ev_go (S := (9, M, lv, (.int 0 :: st))) rfl rfl rfl
theorem s180_9 : ji_Ev C 180 9 M lv [.int x] o ↔ narrow .boolean (.int x) = .int x ∧ o = (some (.int x), M) := ev_iretb rfl rfl
theorem s180_10 : ji_Ev C 180 10 M (some (.ref a) :: l) st o ↔ ji_Ev C 180 11 M (some (.ref a) :: l) (.ref a :: st) o := ev_go (S := (11, M, (some (.ref a) :: l), (.ref a :: st))) rfl rfl rfl
theorem s180_11 : ji_Ev C 180 11 M lv (.int x :: st) o ↔ ji_Ev C 180 12 M lv (.int x :: .int x :: st) o := ev_go (S := (12, M, lv, (.int x :: .int x :: st))) rfl rfl rfl
theorem s180_11r : ji_Ev C 180 11 M lv (.ref a :: st) o ↔ ji_Ev C 180 12 M lv (.ref a :: .ref a :: st) o := ev_go (S := (12, M, lv, (.ref a :: .ref a :: st))) rfl rfl rfl
theorem s180_12 : ji_Ev C 180 12 M lv (.ref a :: st) o ↔ ji_kd M a = some (0, 9) ∧ ji_Ev C 180 15 M lv (.int (ji_gI M a 31) :: st) o := ev_getI (k := 180) rfl fd_9_105 rfl
theorem s180_15 : ji_Ev C 180 15 M lv st o ↔ ji_Ev C 180 16 M lv (.int 1 :: st) o := ev_go (S := (16, M, lv, (.int 1 :: st))) rfl rfl rfl
theorem s180_16 : ji_Ev C 180 16 M lv (.int y :: .int x :: st) o ↔ ji_Ev C 180 17 M lv (.int (x + y) :: st) o := ev_go (S := (17, M, lv, (.int (x + y) :: st))) rfl rfl rfl
theorem s180_17 : ji_Ev C 180 17 M lv (.int x :: .ref a :: st) o ↔ ji_kd M a = some (0, 9) ∧ ji_Ev C 180 20 (ji_sI M a 31 x) lv st o := ev_putI (k := 180) rfl fd_9_105 rfl (by decide)
theorem s180_20 : ji_Ev C 180 20 M (some (.ref a) :: l) st o ↔ ji_Ev C 180 21 M (some (.ref a) :: l) (.ref a :: st) o := ev_go (S := (21, M, (some (.ref a) :: l), (.ref a :: st))) rfl rfl rfl
theorem s180_21 : ji_Ev C 180 21 M lv (.ref a :: st) o ↔ ji_kd M a = some (0, 9) ∧ ji_Ev C 180 24 M lv (ji_rv (ji_gR M a 26) :: st) o := ev_getR (k := 180) rfl fd_9_90 rfl
theorem s180_24 : ji_Ev C 180 24 M (some (.ref a) :: l) st o ↔ ji_Ev C 180 25 M (some (.ref a) :: l) (.ref a :: st) o := ev_go (S := (25, M, (some (.ref a) :: l), (.ref a :: st))) rfl rfl rfl
theorem s180_25 : ji_Ev C 180 25 M lv (.ref a :: st) o ↔ ji_kd M a = some (0, 9) ∧ ji_Ev C 180 28 M lv (.int (ji_gI M a 29) :: st) o := ev_getI (k := 180) rfl fd_9_99 rfl
theorem s180_28 : ji_Ev C 180 28 M (l0 :: some (.int x) :: l) st o ↔ ji_Ev C 180 29 M (l0 :: some (.int x) :: l) (.int x :: st) o := ev_go (S := (29, M, (l0 :: some (.int x) :: l), (.int x :: st))) rfl rfl rfl
theorem s180_29 : ji_Ev C 180 29 M lv (.int y :: .int x :: .ref a :: st) o ↔ ji_evA (ji_kd M a) (fun n => vp_in x n ∧ ji_Ev C 180 30 (ji_sI M a x.toNatClampNeg y) lv st o) := ev_iast rfl
theorem s180_30 : ji_Ev C 180 30 M (some (.ref a) :: l) st o ↔ ji_Ev C 180 31 M (some (.ref a) :: l) (.ref a :: st) o := ev_go (S := (31, M, (some (.ref a) :: l), (.ref a :: st))) rfl rfl rfl
theorem s180_31 : ji_Ev C 180 31 M lv (.int x :: st) o ↔ ji_Ev C 180 32 M lv (.int x :: .int x :: st) o := ev_go (S := (32, M, lv, (.int x :: .int x :: st))) rfl rfl rfl
theorem s180_31r : ji_Ev C 180 31 M lv (.ref a :: st) o ↔ ji_Ev C 180 32 M lv (.ref a :: .ref a :: st) o := ev_go (S := (32, M, lv, (.ref a :: .ref a :: st))) rfl rfl rfl
theorem s180_32 : ji_Ev C 180 32 M lv (.ref a :: st) o ↔ ji_kd M a = some (0, 9) ∧ ji_Ev C 180 35 M lv (.int (ji_gI M a 29) :: st) o := ev_getI (k := 180) rfl fd_9_99 rfl
theorem s180_35 : ji_Ev C 180 35 M lv st o ↔ ji_Ev C 180 36 M lv (.int 1 :: st) o := ev_go (S := (36, M, lv, (.int 1 :: st))) rfl rfl rfl
theorem s180_36 : ji_Ev C 180 36 M lv (.int y :: .int x :: st) o ↔ ji_Ev C 180 37 M lv (.int (x + y) :: st) o := ev_go (S := (37, M, lv, (.int (x + y) :: st))) rfl rfl rfl
theorem s180_37 : ji_Ev C 180 37 M lv (.int x :: .ref a :: st) o ↔ ji_kd M a = some (0, 9) ∧ ji_Ev C 180 40 (ji_sI M a 29 x) lv st o := ev_putI (k := 180) rfl fd_9_99 rfl (by decide)
theorem s180_40 : ji_Ev C 180 40 M (some (.ref a) :: l) st o ↔ ji_Ev C 180 41 M (some (.ref a) :: l) (.ref a :: st) o := ev_go (S := (41, M, (some (.ref a) :: l), (.ref a :: st))) rfl rfl rfl
theorem s180_41 : ji_Ev C 180 41 M lv (.ref a :: st) o ↔ (ji_rcb M 9 (.ref a) = true ∧ ji_ok8 st) ∧ ji_evC (C 173 [.ref a] M) (fun v M' => ji_Ev C 180 44 M' lv (v.toList ++ st) o) := ev_inv (k := 180) rfl cd_9_367 rfl
theorem s180_44 : ji_Ev C 180 44 M lv st o ↔ ji_Ev C 180 45 M lv (.int 1 :: st) o := ev_go (S := (45, M, lv, (.int 1 :: st))) rfl rfl rfl
theorem s180_45 : ji_Ev C 180 45 M lv [.int x] o ↔ narrow .boolean (.int x) = .int x ∧ o = (some (.int x), M) := ev_iretb rfl rfl
theorem s181_0 : ji_Ev C 181 0 M (some (.ref a) :: l) st o ↔ ji_Ev C 181 1 M (some (.ref a) :: l) (.ref a :: st) o := ev_go (S := (1, M, (some (.ref a) :: l), (.ref a :: st))) rfl rfl rfl
theorem s181_1 : ji_Ev C 181 1 M lv (.ref a :: st) o ↔ ji_kd M a = some (0, 9) ∧ ji_Ev C 181 4 M lv (ji_rv (ji_gR M a 27) :: st) o := ev_getR (k := 181) rfl fd_9_93 rfl
theorem s181_4 : ji_Ev C 181 4 M (some (.ref a) :: l) st o ↔ ji_Ev C 181 5 M (some (.ref a) :: l) (.ref a :: st) o := ev_go (S := (5, M, (some (.ref a) :: l), (.ref a :: st))) rfl rfl rfl
theorem s181_5 : ji_Ev C 181 5 M lv (.ref a :: st) o ↔ ji_kd M a = some (0, 9) ∧ ji_Ev C 181 8 M lv (.int (ji_gI M a 30) :: st) o := ev_getI (k := 181) rfl fd_9_102 rfl
theorem s181_8 : ji_Ev C 181 8 M (l0 :: some (.int x) :: l) st o ↔ ji_Ev C 181 9 M (l0 :: some (.int x) :: l) (.int x :: st) o := ev_go (S := (9, M, (l0 :: some (.int x) :: l), (.int x :: st))) rfl rfl rfl
theorem s181_9 : ji_Ev C 181 9 M lv (.int y :: .int x :: .ref a :: st) o ↔ ji_evA (ji_kd M a) (fun n => vp_in x n ∧ ji_Ev C 181 10 (ji_sI M a x.toNatClampNeg y) lv st o) := ev_iast rfl
theorem s181_10 : ji_Ev C 181 10 M (some (.ref a) :: l) st o ↔ ji_Ev C 181 11 M (some (.ref a) :: l) (.ref a :: st) o := ev_go (S := (11, M, (some (.ref a) :: l), (.ref a :: st))) rfl rfl rfl
theorem s181_11 : ji_Ev C 181 11 M lv (.int x :: st) o ↔ ji_Ev C 181 12 M lv (.int x :: .int x :: st) o := ev_go (S := (12, M, lv, (.int x :: .int x :: st))) rfl rfl rfl
theorem s181_11r : ji_Ev C 181 11 M lv (.ref a :: st) o ↔ ji_Ev C 181 12 M lv (.ref a :: .ref a :: st) o := ev_go (S := (12, M, lv, (.ref a :: .ref a :: st))) rfl rfl rfl
theorem s181_12 : ji_Ev C 181 12 M lv (.ref a :: st) o ↔ ji_kd M a = some (0, 9) ∧ ji_Ev C 181 15 M lv (.int (ji_gI M a 30) :: st) o := ev_getI (k := 181) rfl fd_9_102 rfl
theorem s181_15 : ji_Ev C 181 15 M lv st o ↔ ji_Ev C 181 16 M lv (.int 1 :: st) o := ev_go (S := (16, M, lv, (.int 1 :: st))) rfl rfl rfl
theorem s181_16 : ji_Ev C 181 16 M lv (.int y :: .int x :: st) o ↔ ji_Ev C 181 17 M lv (.int (x + y) :: st) o := ev_go (S := (17, M, lv, (.int (x + y) :: st))) rfl rfl rfl
theorem s181_17 : ji_Ev C 181 17 M lv (.int x :: .ref a :: st) o ↔ ji_kd M a = some (0, 9) ∧ ji_Ev C 181 20 (ji_sI M a 30 x) lv st o := ev_putI (k := 181) rfl fd_9_102 rfl (by decide)
theorem s181_20 : ji_Ev C 181 20 M (some (.ref a) :: l) st o ↔ ji_Ev C 181 21 M (some (.ref a) :: l) (.ref a :: st) o := ev_go (S := (21, M, (some (.ref a) :: l), (.ref a :: st))) rfl rfl rfl
theorem s181_21 : ji_Ev C 181 21 M lv st o ↔ ji_Ev C 181 23 M lv (.int 7 :: st) o := ev_go (S := (23, M, lv, (.int 7 :: st))) rfl rfl rfl
theorem s181_23 : ji_Ev C 181 23 M lv (p0 :: .ref a :: st) o ↔ (ji_rcb M 9 (.ref a) = true ∧ ji_ok8 st) ∧ ji_evC (C 182 [.ref a, p0] M) (fun v M' => ji_Ev C 181 26 M' lv (v.toList ++ st) o) := ev_inv (k := 181) rfl cd_9_370 rfl
theorem s181_26 : ji_Ev C 181 26 M (some (.ref a) :: l) st o ↔ ji_Ev C 181 27 M (some (.ref a) :: l) (.ref a :: st) o := ev_go (S := (27, M, (some (.ref a) :: l), (.ref a :: st))) rfl rfl rfl
theorem s181_27 : ji_Ev C 181 27 M lv (.ref a :: st) o ↔ (ji_rcb M 9 (.ref a) = true ∧ ji_ok8 st) ∧ ji_evC (C 173 [.ref a] M) (fun v M' => ji_Ev C 181 30 M' lv (v.toList ++ st) o) := ev_inv (k := 181) rfl cd_9_367 rfl
theorem s181_30 : ji_Ev C 181 30 M lv [] o ↔ o = (none, M) := ev_vret rfl rfl
theorem s182_0 : ji_Ev C 182 0 M (some (.ref a) :: l) st o ↔ ji_Ev C 182 1 M (some (.ref a) :: l) (.ref a :: st) o := ev_go (S := (1, M, (some (.ref a) :: l), (.ref a :: st))) rfl rfl rfl
theorem s182_1 : ji_Ev C 182 1 M lv (.ref a :: st) o ↔ ji_kd M a = some (0, 9) ∧ ji_Ev C 182 4 M lv (.int (ji_gI M a 29) :: st) o := ev_getI (k := 182) rfl fd_9_99 rfl
theorem s182_4 : ji_Ev C 182 4 M lv (.int x :: st) o ↔ if 0 < x then ji_Ev C 182 7 M lv st o else ji_Ev C 182 52 M lv st o := ev_brz (c := .le) rfl (by decide) rfl
theorem s182_7 : ji_Ev C 182 7 M (some (.ref a) :: l) st o ↔ ji_Ev C 182 8 M (some (.ref a) :: l) (.ref a :: st) o := ev_go (S := (8, M, (some (.ref a) :: l), (.ref a :: st))) rfl rfl rfl
theorem s182_8 : ji_Ev C 182 8 M (some (.ref a) :: l) st o ↔ ji_Ev C 182 9 M (some (.ref a) :: l) (.ref a :: st) o := ev_go (S := (9, M, (some (.ref a) :: l), (.ref a :: st))) rfl rfl rfl
theorem s182_9 : ji_Ev C 182 9 M lv (.ref a :: st) o ↔ ji_kd M a = some (0, 9) ∧ ji_Ev C 182 12 M lv (ji_rv (ji_gR M a 26) :: st) o := ev_getR (k := 182) rfl fd_9_90 rfl
theorem s182_12 : ji_Ev C 182 12 M (some (.ref a) :: l) st o ↔ ji_Ev C 182 13 M (some (.ref a) :: l) (.ref a :: st) o := ev_go (S := (13, M, (some (.ref a) :: l), (.ref a :: st))) rfl rfl rfl
theorem s182_13 : ji_Ev C 182 13 M lv (.ref a :: st) o ↔ ji_kd M a = some (0, 9) ∧ ji_Ev C 182 16 M lv (.int (ji_gI M a 29) :: st) o := ev_getI (k := 182) rfl fd_9_99 rfl
theorem s182_16 : ji_Ev C 182 16 M lv st o ↔ ji_Ev C 182 17 M lv (.int 1 :: st) o := ev_go (S := (17, M, lv, (.int 1 :: st))) rfl rfl rfl
theorem s182_17 : ji_Ev C 182 17 M lv (.int y :: .int x :: st) o ↔ ji_Ev C 182 18 M lv (.int (x - y) :: st) o := ev_go (S := (18, M, lv, (.int (x - y) :: st))) rfl rfl rfl
theorem s182_18 : ji_Ev C 182 18 M lv (.int x :: .ref a :: st) o ↔ ji_evA (ji_kd M a) (fun n => vp_in x n ∧ ji_Ev C 182 19 M lv (.int (ji_gI M a x.toNatClampNeg) :: st) o) := ev_iald rfl
theorem s182_19 : ji_Ev C 182 19 M lv (p0 :: .ref a :: st) o ↔ (ji_rcb M 9 (.ref a) = true ∧ ji_ok8 st) ∧ ji_evC (C 183 [.ref a, p0] M) (fun v M' => ji_Ev C 182 22 M' lv (v.toList ++ st) o) := ev_inv (k := 182) rfl cd_9_360 rfl
theorem s182_22 : ji_Ev C 182 22 M (l0 :: some (.int x) :: l) st o ↔ ji_Ev C 182 23 M (l0 :: some (.int x) :: l) (.int x :: st) o := ev_go (S := (23, M, (l0 :: some (.int x) :: l), (.int x :: st))) rfl rfl rfl
theorem s182_23 : ji_Ev C 182 23 M lv (.int y :: .int x :: st) o ↔ if x < y then ji_Ev C 182 52 M lv st o else ji_Ev C 182 26 M lv st o := ev_brc (c := .lt) rfl (by decide) rfl
theorem s182_26 : ji_Ev C 182 26 M (some (.ref a) :: l) st o ↔ ji_Ev C 182 27 M (some (.ref a) :: l) (.ref a :: st) o := ev_go (S := (27, M, (some (.ref a) :: l), (.ref a :: st))) rfl rfl rfl
theorem s182_27 : ji_Ev C 182 27 M lv (.int x :: st) o ↔ ji_Ev C 182 28 M lv (.int x :: .int x :: st) o := ev_go (S := (28, M, lv, (.int x :: .int x :: st))) rfl rfl rfl
theorem s182_27r : ji_Ev C 182 27 M lv (.ref a :: st) o ↔ ji_Ev C 182 28 M lv (.ref a :: .ref a :: st) o := ev_go (S := (28, M, lv, (.ref a :: .ref a :: st))) rfl rfl rfl
theorem s182_28 : ji_Ev C 182 28 M lv (.ref a :: st) o ↔ ji_kd M a = some (0, 9) ∧ ji_Ev C 182 31 M lv (.int (ji_gI M a 29) :: st) o := ev_getI (k := 182) rfl fd_9_99 rfl
theorem s182_31 : ji_Ev C 182 31 M lv st o ↔ ji_Ev C 182 32 M lv (.int 1 :: st) o := ev_go (S := (32, M, lv, (.int 1 :: st))) rfl rfl rfl
theorem s182_32 : ji_Ev C 182 32 M lv (.int y :: .int x :: st) o ↔ ji_Ev C 182 33 M lv (.int (x - y) :: st) o := ev_go (S := (33, M, lv, (.int (x - y) :: st))) rfl rfl rfl
theorem s182_33 : ji_Ev C 182 33 M lv (.int x :: .ref a :: st) o ↔ ji_kd M a = some (0, 9) ∧ ji_Ev C 182 36 (ji_sI M a 29 x) lv st o := ev_putI (k := 182) rfl fd_9_99 rfl (by decide)
theorem s182_36 : ji_Ev C 182 36 M (some (.ref a) :: l) st o ↔ ji_Ev C 182 37 M (some (.ref a) :: l) (.ref a :: st) o := ev_go (S := (37, M, (some (.ref a) :: l), (.ref a :: st))) rfl rfl rfl
theorem s182_37 : ji_Ev C 182 37 M (some (.ref a) :: l) st o ↔ ji_Ev C 182 38 M (some (.ref a) :: l) (.ref a :: st) o := ev_go (S := (38, M, (some (.ref a) :: l), (.ref a :: st))) rfl rfl rfl
theorem s182_38 : ji_Ev C 182 38 M lv (.ref a :: st) o ↔ ji_kd M a = some (0, 9) ∧ ji_Ev C 182 41 M lv (ji_rv (ji_gR M a 26) :: st) o := ev_getR (k := 182) rfl fd_9_90 rfl
theorem s182_41 : ji_Ev C 182 41 M (some (.ref a) :: l) st o ↔ ji_Ev C 182 42 M (some (.ref a) :: l) (.ref a :: st) o := ev_go (S := (42, M, (some (.ref a) :: l), (.ref a :: st))) rfl rfl rfl
theorem s182_42 : ji_Ev C 182 42 M lv (.ref a :: st) o ↔ ji_kd M a = some (0, 9) ∧ ji_Ev C 182 45 M lv (.int (ji_gI M a 29) :: st) o := ev_getI (k := 182) rfl fd_9_99 rfl
theorem s182_45 : ji_Ev C 182 45 M lv (.int x :: .ref a :: st) o ↔ ji_evA (ji_kd M a) (fun n => vp_in x n ∧ ji_Ev C 182 46 M lv (.int (ji_gI M a x.toNatClampNeg) :: st) o) := ev_iald rfl
theorem s182_46 : ji_Ev C 182 46 M lv (p0 :: .ref a :: st) o ↔ (ji_rcb M 9 (.ref a) = true ∧ ji_ok8 st) ∧ ji_evC (C 184 [.ref a, p0] M) (fun v M' => ji_Ev C 182 49 M' lv (v.toList ++ st) o) := ev_inv (k := 182) rfl cd_9_363 rfl
theorem s182_49 : ji_Ev C 182 49 M lv st o ↔ ji_Ev C 182 0 M lv st o := ev_gt rfl (by decide) rfl
theorem s182_52 : ji_Ev C 182 52 M lv [] o ↔ o = (none, M) := ev_vret rfl rfl
theorem s183_0 : ji_Ev C 183 0 M (l0 :: some (.int x) :: l) st o ↔ ji_Ev C 183 1 M (l0 :: some (.int x) :: l) (.int x :: st) o := ev_go (S := (1, M, (l0 :: some (.int x) :: l), (.int x :: st))) rfl rfl rfl
theorem s183_1 : ji_Ev C 183 1 M lv (.int x :: st) o ↔ if x = 33 then ji_Ev C 183 88 M lv st o else if x = 38 then ji_Ev C 183 86 M lv st o else if x = 42 then ji_Ev C 183 98 M lv st o else if x = 43 then ji_Ev C 183 94 M lv st o else if x = 45 then ji_Ev C 183 96 M lv st o else if x = 60 then ji_Ev C 183 90 M lv st o else if x = 61 then ji_Ev C 183 92 M lv st o else if x = 124 then ji_Ev C 183 84 M lv st o else if x = 126 then ji_Ev C 183 101 M lv st o else ji_Ev C 183 104 M lv st o := by
  refine (ev_swL rfl (by decide)).trans ?_
  show ji_Ev C 183 ((1 : Int) + (if x = 33 then 87 else if x = 38 then 85 else if x = 42 then 97 else if x = 43 then 93 else if x = 45 then 95 else if x = 60 then 89 else if x = 61 then 91 else if x = 124 then 83 else if x = 126 then 100 else 103)).toNat M lv st o ↔ _
  by_cases h0 : x = 33
  · rw [if_pos h0, if_pos h0]; exact Iff.rfl
  rw [if_neg h0, if_neg h0]
  by_cases h1 : x = 38
  · rw [if_pos h1, if_pos h1]; exact Iff.rfl
  rw [if_neg h1, if_neg h1]
  by_cases h2 : x = 42
  · rw [if_pos h2, if_pos h2]; exact Iff.rfl
  rw [if_neg h2, if_neg h2]
  by_cases h3 : x = 43
  · rw [if_pos h3, if_pos h3]; exact Iff.rfl
  rw [if_neg h3, if_neg h3]
  by_cases h4 : x = 45
  · rw [if_pos h4, if_pos h4]; exact Iff.rfl
  rw [if_neg h4, if_neg h4]
  by_cases h5 : x = 60
  · rw [if_pos h5, if_pos h5]; exact Iff.rfl
  rw [if_neg h5, if_neg h5]
  by_cases h6 : x = 61
  · rw [if_pos h6, if_pos h6]; exact Iff.rfl
  rw [if_neg h6, if_neg h6]
  by_cases h7 : x = 124
  · rw [if_pos h7, if_pos h7]; exact Iff.rfl
  rw [if_neg h7, if_neg h7]
  by_cases h8 : x = 126
  · rw [if_pos h8, if_pos h8]; exact Iff.rfl
  rw [if_neg h8, if_neg h8]
  exact Iff.rfl
theorem s183_84 : ji_Ev C 183 84 M lv st o ↔ ji_Ev C 183 85 M lv (.int 1 :: st) o := ev_go (S := (85, M, lv, (.int 1 :: st))) rfl rfl rfl
theorem s183_85 : ji_Ev C 183 85 M lv [.int x] o ↔ o = (some (.int x), M) := ev_ireti rfl rfl
theorem s183_86 : ji_Ev C 183 86 M lv st o ↔ ji_Ev C 183 87 M lv (.int 2 :: st) o := ev_go (S := (87, M, lv, (.int 2 :: st))) rfl rfl rfl
theorem s183_87 : ji_Ev C 183 87 M lv [.int x] o ↔ o = (some (.int x), M) := ev_ireti rfl rfl
theorem s183_88 : ji_Ev C 183 88 M lv st o ↔ ji_Ev C 183 89 M lv (.int 3 :: st) o := ev_go (S := (89, M, lv, (.int 3 :: st))) rfl rfl rfl
theorem s183_89 : ji_Ev C 183 89 M lv [.int x] o ↔ o = (some (.int x), M) := ev_ireti rfl rfl
theorem s183_90 : ji_Ev C 183 90 M lv st o ↔ ji_Ev C 183 91 M lv (.int 4 :: st) o := ev_go (S := (91, M, lv, (.int 4 :: st))) rfl rfl rfl
theorem s183_91 : ji_Ev C 183 91 M lv [.int x] o ↔ o = (some (.int x), M) := ev_ireti rfl rfl
theorem s183_92 : ji_Ev C 183 92 M lv st o ↔ ji_Ev C 183 93 M lv (.int 4 :: st) o := ev_go (S := (93, M, lv, (.int 4 :: st))) rfl rfl rfl
theorem s183_93 : ji_Ev C 183 93 M lv [.int x] o ↔ o = (some (.int x), M) := ev_ireti rfl rfl
theorem s183_94 : ji_Ev C 183 94 M lv st o ↔ ji_Ev C 183 95 M lv (.int 5 :: st) o := ev_go (S := (95, M, lv, (.int 5 :: st))) rfl rfl rfl
theorem s183_95 : ji_Ev C 183 95 M lv [.int x] o ↔ o = (some (.int x), M) := ev_ireti rfl rfl
theorem s183_96 : ji_Ev C 183 96 M lv st o ↔ ji_Ev C 183 97 M lv (.int 5 :: st) o := ev_go (S := (97, M, lv, (.int 5 :: st))) rfl rfl rfl
theorem s183_97 : ji_Ev C 183 97 M lv [.int x] o ↔ o = (some (.int x), M) := ev_ireti rfl rfl
theorem s183_98 : ji_Ev C 183 98 M lv st o ↔ ji_Ev C 183 100 M lv (.int 6 :: st) o := ev_go (S := (100, M, lv, (.int 6 :: st))) rfl rfl rfl
theorem s183_100 : ji_Ev C 183 100 M lv [.int x] o ↔ o = (some (.int x), M) := ev_ireti rfl rfl
theorem s183_101 : ji_Ev C 183 101 M lv st o ↔ ji_Ev C 183 103 M lv (.int 7 :: st) o := ev_go (S := (103, M, lv, (.int 7 :: st))) rfl rfl rfl
theorem s183_103 : ji_Ev C 183 103 M lv [.int x] o ↔ o = (some (.int x), M) := ev_ireti rfl rfl
theorem s183_104 : ji_Ev C 183 104 M lv st o ↔ ji_Ev C 183 105 M lv (.int 0 :: st) o := ev_go (S := (105, M, lv, (.int 0 :: st))) rfl rfl rfl
theorem s183_105 : ji_Ev C 183 105 M lv [.int x] o ↔ o = (some (.int x), M) := ev_ireti rfl rfl
theorem s184_0 : ji_Ev C 184 0 M (l0 :: some (.int x) :: l) st o ↔ ji_Ev C 184 1 M (l0 :: some (.int x) :: l) (.int x :: st) o := ev_go (S := (1, M, (l0 :: some (.int x) :: l), (.int x :: st))) rfl rfl rfl
theorem s184_1 : ji_Ev C 184 1 M lv st o ↔ ji_Ev C 184 3 M lv (.int 33 :: st) o := ev_go (S := (3, M, lv, (.int 33 :: st))) rfl rfl rfl
theorem s184_3 : ji_Ev C 184 3 M lv (.int y :: .int x :: st) o ↔ if x = y then ji_Ev C 184 12 M lv st o else ji_Ev C 184 6 M lv st o := ev_brc (c := .eq) rfl (by decide) rfl
theorem s184_6 : ji_Ev C 184 6 M (l0 :: some (.int x) :: l) st o ↔ ji_Ev C 184 7 M (l0 :: some (.int x) :: l) (.int x :: st) o := ev_go (S := (7, M, (l0 :: some (.int x) :: l), (.int x :: st))) rfl rfl rfl
theorem s184_7 : ji_Ev C 184 7 M lv st o ↔ ji_Ev C 184 9 M lv (.int 126 :: st) o := ev_go (S := (9, M, lv, (.int 126 :: st))) rfl rfl rfl
theorem s184_9 : ji_Ev C 184 9 M lv (.int y :: .int x :: st) o ↔ if x = y then ji_Ev C 184 12 M lv st o else ji_Ev C 184 74 M lv st o := ev_brc (c := .ne) rfl (by decide) rfl
theorem s184_12 : ji_Ev C 184 12 M (some (.ref a) :: l) st o ↔ ji_Ev C 184 13 M (some (.ref a) :: l) (.ref a :: st) o := ev_go (S := (13, M, (some (.ref a) :: l), (.ref a :: st))) rfl rfl rfl
theorem s184_13 : ji_Ev C 184 13 M lv (.ref a :: st) o ↔ ji_kd M a = some (0, 9) ∧ ji_Ev C 184 16 M lv (ji_rv (ji_gR M a 27) :: st) o := ev_getR (k := 184) rfl fd_9_93 rfl
theorem s184_16 : ji_Ev C 184 16 M (some (.ref a) :: l) st o ↔ ji_Ev C 184 17 M (some (.ref a) :: l) (.ref a :: st) o := ev_go (S := (17, M, (some (.ref a) :: l), (.ref a :: st))) rfl rfl rfl
theorem s184_17 : ji_Ev C 184 17 M lv (.ref a :: st) o ↔ ji_kd M a = some (0, 9) ∧ ji_Ev C 184 20 M lv (.int (ji_gI M a 30) :: st) o := ev_getI (k := 184) rfl fd_9_102 rfl
theorem s184_20 : ji_Ev C 184 20 M lv st o ↔ ji_Ev C 184 21 M lv (.int 1 :: st) o := ev_go (S := (21, M, lv, (.int 1 :: st))) rfl rfl rfl
theorem s184_21 : ji_Ev C 184 21 M lv (.int y :: .int x :: st) o ↔ ji_Ev C 184 22 M lv (.int (x - y) :: st) o := ev_go (S := (22, M, lv, (.int (x - y) :: st))) rfl rfl rfl
theorem s184_22 : ji_Ev C 184 22 M (l0 :: some (.int x) :: l) st o ↔ ji_Ev C 184 23 M (l0 :: some (.int x) :: l) (.int x :: st) o := ev_go (S := (23, M, (l0 :: some (.int x) :: l), (.int x :: st))) rfl rfl rfl
theorem s184_23 : ji_Ev C 184 23 M lv st o ↔ ji_Ev C 184 25 M lv (.int 126 :: st) o := ev_go (S := (25, M, lv, (.int 126 :: st))) rfl rfl rfl
theorem s184_25 : ji_Ev C 184 25 M lv (.int y :: .int x :: st) o ↔ if x = y then ji_Ev C 184 28 M lv st o else ji_Ev C 184 43 M lv st o := ev_brc (c := .ne) rfl (by decide) rfl
theorem s184_28 : ji_Ev C 184 28 M (some (.ref a) :: l) st o ↔ ji_Ev C 184 29 M (some (.ref a) :: l) (.ref a :: st) o := ev_go (S := (29, M, (some (.ref a) :: l), (.ref a :: st))) rfl rfl rfl
theorem s184_29 : ji_Ev C 184 29 M lv (.ref a :: st) o ↔ ji_kd M a = some (0, 9) ∧ ji_Ev C 184 32 M lv (ji_rv (ji_gR M a 27) :: st) o := ev_getR (k := 184) rfl fd_9_93 rfl
theorem s184_32 : ji_Ev C 184 32 M (some (.ref a) :: l) st o ↔ ji_Ev C 184 33 M (some (.ref a) :: l) (.ref a :: st) o := ev_go (S := (33, M, (some (.ref a) :: l), (.ref a :: st))) rfl rfl rfl
theorem s184_33 : ji_Ev C 184 33 M lv (.ref a :: st) o ↔ ji_kd M a = some (0, 9) ∧ ji_Ev C 184 36 M lv (.int (ji_gI M a 30) :: st) o := ev_getI (k := 184) rfl fd_9_102 rfl
theorem s184_36 : ji_Ev C 184 36 M lv st o ↔ ji_Ev C 184 37 M lv (.int 1 :: st) o := ev_go (S := (37, M, lv, (.int 1 :: st))) rfl rfl rfl
theorem s184_37 : ji_Ev C 184 37 M lv (.int y :: .int x :: st) o ↔ ji_Ev C 184 38 M lv (.int (x - y) :: st) o := ev_go (S := (38, M, lv, (.int (x - y) :: st))) rfl rfl rfl
theorem s184_38 : ji_Ev C 184 38 M lv (.int x :: .ref a :: st) o ↔ ji_evA (ji_kd M a) (fun n => vp_in x n ∧ ji_Ev C 184 39 M lv (.int (ji_gI M a x.toNatClampNeg) :: st) o) := ev_iald rfl
theorem s184_39 : ji_Ev C 184 39 M lv (.int x :: st) o ↔ ji_Ev C 184 40 M lv (.int (-x) :: st) o := ev_go (S := (40, M, lv, (.int (-x) :: st))) rfl rfl rfl
theorem s184_40 : ji_Ev C 184 40 M lv st o ↔ ji_Ev C 184 62 M lv st o := ev_gt rfl (by decide) rfl
theorem s184_43 : ji_Ev C 184 43 M (some (.ref a) :: l) st o ↔ ji_Ev C 184 44 M (some (.ref a) :: l) (.ref a :: st) o := ev_go (S := (44, M, (some (.ref a) :: l), (.ref a :: st))) rfl rfl rfl
theorem s184_44 : ji_Ev C 184 44 M lv (.ref a :: st) o ↔ ji_kd M a = some (0, 9) ∧ ji_Ev C 184 47 M lv (ji_rv (ji_gR M a 27) :: st) o := ev_getR (k := 184) rfl fd_9_93 rfl
theorem s184_47 : ji_Ev C 184 47 M (some (.ref a) :: l) st o ↔ ji_Ev C 184 48 M (some (.ref a) :: l) (.ref a :: st) o := ev_go (S := (48, M, (some (.ref a) :: l), (.ref a :: st))) rfl rfl rfl
theorem s184_48 : ji_Ev C 184 48 M lv (.ref a :: st) o ↔ ji_kd M a = some (0, 9) ∧ ji_Ev C 184 51 M lv (.int (ji_gI M a 30) :: st) o := ev_getI (k := 184) rfl fd_9_102 rfl
theorem s184_51 : ji_Ev C 184 51 M lv st o ↔ ji_Ev C 184 52 M lv (.int 1 :: st) o := ev_go (S := (52, M, lv, (.int 1 :: st))) rfl rfl rfl
theorem s184_52 : ji_Ev C 184 52 M lv (.int y :: .int x :: st) o ↔ ji_Ev C 184 53 M lv (.int (x - y) :: st) o := ev_go (S := (53, M, lv, (.int (x - y) :: st))) rfl rfl rfl
theorem s184_53 : ji_Ev C 184 53 M lv (.int x :: .ref a :: st) o ↔ ji_evA (ji_kd M a) (fun n => vp_in x n ∧ ji_Ev C 184 54 M lv (.int (ji_gI M a x.toNatClampNeg) :: st) o) := ev_iald rfl
theorem s184_54 : ji_Ev C 184 54 M lv (.int x :: st) o ↔ if x = 0 then ji_Ev C 184 57 M lv st o else ji_Ev C 184 61 M lv st o := ev_brz (c := .ne) rfl (by decide) rfl
theorem s184_57 : ji_Ev C 184 57 M lv st o ↔ ji_Ev C 184 58 M lv (.int 1 :: st) o := ev_go (S := (58, M, lv, (.int 1 :: st))) rfl rfl rfl
theorem s184_58 : ji_Ev C 184 58 M lv st o ↔ ji_Ev C 184 62 M lv st o := ev_gt rfl (by decide) rfl
theorem s184_61 : ji_Ev C 184 61 M lv st o ↔ ji_Ev C 184 62 M lv (.int 0 :: st) o := ev_go (S := (62, M, lv, (.int 0 :: st))) rfl rfl rfl
theorem s184_62 : ji_Ev C 184 62 M lv (.int y :: .int x :: .ref a :: st) o ↔ ji_evA (ji_kd M a) (fun n => vp_in x n ∧ ji_Ev C 184 63 (ji_sI M a x.toNatClampNeg y) lv st o) := ev_iast rfl
theorem s184_63 : ji_Ev C 184 63 M (some (.ref a) :: l) st o ↔ ji_Ev C 184 64 M (some (.ref a) :: l) (.ref a :: st) o := ev_go (S := (64, M, (some (.ref a) :: l), (.ref a :: st))) rfl rfl rfl
theorem s184_64 : ji_Ev C 184 64 M lv (.int x :: st) o ↔ ji_Ev C 184 65 M lv (.int x :: .int x :: st) o := ev_go (S := (65, M, lv, (.int x :: .int x :: st))) rfl rfl rfl
theorem s184_64r : ji_Ev C 184 64 M lv (.ref a :: st) o ↔ ji_Ev C 184 65 M lv (.ref a :: .ref a :: st) o := ev_go (S := (65, M, lv, (.ref a :: .ref a :: st))) rfl rfl rfl
theorem s184_65 : ji_Ev C 184 65 M lv (.ref a :: st) o ↔ ji_kd M a = some (0, 9) ∧ ji_Ev C 184 68 M lv (.int (ji_gI M a 31) :: st) o := ev_getI (k := 184) rfl fd_9_105 rfl
theorem s184_68 : ji_Ev C 184 68 M lv st o ↔ ji_Ev C 184 69 M lv (.int 1 :: st) o := ev_go (S := (69, M, lv, (.int 1 :: st))) rfl rfl rfl
theorem s184_69 : ji_Ev C 184 69 M lv (.int y :: .int x :: st) o ↔ ji_Ev C 184 70 M lv (.int (x - y) :: st) o := ev_go (S := (70, M, lv, (.int (x - y) :: st))) rfl rfl rfl
theorem s184_70 : ji_Ev C 184 70 M lv (.int x :: .ref a :: st) o ↔ ji_kd M a = some (0, 9) ∧ ji_Ev C 184 73 (ji_sI M a 31 x) lv st o := ev_putI (k := 184) rfl fd_9_105 rfl (by decide)
theorem s184_73 : ji_Ev C 184 73 M lv [] o ↔ o = (none, M) := ev_vret rfl rfl
theorem s184_74 : ji_Ev C 184 74 M (some (.ref a) :: l) st o ↔ ji_Ev C 184 75 M (some (.ref a) :: l) (.ref a :: st) o := ev_go (S := (75, M, (some (.ref a) :: l), (.ref a :: st))) rfl rfl rfl
theorem s184_75 : ji_Ev C 184 75 M lv (.int x :: st) o ↔ ji_Ev C 184 76 M lv (.int x :: .int x :: st) o := ev_go (S := (76, M, lv, (.int x :: .int x :: st))) rfl rfl rfl
theorem s184_75r : ji_Ev C 184 75 M lv (.ref a :: st) o ↔ ji_Ev C 184 76 M lv (.ref a :: .ref a :: st) o := ev_go (S := (76, M, lv, (.ref a :: .ref a :: st))) rfl rfl rfl
theorem s184_76 : ji_Ev C 184 76 M lv (.ref a :: st) o ↔ ji_kd M a = some (0, 9) ∧ ji_Ev C 184 79 M lv (.int (ji_gI M a 30) :: st) o := ev_getI (k := 184) rfl fd_9_102 rfl
theorem s184_79 : ji_Ev C 184 79 M lv st o ↔ ji_Ev C 184 80 M lv (.int 1 :: st) o := ev_go (S := (80, M, lv, (.int 1 :: st))) rfl rfl rfl
theorem s184_80 : ji_Ev C 184 80 M lv (.int y :: .int x :: st) o ↔ ji_Ev C 184 81 M lv (.int (x - y) :: st) o := ev_go (S := (81, M, lv, (.int (x - y) :: st))) rfl rfl rfl
theorem s184_81 : ji_Ev C 184 81 M lv (.int x :: .ref a :: st) o ↔ ji_kd M a = some (0, 9) ∧ ji_Ev C 184 84 (ji_sI M a 30 x) lv st o := ev_putI (k := 184) rfl fd_9_102 rfl (by decide)
theorem s184_84 : ji_Ev C 184 84 M (some (.ref a) :: l) st o ↔ ji_Ev C 184 85 M (some (.ref a) :: l) (.ref a :: st) o := ev_go (S := (85, M, (some (.ref a) :: l), (.ref a :: st))) rfl rfl rfl
theorem s184_85 : ji_Ev C 184 85 M lv (.ref a :: st) o ↔ ji_kd M a = some (0, 9) ∧ ji_Ev C 184 88 M lv (ji_rv (ji_gR M a 27) :: st) o := ev_getR (k := 184) rfl fd_9_93 rfl
theorem s184_88 : ji_Ev C 184 88 M (some (.ref a) :: l) st o ↔ ji_Ev C 184 89 M (some (.ref a) :: l) (.ref a :: st) o := ev_go (S := (89, M, (some (.ref a) :: l), (.ref a :: st))) rfl rfl rfl
theorem s184_89 : ji_Ev C 184 89 M lv (.ref a :: st) o ↔ ji_kd M a = some (0, 9) ∧ ji_Ev C 184 92 M lv (.int (ji_gI M a 30) :: st) o := ev_getI (k := 184) rfl fd_9_102 rfl
theorem s184_92 : ji_Ev C 184 92 M lv st o ↔ ji_Ev C 184 93 M lv (.int 1 :: st) o := ev_go (S := (93, M, lv, (.int 1 :: st))) rfl rfl rfl
theorem s184_93 : ji_Ev C 184 93 M lv (.int y :: .int x :: st) o ↔ ji_Ev C 184 94 M lv (.int (x - y) :: st) o := ev_go (S := (94, M, lv, (.int (x - y) :: st))) rfl rfl rfl
theorem s184_94 : ji_Ev C 184 94 M lv (.int x :: .ref a :: st) o ↔ ji_evA (ji_kd M a) (fun n => vp_in x n ∧ ji_Ev C 184 95 M lv (.int (ji_gI M a x.toNatClampNeg) :: st) o) := ev_iald rfl
theorem s184_95 : ji_Ev C 184 95 M lv (.int x :: st) o ↔ 2 < lv.length ∧ ji_Ev C 184 96 M (ji_s1 lv 2 (.int x)) st o := ev_stI rfl rfl rfl
theorem s184_96 : ji_Ev C 184 96 M (some (.ref a) :: l) st o ↔ ji_Ev C 184 97 M (some (.ref a) :: l) (.ref a :: st) o := ev_go (S := (97, M, (some (.ref a) :: l), (.ref a :: st))) rfl rfl rfl
theorem s184_97 : ji_Ev C 184 97 M lv (.ref a :: st) o ↔ ji_kd M a = some (0, 9) ∧ ji_Ev C 184 100 M lv (ji_rv (ji_gR M a 27) :: st) o := ev_getR (k := 184) rfl fd_9_93 rfl
theorem s184_100 : ji_Ev C 184 100 M (some (.ref a) :: l) st o ↔ ji_Ev C 184 101 M (some (.ref a) :: l) (.ref a :: st) o := ev_go (S := (101, M, (some (.ref a) :: l), (.ref a :: st))) rfl rfl rfl
theorem s184_101 : ji_Ev C 184 101 M lv (.ref a :: st) o ↔ ji_kd M a = some (0, 9) ∧ ji_Ev C 184 104 M lv (.int (ji_gI M a 30) :: st) o := ev_getI (k := 184) rfl fd_9_102 rfl
theorem s184_104 : ji_Ev C 184 104 M lv (.int x :: .ref a :: st) o ↔ ji_evA (ji_kd M a) (fun n => vp_in x n ∧ ji_Ev C 184 105 M lv (.int (ji_gI M a x.toNatClampNeg) :: st) o) := ev_iald rfl
theorem s184_105 : ji_Ev C 184 105 M lv (.int x :: st) o ↔ 3 < lv.length ∧ ji_Ev C 184 106 M (ji_s1 lv 3 (.int x)) st o := ev_stI rfl rfl rfl
theorem s184_106 : ji_Ev C 184 106 M (some (.ref a) :: l) st o ↔ ji_Ev C 184 107 M (some (.ref a) :: l) (.ref a :: st) o := ev_go (S := (107, M, (some (.ref a) :: l), (.ref a :: st))) rfl rfl rfl
theorem s184_107 : ji_Ev C 184 107 M lv (.ref a :: st) o ↔ ji_kd M a = some (0, 9) ∧ ji_Ev C 184 110 M lv (ji_rv (ji_gR M a 27) :: st) o := ev_getR (k := 184) rfl fd_9_93 rfl
theorem s184_110 : ji_Ev C 184 110 M (some (.ref a) :: l) st o ↔ ji_Ev C 184 111 M (some (.ref a) :: l) (.ref a :: st) o := ev_go (S := (111, M, (some (.ref a) :: l), (.ref a :: st))) rfl rfl rfl
theorem s184_111 : ji_Ev C 184 111 M lv (.ref a :: st) o ↔ ji_kd M a = some (0, 9) ∧ ji_Ev C 184 114 M lv (.int (ji_gI M a 30) :: st) o := ev_getI (k := 184) rfl fd_9_102 rfl
theorem s184_114 : ji_Ev C 184 114 M lv st o ↔ ji_Ev C 184 115 M lv (.int 1 :: st) o := ev_go (S := (115, M, lv, (.int 1 :: st))) rfl rfl rfl
theorem s184_115 : ji_Ev C 184 115 M lv (.int y :: .int x :: st) o ↔ ji_Ev C 184 116 M lv (.int (x - y) :: st) o := ev_go (S := (116, M, lv, (.int (x - y) :: st))) rfl rfl rfl
theorem s184_116 : ji_Ev C 184 116 M (l0 :: some (.int x) :: l) st o ↔ ji_Ev C 184 117 M (l0 :: some (.int x) :: l) (.int x :: st) o := ev_go (S := (117, M, (l0 :: some (.int x) :: l), (.int x :: st))) rfl rfl rfl
theorem s184_117 : ji_Ev C 184 117 M lv st o ↔ ji_Ev C 184 119 M lv (.int 43 :: st) o := ev_go (S := (119, M, lv, (.int 43 :: st))) rfl rfl rfl
theorem s184_119 : ji_Ev C 184 119 M lv (.int y :: .int x :: st) o ↔ if x = y then ji_Ev C 184 122 M lv st o else ji_Ev C 184 128 M lv st o := ev_brc (c := .ne) rfl (by decide) rfl
theorem s184_122 : ji_Ev C 184 122 M (l0 :: l1 :: some (.int x) :: l) st o ↔ ji_Ev C 184 123 M (l0 :: l1 :: some (.int x) :: l) (.int x :: st) o := ev_go (S := (123, M, (l0 :: l1 :: some (.int x) :: l), (.int x :: st))) rfl rfl rfl
theorem s184_123 : ji_Ev C 184 123 M (l0 :: l1 :: l2 :: some (.int x) :: l) st o ↔ ji_Ev C 184 124 M (l0 :: l1 :: l2 :: some (.int x) :: l) (.int x :: st) o := ev_go (S := (124, M, (l0 :: l1 :: l2 :: some (.int x) :: l), (.int x :: st))) rfl rfl rfl
theorem s184_124 : ji_Ev C 184 124 M lv (.int y :: .int x :: st) o ↔ ji_Ev C 184 125 M lv (.int (x + y) :: st) o := ev_go (S := (125, M, lv, (.int (x + y) :: st))) rfl rfl rfl
theorem s184_125 : ji_Ev C 184 125 M lv st o ↔ ji_Ev C 184 225 M lv st o := ev_gt rfl (by decide) rfl
theorem s184_128 : ji_Ev C 184 128 M (l0 :: some (.int x) :: l) st o ↔ ji_Ev C 184 129 M (l0 :: some (.int x) :: l) (.int x :: st) o := ev_go (S := (129, M, (l0 :: some (.int x) :: l), (.int x :: st))) rfl rfl rfl
theorem s184_129 : ji_Ev C 184 129 M lv st o ↔ ji_Ev C 184 131 M lv (.int 45 :: st) o := ev_go (S := (131, M, lv, (.int 45 :: st))) rfl rfl rfl
theorem s184_131 : ji_Ev C 184 131 M lv (.int y :: .int x :: st) o ↔ if x = y then ji_Ev C 184 134 M lv st o else ji_Ev C 184 140 M lv st o := ev_brc (c := .ne) rfl (by decide) rfl
theorem s184_134 : ji_Ev C 184 134 M (l0 :: l1 :: some (.int x) :: l) st o ↔ ji_Ev C 184 135 M (l0 :: l1 :: some (.int x) :: l) (.int x :: st) o := ev_go (S := (135, M, (l0 :: l1 :: some (.int x) :: l), (.int x :: st))) rfl rfl rfl
theorem s184_135 : ji_Ev C 184 135 M (l0 :: l1 :: l2 :: some (.int x) :: l) st o ↔ ji_Ev C 184 136 M (l0 :: l1 :: l2 :: some (.int x) :: l) (.int x :: st) o := ev_go (S := (136, M, (l0 :: l1 :: l2 :: some (.int x) :: l), (.int x :: st))) rfl rfl rfl
theorem s184_136 : ji_Ev C 184 136 M lv (.int y :: .int x :: st) o ↔ ji_Ev C 184 137 M lv (.int (x - y) :: st) o := ev_go (S := (137, M, lv, (.int (x - y) :: st))) rfl rfl rfl
theorem s184_137 : ji_Ev C 184 137 M lv st o ↔ ji_Ev C 184 225 M lv st o := ev_gt rfl (by decide) rfl
theorem s184_140 : ji_Ev C 184 140 M (l0 :: some (.int x) :: l) st o ↔ ji_Ev C 184 141 M (l0 :: some (.int x) :: l) (.int x :: st) o := ev_go (S := (141, M, (l0 :: some (.int x) :: l), (.int x :: st))) rfl rfl rfl
theorem s184_141 : ji_Ev C 184 141 M lv st o ↔ ji_Ev C 184 143 M lv (.int 42 :: st) o := ev_go (S := (143, M, lv, (.int 42 :: st))) rfl rfl rfl
theorem s184_143 : ji_Ev C 184 143 M lv (.int y :: .int x :: st) o ↔ if x = y then ji_Ev C 184 146 M lv st o else ji_Ev C 184 152 M lv st o := ev_brc (c := .ne) rfl (by decide) rfl
theorem s184_146 : ji_Ev C 184 146 M (l0 :: l1 :: some (.int x) :: l) st o ↔ ji_Ev C 184 147 M (l0 :: l1 :: some (.int x) :: l) (.int x :: st) o := ev_go (S := (147, M, (l0 :: l1 :: some (.int x) :: l), (.int x :: st))) rfl rfl rfl
theorem s184_147 : ji_Ev C 184 147 M (l0 :: l1 :: l2 :: some (.int x) :: l) st o ↔ ji_Ev C 184 148 M (l0 :: l1 :: l2 :: some (.int x) :: l) (.int x :: st) o := ev_go (S := (148, M, (l0 :: l1 :: l2 :: some (.int x) :: l), (.int x :: st))) rfl rfl rfl
theorem s184_148 : ji_Ev C 184 148 M lv (.int y :: .int x :: st) o ↔ ji_Ev C 184 149 M lv (.int (x * y) :: st) o := ev_go (S := (149, M, lv, (.int (x * y) :: st))) rfl rfl rfl
theorem s184_149 : ji_Ev C 184 149 M lv st o ↔ ji_Ev C 184 225 M lv st o := ev_gt rfl (by decide) rfl
theorem s184_152 : ji_Ev C 184 152 M (l0 :: some (.int x) :: l) st o ↔ ji_Ev C 184 153 M (l0 :: some (.int x) :: l) (.int x :: st) o := ev_go (S := (153, M, (l0 :: some (.int x) :: l), (.int x :: st))) rfl rfl rfl
theorem s184_153 : ji_Ev C 184 153 M lv st o ↔ ji_Ev C 184 155 M lv (.int 60 :: st) o := ev_go (S := (155, M, lv, (.int 60 :: st))) rfl rfl rfl
theorem s184_155 : ji_Ev C 184 155 M lv (.int y :: .int x :: st) o ↔ if x = y then ji_Ev C 184 158 M lv st o else ji_Ev C 184 171 M lv st o := ev_brc (c := .ne) rfl (by decide) rfl
theorem s184_158 : ji_Ev C 184 158 M (l0 :: l1 :: some (.int x) :: l) st o ↔ ji_Ev C 184 159 M (l0 :: l1 :: some (.int x) :: l) (.int x :: st) o := ev_go (S := (159, M, (l0 :: l1 :: some (.int x) :: l), (.int x :: st))) rfl rfl rfl
theorem s184_159 : ji_Ev C 184 159 M (l0 :: l1 :: l2 :: some (.int x) :: l) st o ↔ ji_Ev C 184 160 M (l0 :: l1 :: l2 :: some (.int x) :: l) (.int x :: st) o := ev_go (S := (160, M, (l0 :: l1 :: l2 :: some (.int x) :: l), (.int x :: st))) rfl rfl rfl
theorem s184_160 : ji_Ev C 184 160 M lv (.int y :: .int x :: st) o ↔ if x < y then ji_Ev C 184 163 M lv st o else ji_Ev C 184 167 M lv st o := ev_brc (c := .ge) rfl (by decide) rfl
theorem s184_163 : ji_Ev C 184 163 M lv st o ↔ ji_Ev C 184 164 M lv (.int 1 :: st) o := ev_go (S := (164, M, lv, (.int 1 :: st))) rfl rfl rfl
theorem s184_164 : ji_Ev C 184 164 M lv st o ↔ ji_Ev C 184 225 M lv st o := ev_gt rfl (by decide) rfl
theorem s184_167 : ji_Ev C 184 167 M lv st o ↔ ji_Ev C 184 168 M lv (.int 0 :: st) o := ev_go (S := (168, M, lv, (.int 0 :: st))) rfl rfl rfl
theorem s184_168 : ji_Ev C 184 168 M lv st o ↔ ji_Ev C 184 225 M lv st o := ev_gt rfl (by decide) rfl
theorem s184_171 : ji_Ev C 184 171 M (l0 :: some (.int x) :: l) st o ↔ ji_Ev C 184 172 M (l0 :: some (.int x) :: l) (.int x :: st) o := ev_go (S := (172, M, (l0 :: some (.int x) :: l), (.int x :: st))) rfl rfl rfl
theorem s184_172 : ji_Ev C 184 172 M lv st o ↔ ji_Ev C 184 174 M lv (.int 61 :: st) o := ev_go (S := (174, M, lv, (.int 61 :: st))) rfl rfl rfl
theorem s184_174 : ji_Ev C 184 174 M lv (.int y :: .int x :: st) o ↔ if x = y then ji_Ev C 184 177 M lv st o else ji_Ev C 184 190 M lv st o := ev_brc (c := .ne) rfl (by decide) rfl
theorem s184_177 : ji_Ev C 184 177 M (l0 :: l1 :: some (.int x) :: l) st o ↔ ji_Ev C 184 178 M (l0 :: l1 :: some (.int x) :: l) (.int x :: st) o := ev_go (S := (178, M, (l0 :: l1 :: some (.int x) :: l), (.int x :: st))) rfl rfl rfl
theorem s184_178 : ji_Ev C 184 178 M (l0 :: l1 :: l2 :: some (.int x) :: l) st o ↔ ji_Ev C 184 179 M (l0 :: l1 :: l2 :: some (.int x) :: l) (.int x :: st) o := ev_go (S := (179, M, (l0 :: l1 :: l2 :: some (.int x) :: l), (.int x :: st))) rfl rfl rfl
theorem s184_179 : ji_Ev C 184 179 M lv (.int y :: .int x :: st) o ↔ if x = y then ji_Ev C 184 182 M lv st o else ji_Ev C 184 186 M lv st o := ev_brc (c := .ne) rfl (by decide) rfl
theorem s184_182 : ji_Ev C 184 182 M lv st o ↔ ji_Ev C 184 183 M lv (.int 1 :: st) o := ev_go (S := (183, M, lv, (.int 1 :: st))) rfl rfl rfl
theorem s184_183 : ji_Ev C 184 183 M lv st o ↔ ji_Ev C 184 225 M lv st o := ev_gt rfl (by decide) rfl
theorem s184_186 : ji_Ev C 184 186 M lv st o ↔ ji_Ev C 184 187 M lv (.int 0 :: st) o := ev_go (S := (187, M, lv, (.int 0 :: st))) rfl rfl rfl
theorem s184_187 : ji_Ev C 184 187 M lv st o ↔ ji_Ev C 184 225 M lv st o := ev_gt rfl (by decide) rfl
theorem s184_190 : ji_Ev C 184 190 M (l0 :: some (.int x) :: l) st o ↔ ji_Ev C 184 191 M (l0 :: some (.int x) :: l) (.int x :: st) o := ev_go (S := (191, M, (l0 :: some (.int x) :: l), (.int x :: st))) rfl rfl rfl
theorem s184_191 : ji_Ev C 184 191 M lv st o ↔ ji_Ev C 184 193 M lv (.int 38 :: st) o := ev_go (S := (193, M, lv, (.int 38 :: st))) rfl rfl rfl
theorem s184_193 : ji_Ev C 184 193 M lv (.int y :: .int x :: st) o ↔ if x = y then ji_Ev C 184 196 M lv st o else ji_Ev C 184 212 M lv st o := ev_brc (c := .ne) rfl (by decide) rfl
theorem s184_196 : ji_Ev C 184 196 M (l0 :: l1 :: some (.int x) :: l) st o ↔ ji_Ev C 184 197 M (l0 :: l1 :: some (.int x) :: l) (.int x :: st) o := ev_go (S := (197, M, (l0 :: l1 :: some (.int x) :: l), (.int x :: st))) rfl rfl rfl
theorem s184_197 : ji_Ev C 184 197 M lv (.int x :: st) o ↔ if x = 0 then ji_Ev C 184 208 M lv st o else ji_Ev C 184 200 M lv st o := ev_brz (c := .eq) rfl (by decide) rfl
theorem s184_200 : ji_Ev C 184 200 M (l0 :: l1 :: l2 :: some (.int x) :: l) st o ↔ ji_Ev C 184 201 M (l0 :: l1 :: l2 :: some (.int x) :: l) (.int x :: st) o := ev_go (S := (201, M, (l0 :: l1 :: l2 :: some (.int x) :: l), (.int x :: st))) rfl rfl rfl
theorem s184_201 : ji_Ev C 184 201 M lv (.int x :: st) o ↔ if x = 0 then ji_Ev C 184 208 M lv st o else ji_Ev C 184 204 M lv st o := ev_brz (c := .eq) rfl (by decide) rfl
theorem s184_204 : ji_Ev C 184 204 M lv st o ↔ ji_Ev C 184 205 M lv (.int 1 :: st) o := ev_go (S := (205, M, lv, (.int 1 :: st))) rfl rfl rfl
theorem s184_205 : ji_Ev C 184 205 M lv st o ↔ ji_Ev C 184 225 M lv st o := ev_gt rfl (by decide) rfl
theorem s184_208 : ji_Ev C 184 208 M lv st o ↔ ji_Ev C 184 209 M lv (.int 0 :: st) o := ev_go (S := (209, M, lv, (.int 0 :: st))) rfl rfl rfl
theorem s184_209 : ji_Ev C 184 209 M lv st o ↔ ji_Ev C 184 225 M lv st o := ev_gt rfl (by decide) rfl
theorem s184_212 : ji_Ev C 184 212 M (l0 :: l1 :: some (.int x) :: l) st o ↔ ji_Ev C 184 213 M (l0 :: l1 :: some (.int x) :: l) (.int x :: st) o := ev_go (S := (213, M, (l0 :: l1 :: some (.int x) :: l), (.int x :: st))) rfl rfl rfl
theorem s184_213 : ji_Ev C 184 213 M lv (.int x :: st) o ↔ if x = 0 then ji_Ev C 184 216 M lv st o else ji_Ev C 184 220 M lv st o := ev_brz (c := .ne) rfl (by decide) rfl
theorem s184_216 : ji_Ev C 184 216 M (l0 :: l1 :: l2 :: some (.int x) :: l) st o ↔ ji_Ev C 184 217 M (l0 :: l1 :: l2 :: some (.int x) :: l) (.int x :: st) o := ev_go (S := (217, M, (l0 :: l1 :: l2 :: some (.int x) :: l), (.int x :: st))) rfl rfl rfl
theorem s184_217 : ji_Ev C 184 217 M lv (.int x :: st) o ↔ if x = 0 then ji_Ev C 184 224 M lv st o else ji_Ev C 184 220 M lv st o := ev_brz (c := .eq) rfl (by decide) rfl
theorem s184_220 : ji_Ev C 184 220 M lv st o ↔ ji_Ev C 184 221 M lv (.int 1 :: st) o := ev_go (S := (221, M, lv, (.int 1 :: st))) rfl rfl rfl
theorem s184_221 : ji_Ev C 184 221 M lv st o ↔ ji_Ev C 184 225 M lv st o := ev_gt rfl (by decide) rfl
theorem s184_224 : ji_Ev C 184 224 M lv st o ↔ ji_Ev C 184 225 M lv (.int 0 :: st) o := ev_go (S := (225, M, lv, (.int 0 :: st))) rfl rfl rfl
theorem s184_225 : ji_Ev C 184 225 M lv (.int y :: .int x :: .ref a :: st) o ↔ ji_evA (ji_kd M a) (fun n => vp_in x n ∧ ji_Ev C 184 226 (ji_sI M a x.toNatClampNeg y) lv st o) := ev_iast rfl
theorem s184_226 : ji_Ev C 184 226 M lv [] o ↔ o = (none, M) := ev_vret rfl rfl
theorem s185_0 : ji_Ev C 185 0 M (some (.ref a) :: l) st o ↔ ji_Ev C 185 1 M (some (.ref a) :: l) (.ref a :: st) o := ev_go (S := (1, M, (some (.ref a) :: l), (.ref a :: st))) rfl rfl rfl
theorem s185_1 : ji_Ev C 185 1 M lv (.ref a :: st) o ↔ ji_kd M a = some (0, 9) ∧ ji_Ev C 185 4 M lv (.int (ji_gI M a 23) :: st) o := ev_getI (k := 185) rfl fd_9_81 rfl
theorem s185_4 : ji_Ev C 185 4 M lv st o ↔ ji_Ev C 185 6 M lv (.int 42 :: st) o := ev_go (S := (6, M, lv, (.int 42 :: st))) rfl rfl rfl
theorem s185_6 : ji_Ev C 185 6 M lv (.int y :: .int x :: st) o ↔ if x = y then ji_Ev C 185 45 M lv st o else ji_Ev C 185 9 M lv st o := ev_brc (c := .eq) rfl (by decide) rfl
theorem s185_9 : ji_Ev C 185 9 M (some (.ref a) :: l) st o ↔ ji_Ev C 185 10 M (some (.ref a) :: l) (.ref a :: st) o := ev_go (S := (10, M, (some (.ref a) :: l), (.ref a :: st))) rfl rfl rfl
theorem s185_10 : ji_Ev C 185 10 M lv (.ref a :: st) o ↔ ji_kd M a = some (0, 9) ∧ ji_Ev C 185 13 M lv (.int (ji_gI M a 23) :: st) o := ev_getI (k := 185) rfl fd_9_81 rfl
theorem s185_13 : ji_Ev C 185 13 M lv st o ↔ ji_Ev C 185 15 M lv (.int 43 :: st) o := ev_go (S := (15, M, lv, (.int 43 :: st))) rfl rfl rfl
theorem s185_15 : ji_Ev C 185 15 M lv (.int y :: .int x :: st) o ↔ if x = y then ji_Ev C 185 45 M lv st o else ji_Ev C 185 18 M lv st o := ev_brc (c := .eq) rfl (by decide) rfl
theorem s185_18 : ji_Ev C 185 18 M (some (.ref a) :: l) st o ↔ ji_Ev C 185 19 M (some (.ref a) :: l) (.ref a :: st) o := ev_go (S := (19, M, (some (.ref a) :: l), (.ref a :: st))) rfl rfl rfl
theorem s185_19 : ji_Ev C 185 19 M lv (.ref a :: st) o ↔ ji_kd M a = some (0, 9) ∧ ji_Ev C 185 22 M lv (.int (ji_gI M a 23) :: st) o := ev_getI (k := 185) rfl fd_9_81 rfl
theorem s185_22 : ji_Ev C 185 22 M lv st o ↔ ji_Ev C 185 24 M lv (.int 45 :: st) o := ev_go (S := (24, M, lv, (.int 45 :: st))) rfl rfl rfl
theorem s185_24 : ji_Ev C 185 24 M lv (.int y :: .int x :: st) o ↔ if x = y then ji_Ev C 185 45 M lv st o else ji_Ev C 185 27 M lv st o := ev_brc (c := .eq) rfl (by decide) rfl
theorem s185_27 : ji_Ev C 185 27 M (some (.ref a) :: l) st o ↔ ji_Ev C 185 28 M (some (.ref a) :: l) (.ref a :: st) o := ev_go (S := (28, M, (some (.ref a) :: l), (.ref a :: st))) rfl rfl rfl
theorem s185_28 : ji_Ev C 185 28 M lv (.ref a :: st) o ↔ ji_kd M a = some (0, 9) ∧ ji_Ev C 185 31 M lv (.int (ji_gI M a 23) :: st) o := ev_getI (k := 185) rfl fd_9_81 rfl
theorem s185_31 : ji_Ev C 185 31 M lv st o ↔ ji_Ev C 185 33 M lv (.int 60 :: st) o := ev_go (S := (33, M, lv, (.int 60 :: st))) rfl rfl rfl
theorem s185_33 : ji_Ev C 185 33 M lv (.int y :: .int x :: st) o ↔ if x = y then ji_Ev C 185 45 M lv st o else ji_Ev C 185 36 M lv st o := ev_brc (c := .eq) rfl (by decide) rfl
theorem s185_36 : ji_Ev C 185 36 M (some (.ref a) :: l) st o ↔ ji_Ev C 185 37 M (some (.ref a) :: l) (.ref a :: st) o := ev_go (S := (37, M, (some (.ref a) :: l), (.ref a :: st))) rfl rfl rfl
theorem s185_37 : ji_Ev C 185 37 M lv (.ref a :: st) o ↔ ji_kd M a = some (0, 9) ∧ ji_Ev C 185 40 M lv (.int (ji_gI M a 23) :: st) o := ev_getI (k := 185) rfl fd_9_81 rfl
theorem s185_40 : ji_Ev C 185 40 M lv st o ↔ ji_Ev C 185 42 M lv (.int 61 :: st) o := ev_go (S := (42, M, lv, (.int 61 :: st))) rfl rfl rfl
theorem s185_42 : ji_Ev C 185 42 M lv (.int y :: .int x :: st) o ↔ if x = y then ji_Ev C 185 45 M lv st o else ji_Ev C 185 52 M lv st o := ev_brc (c := .ne) rfl (by decide) rfl
theorem s185_45 : ji_Ev C 185 45 M (some (.ref a) :: l) st o ↔ ji_Ev C 185 46 M (some (.ref a) :: l) (.ref a :: st) o := ev_go (S := (46, M, (some (.ref a) :: l), (.ref a :: st))) rfl rfl rfl
theorem s185_46 : ji_Ev C 185 46 M lv (.ref a :: st) o ↔ ji_kd M a = some (0, 9) ∧ ji_Ev C 185 49 M lv (.int (ji_gI M a 23) :: st) o := ev_getI (k := 185) rfl fd_9_81 rfl
theorem s185_49 : ji_Ev C 185 49 M lv st o ↔ ji_Ev C 185 79 M lv st o := ev_gt rfl (by decide) rfl
theorem s185_52 : ji_Ev C 185 52 M (some (.ref a) :: l) st o ↔ ji_Ev C 185 53 M (some (.ref a) :: l) (.ref a :: st) o := ev_go (S := (53, M, (some (.ref a) :: l), (.ref a :: st))) rfl rfl rfl
theorem s185_53 : ji_Ev C 185 53 M lv st o ↔ ji_Ev C 185 54 M lv (.int 4 :: st) o := ev_go (S := (54, M, lv, (.int 4 :: st))) rfl rfl rfl
theorem s185_54 : ji_Ev C 185 54 M lv (p0 :: .ref a :: st) o ↔ (ji_rcb M 9 (.ref a) = true ∧ ji_ok8 st) ∧ ji_evC (C 178 [.ref a, p0] M) (fun v M' => ji_Ev C 185 57 M' lv (v.toList ++ st) o) := ev_inv (k := 185) rfl cd_9_373 rfl
theorem s185_57 : ji_Ev C 185 57 M lv (.int x :: st) o ↔ if x = 0 then ji_Ev C 185 65 M lv st o else ji_Ev C 185 60 M lv st o := ev_brz (c := .eq) rfl (by decide) rfl
theorem s185_60 : ji_Ev C 185 60 M lv st o ↔ ji_Ev C 185 62 M lv (.int 38 :: st) o := ev_go (S := (62, M, lv, (.int 38 :: st))) rfl rfl rfl
theorem s185_62 : ji_Ev C 185 62 M lv st o ↔ ji_Ev C 185 79 M lv st o := ev_gt rfl (by decide) rfl
theorem s185_65 : ji_Ev C 185 65 M (some (.ref a) :: l) st o ↔ ji_Ev C 185 66 M (some (.ref a) :: l) (.ref a :: st) o := ev_go (S := (66, M, (some (.ref a) :: l), (.ref a :: st))) rfl rfl rfl
theorem s185_66 : ji_Ev C 185 66 M lv st o ↔ ji_Ev C 185 67 M lv (.int 3 :: st) o := ev_go (S := (67, M, lv, (.int 3 :: st))) rfl rfl rfl
theorem s185_67 : ji_Ev C 185 67 M lv (p0 :: .ref a :: st) o ↔ (ji_rcb M 9 (.ref a) = true ∧ ji_ok8 st) ∧ ji_evC (C 178 [.ref a, p0] M) (fun v M' => ji_Ev C 185 70 M' lv (v.toList ++ st) o) := ev_inv (k := 185) rfl cd_9_373 rfl
theorem s185_70 : ji_Ev C 185 70 M lv (.int x :: st) o ↔ if x = 0 then ji_Ev C 185 78 M lv st o else ji_Ev C 185 73 M lv st o := ev_brz (c := .eq) rfl (by decide) rfl
theorem s185_73 : ji_Ev C 185 73 M lv st o ↔ ji_Ev C 185 75 M lv (.int 124 :: st) o := ev_go (S := (75, M, lv, (.int 124 :: st))) rfl rfl rfl
theorem s185_75 : ji_Ev C 185 75 M lv st o ↔ ji_Ev C 185 79 M lv st o := ev_gt rfl (by decide) rfl
theorem s185_78 : ji_Ev C 185 78 M lv st o ↔ ji_Ev C 185 79 M lv (.int 0 :: st) o := ev_go (S := (79, M, lv, (.int 0 :: st))) rfl rfl rfl
theorem s185_79 : ji_Ev C 185 79 M lv [.int x] o ↔ o = (some (.int x), M) := ev_ireti rfl rfl
theorem s186_0 : ji_Ev C 186 0 M (some (.ref a) :: l) st o ↔ ji_Ev C 186 1 M (some (.ref a) :: l) (.ref a :: st) o := ev_go (S := (1, M, (some (.ref a) :: l), (.ref a :: st))) rfl rfl rfl
theorem s186_1 : ji_Ev C 186 1 M (l0 :: some (.int x) :: l) st o ↔ ji_Ev C 186 2 M (l0 :: some (.int x) :: l) (.int x :: st) o := ev_go (S := (2, M, (l0 :: some (.int x) :: l), (.int x :: st))) rfl rfl rfl
theorem s186_2 : ji_Ev C 186 2 M lv st o ↔ ji_Ev C 186 4 M lv (.int 60 :: st) o := ev_go (S := (4, M, lv, (.int 60 :: st))) rfl rfl rfl
theorem s186_4 : ji_Ev C 186 4 M lv (.int y :: .int x :: st) o ↔ if x = y then ji_Ev C 186 13 M lv st o else ji_Ev C 186 7 M lv st o := ev_brc (c := .eq) rfl (by decide) rfl
theorem s186_7 : ji_Ev C 186 7 M (l0 :: some (.int x) :: l) st o ↔ ji_Ev C 186 8 M (l0 :: some (.int x) :: l) (.int x :: st) o := ev_go (S := (8, M, (l0 :: some (.int x) :: l), (.int x :: st))) rfl rfl rfl
theorem s186_8 : ji_Ev C 186 8 M lv st o ↔ ji_Ev C 186 10 M lv (.int 61 :: st) o := ev_go (S := (10, M, lv, (.int 61 :: st))) rfl rfl rfl
theorem s186_10 : ji_Ev C 186 10 M lv (.int y :: .int x :: st) o ↔ if x = y then ji_Ev C 186 13 M lv st o else ji_Ev C 186 17 M lv st o := ev_brc (c := .ne) rfl (by decide) rfl
theorem s186_13 : ji_Ev C 186 13 M lv st o ↔ ji_Ev C 186 14 M lv (.int 5 :: st) o := ev_go (S := (14, M, lv, (.int 5 :: st))) rfl rfl rfl
theorem s186_14 : ji_Ev C 186 14 M lv st o ↔ ji_Ev C 186 22 M lv st o := ev_gt rfl (by decide) rfl
theorem s186_17 : ji_Ev C 186 17 M (some (.ref a) :: l) st o ↔ ji_Ev C 186 18 M (some (.ref a) :: l) (.ref a :: st) o := ev_go (S := (18, M, (some (.ref a) :: l), (.ref a :: st))) rfl rfl rfl
theorem s186_18 : ji_Ev C 186 18 M (l0 :: some (.int x) :: l) st o ↔ ji_Ev C 186 19 M (l0 :: some (.int x) :: l) (.int x :: st) o := ev_go (S := (19, M, (l0 :: some (.int x) :: l), (.int x :: st))) rfl rfl rfl
theorem s186_19 : ji_Ev C 186 19 M lv (p0 :: .ref a :: st) o ↔ (ji_rcb M 9 (.ref a) = true ∧ ji_ok8 st) ∧ ji_evC (C 183 [.ref a, p0] M) (fun v M' => ji_Ev C 186 22 M' lv (v.toList ++ st) o) := ev_inv (k := 186) rfl cd_9_360 rfl
theorem s186_22 : ji_Ev C 186 22 M lv (p0 :: .ref a :: st) o ↔ (ji_rcb M 9 (.ref a) = true ∧ ji_ok8 st) ∧ ji_evC (C 182 [.ref a, p0] M) (fun v M' => ji_Ev C 186 25 M' lv (v.toList ++ st) o) := ev_inv (k := 186) rfl cd_9_370 rfl
theorem s186_25 : ji_Ev C 186 25 M (l0 :: some (.int x) :: l) st o ↔ ji_Ev C 186 26 M (l0 :: some (.int x) :: l) (.int x :: st) o := ev_go (S := (26, M, (l0 :: some (.int x) :: l), (.int x :: st))) rfl rfl rfl
theorem s186_26 : ji_Ev C 186 26 M lv st o ↔ ji_Ev C 186 28 M lv (.int 60 :: st) o := ev_go (S := (28, M, lv, (.int 60 :: st))) rfl rfl rfl
theorem s186_28 : ji_Ev C 186 28 M lv (.int y :: .int x :: st) o ↔ if x = y then ji_Ev C 186 37 M lv st o else ji_Ev C 186 31 M lv st o := ev_brc (c := .eq) rfl (by decide) rfl
theorem s186_31 : ji_Ev C 186 31 M (l0 :: some (.int x) :: l) st o ↔ ji_Ev C 186 32 M (l0 :: some (.int x) :: l) (.int x :: st) o := ev_go (S := (32, M, (l0 :: some (.int x) :: l), (.int x :: st))) rfl rfl rfl
theorem s186_32 : ji_Ev C 186 32 M lv st o ↔ ji_Ev C 186 34 M lv (.int 61 :: st) o := ev_go (S := (34, M, lv, (.int 61 :: st))) rfl rfl rfl
theorem s186_34 : ji_Ev C 186 34 M lv (.int y :: .int x :: st) o ↔ if x = y then ji_Ev C 186 37 M lv st o else ji_Ev C 186 65 M lv st o := ev_brc (c := .ne) rfl (by decide) rfl
theorem s186_37 : ji_Ev C 186 37 M (some (.ref a) :: l) st o ↔ ji_Ev C 186 38 M (some (.ref a) :: l) (.ref a :: st) o := ev_go (S := (38, M, (some (.ref a) :: l), (.ref a :: st))) rfl rfl rfl
theorem s186_38 : ji_Ev C 186 38 M lv (.ref a :: st) o ↔ ji_kd M a = some (0, 9) ∧ ji_Ev C 186 41 M lv (.int (ji_gI M a 29) :: st) o := ev_getI (k := 186) rfl fd_9_99 rfl
theorem s186_41 : ji_Ev C 186 41 M lv (.int x :: st) o ↔ if 0 < x then ji_Ev C 186 44 M lv st o else ji_Ev C 186 65 M lv st o := ev_brz (c := .le) rfl (by decide) rfl
theorem s186_44 : ji_Ev C 186 44 M (some (.ref a) :: l) st o ↔ ji_Ev C 186 45 M (some (.ref a) :: l) (.ref a :: st) o := ev_go (S := (45, M, (some (.ref a) :: l), (.ref a :: st))) rfl rfl rfl
theorem s186_45 : ji_Ev C 186 45 M (some (.ref a) :: l) st o ↔ ji_Ev C 186 46 M (some (.ref a) :: l) (.ref a :: st) o := ev_go (S := (46, M, (some (.ref a) :: l), (.ref a :: st))) rfl rfl rfl
theorem s186_46 : ji_Ev C 186 46 M lv (.ref a :: st) o ↔ ji_kd M a = some (0, 9) ∧ ji_Ev C 186 49 M lv (ji_rv (ji_gR M a 26) :: st) o := ev_getR (k := 186) rfl fd_9_90 rfl
theorem s186_49 : ji_Ev C 186 49 M (some (.ref a) :: l) st o ↔ ji_Ev C 186 50 M (some (.ref a) :: l) (.ref a :: st) o := ev_go (S := (50, M, (some (.ref a) :: l), (.ref a :: st))) rfl rfl rfl
theorem s186_50 : ji_Ev C 186 50 M lv (.ref a :: st) o ↔ ji_kd M a = some (0, 9) ∧ ji_Ev C 186 53 M lv (.int (ji_gI M a 29) :: st) o := ev_getI (k := 186) rfl fd_9_99 rfl
theorem s186_53 : ji_Ev C 186 53 M lv st o ↔ ji_Ev C 186 54 M lv (.int 1 :: st) o := ev_go (S := (54, M, lv, (.int 1 :: st))) rfl rfl rfl
theorem s186_54 : ji_Ev C 186 54 M lv (.int y :: .int x :: st) o ↔ ji_Ev C 186 55 M lv (.int (x - y) :: st) o := ev_go (S := (55, M, lv, (.int (x - y) :: st))) rfl rfl rfl
theorem s186_55 : ji_Ev C 186 55 M lv (.int x :: .ref a :: st) o ↔ ji_evA (ji_kd M a) (fun n => vp_in x n ∧ ji_Ev C 186 56 M lv (.int (ji_gI M a x.toNatClampNeg) :: st) o) := ev_iald rfl
theorem s186_56 : ji_Ev C 186 56 M lv (p0 :: .ref a :: st) o ↔ (ji_rcb M 9 (.ref a) = true ∧ ji_ok8 st) ∧ ji_evC (C 183 [.ref a, p0] M) (fun v M' => ji_Ev C 186 59 M' lv (v.toList ++ st) o) := ev_inv (k := 186) rfl cd_9_360 rfl
theorem s186_59 : ji_Ev C 186 59 M lv st o ↔ ji_Ev C 186 60 M lv (.int 4 :: st) o := ev_go (S := (60, M, lv, (.int 4 :: st))) rfl rfl rfl
theorem s186_60 : ji_Ev C 186 60 M lv (.int y :: .int x :: st) o ↔ if x = y then ji_Ev C 186 63 M lv st o else ji_Ev C 186 65 M lv st o := ev_brc (c := .ne) rfl (by decide) rfl
theorem s186_63 : ji_Ev C 186 63 M lv st o ↔ ji_Ev C 186 64 M lv (.int 0 :: st) o := ev_go (S := (64, M, lv, (.int 0 :: st))) rfl rfl rfl
theorem s186_64 : ji_Ev C 186 64 M lv [.int x] o ↔ narrow .boolean (.int x) = .int x ∧ o = (some (.int x), M) := ev_iretb rfl rfl
theorem s186_65 : ji_Ev C 186 65 M (some (.ref a) :: l) st o ↔ ji_Ev C 186 66 M (some (.ref a) :: l) (.ref a :: st) o := ev_go (S := (66, M, (some (.ref a) :: l), (.ref a :: st))) rfl rfl rfl
theorem s186_66 : ji_Ev C 186 66 M lv (.ref a :: st) o ↔ ji_kd M a = some (0, 9) ∧ ji_Ev C 186 69 M lv (ji_rv (ji_gR M a 26) :: st) o := ev_getR (k := 186) rfl fd_9_90 rfl
theorem s186_69 : ji_Ev C 186 69 M (some (.ref a) :: l) st o ↔ ji_Ev C 186 70 M (some (.ref a) :: l) (.ref a :: st) o := ev_go (S := (70, M, (some (.ref a) :: l), (.ref a :: st))) rfl rfl rfl
theorem s186_70 : ji_Ev C 186 70 M lv (.ref a :: st) o ↔ ji_kd M a = some (0, 9) ∧ ji_Ev C 186 73 M lv (.int (ji_gI M a 29) :: st) o := ev_getI (k := 186) rfl fd_9_99 rfl
theorem s186_73 : ji_Ev C 186 73 M (l0 :: some (.int x) :: l) st o ↔ ji_Ev C 186 74 M (l0 :: some (.int x) :: l) (.int x :: st) o := ev_go (S := (74, M, (l0 :: some (.int x) :: l), (.int x :: st))) rfl rfl rfl
theorem s186_74 : ji_Ev C 186 74 M lv (.int y :: .int x :: .ref a :: st) o ↔ ji_evA (ji_kd M a) (fun n => vp_in x n ∧ ji_Ev C 186 75 (ji_sI M a x.toNatClampNeg y) lv st o) := ev_iast rfl
theorem s186_75 : ji_Ev C 186 75 M (some (.ref a) :: l) st o ↔ ji_Ev C 186 76 M (some (.ref a) :: l) (.ref a :: st) o := ev_go (S := (76, M, (some (.ref a) :: l), (.ref a :: st))) rfl rfl rfl
theorem s186_76 : ji_Ev C 186 76 M lv (.int x :: st) o ↔ ji_Ev C 186 77 M lv (.int x :: .int x :: st) o := ev_go (S := (77, M, lv, (.int x :: .int x :: st))) rfl rfl rfl
theorem s186_76r : ji_Ev C 186 76 M lv (.ref a :: st) o ↔ ji_Ev C 186 77 M lv (.ref a :: .ref a :: st) o := ev_go (S := (77, M, lv, (.ref a :: .ref a :: st))) rfl rfl rfl
theorem s186_77 : ji_Ev C 186 77 M lv (.ref a :: st) o ↔ ji_kd M a = some (0, 9) ∧ ji_Ev C 186 80 M lv (.int (ji_gI M a 29) :: st) o := ev_getI (k := 186) rfl fd_9_99 rfl
theorem s186_80 : ji_Ev C 186 80 M lv st o ↔ ji_Ev C 186 81 M lv (.int 1 :: st) o := ev_go (S := (81, M, lv, (.int 1 :: st))) rfl rfl rfl
theorem s186_81 : ji_Ev C 186 81 M lv (.int y :: .int x :: st) o ↔ ji_Ev C 186 82 M lv (.int (x + y) :: st) o := ev_go (S := (82, M, lv, (.int (x + y) :: st))) rfl rfl rfl
theorem s186_82 : ji_Ev C 186 82 M lv (.int x :: .ref a :: st) o ↔ ji_kd M a = some (0, 9) ∧ ji_Ev C 186 85 (ji_sI M a 29 x) lv st o := ev_putI (k := 186) rfl fd_9_99 rfl (by decide)
theorem s186_85 : ji_Ev C 186 85 M (some (.ref a) :: l) st o ↔ ji_Ev C 186 86 M (some (.ref a) :: l) (.ref a :: st) o := ev_go (S := (86, M, (some (.ref a) :: l), (.ref a :: st))) rfl rfl rfl
theorem s186_86 : ji_Ev C 186 86 M lv (.ref a :: st) o ↔ (ji_rcb M 9 (.ref a) = true ∧ ji_ok8 st) ∧ ji_evC (C 173 [.ref a] M) (fun v M' => ji_Ev C 186 89 M' lv (v.toList ++ st) o) := ev_inv (k := 186) rfl cd_9_367 rfl
theorem s186_89 : ji_Ev C 186 89 M lv st o ↔ ji_Ev C 186 90 M lv (.int 1 :: st) o := ev_go (S := (90, M, lv, (.int 1 :: st))) rfl rfl rfl
theorem s186_90 : ji_Ev C 186 90 M lv [.int x] o ↔ narrow .boolean (.int x) = .int x ∧ o = (some (.int x), M) := ev_iretb rfl rfl
theorem s187_0 : ji_Ev C 187 0 M lv st o ↔ ji_Ev C 187 1 M lv (.int 0 :: st) o := ev_go (S := (1, M, lv, (.int 0 :: st))) rfl rfl rfl
theorem s187_1 : ji_Ev C 187 1 M lv (.int x :: st) o ↔ 4 < lv.length ∧ ji_Ev C 187 3 M (ji_s1 lv 4 (.int x)) st o := ev_stI rfl rfl rfl
theorem s187_3 : ji_Ev C 187 3 M lv st o ↔ ji_Ev C 187 4 M lv (.int 0 :: st) o := ev_go (S := (4, M, lv, (.int 0 :: st))) rfl rfl rfl
theorem s187_4 : ji_Ev C 187 4 M lv (.int x :: st) o ↔ 5 < lv.length ∧ ji_Ev C 187 6 M (ji_s1 lv 5 (.int x)) st o := ev_stI rfl rfl rfl
theorem s187_6 : ji_Ev C 187 6 M (l0 :: l1 :: l2 :: l3 :: l4 :: some (.int x) :: l) st o ↔ ji_Ev C 187 8 M (l0 :: l1 :: l2 :: l3 :: l4 :: some (.int x) :: l) (.int x :: st) o := ev_go (S := (8, M, (l0 :: l1 :: l2 :: l3 :: l4 :: some (.int x) :: l), (.int x :: st))) rfl rfl rfl
theorem s187_8 : ji_Ev C 187 8 M (some (.ref a) :: l) st o ↔ ji_Ev C 187 9 M (some (.ref a) :: l) (.ref a :: st) o := ev_go (S := (9, M, (some (.ref a) :: l), (.ref a :: st))) rfl rfl rfl
theorem s187_9 : ji_Ev C 187 9 M lv (.ref a :: st) o ↔ ji_kd M a = some (0, 9) ∧ ji_Ev C 187 12 M lv (.int (ji_gI M a 33) :: st) o := ev_getI (k := 187) rfl fd_9_111 rfl
theorem s187_12 : ji_Ev C 187 12 M lv (.int y :: .int x :: st) o ↔ if x < y then ji_Ev C 187 15 M lv st o else ji_Ev C 187 72 M lv st o := ev_brc (c := .ge) rfl (by decide) rfl
theorem s187_15 : ji_Ev C 187 15 M (some (.ref a) :: l) st o ↔ ji_Ev C 187 16 M (some (.ref a) :: l) (.ref a :: st) o := ev_go (S := (16, M, (some (.ref a) :: l), (.ref a :: st))) rfl rfl rfl
theorem s187_16 : ji_Ev C 187 16 M lv (.ref a :: st) o ↔ ji_kd M a = some (0, 9) ∧ ji_Ev C 187 19 M lv (ji_rv (ji_gR M a 34) :: st) o := ev_getR (k := 187) rfl fd_9_114 rfl
theorem s187_19 : ji_Ev C 187 19 M (l0 :: l1 :: l2 :: l3 :: l4 :: some (.int x) :: l) st o ↔ ji_Ev C 187 21 M (l0 :: l1 :: l2 :: l3 :: l4 :: some (.int x) :: l) (.int x :: st) o := ev_go (S := (21, M, (l0 :: l1 :: l2 :: l3 :: l4 :: some (.int x) :: l), (.int x :: st))) rfl rfl rfl
theorem s187_21 : ji_Ev C 187 21 M lv (.int x :: .ref a :: st) o ↔ ji_evA (ji_kd M a) (fun n => vp_in x n ∧ ji_Ev C 187 22 M lv (.int (ji_gI M a x.toNatClampNeg) :: st) o) := ev_iald rfl
theorem s187_22 : ji_Ev C 187 22 M (l0 :: some (.int x) :: l) st o ↔ ji_Ev C 187 23 M (l0 :: some (.int x) :: l) (.int x :: st) o := ev_go (S := (23, M, (l0 :: some (.int x) :: l), (.int x :: st))) rfl rfl rfl
theorem s187_23 : ji_Ev C 187 23 M lv (.int y :: .int x :: st) o ↔ if x = y then ji_Ev C 187 26 M lv st o else ji_Ev C 187 66 M lv st o := ev_brc (c := .ne) rfl (by decide) rfl
theorem s187_26 : ji_Ev C 187 26 M (some (.ref a) :: l) st o ↔ ji_Ev C 187 27 M (some (.ref a) :: l) (.ref a :: st) o := ev_go (S := (27, M, (some (.ref a) :: l), (.ref a :: st))) rfl rfl rfl
theorem s187_27 : ji_Ev C 187 27 M lv (.ref a :: st) o ↔ ji_kd M a = some (0, 9) ∧ ji_Ev C 187 30 M lv (ji_rv (ji_gR M a 35) :: st) o := ev_getR (k := 187) rfl fd_9_117 rfl
theorem s187_30 : ji_Ev C 187 30 M (l0 :: l1 :: l2 :: l3 :: l4 :: some (.int x) :: l) st o ↔ ji_Ev C 187 32 M (l0 :: l1 :: l2 :: l3 :: l4 :: some (.int x) :: l) (.int x :: st) o := ev_go (S := (32, M, (l0 :: l1 :: l2 :: l3 :: l4 :: some (.int x) :: l), (.int x :: st))) rfl rfl rfl
theorem s187_32 : ji_Ev C 187 32 M lv (.int x :: .ref a :: st) o ↔ ji_evA (ji_kd M a) (fun n => vp_in x n ∧ ji_Ev C 187 33 M lv (.int (ji_gI M a x.toNatClampNeg) :: st) o) := ev_iald rfl
theorem s187_33 : ji_Ev C 187 33 M (l0 :: l1 :: some (.int x) :: l) st o ↔ ji_Ev C 187 34 M (l0 :: l1 :: some (.int x) :: l) (.int x :: st) o := ev_go (S := (34, M, (l0 :: l1 :: some (.int x) :: l), (.int x :: st))) rfl rfl rfl
theorem s187_34 : ji_Ev C 187 34 M lv (.int y :: .int x :: st) o ↔ if x = y then ji_Ev C 187 37 M lv st o else ji_Ev C 187 66 M lv st o := ev_brc (c := .ne) rfl (by decide) rfl
theorem s187_37 : ji_Ev C 187 37 M (some (.ref a) :: l) st o ↔ ji_Ev C 187 38 M (some (.ref a) :: l) (.ref a :: st) o := ev_go (S := (38, M, (some (.ref a) :: l), (.ref a :: st))) rfl rfl rfl
theorem s187_38 : ji_Ev C 187 38 M lv (.ref a :: st) o ↔ ji_kd M a = some (0, 9) ∧ ji_Ev C 187 41 M lv (ji_rv (ji_gR M a 37) :: st) o := ev_getR (k := 187) rfl fd_9_123 rfl
theorem s187_41 : ji_Ev C 187 41 M (l0 :: l1 :: l2 :: l3 :: l4 :: some (.int x) :: l) st o ↔ ji_Ev C 187 43 M (l0 :: l1 :: l2 :: l3 :: l4 :: some (.int x) :: l) (.int x :: st) o := ev_go (S := (43, M, (l0 :: l1 :: l2 :: l3 :: l4 :: some (.int x) :: l), (.int x :: st))) rfl rfl rfl
theorem s187_43 : ji_Ev C 187 43 M lv (.int x :: .ref a :: st) o ↔ ji_evA (ji_kd M a) (fun n => vp_in x n ∧ ji_Ev C 187 44 M lv (.int (ji_gI M a x.toNatClampNeg) :: st) o) := ev_iald rfl
theorem s187_44 : ji_Ev C 187 44 M (l0 :: l1 :: l2 :: some (.int x) :: l) st o ↔ ji_Ev C 187 45 M (l0 :: l1 :: l2 :: some (.int x) :: l) (.int x :: st) o := ev_go (S := (45, M, (l0 :: l1 :: l2 :: some (.int x) :: l), (.int x :: st))) rfl rfl rfl
theorem s187_45 : ji_Ev C 187 45 M lv (.int y :: .int x :: st) o ↔ if y < x then ji_Ev C 187 66 M lv st o else ji_Ev C 187 48 M lv st o := ev_brc (c := .gt) rfl (by decide) rfl
theorem s187_48 : ji_Ev C 187 48 M (some (.ref a) :: l) st o ↔ ji_Ev C 187 49 M (some (.ref a) :: l) (.ref a :: st) o := ev_go (S := (49, M, (some (.ref a) :: l), (.ref a :: st))) rfl rfl rfl
theorem s187_49 : ji_Ev C 187 49 M lv (.ref a :: st) o ↔ ji_kd M a = some (0, 9) ∧ ji_Ev C 187 52 M lv (ji_rv (ji_gR M a 36) :: st) o := ev_getR (k := 187) rfl fd_9_120 rfl
theorem s187_52 : ji_Ev C 187 52 M (l0 :: l1 :: l2 :: l3 :: l4 :: some (.int x) :: l) st o ↔ ji_Ev C 187 54 M (l0 :: l1 :: l2 :: l3 :: l4 :: some (.int x) :: l) (.int x :: st) o := ev_go (S := (54, M, (l0 :: l1 :: l2 :: l3 :: l4 :: some (.int x) :: l), (.int x :: st))) rfl rfl rfl
theorem s187_54 : ji_Ev C 187 54 M lv (.int x :: .ref a :: st) o ↔ ji_evA (ji_kd M a) (fun n => vp_in x n ∧ ji_Ev C 187 55 M lv (.int (ji_gI M a x.toNatClampNeg) :: st) o) := ev_iald rfl
theorem s187_55 : ji_Ev C 187 55 M lv st o ↔ ji_Ev C 187 56 M lv (.int 1 :: st) o := ev_go (S := (56, M, lv, (.int 1 :: st))) rfl rfl rfl
theorem s187_56 : ji_Ev C 187 56 M lv (.int y :: .int x :: st) o ↔ if x = y then ji_Ev C 187 59 M lv st o else ji_Ev C 187 63 M lv st o := ev_brc (c := .ne) rfl (by decide) rfl
theorem s187_59 : ji_Ev C 187 59 M lv st o ↔ ji_Ev C 187 60 M lv (.int 1 :: st) o := ev_go (S := (60, M, lv, (.int 1 :: st))) rfl rfl rfl
theorem s187_60 : ji_Ev C 187 60 M lv st o ↔ ji_Ev C 187 64 M lv st o := ev_gt rfl (by decide) rfl
theorem s187_63 : ji_Ev C 187 63 M lv st o ↔ ji_Ev C 187 64 M lv (.int 0 :: st) o := ev_go (S := (64, M, lv, (.int 0 :: st))) rfl rfl rfl
theorem s187_64 : ji_Ev C 187 64 M lv (.int x :: st) o ↔ 4 < lv.length ∧ ji_Ev C 187 66 M (ji_s1 lv 4 (.int x)) st o := ev_stI rfl rfl rfl
theorem s187_66 : ji_Ev C 187 66 M lv st o ↔ ji_evL (lv.getD 5 none) ji_isI (fun v => match v with | .int x => 5 < lv.length ∧ ji_Ev C 187 69 M (ji_s1 lv 5 (.int (x + Int32.ofInt 1))) st o | _ => False) := ev_iinc rfl
theorem s187_69 : ji_Ev C 187 69 M lv st o ↔ ji_Ev C 187 6 M lv st o := ev_gt rfl (by decide) rfl
theorem s187_72 : ji_Ev C 187 72 M (l0 :: l1 :: l2 :: l3 :: some (.int x) :: l) st o ↔ ji_Ev C 187 74 M (l0 :: l1 :: l2 :: l3 :: some (.int x) :: l) (.int x :: st) o := ev_go (S := (74, M, (l0 :: l1 :: l2 :: l3 :: some (.int x) :: l), (.int x :: st))) rfl rfl rfl
theorem s187_74 : ji_Ev C 187 74 M lv [.int x] o ↔ narrow .boolean (.int x) = .int x ∧ o = (some (.int x), M) := ev_iretb rfl rfl
theorem s188_0 : ji_Ev C 188 0 M (l0 :: l1 :: some (.int x) :: l) st o ↔ ji_Ev C 188 1 M (l0 :: l1 :: some (.int x) :: l) (.int x :: st) o := ev_go (S := (1, M, (l0 :: l1 :: some (.int x) :: l), (.int x :: st))) rfl rfl rfl
theorem s188_1 : ji_Ev C 188 1 M lv st o ↔ ji_Ev C 188 2 M lv (.int 2 :: st) o := ev_go (S := (2, M, lv, (.int 2 :: st))) rfl rfl rfl
theorem s188_2 : ji_Ev C 188 2 M lv (.int y :: .int x :: st) o ↔ if x = y then ji_Ev C 188 5 M lv st o else ji_Ev C 188 31 M lv st o := ev_brc (c := .ne) rfl (by decide) rfl
theorem s188_5 : ji_Ev C 188 5 M (some (.ref a) :: l) st o ↔ ji_Ev C 188 6 M (some (.ref a) :: l) (.ref a :: st) o := ev_go (S := (6, M, (some (.ref a) :: l), (.ref a :: st))) rfl rfl rfl
theorem s188_6 : ji_Ev C 188 6 M lv st o ↔ ji_Ev C 188 7 M lv (.int 1 :: st) o := ev_go (S := (7, M, lv, (.int 1 :: st))) rfl rfl rfl
theorem s188_7 : ji_Ev C 188 7 M (l0 :: some (.int x) :: l) st o ↔ ji_Ev C 188 8 M (l0 :: some (.int x) :: l) (.int x :: st) o := ev_go (S := (8, M, (l0 :: some (.int x) :: l), (.int x :: st))) rfl rfl rfl
theorem s188_8 : ji_Ev C 188 8 M lv (p1 :: p0 :: .ref a :: st) o ↔ (ji_rcb M 9 (.ref a) = true ∧ ji_ok8 st) ∧ ji_evC (C 189 [.ref a, p0, p1] M) (fun v M' => ji_Ev C 188 11 M' lv (v.toList ++ st) o) := ev_inv (k := 188) rfl cd_9_286 rfl
theorem s188_11 : ji_Ev C 188 11 M (some (.ref a) :: l) st o ↔ ji_Ev C 188 12 M (some (.ref a) :: l) (.ref a :: st) o := ev_go (S := (12, M, (some (.ref a) :: l), (.ref a :: st))) rfl rfl rfl
theorem s188_12 : ji_Ev C 188 12 M (l0 :: some (.int x) :: l) st o ↔ ji_Ev C 188 13 M (l0 :: some (.int x) :: l) (.int x :: st) o := ev_go (S := (13, M, (l0 :: some (.int x) :: l), (.int x :: st))) rfl rfl rfl
theorem s188_13 : ji_Ev C 188 13 M (l0 :: l1 :: some (.int x) :: l) st o ↔ ji_Ev C 188 14 M (l0 :: l1 :: some (.int x) :: l) (.int x :: st) o := ev_go (S := (14, M, (l0 :: l1 :: some (.int x) :: l), (.int x :: st))) rfl rfl rfl
theorem s188_14 : ji_Ev C 188 14 M lv (p1 :: p0 :: .ref a :: st) o ↔ (ji_rcb M 9 (.ref a) = true ∧ ji_ok8 st) ∧ ji_evC (C 167 [.ref a, p0, p1] M) (fun v M' => ji_Ev C 188 17 M' lv (v.toList ++ st) o) := ev_inv (k := 188) rfl cd_9_279 rfl
theorem s188_17 : ji_Ev C 188 17 M lv (.int y :: .int x :: st) o ↔ ji_Ev C 188 18 M lv (.int (x + y) :: st) o := ev_go (S := (18, M, lv, (.int (x + y) :: st))) rfl rfl rfl
theorem s188_18 : ji_Ev C 188 18 M (some (.ref a) :: l) st o ↔ ji_Ev C 188 19 M (some (.ref a) :: l) (.ref a :: st) o := ev_go (S := (19, M, (some (.ref a) :: l), (.ref a :: st))) rfl rfl rfl
theorem s188_19 : ji_Ev C 188 19 M lv (.ref a :: st) o ↔ ji_kd M a = some (0, 9) ∧ ji_Ev C 188 22 M lv (.int (ji_gI M a 2) :: st) o := ev_getI (k := 188) rfl fd_9_16 rfl
theorem s188_22 : ji_Ev C 188 22 M lv (.int y :: .int x :: st) o ↔ if y < x then ji_Ev C 188 29 M lv st o else ji_Ev C 188 25 M lv st o := ev_brc (c := .gt) rfl (by decide) rfl
theorem s188_25 : ji_Ev C 188 25 M lv st o ↔ ji_Ev C 188 26 M lv (.int 1 :: st) o := ev_go (S := (26, M, lv, (.int 1 :: st))) rfl rfl rfl
theorem s188_26 : ji_Ev C 188 26 M lv st o ↔ ji_Ev C 188 30 M lv st o := ev_gt rfl (by decide) rfl
theorem s188_29 : ji_Ev C 188 29 M lv st o ↔ ji_Ev C 188 30 M lv (.int 0 :: st) o := ev_go (S := (30, M, lv, (.int 0 :: st))) rfl rfl rfl
theorem s188_30 : ji_Ev C 188 30 M lv [.int x] o ↔ narrow .boolean (.int x) = .int x ∧ o = (some (.int x), M) := ev_iretb rfl rfl
theorem s188_31 : ji_Ev C 188 31 M (some (.ref a) :: l) st o ↔ ji_Ev C 188 32 M (some (.ref a) :: l) (.ref a :: st) o := ev_go (S := (32, M, (some (.ref a) :: l), (.ref a :: st))) rfl rfl rfl
theorem s188_32 : ji_Ev C 188 32 M (l0 :: l1 :: some (.int x) :: l) st o ↔ ji_Ev C 188 33 M (l0 :: l1 :: some (.int x) :: l) (.int x :: st) o := ev_go (S := (33, M, (l0 :: l1 :: some (.int x) :: l), (.int x :: st))) rfl rfl rfl
theorem s188_33 : ji_Ev C 188 33 M lv (p0 :: .ref a :: st) o ↔ (ji_rcb M 9 (.ref a) = true ∧ ji_ok8 st) ∧ ji_evC (C 190 [.ref a, p0] M) (fun v M' => ji_Ev C 188 36 M' lv (v.toList ++ st) o) := ev_inv (k := 188) rfl cd_9_283 rfl
theorem s188_36 : ji_Ev C 188 36 M lv (.int x :: st) o ↔ if x = 0 then ji_Ev C 188 59 M lv st o else ji_Ev C 188 39 M lv st o := ev_brz (c := .eq) rfl (by decide) rfl
theorem s188_39 : ji_Ev C 188 39 M (some (.ref a) :: l) st o ↔ ji_Ev C 188 40 M (some (.ref a) :: l) (.ref a :: st) o := ev_go (S := (40, M, (some (.ref a) :: l), (.ref a :: st))) rfl rfl rfl
theorem s188_40 : ji_Ev C 188 40 M lv st o ↔ ji_Ev C 188 41 M lv (.int 0 :: st) o := ev_go (S := (41, M, lv, (.int 0 :: st))) rfl rfl rfl
theorem s188_41 : ji_Ev C 188 41 M (l0 :: some (.int x) :: l) st o ↔ ji_Ev C 188 42 M (l0 :: some (.int x) :: l) (.int x :: st) o := ev_go (S := (42, M, (l0 :: some (.int x) :: l), (.int x :: st))) rfl rfl rfl
theorem s188_42 : ji_Ev C 188 42 M lv (p1 :: p0 :: .ref a :: st) o ↔ (ji_rcb M 9 (.ref a) = true ∧ ji_ok8 st) ∧ ji_evC (C 189 [.ref a, p0, p1] M) (fun v M' => ji_Ev C 188 45 M' lv (v.toList ++ st) o) := ev_inv (k := 188) rfl cd_9_286 rfl
theorem s188_45 : ji_Ev C 188 45 M (some (.ref a) :: l) st o ↔ ji_Ev C 188 46 M (some (.ref a) :: l) (.ref a :: st) o := ev_go (S := (46, M, (some (.ref a) :: l), (.ref a :: st))) rfl rfl rfl
theorem s188_46 : ji_Ev C 188 46 M (l0 :: some (.int x) :: l) st o ↔ ji_Ev C 188 47 M (l0 :: some (.int x) :: l) (.int x :: st) o := ev_go (S := (47, M, (l0 :: some (.int x) :: l), (.int x :: st))) rfl rfl rfl
theorem s188_47 : ji_Ev C 188 47 M (l0 :: l1 :: some (.int x) :: l) st o ↔ ji_Ev C 188 48 M (l0 :: l1 :: some (.int x) :: l) (.int x :: st) o := ev_go (S := (48, M, (l0 :: l1 :: some (.int x) :: l), (.int x :: st))) rfl rfl rfl
theorem s188_48 : ji_Ev C 188 48 M lv (p1 :: p0 :: .ref a :: st) o ↔ (ji_rcb M 9 (.ref a) = true ∧ ji_ok8 st) ∧ ji_evC (C 167 [.ref a, p0, p1] M) (fun v M' => ji_Ev C 188 51 M' lv (v.toList ++ st) o) := ev_inv (k := 188) rfl cd_9_279 rfl
theorem s188_51 : ji_Ev C 188 51 M lv (.int y :: .int x :: st) o ↔ ji_Ev C 188 52 M lv (.int (x + y) :: st) o := ev_go (S := (52, M, lv, (.int (x + y) :: st))) rfl rfl rfl
theorem s188_52 : ji_Ev C 188 52 M (some (.ref a) :: l) st o ↔ ji_Ev C 188 53 M (some (.ref a) :: l) (.ref a :: st) o := ev_go (S := (53, M, (some (.ref a) :: l), (.ref a :: st))) rfl rfl rfl
theorem s188_53 : ji_Ev C 188 53 M lv (.ref a :: st) o ↔ ji_kd M a = some (0, 9) ∧ ji_Ev C 188 56 M lv (.int (ji_gI M a 3) :: st) o := ev_getI (k := 188) rfl fd_9_19 rfl
theorem s188_56 : ji_Ev C 188 56 M lv (.int y :: .int x :: st) o ↔ if y < x then ji_Ev C 188 63 M lv st o else ji_Ev C 188 59 M lv st o := ev_brc (c := .gt) rfl (by decide) rfl
theorem s188_59 : ji_Ev C 188 59 M lv st o ↔ ji_Ev C 188 60 M lv (.int 1 :: st) o := ev_go (S := (60, M, lv, (.int 1 :: st))) rfl rfl rfl
theorem s188_60 : ji_Ev C 188 60 M lv st o ↔ ji_Ev C 188 64 M lv st o := ev_gt rfl (by decide) rfl
theorem s188_63 : ji_Ev C 188 63 M lv st o ↔ ji_Ev C 188 64 M lv (.int 0 :: st) o := ev_go (S := (64, M, lv, (.int 0 :: st))) rfl rfl rfl
theorem s188_64 : ji_Ev C 188 64 M lv [.int x] o ↔ narrow .boolean (.int x) = .int x ∧ o = (some (.int x), M) := ev_iretb rfl rfl
theorem s189_0 : ji_Ev C 189 0 M lv st o ↔ ji_Ev C 189 1 M lv (.int 0 :: st) o := ev_go (S := (1, M, lv, (.int 0 :: st))) rfl rfl rfl
theorem s189_1 : ji_Ev C 189 1 M lv (.int x :: st) o ↔ 3 < lv.length ∧ ji_Ev C 189 2 M (ji_s1 lv 3 (.int x)) st o := ev_stI rfl rfl rfl
theorem s189_2 : ji_Ev C 189 2 M lv st o ↔ ji_Ev C 189 3 M lv (.int 0 :: st) o := ev_go (S := (3, M, lv, (.int 0 :: st))) rfl rfl rfl
theorem s189_3 : ji_Ev C 189 3 M lv (.int x :: st) o ↔ 4 < lv.length ∧ ji_Ev C 189 5 M (ji_s1 lv 4 (.int x)) st o := ev_stI rfl rfl rfl
theorem s189_5 : ji_Ev C 189 5 M (l0 :: l1 :: l2 :: l3 :: some (.int x) :: l) st o ↔ ji_Ev C 189 7 M (l0 :: l1 :: l2 :: l3 :: some (.int x) :: l) (.int x :: st) o := ev_go (S := (7, M, (l0 :: l1 :: l2 :: l3 :: some (.int x) :: l), (.int x :: st))) rfl rfl rfl
theorem s189_7 : ji_Ev C 189 7 M (some (.ref a) :: l) st o ↔ ji_Ev C 189 8 M (some (.ref a) :: l) (.ref a :: st) o := ev_go (S := (8, M, (some (.ref a) :: l), (.ref a :: st))) rfl rfl rfl
theorem s189_8 : ji_Ev C 189 8 M lv (.ref a :: st) o ↔ ji_kd M a = some (0, 9) ∧ ji_Ev C 189 11 M lv (.int (ji_gI M a 4) :: st) o := ev_getI (k := 189) rfl fd_9_22 rfl
theorem s189_11 : ji_Ev C 189 11 M lv (.int y :: .int x :: st) o ↔ if x < y then ji_Ev C 189 14 M lv st o else ji_Ev C 189 74 M lv st o := ev_brc (c := .ge) rfl (by decide) rfl
theorem s189_14 : ji_Ev C 189 14 M (l0 :: l1 :: l2 :: l3 :: some (.int x) :: l) st o ↔ ji_Ev C 189 16 M (l0 :: l1 :: l2 :: l3 :: some (.int x) :: l) (.int x :: st) o := ev_go (S := (16, M, (l0 :: l1 :: l2 :: l3 :: some (.int x) :: l), (.int x :: st))) rfl rfl rfl
theorem s189_16 : ji_Ev C 189 16 M (l0 :: l1 :: some (.int x) :: l) st o ↔ ji_Ev C 189 17 M (l0 :: l1 :: some (.int x) :: l) (.int x :: st) o := ev_go (S := (17, M, (l0 :: l1 :: some (.int x) :: l), (.int x :: st))) rfl rfl rfl
theorem s189_17 : ji_Ev C 189 17 M lv (.int y :: .int x :: st) o ↔ if x = y then ji_Ev C 189 68 M lv st o else ji_Ev C 189 20 M lv st o := ev_brc (c := .eq) rfl (by decide) rfl
theorem s189_20 : ji_Ev C 189 20 M (l0 :: some (.int x) :: l) st o ↔ ji_Ev C 189 21 M (l0 :: some (.int x) :: l) (.int x :: st) o := ev_go (S := (21, M, (l0 :: some (.int x) :: l), (.int x :: st))) rfl rfl rfl
theorem s189_21 : ji_Ev C 189 21 M lv (.int x :: st) o ↔ if x = 0 then ji_Ev C 189 38 M lv st o else ji_Ev C 189 24 M lv st o := ev_brz (c := .eq) rfl (by decide) rfl
theorem s189_24 : ji_Ev C 189 24 M (some (.ref a) :: l) st o ↔ ji_Ev C 189 25 M (some (.ref a) :: l) (.ref a :: st) o := ev_go (S := (25, M, (some (.ref a) :: l), (.ref a :: st))) rfl rfl rfl
theorem s189_25 : ji_Ev C 189 25 M lv (.ref a :: st) o ↔ ji_kd M a = some (0, 9) ∧ ji_Ev C 189 28 M lv (ji_rv (ji_gR M a 12) :: st) o := ev_getR (k := 189) rfl fd_9_48 rfl
theorem s189_28 : ji_Ev C 189 28 M (l0 :: l1 :: l2 :: l3 :: some (.int x) :: l) st o ↔ ji_Ev C 189 30 M (l0 :: l1 :: l2 :: l3 :: some (.int x) :: l) (.int x :: st) o := ev_go (S := (30, M, (l0 :: l1 :: l2 :: l3 :: some (.int x) :: l), (.int x :: st))) rfl rfl rfl
theorem s189_30 : ji_Ev C 189 30 M lv (.int x :: .ref a :: st) o ↔ ji_evA (ji_kd M a) (fun n => vp_in x n ∧ ji_Ev C 189 31 M lv (.int (ji_gI M a x.toNatClampNeg) :: st) o) := ev_iald rfl
theorem s189_31 : ji_Ev C 189 31 M lv st o ↔ ji_Ev C 189 32 M lv (.int 2 :: st) o := ev_go (S := (32, M, lv, (.int 2 :: st))) rfl rfl rfl
theorem s189_32 : ji_Ev C 189 32 M lv (.int y :: .int x :: st) o ↔ if x = y then ji_Ev C 189 35 M lv st o else ji_Ev C 189 68 M lv st o := ev_brc (c := .ne) rfl (by decide) rfl
theorem s189_35 : ji_Ev C 189 35 M lv st o ↔ ji_Ev C 189 52 M lv st o := ev_gt rfl (by decide) rfl
theorem s189_38 : ji_Ev C 189 38 M (some (.ref a) :: l) st o ↔ ji_Ev C 189 39 M (some (.ref a) :: l) (.ref a :: st) o := ev_go (S := (39, M, (some (.ref a) :: l), (.ref a :: st))) rfl rfl rfl
theorem s189_39 : ji_Ev C 189 39 M (some (.ref a) :: l) st o ↔ ji_Ev C 189 40 M (some (.ref a) :: l) (.ref a :: st) o := ev_go (S := (40, M, (some (.ref a) :: l), (.ref a :: st))) rfl rfl rfl
theorem s189_40 : ji_Ev C 189 40 M lv (.ref a :: st) o ↔ ji_kd M a = some (0, 9) ∧ ji_Ev C 189 43 M lv (ji_rv (ji_gR M a 12) :: st) o := ev_getR (k := 189) rfl fd_9_48 rfl
theorem s189_43 : ji_Ev C 189 43 M (l0 :: l1 :: l2 :: l3 :: some (.int x) :: l) st o ↔ ji_Ev C 189 45 M (l0 :: l1 :: l2 :: l3 :: some (.int x) :: l) (.int x :: st) o := ev_go (S := (45, M, (l0 :: l1 :: l2 :: l3 :: some (.int x) :: l), (.int x :: st))) rfl rfl rfl
theorem s189_45 : ji_Ev C 189 45 M lv (.int x :: .ref a :: st) o ↔ ji_evA (ji_kd M a) (fun n => vp_in x n ∧ ji_Ev C 189 46 M lv (.int (ji_gI M a x.toNatClampNeg) :: st) o) := ev_iald rfl
theorem s189_46 : ji_Ev C 189 46 M lv (p0 :: .ref a :: st) o ↔ (ji_rcb M 9 (.ref a) = true ∧ ji_ok8 st) ∧ ji_evC (C 190 [.ref a, p0] M) (fun v M' => ji_Ev C 189 49 M' lv (v.toList ++ st) o) := ev_inv (k := 189) rfl cd_9_283 rfl
theorem s189_49 : ji_Ev C 189 49 M lv (.int x :: st) o ↔ if x = 0 then ji_Ev C 189 68 M lv st o else ji_Ev C 189 52 M lv st o := ev_brz (c := .eq) rfl (by decide) rfl
theorem s189_52 : ji_Ev C 189 52 M (l0 :: l1 :: l2 :: some (.int x) :: l) st o ↔ ji_Ev C 189 53 M (l0 :: l1 :: l2 :: some (.int x) :: l) (.int x :: st) o := ev_go (S := (53, M, (l0 :: l1 :: l2 :: some (.int x) :: l), (.int x :: st))) rfl rfl rfl
theorem s189_53 : ji_Ev C 189 53 M (some (.ref a) :: l) st o ↔ ji_Ev C 189 54 M (some (.ref a) :: l) (.ref a :: st) o := ev_go (S := (54, M, (some (.ref a) :: l), (.ref a :: st))) rfl rfl rfl
theorem s189_54 : ji_Ev C 189 54 M (l0 :: l1 :: l2 :: l3 :: some (.int x) :: l) st o ↔ ji_Ev C 189 56 M (l0 :: l1 :: l2 :: l3 :: some (.int x) :: l) (.int x :: st) o := ev_go (S := (56, M, (l0 :: l1 :: l2 :: l3 :: some (.int x) :: l), (.int x :: st))) rfl rfl rfl
theorem s189_56 : ji_Ev C 189 56 M (some (.ref a) :: l) st o ↔ ji_Ev C 189 57 M (some (.ref a) :: l) (.ref a :: st) o := ev_go (S := (57, M, (some (.ref a) :: l), (.ref a :: st))) rfl rfl rfl
theorem s189_57 : ji_Ev C 189 57 M lv (.ref a :: st) o ↔ ji_kd M a = some (0, 9) ∧ ji_Ev C 189 60 M lv (ji_rv (ji_gR M a 12) :: st) o := ev_getR (k := 189) rfl fd_9_48 rfl
theorem s189_60 : ji_Ev C 189 60 M (l0 :: l1 :: l2 :: l3 :: some (.int x) :: l) st o ↔ ji_Ev C 189 62 M (l0 :: l1 :: l2 :: l3 :: some (.int x) :: l) (.int x :: st) o := ev_go (S := (62, M, (l0 :: l1 :: l2 :: l3 :: some (.int x) :: l), (.int x :: st))) rfl rfl rfl
theorem s189_62 : ji_Ev C 189 62 M lv (.int x :: .ref a :: st) o ↔ ji_evA (ji_kd M a) (fun n => vp_in x n ∧ ji_Ev C 189 63 M lv (.int (ji_gI M a x.toNatClampNeg) :: st) o) := ev_iald rfl
theorem s189_63 : ji_Ev C 189 63 M lv (p1 :: p0 :: .ref a :: st) o ↔ (ji_rcb M 9 (.ref a) = true ∧ ji_ok8 st) ∧ ji_evC (C 167 [.ref a, p0, p1] M) (fun v M' => ji_Ev C 189 66 M' lv (v.toList ++ st) o) := ev_inv (k := 189) rfl cd_9_279 rfl
theorem s189_66 : ji_Ev C 189 66 M lv (.int y :: .int x :: st) o ↔ ji_Ev C 189 67 M lv (.int (x + y) :: st) o := ev_go (S := (67, M, lv, (.int (x + y) :: st))) rfl rfl rfl
theorem s189_67 : ji_Ev C 189 67 M lv (.int x :: st) o ↔ 3 < lv.length ∧ ji_Ev C 189 68 M (ji_s1 lv 3 (.int x)) st o := ev_stI rfl rfl rfl
theorem s189_68 : ji_Ev C 189 68 M lv st o ↔ ji_evL (lv.getD 4 none) ji_isI (fun v => match v with | .int x => 4 < lv.length ∧ ji_Ev C 189 71 M (ji_s1 lv 4 (.int (x + Int32.ofInt 1))) st o | _ => False) := ev_iinc rfl
theorem s189_71 : ji_Ev C 189 71 M lv st o ↔ ji_Ev C 189 5 M lv st o := ev_gt rfl (by decide) rfl
theorem s189_74 : ji_Ev C 189 74 M (l0 :: l1 :: l2 :: some (.int x) :: l) st o ↔ ji_Ev C 189 75 M (l0 :: l1 :: l2 :: some (.int x) :: l) (.int x :: st) o := ev_go (S := (75, M, (l0 :: l1 :: l2 :: some (.int x) :: l), (.int x :: st))) rfl rfl rfl
theorem s189_75 : ji_Ev C 189 75 M lv [.int x] o ↔ o = (some (.int x), M) := ev_ireti rfl rfl
theorem s190_0 : ji_Ev C 190 0 M (l0 :: some (.int x) :: l) st o ↔ ji_Ev C 190 1 M (l0 :: some (.int x) :: l) (.int x :: st) o := ev_go (S := (1, M, (l0 :: some (.int x) :: l), (.int x :: st))) rfl rfl rfl
theorem s190_1 : ji_Ev C 190 1 M lv st o ↔ ji_Ev C 190 2 M lv (.int 3 :: st) o := ev_go (S := (2, M, lv, (.int 3 :: st))) rfl rfl rfl
theorem s190_2 : ji_Ev C 190 2 M lv (.int y :: .int x :: st) o ↔ if x = y then ji_Ev C 190 10 M lv st o else ji_Ev C 190 5 M lv st o := ev_brc (c := .eq) rfl (by decide) rfl
theorem s190_5 : ji_Ev C 190 5 M (l0 :: some (.int x) :: l) st o ↔ ji_Ev C 190 6 M (l0 :: some (.int x) :: l) (.int x :: st) o := ev_go (S := (6, M, (l0 :: some (.int x) :: l), (.int x :: st))) rfl rfl rfl
theorem s190_6 : ji_Ev C 190 6 M lv st o ↔ ji_Ev C 190 7 M lv (.int 5 :: st) o := ev_go (S := (7, M, lv, (.int 5 :: st))) rfl rfl rfl
theorem s190_7 : ji_Ev C 190 7 M lv (.int y :: .int x :: st) o ↔ if x = y then ji_Ev C 190 10 M lv st o else ji_Ev C 190 14 M lv st o := ev_brc (c := .ne) rfl (by decide) rfl
theorem s190_10 : ji_Ev C 190 10 M lv st o ↔ ji_Ev C 190 11 M lv (.int 1 :: st) o := ev_go (S := (11, M, lv, (.int 1 :: st))) rfl rfl rfl
theorem s190_11 : ji_Ev C 190 11 M lv st o ↔ ji_Ev C 190 15 M lv st o := ev_gt rfl (by decide) rfl
theorem s190_14 : ji_Ev C 190 14 M lv st o ↔ ji_Ev C 190 15 M lv (.int 0 :: st) o := ev_go (S := (15, M, lv, (.int 0 :: st))) rfl rfl rfl
theorem s190_15 : ji_Ev C 190 15 M lv [.int x] o ↔ narrow .boolean (.int x) = .int x ∧ o = (some (.int x), M) := ev_iretb rfl rfl
theorem s191_0 : ji_Ev C 191 0 M (some (.ref a) :: l) st o ↔ ji_Ev C 191 1 M (some (.ref a) :: l) (.ref a :: st) o := ev_go (S := (1, M, (some (.ref a) :: l), (.ref a :: st))) rfl rfl rfl
theorem s191_1 : ji_Ev C 191 1 M (l0 :: some (.int x) :: l) st o ↔ ji_Ev C 191 2 M (l0 :: some (.int x) :: l) (.int x :: st) o := ev_go (S := (2, M, (l0 :: some (.int x) :: l), (.int x :: st))) rfl rfl rfl
theorem s191_2 : ji_Ev C 191 2 M lv (p0 :: .ref a :: st) o ↔ (ji_rcb M 9 (.ref a) = true ∧ ji_ok8 st) ∧ ji_evC (C 166 [.ref a, p0] M) (fun v M' => ji_Ev C 191 5 M' lv (v.toList ++ st) o) := ev_inv (k := 191) rfl cd_9_275 rfl
theorem s191_5 : ji_Ev C 191 5 M lv (.int x :: st) o ↔ if x = 0 then ji_Ev C 191 8 M lv st o else ji_Ev C 191 11 M lv st o := ev_brz (c := .ne) rfl (by decide) rfl
theorem s191_8 : ji_Ev C 191 8 M lv st o ↔ ji_Ev C 191 10 M lv (.int (-2) :: st) o := ev_go (S := (10, M, lv, (.int (-2) :: st))) rfl rfl rfl
theorem s191_10 : ji_Ev C 191 10 M lv [.int x] o ↔ o = (some (.int x), M) := ev_ireti rfl rfl
theorem s191_11 : ji_Ev C 191 11 M (some (.ref a) :: l) st o ↔ ji_Ev C 191 12 M (some (.ref a) :: l) (.ref a :: st) o := ev_go (S := (12, M, (some (.ref a) :: l), (.ref a :: st))) rfl rfl rfl
theorem s191_12 : ji_Ev C 191 12 M lv (.ref a :: st) o ↔ ji_kd M a = some (0, 9) ∧ ji_Ev C 191 15 M lv (ji_rv (ji_gR M a 10) :: st) o := ev_getR (k := 191) rfl fd_9_42 rfl
theorem s191_15 : ji_Ev C 191 15 M (l0 :: some (.int x) :: l) st o ↔ ji_Ev C 191 16 M (l0 :: some (.int x) :: l) (.int x :: st) o := ev_go (S := (16, M, (l0 :: some (.int x) :: l), (.int x :: st))) rfl rfl rfl
theorem s191_16 : ji_Ev C 191 16 M lv (.int x :: .ref a :: st) o ↔ ji_evA (ji_kd M a) (fun n => vp_in x n ∧ ji_Ev C 191 17 M lv (.int (ji_gI M a x.toNatClampNeg) :: st) o) := ev_iald rfl
theorem s191_17 : ji_Ev C 191 17 M lv st o ↔ ji_Ev C 191 19 M lv (.int 100 :: st) o := ev_go (S := (19, M, lv, (.int 100 :: st))) rfl rfl rfl
theorem s191_19 : ji_Ev C 191 19 M lv (.int y :: .int x :: st) o ↔ if x < y then ji_Ev C 191 24 M lv st o else ji_Ev C 191 22 M lv st o := ev_brc (c := .lt) rfl (by decide) rfl
theorem s191_22 : ji_Ev C 191 22 M lv st o ↔ ji_Ev C 191 23 M lv (.int 0 :: st) o := ev_go (S := (23, M, lv, (.int 0 :: st))) rfl rfl rfl
theorem s191_23 : ji_Ev C 191 23 M lv [.int x] o ↔ o = (some (.int x), M) := ev_ireti rfl rfl
theorem s191_24 : ji_Ev C 191 24 M (some (.ref a) :: l) st o ↔ ji_Ev C 191 25 M (some (.ref a) :: l) (.ref a :: st) o := ev_go (S := (25, M, (some (.ref a) :: l), (.ref a :: st))) rfl rfl rfl
theorem s191_25 : ji_Ev C 191 25 M (some (.ref a) :: l) st o ↔ ji_Ev C 191 26 M (some (.ref a) :: l) (.ref a :: st) o := ev_go (S := (26, M, (some (.ref a) :: l), (.ref a :: st))) rfl rfl rfl
theorem s191_26 : ji_Ev C 191 26 M lv (.ref a :: st) o ↔ ji_kd M a = some (0, 9) ∧ ji_Ev C 191 29 M lv (ji_rv (ji_gR M a 12) :: st) o := ev_getR (k := 191) rfl fd_9_48 rfl
theorem s191_29 : ji_Ev C 191 29 M (l0 :: some (.int x) :: l) st o ↔ ji_Ev C 191 30 M (l0 :: some (.int x) :: l) (.int x :: st) o := ev_go (S := (30, M, (l0 :: some (.int x) :: l), (.int x :: st))) rfl rfl rfl
theorem s191_30 : ji_Ev C 191 30 M lv (.int x :: .ref a :: st) o ↔ ji_evA (ji_kd M a) (fun n => vp_in x n ∧ ji_Ev C 191 31 M lv (.int (ji_gI M a x.toNatClampNeg) :: st) o) := ev_iald rfl
theorem s191_31 : ji_Ev C 191 31 M lv (p0 :: .ref a :: st) o ↔ (ji_rcb M 9 (.ref a) = true ∧ ji_ok8 st) ∧ ji_evC (C 162 [.ref a, p0] M) (fun v M' => ji_Ev C 191 34 M' lv (v.toList ++ st) o) := ev_inv (k := 191) rfl cd_9_266 rfl
theorem s191_34 : ji_Ev C 191 34 M lv (.int x :: st) o ↔ 2 < lv.length ∧ ji_Ev C 191 35 M (ji_s1 lv 2 (.int x)) st o := ev_stI rfl rfl rfl
theorem s191_35 : ji_Ev C 191 35 M (l0 :: l1 :: some (.int x) :: l) st o ↔ ji_Ev C 191 36 M (l0 :: l1 :: some (.int x) :: l) (.int x :: st) o := ev_go (S := (36, M, (l0 :: l1 :: some (.int x) :: l), (.int x :: st))) rfl rfl rfl
theorem s191_36 : ji_Ev C 191 36 M lv (.int x :: st) o ↔ if x = 0 then ji_Ev C 191 39 M lv st o else ji_Ev C 191 43 M lv st o := ev_brz (c := .ne) rfl (by decide) rfl
theorem s191_39 : ji_Ev C 191 39 M lv st o ↔ ji_Ev C 191 40 M lv (.int (-1) :: st) o := ev_go (S := (40, M, lv, (.int (-1) :: st))) rfl rfl rfl
theorem s191_40 : ji_Ev C 191 40 M lv st o ↔ ji_Ev C 191 58 M lv st o := ev_gt rfl (by decide) rfl
theorem s191_43 : ji_Ev C 191 43 M lv st o ↔ ji_Ev C 191 45 M lv (.int 100 :: st) o := ev_go (S := (45, M, lv, (.int 100 :: st))) rfl rfl rfl
theorem s191_45 : ji_Ev C 191 45 M (some (.ref a) :: l) st o ↔ ji_Ev C 191 46 M (some (.ref a) :: l) (.ref a :: st) o := ev_go (S := (46, M, (some (.ref a) :: l), (.ref a :: st))) rfl rfl rfl
theorem s191_46 : ji_Ev C 191 46 M lv (.ref a :: st) o ↔ ji_kd M a = some (0, 9) ∧ ji_Ev C 191 49 M lv (ji_rv (ji_gR M a 10) :: st) o := ev_getR (k := 191) rfl fd_9_42 rfl
theorem s191_49 : ji_Ev C 191 49 M (l0 :: some (.int x) :: l) st o ↔ ji_Ev C 191 50 M (l0 :: some (.int x) :: l) (.int x :: st) o := ev_go (S := (50, M, (l0 :: some (.int x) :: l), (.int x :: st))) rfl rfl rfl
theorem s191_50 : ji_Ev C 191 50 M lv (.int x :: .ref a :: st) o ↔ ji_evA (ji_kd M a) (fun n => vp_in x n ∧ ji_Ev C 191 51 M lv (.int (ji_gI M a x.toNatClampNeg) :: st) o) := ev_iald rfl
theorem s191_51 : ji_Ev C 191 51 M lv (.int y :: .int x :: st) o ↔ ji_Ev C 191 52 M lv (.int (x - y) :: st) o := ev_go (S := (52, M, lv, (.int (x - y) :: st))) rfl rfl rfl
theorem s191_52 : ji_Ev C 191 52 M (l0 :: l1 :: some (.int x) :: l) st o ↔ ji_Ev C 191 53 M (l0 :: l1 :: some (.int x) :: l) (.int x :: st) o := ev_go (S := (53, M, (l0 :: l1 :: some (.int x) :: l), (.int x :: st))) rfl rfl rfl
theorem s191_53 : ji_Ev C 191 53 M lv (.int y :: .int x :: st) o ↔ ji_Ev C 191 54 M lv (.int (x + y) :: st) o := ev_go (S := (54, M, lv, (.int (x + y) :: st))) rfl rfl rfl
theorem s191_54 : ji_Ev C 191 54 M lv st o ↔ ji_Ev C 191 55 M lv (.int 1 :: st) o := ev_go (S := (55, M, lv, (.int 1 :: st))) rfl rfl rfl
theorem s191_55 : ji_Ev C 191 55 M lv (.int y :: .int x :: st) o ↔ ji_Ev C 191 56 M lv (.int (x - y) :: st) o := ev_go (S := (56, M, lv, (.int (x - y) :: st))) rfl rfl rfl
theorem s191_56 : ji_Ev C 191 56 M (l0 :: l1 :: some (.int x) :: l) st o ↔ ji_Ev C 191 57 M (l0 :: l1 :: some (.int x) :: l) (.int x :: st) o := ev_go (S := (57, M, (l0 :: l1 :: some (.int x) :: l), (.int x :: st))) rfl rfl rfl
theorem s191_57 : ji_Ev C 191 57 M lv (.int y :: .int x :: st) o ↔ ¬ y = 0 ∧ ji_Ev C 191 58 M lv (.int (x / y) :: st) o := ev_dvI rfl
theorem s191_58 : ji_Ev C 191 58 M lv [.int x] o ↔ o = (some (.int x), M) := ev_ireti rfl rfl
theorem s192_0 : ji_Ev C 192 0 M (l0 :: some (.int x) :: l) st o ↔ ji_Ev C 192 1 M (l0 :: some (.int x) :: l) (.int x :: st) o := ev_go (S := (1, M, (l0 :: some (.int x) :: l), (.int x :: st))) rfl rfl rfl
theorem s192_1 : ji_Ev C 192 1 M lv (.int x :: st) o ↔ if x < 0 then ji_Ev C 192 4 M lv st o else ji_Ev C 192 6 M lv st o := ev_brz (c := .ge) rfl (by decide) rfl
theorem s192_4 : ji_Ev C 192 4 M lv st o ↔ ji_Ev C 192 5 M lv (.int (-1) :: st) o := ev_go (S := (5, M, lv, (.int (-1) :: st))) rfl rfl rfl
theorem s192_5 : ji_Ev C 192 5 M lv [.int x] o ↔ o = (some (.int x), M) := ev_ireti rfl rfl
theorem s192_6 : ji_Ev C 192 6 M lv st o ↔ ji_Ev C 192 7 M lv (.int 0 :: st) o := ev_go (S := (7, M, lv, (.int 0 :: st))) rfl rfl rfl
theorem s192_7 : ji_Ev C 192 7 M lv (.int x :: st) o ↔ 2 < lv.length ∧ ji_Ev C 192 8 M (ji_s1 lv 2 (.int x)) st o := ev_stI rfl rfl rfl
theorem s192_8 : ji_Ev C 192 8 M (l0 :: l1 :: some (.int x) :: l) st o ↔ ji_Ev C 192 9 M (l0 :: l1 :: some (.int x) :: l) (.int x :: st) o := ev_go (S := (9, M, (l0 :: l1 :: some (.int x) :: l), (.int x :: st))) rfl rfl rfl
theorem s192_9 : ji_Ev C 192 9 M (some (.ref a) :: l) st o ↔ ji_Ev C 192 10 M (some (.ref a) :: l) (.ref a :: st) o := ev_go (S := (10, M, (some (.ref a) :: l), (.ref a :: st))) rfl rfl rfl
theorem s192_10 : ji_Ev C 192 10 M lv (.ref a :: st) o ↔ ji_kd M a = some (0, 9) ∧ ji_Ev C 192 13 M lv (.int (ji_gI M a 4) :: st) o := ev_getI (k := 192) rfl fd_9_22 rfl
theorem s192_13 : ji_Ev C 192 13 M lv (.int y :: .int x :: st) o ↔ if x < y then ji_Ev C 192 16 M lv st o else ji_Ev C 192 38 M lv st o := ev_brc (c := .ge) rfl (by decide) rfl
theorem s192_16 : ji_Ev C 192 16 M (some (.ref a) :: l) st o ↔ ji_Ev C 192 17 M (some (.ref a) :: l) (.ref a :: st) o := ev_go (S := (17, M, (some (.ref a) :: l), (.ref a :: st))) rfl rfl rfl
theorem s192_17 : ji_Ev C 192 17 M lv (.ref a :: st) o ↔ ji_kd M a = some (0, 9) ∧ ji_Ev C 192 20 M lv (ji_rv (ji_gR M a 14) :: st) o := ev_getR (k := 192) rfl fd_9_54 rfl
theorem s192_20 : ji_Ev C 192 20 M (l0 :: l1 :: some (.int x) :: l) st o ↔ ji_Ev C 192 21 M (l0 :: l1 :: some (.int x) :: l) (.int x :: st) o := ev_go (S := (21, M, (l0 :: l1 :: some (.int x) :: l), (.int x :: st))) rfl rfl rfl
theorem s192_21 : ji_Ev C 192 21 M (some (.ref a) :: l) st o ↔ ji_Ev C 192 22 M (some (.ref a) :: l) (.ref a :: st) o := ev_go (S := (22, M, (some (.ref a) :: l), (.ref a :: st))) rfl rfl rfl
theorem s192_22 : ji_Ev C 192 22 M (some (.ref a) :: l) st o ↔ ji_Ev C 192 23 M (some (.ref a) :: l) (.ref a :: st) o := ev_go (S := (23, M, (some (.ref a) :: l), (.ref a :: st))) rfl rfl rfl
theorem s192_23 : ji_Ev C 192 23 M lv (.ref a :: st) o ↔ ji_kd M a = some (0, 9) ∧ ji_Ev C 192 26 M lv (.int (ji_gI M a 16) :: st) o := ev_getI (k := 192) rfl fd_9_60 rfl
theorem s192_26 : ji_Ev C 192 26 M (l0 :: l1 :: some (.int x) :: l) st o ↔ ji_Ev C 192 27 M (l0 :: l1 :: some (.int x) :: l) (.int x :: st) o := ev_go (S := (27, M, (l0 :: l1 :: some (.int x) :: l), (.int x :: st))) rfl rfl rfl
theorem s192_27 : ji_Ev C 192 27 M lv st o ↔ ji_Ev C 192 28 M lv (.int 0 :: st) o := ev_go (S := (28, M, lv, (.int 0 :: st))) rfl rfl rfl
theorem s192_28 : ji_Ev C 192 28 M lv (p2 :: p1 :: p0 :: .ref a :: st) o ↔ (ji_rcb M 9 (.ref a) = true ∧ ji_ok8 st) ∧ ji_evC (C 171 [.ref a, p0, p1, p2] M) (fun v M' => ji_Ev C 192 31 M' lv (v.toList ++ st) o) := ev_inv (k := 192) rfl cd_9_290 rfl
theorem s192_31 : ji_Ev C 192 31 M lv (.int y :: .int x :: .ref a :: st) o ↔ ji_evA (ji_kd M a) (fun n => vp_in x n ∧ ji_Ev C 192 32 (ji_sI M a x.toNatClampNeg y) lv st o) := ev_iast rfl
theorem s192_32 : ji_Ev C 192 32 M lv st o ↔ ji_evL (lv.getD 2 none) ji_isI (fun v => match v with | .int x => 2 < lv.length ∧ ji_Ev C 192 35 M (ji_s1 lv 2 (.int (x + Int32.ofInt 1))) st o | _ => False) := ev_iinc rfl
theorem s192_35 : ji_Ev C 192 35 M lv st o ↔ ji_Ev C 192 8 M lv st o := ev_gt rfl (by decide) rfl
theorem s192_38 : ji_Ev C 192 38 M lv st o ↔ ji_Ev C 192 39 M lv (.int 0 :: st) o := ev_go (S := (39, M, lv, (.int 0 :: st))) rfl rfl rfl
theorem s192_39 : ji_Ev C 192 39 M lv (.int x :: st) o ↔ 2 < lv.length ∧ ji_Ev C 192 40 M (ji_s1 lv 2 (.int x)) st o := ev_stI rfl rfl rfl
theorem s192_40 : ji_Ev C 192 40 M (l0 :: l1 :: some (.int x) :: l) st o ↔ ji_Ev C 192 41 M (l0 :: l1 :: some (.int x) :: l) (.int x :: st) o := ev_go (S := (41, M, (l0 :: l1 :: some (.int x) :: l), (.int x :: st))) rfl rfl rfl
theorem s192_41 : ji_Ev C 192 41 M (some (.ref a) :: l) st o ↔ ji_Ev C 192 42 M (some (.ref a) :: l) (.ref a :: st) o := ev_go (S := (42, M, (some (.ref a) :: l), (.ref a :: st))) rfl rfl rfl
theorem s192_42 : ji_Ev C 192 42 M lv (.ref a :: st) o ↔ ji_kd M a = some (0, 9) ∧ ji_Ev C 192 45 M lv (.int (ji_gI M a 4) :: st) o := ev_getI (k := 192) rfl fd_9_22 rfl
theorem s192_45 : ji_Ev C 192 45 M lv (.int y :: .int x :: st) o ↔ if x < y then ji_Ev C 192 48 M lv st o else ji_Ev C 192 149 M lv st o := ev_brc (c := .ge) rfl (by decide) rfl
theorem s192_48 : ji_Ev C 192 48 M (some (.ref a) :: l) st o ↔ ji_Ev C 192 49 M (some (.ref a) :: l) (.ref a :: st) o := ev_go (S := (49, M, (some (.ref a) :: l), (.ref a :: st))) rfl rfl rfl
theorem s192_49 : ji_Ev C 192 49 M lv (.ref a :: st) o ↔ ji_kd M a = some (0, 9) ∧ ji_Ev C 192 52 M lv (ji_rv (ji_gR M a 12) :: st) o := ev_getR (k := 192) rfl fd_9_48 rfl
theorem s192_52 : ji_Ev C 192 52 M (l0 :: l1 :: some (.int x) :: l) st o ↔ ji_Ev C 192 53 M (l0 :: l1 :: some (.int x) :: l) (.int x :: st) o := ev_go (S := (53, M, (l0 :: l1 :: some (.int x) :: l), (.int x :: st))) rfl rfl rfl
theorem s192_53 : ji_Ev C 192 53 M lv (.int x :: .ref a :: st) o ↔ ji_evA (ji_kd M a) (fun n => vp_in x n ∧ ji_Ev C 192 54 M lv (.int (ji_gI M a x.toNatClampNeg) :: st) o) := ev_iald rfl
theorem s192_54 : ji_Ev C 192 54 M lv (.int x :: st) o ↔ if x = 0 then ji_Ev C 192 57 M lv st o else ji_Ev C 192 60 M lv st o := ev_brz (c := .ne) rfl (by decide) rfl
theorem s192_57 : ji_Ev C 192 57 M lv st o ↔ ji_Ev C 192 143 M lv st o := ev_gt rfl (by decide) rfl
theorem s192_60 : ji_Ev C 192 60 M lv st o ↔ ji_Ev C 192 61 M lv (.int 0 :: st) o := ev_go (S := (61, M, lv, (.int 0 :: st))) rfl rfl rfl
theorem s192_61 : ji_Ev C 192 61 M lv (.int x :: st) o ↔ 3 < lv.length ∧ ji_Ev C 192 62 M (ji_s1 lv 3 (.int x)) st o := ev_stI rfl rfl rfl
theorem s192_62 : ji_Ev C 192 62 M lv st o ↔ ji_Ev C 192 63 M lv (.int 0 :: st) o := ev_go (S := (63, M, lv, (.int 0 :: st))) rfl rfl rfl
theorem s192_63 : ji_Ev C 192 63 M lv (.int x :: st) o ↔ 4 < lv.length ∧ ji_Ev C 192 65 M (ji_s1 lv 4 (.int x)) st o := ev_stI rfl rfl rfl
theorem s192_65 : ji_Ev C 192 65 M (l0 :: l1 :: l2 :: l3 :: some (.int x) :: l) st o ↔ ji_Ev C 192 67 M (l0 :: l1 :: l2 :: l3 :: some (.int x) :: l) (.int x :: st) o := ev_go (S := (67, M, (l0 :: l1 :: l2 :: l3 :: some (.int x) :: l), (.int x :: st))) rfl rfl rfl
theorem s192_67 : ji_Ev C 192 67 M (some (.ref a) :: l) st o ↔ ji_Ev C 192 68 M (some (.ref a) :: l) (.ref a :: st) o := ev_go (S := (68, M, (some (.ref a) :: l), (.ref a :: st))) rfl rfl rfl
theorem s192_68 : ji_Ev C 192 68 M lv (.ref a :: st) o ↔ ji_kd M a = some (0, 9) ∧ ji_Ev C 192 71 M lv (.int (ji_gI M a 4) :: st) o := ev_getI (k := 192) rfl fd_9_22 rfl
theorem s192_71 : ji_Ev C 192 71 M lv (.int y :: .int x :: st) o ↔ if x < y then ji_Ev C 192 74 M lv st o else ji_Ev C 192 136 M lv st o := ev_brc (c := .ge) rfl (by decide) rfl
theorem s192_74 : ji_Ev C 192 74 M (l0 :: l1 :: l2 :: some (.int x) :: l) st o ↔ ji_Ev C 192 75 M (l0 :: l1 :: l2 :: some (.int x) :: l) (.int x :: st) o := ev_go (S := (75, M, (l0 :: l1 :: l2 :: some (.int x) :: l), (.int x :: st))) rfl rfl rfl
theorem s192_75 : ji_Ev C 192 75 M (some (.ref a) :: l) st o ↔ ji_Ev C 192 76 M (some (.ref a) :: l) (.ref a :: st) o := ev_go (S := (76, M, (some (.ref a) :: l), (.ref a :: st))) rfl rfl rfl
theorem s192_76 : ji_Ev C 192 76 M lv (.ref a :: st) o ↔ ji_kd M a = some (0, 9) ∧ ji_Ev C 192 79 M lv (ji_rv (ji_gR M a 12) :: st) o := ev_getR (k := 192) rfl fd_9_48 rfl
theorem s192_79 : ji_Ev C 192 79 M (l0 :: l1 :: l2 :: l3 :: some (.int x) :: l) st o ↔ ji_Ev C 192 81 M (l0 :: l1 :: l2 :: l3 :: some (.int x) :: l) (.int x :: st) o := ev_go (S := (81, M, (l0 :: l1 :: l2 :: l3 :: some (.int x) :: l), (.int x :: st))) rfl rfl rfl
theorem s192_81 : ji_Ev C 192 81 M lv (.int x :: .ref a :: st) o ↔ ji_evA (ji_kd M a) (fun n => vp_in x n ∧ ji_Ev C 192 82 M lv (.int (ji_gI M a x.toNatClampNeg) :: st) o) := ev_iald rfl
theorem s192_82 : ji_Ev C 192 82 M lv (.int x :: st) o ↔ if x = 0 then ji_Ev C 192 127 M lv st o else ji_Ev C 192 85 M lv st o := ev_brz (c := .eq) rfl (by decide) rfl
theorem s192_85 : ji_Ev C 192 85 M (some (.ref a) :: l) st o ↔ ji_Ev C 192 86 M (some (.ref a) :: l) (.ref a :: st) o := ev_go (S := (86, M, (some (.ref a) :: l), (.ref a :: st))) rfl rfl rfl
theorem s192_86 : ji_Ev C 192 86 M lv (.ref a :: st) o ↔ ji_kd M a = some (0, 9) ∧ ji_Ev C 192 89 M lv (ji_rv (ji_gR M a 14) :: st) o := ev_getR (k := 192) rfl fd_9_54 rfl
theorem s192_89 : ji_Ev C 192 89 M (l0 :: l1 :: l2 :: l3 :: some (.int x) :: l) st o ↔ ji_Ev C 192 91 M (l0 :: l1 :: l2 :: l3 :: some (.int x) :: l) (.int x :: st) o := ev_go (S := (91, M, (l0 :: l1 :: l2 :: l3 :: some (.int x) :: l), (.int x :: st))) rfl rfl rfl
theorem s192_91 : ji_Ev C 192 91 M lv (.int x :: .ref a :: st) o ↔ ji_evA (ji_kd M a) (fun n => vp_in x n ∧ ji_Ev C 192 92 M lv (.int (ji_gI M a x.toNatClampNeg) :: st) o) := ev_iald rfl
theorem s192_92 : ji_Ev C 192 92 M (some (.ref a) :: l) st o ↔ ji_Ev C 192 93 M (some (.ref a) :: l) (.ref a :: st) o := ev_go (S := (93, M, (some (.ref a) :: l), (.ref a :: st))) rfl rfl rfl
theorem s192_93 : ji_Ev C 192 93 M lv (.ref a :: st) o ↔ ji_kd M a = some (0, 9) ∧ ji_Ev C 192 96 M lv (ji_rv (ji_gR M a 14) :: st) o := ev_getR (k := 192) rfl fd_9_54 rfl
theorem s192_96 : ji_Ev C 192 96 M (l0 :: l1 :: some (.int x) :: l) st o ↔ ji_Ev C 192 97 M (l0 :: l1 :: some (.int x) :: l) (.int x :: st) o := ev_go (S := (97, M, (l0 :: l1 :: some (.int x) :: l), (.int x :: st))) rfl rfl rfl
theorem s192_97 : ji_Ev C 192 97 M lv (.int x :: .ref a :: st) o ↔ ji_evA (ji_kd M a) (fun n => vp_in x n ∧ ji_Ev C 192 98 M lv (.int (ji_gI M a x.toNatClampNeg) :: st) o) := ev_iald rfl
theorem s192_98 : ji_Ev C 192 98 M lv (.int y :: .int x :: st) o ↔ if y < x then ji_Ev C 192 123 M lv st o else ji_Ev C 192 101 M lv st o := ev_brc (c := .gt) rfl (by decide) rfl
theorem s192_101 : ji_Ev C 192 101 M (some (.ref a) :: l) st o ↔ ji_Ev C 192 102 M (some (.ref a) :: l) (.ref a :: st) o := ev_go (S := (102, M, (some (.ref a) :: l), (.ref a :: st))) rfl rfl rfl
theorem s192_102 : ji_Ev C 192 102 M lv (.ref a :: st) o ↔ ji_kd M a = some (0, 9) ∧ ji_Ev C 192 105 M lv (ji_rv (ji_gR M a 14) :: st) o := ev_getR (k := 192) rfl fd_9_54 rfl
theorem s192_105 : ji_Ev C 192 105 M (l0 :: l1 :: l2 :: l3 :: some (.int x) :: l) st o ↔ ji_Ev C 192 107 M (l0 :: l1 :: l2 :: l3 :: some (.int x) :: l) (.int x :: st) o := ev_go (S := (107, M, (l0 :: l1 :: l2 :: l3 :: some (.int x) :: l), (.int x :: st))) rfl rfl rfl
theorem s192_107 : ji_Ev C 192 107 M lv (.int x :: .ref a :: st) o ↔ ji_evA (ji_kd M a) (fun n => vp_in x n ∧ ji_Ev C 192 108 M lv (.int (ji_gI M a x.toNatClampNeg) :: st) o) := ev_iald rfl
theorem s192_108 : ji_Ev C 192 108 M (some (.ref a) :: l) st o ↔ ji_Ev C 192 109 M (some (.ref a) :: l) (.ref a :: st) o := ev_go (S := (109, M, (some (.ref a) :: l), (.ref a :: st))) rfl rfl rfl
theorem s192_109 : ji_Ev C 192 109 M lv (.ref a :: st) o ↔ ji_kd M a = some (0, 9) ∧ ji_Ev C 192 112 M lv (ji_rv (ji_gR M a 14) :: st) o := ev_getR (k := 192) rfl fd_9_54 rfl
theorem s192_112 : ji_Ev C 192 112 M (l0 :: l1 :: some (.int x) :: l) st o ↔ ji_Ev C 192 113 M (l0 :: l1 :: some (.int x) :: l) (.int x :: st) o := ev_go (S := (113, M, (l0 :: l1 :: some (.int x) :: l), (.int x :: st))) rfl rfl rfl
theorem s192_113 : ji_Ev C 192 113 M lv (.int x :: .ref a :: st) o ↔ ji_evA (ji_kd M a) (fun n => vp_in x n ∧ ji_Ev C 192 114 M lv (.int (ji_gI M a x.toNatClampNeg) :: st) o) := ev_iald rfl
theorem s192_114 : ji_Ev C 192 114 M lv (.int y :: .int x :: st) o ↔ if x = y then ji_Ev C 192 117 M lv st o else ji_Ev C 192 127 M lv st o := ev_brc (c := .ne) rfl (by decide) rfl
theorem s192_117 : ji_Ev C 192 117 M (l0 :: l1 :: l2 :: l3 :: some (.int x) :: l) st o ↔ ji_Ev C 192 119 M (l0 :: l1 :: l2 :: l3 :: some (.int x) :: l) (.int x :: st) o := ev_go (S := (119, M, (l0 :: l1 :: l2 :: l3 :: some (.int x) :: l), (.int x :: st))) rfl rfl rfl
theorem s192_119 : ji_Ev C 192 119 M (l0 :: l1 :: some (.int x) :: l) st o ↔ ji_Ev C 192 120 M (l0 :: l1 :: some (.int x) :: l) (.int x :: st) o := ev_go (S := (120, M, (l0 :: l1 :: some (.int x) :: l), (.int x :: st))) rfl rfl rfl
theorem s192_120 : ji_Ev C 192 120 M lv (.int y :: .int x :: st) o ↔ if x < y then ji_Ev C 192 123 M lv st o else ji_Ev C 192 127 M lv st o := ev_brc (c := .ge) rfl (by decide) rfl
theorem s192_123 : ji_Ev C 192 123 M lv st o ↔ ji_Ev C 192 124 M lv (.int 1 :: st) o := ev_go (S := (124, M, lv, (.int 1 :: st))) rfl rfl rfl
theorem s192_124 : ji_Ev C 192 124 M lv st o ↔ ji_Ev C 192 128 M lv st o := ev_gt rfl (by decide) rfl
theorem s192_127 : ji_Ev C 192 127 M lv st o ↔ ji_Ev C 192 128 M lv (.int 0 :: st) o := ev_go (S := (128, M, lv, (.int 0 :: st))) rfl rfl rfl
theorem s192_128 : ji_Ev C 192 128 M lv (.int y :: .int x :: st) o ↔ ji_Ev C 192 129 M lv (.int (x + y) :: st) o := ev_go (S := (129, M, lv, (.int (x + y) :: st))) rfl rfl rfl
theorem s192_129 : ji_Ev C 192 129 M lv (.int x :: st) o ↔ 3 < lv.length ∧ ji_Ev C 192 130 M (ji_s1 lv 3 (.int x)) st o := ev_stI rfl rfl rfl
theorem s192_130 : ji_Ev C 192 130 M lv st o ↔ ji_evL (lv.getD 4 none) ji_isI (fun v => match v with | .int x => 4 < lv.length ∧ ji_Ev C 192 133 M (ji_s1 lv 4 (.int (x + Int32.ofInt 1))) st o | _ => False) := ev_iinc rfl
theorem s192_133 : ji_Ev C 192 133 M lv st o ↔ ji_Ev C 192 65 M lv st o := ev_gt rfl (by decide) rfl
theorem s192_136 : ji_Ev C 192 136 M (l0 :: l1 :: l2 :: some (.int x) :: l) st o ↔ ji_Ev C 192 137 M (l0 :: l1 :: l2 :: some (.int x) :: l) (.int x :: st) o := ev_go (S := (137, M, (l0 :: l1 :: l2 :: some (.int x) :: l), (.int x :: st))) rfl rfl rfl
theorem s192_137 : ji_Ev C 192 137 M (l0 :: some (.int x) :: l) st o ↔ ji_Ev C 192 138 M (l0 :: some (.int x) :: l) (.int x :: st) o := ev_go (S := (138, M, (l0 :: some (.int x) :: l), (.int x :: st))) rfl rfl rfl
theorem s192_138 : ji_Ev C 192 138 M lv (.int y :: .int x :: st) o ↔ if x = y then ji_Ev C 192 141 M lv st o else ji_Ev C 192 143 M lv st o := ev_brc (c := .ne) rfl (by decide) rfl
theorem s192_141 : ji_Ev C 192 141 M (l0 :: l1 :: some (.int x) :: l) st o ↔ ji_Ev C 192 142 M (l0 :: l1 :: some (.int x) :: l) (.int x :: st) o := ev_go (S := (142, M, (l0 :: l1 :: some (.int x) :: l), (.int x :: st))) rfl rfl rfl
theorem s192_142 : ji_Ev C 192 142 M lv [.int x] o ↔ o = (some (.int x), M) := ev_ireti rfl rfl
theorem s192_143 : ji_Ev C 192 143 M lv st o ↔ ji_evL (lv.getD 2 none) ji_isI (fun v => match v with | .int x => 2 < lv.length ∧ ji_Ev C 192 146 M (ji_s1 lv 2 (.int (x + Int32.ofInt 1))) st o | _ => False) := ev_iinc rfl
theorem s192_146 : ji_Ev C 192 146 M lv st o ↔ ji_Ev C 192 40 M lv st o := ev_gt rfl (by decide) rfl
theorem s192_149 : ji_Ev C 192 149 M lv st o ↔ ji_Ev C 192 150 M lv (.int (-1) :: st) o := ev_go (S := (150, M, lv, (.int (-1) :: st))) rfl rfl rfl
theorem s192_150 : ji_Ev C 192 150 M lv [.int x] o ↔ o = (some (.int x), M) := ev_ireti rfl rfl
theorem s193_0 : ji_Ev C 193 0 M (l0 :: some (.int x) :: l) st o ↔ ji_Ev C 193 1 M (l0 :: some (.int x) :: l) (.int x :: st) o := ev_go (S := (1, M, (l0 :: some (.int x) :: l), (.int x :: st))) rfl rfl rfl
theorem s193_1 : ji_Ev C 193 1 M lv st o ↔ ji_Ev C 193 2 M lv (.int (-1) :: st) o := ev_go (S := (2, M, lv, (.int (-1) :: st))) rfl rfl rfl
theorem s193_2 : ji_Ev C 193 2 M lv (.int y :: .int x :: st) o ↔ if x = y then ji_Ev C 193 5 M lv st o else ji_Ev C 193 12 M lv st o := ev_brc (c := .ne) rfl (by decide) rfl
theorem s193_5 : ji_Ev C 193 5 M (some (.ref a) :: l) st o ↔ ji_Ev C 193 6 M (some (.ref a) :: l) (.ref a :: st) o := ev_go (S := (6, M, (some (.ref a) :: l), (.ref a :: st))) rfl rfl rfl
theorem s193_6 : ji_Ev C 193 6 M lv (.ref a :: st) o ↔ (ji_rcb M 9 (.ref a) = true ∧ ji_ok8 st) ∧ ji_evC (C 194 [.ref a] M) (fun v M' => ji_Ev C 193 9 M' lv (v.toList ++ st) o) := ev_inv (k := 193) rfl cd_9_313 rfl
theorem s193_9 : ji_Ev C 193 9 M lv st o ↔ ji_Ev C 193 31 M lv st o := ev_gt rfl (by decide) rfl
theorem s193_12 : ji_Ev C 193 12 M (some (.ref a) :: l) st o ↔ ji_Ev C 193 13 M (some (.ref a) :: l) (.ref a :: st) o := ev_go (S := (13, M, (some (.ref a) :: l), (.ref a :: st))) rfl rfl rfl
theorem s193_13 : ji_Ev C 193 13 M (l0 :: some (.int x) :: l) st o ↔ ji_Ev C 193 14 M (l0 :: some (.int x) :: l) (.int x :: st) o := ev_go (S := (14, M, (l0 :: some (.int x) :: l), (.int x :: st))) rfl rfl rfl
theorem s193_14 : ji_Ev C 193 14 M lv (p0 :: .ref a :: st) o ↔ (ji_rcb M 9 (.ref a) = true ∧ ji_ok8 st) ∧ ji_evC (C 166 [.ref a, p0] M) (fun v M' => ji_Ev C 193 17 M' lv (v.toList ++ st) o) := ev_inv (k := 193) rfl cd_9_275 rfl
theorem s193_17 : ji_Ev C 193 17 M lv (.int x :: st) o ↔ if x = 0 then ji_Ev C 193 28 M lv st o else ji_Ev C 193 20 M lv st o := ev_brz (c := .eq) rfl (by decide) rfl
theorem s193_20 : ji_Ev C 193 20 M (some (.ref a) :: l) st o ↔ ji_Ev C 193 21 M (some (.ref a) :: l) (.ref a :: st) o := ev_go (S := (21, M, (some (.ref a) :: l), (.ref a :: st))) rfl rfl rfl
theorem s193_21 : ji_Ev C 193 21 M (l0 :: some (.int x) :: l) st o ↔ ji_Ev C 193 22 M (l0 :: some (.int x) :: l) (.int x :: st) o := ev_go (S := (22, M, (l0 :: some (.int x) :: l), (.int x :: st))) rfl rfl rfl
theorem s193_22 : ji_Ev C 193 22 M lv (p0 :: .ref a :: st) o ↔ (ji_rcb M 9 (.ref a) = true ∧ ji_ok8 st) ∧ ji_evC (C 195 [.ref a, p0] M) (fun v M' => ji_Ev C 193 25 M' lv (v.toList ++ st) o) := ev_inv (k := 193) rfl cd_9_309 rfl
theorem s193_25 : ji_Ev C 193 25 M lv st o ↔ ji_Ev C 193 31 M lv st o := ev_gt rfl (by decide) rfl
theorem s193_28 : ji_Ev C 193 28 M lv st o ↔ ji_Ev C 193 31 M lv (.long (-4611686018427387904) :: st) o := ev_go (S := (31, M, lv, (.long (-4611686018427387904) :: st))) rfl rfl rfl
theorem s193_31 : ji_Ev C 193 31 M lv [.long u] o ↔ o = (some (.long u), M) := ev_lret rfl rfl
theorem s194_0 : ji_Ev C 194 0 M lv st o ↔ ji_Ev C 194 1 M lv (.long 0 :: st) o := ev_go (S := (1, M, lv, (.long 0 :: st))) rfl rfl rfl
theorem s194_1 : ji_Ev C 194 1 M lv (.long u :: st) o ↔ 2 < lv.length ∧ ji_Ev C 194 2 M (ji_s2 lv 1 (.long u)) st o := ev_stL rfl rfl rfl
theorem s194_2 : ji_Ev C 194 2 M lv st o ↔ ji_Ev C 194 3 M lv (.int 0 :: st) o := ev_go (S := (3, M, lv, (.int 0 :: st))) rfl rfl rfl
theorem s194_3 : ji_Ev C 194 3 M lv (.int x :: st) o ↔ 3 < lv.length ∧ ji_Ev C 194 4 M (ji_s1 lv 3 (.int x)) st o := ev_stI rfl rfl rfl
theorem s194_4 : ji_Ev C 194 4 M (l0 :: l1 :: l2 :: some (.int x) :: l) st o ↔ ji_Ev C 194 5 M (l0 :: l1 :: l2 :: some (.int x) :: l) (.int x :: st) o := ev_go (S := (5, M, (l0 :: l1 :: l2 :: some (.int x) :: l), (.int x :: st))) rfl rfl rfl
theorem s194_5 : ji_Ev C 194 5 M (some (.ref a) :: l) st o ↔ ji_Ev C 194 6 M (some (.ref a) :: l) (.ref a :: st) o := ev_go (S := (6, M, (some (.ref a) :: l), (.ref a :: st))) rfl rfl rfl
theorem s194_6 : ji_Ev C 194 6 M lv (.ref a :: st) o ↔ ji_kd M a = some (0, 9) ∧ ji_Ev C 194 9 M lv (.int (ji_gI M a 4) :: st) o := ev_getI (k := 194) rfl fd_9_22 rfl
theorem s194_9 : ji_Ev C 194 9 M lv (.int y :: .int x :: st) o ↔ if x < y then ji_Ev C 194 12 M lv st o else ji_Ev C 194 26 M lv st o := ev_brc (c := .ge) rfl (by decide) rfl
theorem s194_12 : ji_Ev C 194 12 M (l0 :: some (.long u) :: l) st o ↔ ji_Ev C 194 13 M (l0 :: some (.long u) :: l) (.long u :: st) o := ev_go (S := (13, M, (l0 :: some (.long u) :: l), (.long u :: st))) rfl rfl rfl
theorem s194_13 : ji_Ev C 194 13 M (some (.ref a) :: l) st o ↔ ji_Ev C 194 14 M (some (.ref a) :: l) (.ref a :: st) o := ev_go (S := (14, M, (some (.ref a) :: l), (.ref a :: st))) rfl rfl rfl
theorem s194_14 : ji_Ev C 194 14 M (l0 :: l1 :: l2 :: some (.int x) :: l) st o ↔ ji_Ev C 194 15 M (l0 :: l1 :: l2 :: some (.int x) :: l) (.int x :: st) o := ev_go (S := (15, M, (l0 :: l1 :: l2 :: some (.int x) :: l), (.int x :: st))) rfl rfl rfl
theorem s194_15 : ji_Ev C 194 15 M lv (p0 :: .ref a :: st) o ↔ (ji_rcb M 9 (.ref a) = true ∧ ji_ok8 st) ∧ ji_evC (C 195 [.ref a, p0] M) (fun v M' => ji_Ev C 194 18 M' lv (v.toList ++ st) o) := ev_inv (k := 194) rfl cd_9_309 rfl
theorem s194_18 : ji_Ev C 194 18 M lv (.long v :: .long u :: st) o ↔ ji_Ev C 194 19 M lv (.long (u + v) :: st) o := ev_go (S := (19, M, lv, (.long (u + v) :: st))) rfl rfl rfl
theorem s194_19 : ji_Ev C 194 19 M lv (.long u :: st) o ↔ 2 < lv.length ∧ ji_Ev C 194 20 M (ji_s2 lv 1 (.long u)) st o := ev_stL rfl rfl rfl
theorem s194_20 : ji_Ev C 194 20 M lv st o ↔ ji_evL (lv.getD 3 none) ji_isI (fun v => match v with | .int x => 3 < lv.length ∧ ji_Ev C 194 23 M (ji_s1 lv 3 (.int (x + Int32.ofInt 1))) st o | _ => False) := ev_iinc rfl
theorem s194_23 : ji_Ev C 194 23 M lv st o ↔ ji_Ev C 194 4 M lv st o := ev_gt rfl (by decide) rfl
theorem s194_26 : ji_Ev C 194 26 M (l0 :: some (.long u) :: l) st o ↔ ji_Ev C 194 27 M (l0 :: some (.long u) :: l) (.long u :: st) o := ev_go (S := (27, M, (l0 :: some (.long u) :: l), (.long u :: st))) rfl rfl rfl
theorem s194_27 : ji_Ev C 194 27 M lv [.long u] o ↔ o = (some (.long u), M) := ev_lret rfl rfl
theorem s195_0 : ji_Ev C 195 0 M (some (.ref a) :: l) st o ↔ ji_Ev C 195 1 M (some (.ref a) :: l) (.ref a :: st) o := ev_go (S := (1, M, (some (.ref a) :: l), (.ref a :: st))) rfl rfl rfl
theorem s195_1 : ji_Ev C 195 1 M (some (.ref a) :: l) st o ↔ ji_Ev C 195 2 M (some (.ref a) :: l) (.ref a :: st) o := ev_go (S := (2, M, (some (.ref a) :: l), (.ref a :: st))) rfl rfl rfl
theorem s195_2 : ji_Ev C 195 2 M lv (.ref a :: st) o ↔ ji_kd M a = some (0, 9) ∧ ji_Ev C 195 5 M lv (.int (ji_gI M a 16) :: st) o := ev_getI (k := 195) rfl fd_9_60 rfl
theorem s195_5 : ji_Ev C 195 5 M (l0 :: some (.int x) :: l) st o ↔ ji_Ev C 195 6 M (l0 :: some (.int x) :: l) (.int x :: st) o := ev_go (S := (6, M, (l0 :: some (.int x) :: l), (.int x :: st))) rfl rfl rfl
theorem s195_6 : ji_Ev C 195 6 M lv st o ↔ ji_Ev C 195 7 M lv (.int 2 :: st) o := ev_go (S := (7, M, lv, (.int 2 :: st))) rfl rfl rfl
theorem s195_7 : ji_Ev C 195 7 M lv (p2 :: p1 :: p0 :: .ref a :: st) o ↔ (ji_rcb M 9 (.ref a) = true ∧ ji_ok8 st) ∧ ji_evC (C 171 [.ref a, p0, p1, p2] M) (fun v M' => ji_Ev C 195 10 M' lv (v.toList ++ st) o) := ev_inv (k := 195) rfl cd_9_290 rfl
theorem s195_10 : ji_Ev C 195 10 M lv (.int x :: st) o ↔ 2 < lv.length ∧ ji_Ev C 195 11 M (ji_s1 lv 2 (.int x)) st o := ev_stI rfl rfl rfl
theorem s195_11 : ji_Ev C 195 11 M (l0 :: l1 :: some (.int x) :: l) st o ↔ ji_Ev C 195 12 M (l0 :: l1 :: some (.int x) :: l) (.int x :: st) o := ev_go (S := (12, M, (l0 :: l1 :: some (.int x) :: l), (.int x :: st))) rfl rfl rfl
theorem s195_12 : ji_Ev C 195 12 M lv (.int x :: st) o ↔ if x < 0 then ji_Ev C 195 15 M lv st o else ji_Ev C 195 19 M lv st o := ev_brz (c := .ge) rfl (by decide) rfl
theorem s195_15 : ji_Ev C 195 15 M lv st o ↔ ji_Ev C 195 16 M lv (.long 0 :: st) o := ev_go (S := (16, M, lv, (.long 0 :: st))) rfl rfl rfl
theorem s195_16 : ji_Ev C 195 16 M lv st o ↔ ji_Ev C 195 33 M lv st o := ev_gt rfl (by decide) rfl
theorem s195_19 : ji_Ev C 195 19 M (l0 :: l1 :: some (.int x) :: l) st o ↔ ji_Ev C 195 20 M (l0 :: l1 :: some (.int x) :: l) (.int x :: st) o := ev_go (S := (20, M, (l0 :: l1 :: some (.int x) :: l), (.int x :: st))) rfl rfl rfl
theorem s195_20 : ji_Ev C 195 20 M lv (.int x :: st) o ↔ ji_Ev C 195 21 M lv (.long x.toInt64 :: st) o := ev_go (S := (21, M, lv, (.long x.toInt64 :: st))) rfl rfl rfl
theorem s195_21 : ji_Ev C 195 21 M (some (.ref a) :: l) st o ↔ ji_Ev C 195 22 M (some (.ref a) :: l) (.ref a :: st) o := ev_go (S := (22, M, (some (.ref a) :: l), (.ref a :: st))) rfl rfl rfl
theorem s195_22 : ji_Ev C 195 22 M lv (.ref a :: st) o ↔ ji_kd M a = some (0, 9) ∧ ji_Ev C 195 25 M lv (ji_rv (ji_gR M a 11) :: st) o := ev_getR (k := 195) rfl fd_9_45 rfl
theorem s195_25 : ji_Ev C 195 25 M (l0 :: some (.int x) :: l) st o ↔ ji_Ev C 195 26 M (l0 :: some (.int x) :: l) (.int x :: st) o := ev_go (S := (26, M, (l0 :: some (.int x) :: l), (.int x :: st))) rfl rfl rfl
theorem s195_26 : ji_Ev C 195 26 M lv (.int x :: .ref a :: st) o ↔ ji_evA (ji_kd M a) (fun n => vp_in x n ∧ ji_Ev C 195 27 M lv (.int (ji_gI M a x.toNatClampNeg) :: st) o) := ev_iald rfl
theorem s195_27 : ji_Ev C 195 27 M lv (.int x :: st) o ↔ ji_Ev C 195 28 M lv (.long x.toInt64 :: st) o := ev_go (S := (28, M, lv, (.long x.toInt64 :: st))) rfl rfl rfl
theorem s195_28 : ji_Ev C 195 28 M lv (.long v :: .long u :: st) o ↔ ji_Ev C 195 29 M lv (.long (u * v) :: st) o := ev_go (S := (29, M, lv, (.long (u * v) :: st))) rfl rfl rfl
theorem s195_29 : ji_Ev C 195 29 M lv st o ↔ ji_Ev C 195 32 M lv (.long (100) :: st) o := ev_go (S := (32, M, lv, (.long (100) :: st))) rfl rfl rfl
theorem s195_32 : ji_Ev C 195 32 M lv (.long v :: .long u :: st) o ↔ ¬ v = 0 ∧ ji_Ev C 195 33 M lv (.long (u / v) :: st) o := ev_dvL rfl
theorem s195_33 : ji_Ev C 195 33 M lv [.long u] o ↔ o = (some (.long u), M) := ev_lret rfl rfl
theorem s196_0 : ji_Ev C 196 0 M (some (.ref a) :: l) st o ↔ ji_Ev C 196 1 M (some (.ref a) :: l) (.ref a :: st) o := ev_go (S := (1, M, (some (.ref a) :: l), (.ref a :: st))) rfl rfl rfl
theorem s196_1 : ji_Ev C 196 1 M (l0 :: some (.int x) :: l) st o ↔ ji_Ev C 196 2 M (l0 :: some (.int x) :: l) (.int x :: st) o := ev_go (S := (2, M, (l0 :: some (.int x) :: l), (.int x :: st))) rfl rfl rfl
theorem s196_2 : ji_Ev C 196 2 M lv st o ↔ ji_Ev C 196 3 M lv (.int 1 :: st) o := ev_go (S := (3, M, lv, (.int 1 :: st))) rfl rfl rfl
theorem s196_3 : ji_Ev C 196 3 M lv st o ↔ ji_Ev C 196 5 M lv (.int 8 :: st) o := ev_go (S := (5, M, lv, (.int 8 :: st))) rfl rfl rfl
theorem s196_5 : ji_Ev C 196 5 M lv (p2 :: p1 :: p0 :: .ref a :: st) o ↔ (ji_rcb M 9 (.ref a) = true ∧ ji_ok8 st) ∧ ji_evC (C 158 [.ref a, p0, p1, p2] M) (fun v M' => ji_Ev C 196 8 M' lv (v.toList ++ st) o) := ev_inv (k := 196) rfl cd_9_255 rfl
theorem s196_8 : ji_Ev C 196 8 M lv (.int x :: st) o ↔ if x = 0 then ji_Ev C 196 11 M lv st o else ji_Ev C 196 14 M lv st o := ev_brz (c := .ne) rfl (by decide) rfl
theorem s196_11 : ji_Ev C 196 11 M lv st o ↔ ji_Ev C 196 13 M lv (.int (-2) :: st) o := ev_go (S := (13, M, lv, (.int (-2) :: st))) rfl rfl rfl
theorem s196_13 : ji_Ev C 196 13 M lv [.int x] o ↔ o = (some (.int x), M) := ev_ireti rfl rfl
theorem s196_14 : ji_Ev C 196 14 M (some (.ref a) :: l) st o ↔ ji_Ev C 196 15 M (some (.ref a) :: l) (.ref a :: st) o := ev_go (S := (15, M, (some (.ref a) :: l), (.ref a :: st))) rfl rfl rfl
theorem s196_15 : ji_Ev C 196 15 M lv (.ref a :: st) o ↔ ji_kd M a = some (0, 9) ∧ ji_Ev C 196 18 M lv (.int (ji_gI M a 17) :: st) o := ev_getI (k := 196) rfl fd_9_63 rfl
theorem s196_18 : ji_Ev C 196 18 M (l0 :: some (.int x) :: l) st o ↔ ji_Ev C 196 19 M (l0 :: some (.int x) :: l) (.int x :: st) o := ev_go (S := (19, M, (l0 :: some (.int x) :: l), (.int x :: st))) rfl rfl rfl
theorem s196_19 : ji_Ev C 196 19 M lv (.int y :: .int x :: st) o ↔ ji_Ev C 196 20 M lv (.int (x + y) :: st) o := ev_go (S := (20, M, lv, (.int (x + y) :: st))) rfl rfl rfl
theorem s196_20 : ji_Ev C 196 20 M lv st o ↔ ji_Ev C 196 23 M lv (.int 160 :: st) o := ev_go (S := (23, M, lv, (.int 160 :: st))) rfl rfl rfl
theorem s196_23 : ji_Ev C 196 23 M lv (.int y :: .int x :: st) o ↔ if y < x then ji_Ev C 196 26 M lv st o else ji_Ev C 196 29 M lv st o := ev_brc (c := .le) rfl (by decide) rfl
theorem s196_26 : ji_Ev C 196 26 M lv st o ↔ ji_Ev C 196 28 M lv (.int (-4) :: st) o := ev_go (S := (28, M, lv, (.int (-4) :: st))) rfl rfl rfl
theorem s196_28 : ji_Ev C 196 28 M lv [.int x] o ↔ o = (some (.int x), M) := ev_ireti rfl rfl
theorem s196_29 : ji_Ev C 196 29 M lv st o ↔ ji_Ev C 196 30 M lv (.int 0 :: st) o := ev_go (S := (30, M, lv, (.int 0 :: st))) rfl rfl rfl
theorem s196_30 : ji_Ev C 196 30 M lv (.int x :: st) o ↔ 4 < lv.length ∧ ji_Ev C 196 32 M (ji_s1 lv 4 (.int x)) st o := ev_stI rfl rfl rfl
theorem s196_32 : ji_Ev C 196 32 M (l0 :: l1 :: l2 :: l3 :: some (.int x) :: l) st o ↔ ji_Ev C 196 34 M (l0 :: l1 :: l2 :: l3 :: some (.int x) :: l) (.int x :: st) o := ev_go (S := (34, M, (l0 :: l1 :: l2 :: l3 :: some (.int x) :: l), (.int x :: st))) rfl rfl rfl
theorem s196_34 : ji_Ev C 196 34 M (l0 :: some (.int x) :: l) st o ↔ ji_Ev C 196 35 M (l0 :: some (.int x) :: l) (.int x :: st) o := ev_go (S := (35, M, (l0 :: some (.int x) :: l), (.int x :: st))) rfl rfl rfl
theorem s196_35 : ji_Ev C 196 35 M lv (.int y :: .int x :: st) o ↔ if x < y then ji_Ev C 196 38 M lv st o else ji_Ev C 196 76 M lv st o := ev_brc (c := .ge) rfl (by decide) rfl
theorem s196_38 : ji_Ev C 196 38 M (some (.ref a) :: l) st o ↔ ji_Ev C 196 39 M (some (.ref a) :: l) (.ref a :: st) o := ev_go (S := (39, M, (some (.ref a) :: l), (.ref a :: st))) rfl rfl rfl
theorem s196_39 : ji_Ev C 196 39 M lv (.ref a :: st) o ↔ ji_kd M a = some (0, 9) ∧ ji_Ev C 196 42 M lv (ji_rv (ji_gR M a 18) :: st) o := ev_getR (k := 196) rfl fd_9_66 rfl
theorem s196_42 : ji_Ev C 196 42 M lv st o ↔ ji_Ev C 196 45 M lv (.int 960 :: st) o := ev_go (S := (45, M, lv, (.int 960 :: st))) rfl rfl rfl
theorem s196_45 : ji_Ev C 196 45 M (some (.ref a) :: l) st o ↔ ji_Ev C 196 46 M (some (.ref a) :: l) (.ref a :: st) o := ev_go (S := (46, M, (some (.ref a) :: l), (.ref a :: st))) rfl rfl rfl
theorem s196_46 : ji_Ev C 196 46 M lv (.ref a :: st) o ↔ ji_kd M a = some (0, 9) ∧ ji_Ev C 196 49 M lv (.int (ji_gI M a 17) :: st) o := ev_getI (k := 196) rfl fd_9_63 rfl
theorem s196_49 : ji_Ev C 196 49 M lv (.int y :: .int x :: st) o ↔ ji_Ev C 196 50 M lv (.int (x + y) :: st) o := ev_go (S := (50, M, lv, (.int (x + y) :: st))) rfl rfl rfl
theorem s196_50 : ji_Ev C 196 50 M (l0 :: l1 :: some (.long u) :: l) st o ↔ ji_Ev C 196 51 M (l0 :: l1 :: some (.long u) :: l) (.long u :: st) o := ev_go (S := (51, M, (l0 :: l1 :: some (.long u) :: l), (.long u :: st))) rfl rfl rfl
theorem s196_51 : ji_Ev C 196 51 M lv st o ↔ ji_Ev C 196 53 M lv (.int 8 :: st) o := ev_go (S := (53, M, lv, (.int 8 :: st))) rfl rfl rfl
theorem s196_53 : ji_Ev C 196 53 M (l0 :: l1 :: l2 :: l3 :: some (.int x) :: l) st o ↔ ji_Ev C 196 55 M (l0 :: l1 :: l2 :: l3 :: some (.int x) :: l) (.int x :: st) o := ev_go (S := (55, M, (l0 :: l1 :: l2 :: l3 :: some (.int x) :: l), (.int x :: st))) rfl rfl rfl
theorem s196_55 : ji_Ev C 196 55 M lv (.int y :: .int x :: st) o ↔ ji_Ev C 196 56 M lv (.int (x * y) :: st) o := ev_go (S := (56, M, lv, (.int (x * y) :: st))) rfl rfl rfl
theorem s196_56 : ji_Ev C 196 56 M lv (.int y :: .long u :: st) o ↔ ji_Ev C 196 57 M lv (.long (u >>> (y.toInt64 &&& 63)) :: st) o := ev_go (S := (57, M, lv, (.long (u >>> (y.toInt64 &&& 63)) :: st))) rfl rfl rfl
theorem s196_57 : ji_Ev C 196 57 M lv (.long u :: st) o ↔ ji_Ev C 196 58 M lv (.int u.toInt32 :: st) o := ev_go (S := (58, M, lv, (.int u.toInt32 :: st))) rfl rfl rfl
theorem s196_58 : ji_Ev C 196 58 M lv (.int x :: st) o ↔ ji_Ev C 196 59 M lv (.int x.toInt8.toInt32 :: st) o := ev_go (S := (59, M, lv, (.int x.toInt8.toInt32 :: st))) rfl rfl rfl
theorem s196_59 : ji_Ev C 196 59 M lv (.int y :: .int x :: .ref a :: st) o ↔ ji_evA (ji_kd M a) (fun n => vp_in x n ∧ ji_Ev C 196 60 (ji_sI M a x.toNatClampNeg y) lv st o) := ev_iast rfl
theorem s196_60 : ji_Ev C 196 60 M (some (.ref a) :: l) st o ↔ ji_Ev C 196 61 M (some (.ref a) :: l) (.ref a :: st) o := ev_go (S := (61, M, (some (.ref a) :: l), (.ref a :: st))) rfl rfl rfl
theorem s196_61 : ji_Ev C 196 61 M lv (.int x :: st) o ↔ ji_Ev C 196 62 M lv (.int x :: .int x :: st) o := ev_go (S := (62, M, lv, (.int x :: .int x :: st))) rfl rfl rfl
theorem s196_61r : ji_Ev C 196 61 M lv (.ref a :: st) o ↔ ji_Ev C 196 62 M lv (.ref a :: .ref a :: st) o := ev_go (S := (62, M, lv, (.ref a :: .ref a :: st))) rfl rfl rfl
theorem s196_62 : ji_Ev C 196 62 M lv (.ref a :: st) o ↔ ji_kd M a = some (0, 9) ∧ ji_Ev C 196 65 M lv (.int (ji_gI M a 17) :: st) o := ev_getI (k := 196) rfl fd_9_63 rfl
theorem s196_65 : ji_Ev C 196 65 M lv st o ↔ ji_Ev C 196 66 M lv (.int 1 :: st) o := ev_go (S := (66, M, lv, (.int 1 :: st))) rfl rfl rfl
theorem s196_66 : ji_Ev C 196 66 M lv (.int y :: .int x :: st) o ↔ ji_Ev C 196 67 M lv (.int (x + y) :: st) o := ev_go (S := (67, M, lv, (.int (x + y) :: st))) rfl rfl rfl
theorem s196_67 : ji_Ev C 196 67 M lv (.int x :: .ref a :: st) o ↔ ji_kd M a = some (0, 9) ∧ ji_Ev C 196 70 (ji_sI M a 17 x) lv st o := ev_putI (k := 196) rfl fd_9_63 rfl (by decide)
theorem s196_70 : ji_Ev C 196 70 M lv st o ↔ ji_evL (lv.getD 4 none) ji_isI (fun v => match v with | .int x => 4 < lv.length ∧ ji_Ev C 196 73 M (ji_s1 lv 4 (.int (x + Int32.ofInt 1))) st o | _ => False) := ev_iinc rfl
theorem s196_73 : ji_Ev C 196 73 M lv st o ↔ ji_Ev C 196 32 M lv st o := ev_gt rfl (by decide) rfl
theorem s196_76 : ji_Ev C 196 76 M (some (.ref a) :: l) st o ↔ ji_Ev C 196 77 M (some (.ref a) :: l) (.ref a :: st) o := ev_go (S := (77, M, (some (.ref a) :: l), (.ref a :: st))) rfl rfl rfl
theorem s196_77 : ji_Ev C 196 77 M lv (.ref a :: st) o ↔ ji_kd M a = some (0, 9) ∧ ji_Ev C 196 80 M lv (.int (ji_gI M a 17) :: st) o := ev_getI (k := 196) rfl fd_9_63 rfl
theorem s196_80 : ji_Ev C 196 80 M lv [.int x] o ↔ o = (some (.int x), M) := ev_ireti rfl rfl
theorem s197_0 : ji_Ev C 197 0 M (some (.ref a) :: l) st o ↔ ji_Ev C 197 1 M (some (.ref a) :: l) (.ref a :: st) o := ev_go (S := (1, M, (some (.ref a) :: l), (.ref a :: st))) rfl rfl rfl
theorem s197_1 : ji_Ev C 197 1 M lv (.ref a :: st) o ↔ ji_kd M a = some (0, 9) ∧ ji_Ev C 197 4 M lv (.int (ji_gI M a 15) :: st) o := ev_getI (k := 197) rfl fd_9_57 rfl
theorem s197_4 : ji_Ev C 197 4 M lv st o ↔ ji_Ev C 197 6 M lv (.int 6 :: st) o := ev_go (S := (6, M, lv, (.int 6 :: st))) rfl rfl rfl
theorem s197_6 : ji_Ev C 197 6 M lv (.int y :: .int x :: st) o ↔ if x = y then ji_Ev C 197 9 M lv st o else ji_Ev C 197 12 M lv st o := ev_brc (c := .ne) rfl (by decide) rfl
theorem s197_9 : ji_Ev C 197 9 M lv st o ↔ ji_Ev C 197 11 M lv (.int (-4) :: st) o := ev_go (S := (11, M, lv, (.int (-4) :: st))) rfl rfl rfl
theorem s197_11 : ji_Ev C 197 11 M lv [.int x] o ↔ o = (some (.int x), M) := ev_ireti rfl rfl
theorem s197_12 : ji_Ev C 197 12 M (some (.ref a) :: l) st o ↔ ji_Ev C 197 13 M (some (.ref a) :: l) (.ref a :: st) o := ev_go (S := (13, M, (some (.ref a) :: l), (.ref a :: st))) rfl rfl rfl
theorem s197_13 : ji_Ev C 197 13 M lv (.ref a :: st) o ↔ ji_kd M a = some (0, 9) ∧ ji_Ev C 197 16 M lv (ji_rv (ji_gR M a 19) :: st) o := ev_getR (k := 197) rfl fd_9_69 rfl
theorem s197_16 : ji_Ev C 197 16 M lv st o ↔ ji_Ev C 197 18 M lv (.int 6 :: st) o := ev_go (S := (18, M, lv, (.int 6 :: st))) rfl rfl rfl
theorem s197_18 : ji_Ev C 197 18 M (some (.ref a) :: l) st o ↔ ji_Ev C 197 19 M (some (.ref a) :: l) (.ref a :: st) o := ev_go (S := (19, M, (some (.ref a) :: l), (.ref a :: st))) rfl rfl rfl
theorem s197_19 : ji_Ev C 197 19 M lv (.ref a :: st) o ↔ ji_kd M a = some (0, 9) ∧ ji_Ev C 197 22 M lv (.int (ji_gI M a 17) :: st) o := ev_getI (k := 197) rfl fd_9_63 rfl
theorem s197_22 : ji_Ev C 197 22 M lv (.int y :: .int x :: .ref a :: st) o ↔ ji_evA (ji_kd M a) (fun n => vp_in x n ∧ ji_Ev C 197 23 (ji_sI M a x.toNatClampNeg y) lv st o) := ev_iast rfl
theorem s197_23 : ji_Ev C 197 23 M (some (.ref a) :: l) st o ↔ ji_Ev C 197 24 M (some (.ref a) :: l) (.ref a :: st) o := ev_go (S := (24, M, (some (.ref a) :: l), (.ref a :: st))) rfl rfl rfl
theorem s197_24 : ji_Ev C 197 24 M lv st o ↔ ji_Ev C 197 25 M lv (.int 0 :: st) o := ev_go (S := (25, M, lv, (.int 0 :: st))) rfl rfl rfl
theorem s197_25 : ji_Ev C 197 25 M lv (.int x :: .ref a :: st) o ↔ ji_kd M a = some (0, 9) ∧ ji_Ev C 197 28 (ji_sI M a 17 x) lv st o := ev_putI (k := 197) rfl fd_9_63 rfl (by decide)
theorem s197_28 : ji_Ev C 197 28 M (some (.ref a) :: l) st o ↔ ji_Ev C 197 29 M (some (.ref a) :: l) (.ref a :: st) o := ev_go (S := (29, M, (some (.ref a) :: l), (.ref a :: st))) rfl rfl rfl
theorem s197_29 : ji_Ev C 197 29 M lv st o ↔ ji_Ev C 197 31 M lv (.int 6 :: st) o := ev_go (S := (31, M, lv, (.int 6 :: st))) rfl rfl rfl
theorem s197_31 : ji_Ev C 197 31 M lv (p0 :: .ref a :: st) o ↔ (ji_rcb M 9 (.ref a) = true ∧ ji_ok8 st) ∧ ji_evC (C 172 [.ref a, p0] M) (fun v M' => ji_Ev C 197 34 M' lv (v.toList ++ st) o) := ev_inv (k := 197) rfl cd_9_393 rfl
theorem s197_34 : ji_Ev C 197 34 M lv (.int x :: st) o ↔ if x = 0 then ji_Ev C 197 37 M lv st o else ji_Ev C 197 45 M lv st o := ev_brz (c := .ne) rfl (by decide) rfl
theorem s197_37 : ji_Ev C 197 37 M lv st o ↔ ji_Ev C 197 39 M lv (.int (-100) :: st) o := ev_go (S := (39, M, lv, (.int (-100) :: st))) rfl rfl rfl
theorem s197_39 : ji_Ev C 197 39 M (some (.ref a) :: l) st o ↔ ji_Ev C 197 40 M (some (.ref a) :: l) (.ref a :: st) o := ev_go (S := (40, M, (some (.ref a) :: l), (.ref a :: st))) rfl rfl rfl
theorem s197_40 : ji_Ev C 197 40 M lv (.ref a :: st) o ↔ ji_kd M a = some (0, 9) ∧ ji_Ev C 197 43 M lv (.int (ji_gI M a 24) :: st) o := ev_getI (k := 197) rfl fd_9_84 rfl
theorem s197_43 : ji_Ev C 197 43 M lv (.int y :: .int x :: st) o ↔ ji_Ev C 197 44 M lv (.int (x - y) :: st) o := ev_go (S := (44, M, lv, (.int (x - y) :: st))) rfl rfl rfl
theorem s197_44 : ji_Ev C 197 44 M lv [.int x] o ↔ o = (some (.int x), M) := ev_ireti rfl rfl
theorem s197_45 : ji_Ev C 197 45 M (some (.ref a) :: l) st o ↔ ji_Ev C 197 46 M (some (.ref a) :: l) (.ref a :: st) o := ev_go (S := (46, M, (some (.ref a) :: l), (.ref a :: st))) rfl rfl rfl
theorem s197_46 : ji_Ev C 197 46 M lv (.ref a :: st) o ↔ ji_kd M a = some (0, 9) ∧ ji_Ev C 197 49 M lv (ji_rv (ji_gR M a 19) :: st) o := ev_getR (k := 197) rfl fd_9_69 rfl
theorem s197_49 : ji_Ev C 197 49 M (some (.ref a) :: l) st o ↔ ji_Ev C 197 50 M (some (.ref a) :: l) (.ref a :: st) o := ev_go (S := (50, M, (some (.ref a) :: l), (.ref a :: st))) rfl rfl rfl
theorem s197_50 : ji_Ev C 197 50 M lv (.ref a :: st) o ↔ ji_kd M a = some (0, 9) ∧ ji_Ev C 197 53 M lv (.int (ji_gI M a 15) :: st) o := ev_getI (k := 197) rfl fd_9_57 rfl
theorem s197_53 : ji_Ev C 197 53 M (some (.ref a) :: l) st o ↔ ji_Ev C 197 54 M (some (.ref a) :: l) (.ref a :: st) o := ev_go (S := (54, M, (some (.ref a) :: l), (.ref a :: st))) rfl rfl rfl
theorem s197_54 : ji_Ev C 197 54 M lv (.ref a :: st) o ↔ ji_kd M a = some (0, 9) ∧ ji_Ev C 197 57 M lv (ji_rv (ji_gR M a 19) :: st) o := ev_getR (k := 197) rfl fd_9_69 rfl
theorem s197_57 : ji_Ev C 197 57 M lv st o ↔ ji_Ev C 197 59 M lv (.int 6 :: st) o := ev_go (S := (59, M, lv, (.int 6 :: st))) rfl rfl rfl
theorem s197_59 : ji_Ev C 197 59 M lv (.int x :: .ref a :: st) o ↔ ji_evA (ji_kd M a) (fun n => vp_in x n ∧ ji_Ev C 197 60 M lv (.int (ji_gI M a x.toNatClampNeg) :: st) o) := ev_iald rfl
theorem s197_60 : ji_Ev C 197 60 M lv (.int y :: .int x :: .ref a :: st) o ↔ ji_evA (ji_kd M a) (fun n => vp_in x n ∧ ji_Ev C 197 61 (ji_sI M a x.toNatClampNeg y) lv st o) := ev_iast rfl
theorem s197_61 : ji_Ev C 197 61 M lv st o ↔ ji_Ev C 197 62 M lv (.int 0 :: st) o := ev_go (S := (62, M, lv, (.int 0 :: st))) rfl rfl rfl
theorem s197_62 : ji_Ev C 197 62 M lv (.int x :: st) o ↔ 1 < lv.length ∧ ji_Ev C 197 63 M (ji_s1 lv 1 (.int x)) st o := ev_stI rfl rfl rfl
theorem s197_63 : ji_Ev C 197 63 M (l0 :: some (.int x) :: l) st o ↔ ji_Ev C 197 64 M (l0 :: some (.int x) :: l) (.int x :: st) o := ev_go (S := (64, M, (l0 :: some (.int x) :: l), (.int x :: st))) rfl rfl rfl
theorem s197_64 : ji_Ev C 197 64 M (some (.ref a) :: l) st o ↔ ji_Ev C 197 65 M (some (.ref a) :: l) (.ref a :: st) o := ev_go (S := (65, M, (some (.ref a) :: l), (.ref a :: st))) rfl rfl rfl
theorem s197_65 : ji_Ev C 197 65 M lv (.ref a :: st) o ↔ ji_kd M a = some (0, 9) ∧ ji_Ev C 197 68 M lv (ji_rv (ji_gR M a 19) :: st) o := ev_getR (k := 197) rfl fd_9_69 rfl
theorem s197_68 : ji_Ev C 197 68 M lv st o ↔ ji_Ev C 197 70 M lv (.int 6 :: st) o := ev_go (S := (70, M, lv, (.int 6 :: st))) rfl rfl rfl
theorem s197_70 : ji_Ev C 197 70 M lv (.int x :: .ref a :: st) o ↔ ji_evA (ji_kd M a) (fun n => vp_in x n ∧ ji_Ev C 197 71 M lv (.int (ji_gI M a x.toNatClampNeg) :: st) o) := ev_iald rfl
theorem s197_71 : ji_Ev C 197 71 M lv (.int y :: .int x :: st) o ↔ if x < y then ji_Ev C 197 74 M lv st o else ji_Ev C 197 105 M lv st o := ev_brc (c := .ge) rfl (by decide) rfl
theorem s197_74 : ji_Ev C 197 74 M (some (.ref a) :: l) st o ↔ ji_Ev C 197 75 M (some (.ref a) :: l) (.ref a :: st) o := ev_go (S := (75, M, (some (.ref a) :: l), (.ref a :: st))) rfl rfl rfl
theorem s197_75 : ji_Ev C 197 75 M lv (.ref a :: st) o ↔ ji_kd M a = some (0, 9) ∧ ji_Ev C 197 78 M lv (ji_rv (ji_gR M a 18) :: st) o := ev_getR (k := 197) rfl fd_9_66 rfl
theorem s197_78 : ji_Ev C 197 78 M lv st o ↔ ji_Ev C 197 81 M lv (.int 160 :: st) o := ev_go (S := (81, M, lv, (.int 160 :: st))) rfl rfl rfl
theorem s197_81 : ji_Ev C 197 81 M (some (.ref a) :: l) st o ↔ ji_Ev C 197 82 M (some (.ref a) :: l) (.ref a :: st) o := ev_go (S := (82, M, (some (.ref a) :: l), (.ref a :: st))) rfl rfl rfl
theorem s197_82 : ji_Ev C 197 82 M lv (.ref a :: st) o ↔ ji_kd M a = some (0, 9) ∧ ji_Ev C 197 85 M lv (.int (ji_gI M a 15) :: st) o := ev_getI (k := 197) rfl fd_9_57 rfl
theorem s197_85 : ji_Ev C 197 85 M lv (.int y :: .int x :: st) o ↔ ji_Ev C 197 86 M lv (.int (x * y) :: st) o := ev_go (S := (86, M, lv, (.int (x * y) :: st))) rfl rfl rfl
theorem s197_86 : ji_Ev C 197 86 M (l0 :: some (.int x) :: l) st o ↔ ji_Ev C 197 87 M (l0 :: some (.int x) :: l) (.int x :: st) o := ev_go (S := (87, M, (l0 :: some (.int x) :: l), (.int x :: st))) rfl rfl rfl
theorem s197_87 : ji_Ev C 197 87 M lv (.int y :: .int x :: st) o ↔ ji_Ev C 197 88 M lv (.int (x + y) :: st) o := ev_go (S := (88, M, lv, (.int (x + y) :: st))) rfl rfl rfl
theorem s197_88 : ji_Ev C 197 88 M (some (.ref a) :: l) st o ↔ ji_Ev C 197 89 M (some (.ref a) :: l) (.ref a :: st) o := ev_go (S := (89, M, (some (.ref a) :: l), (.ref a :: st))) rfl rfl rfl
theorem s197_89 : ji_Ev C 197 89 M lv (.ref a :: st) o ↔ ji_kd M a = some (0, 9) ∧ ji_Ev C 197 92 M lv (ji_rv (ji_gR M a 18) :: st) o := ev_getR (k := 197) rfl fd_9_66 rfl
theorem s197_92 : ji_Ev C 197 92 M lv st o ↔ ji_Ev C 197 95 M lv (.int 960 :: st) o := ev_go (S := (95, M, lv, (.int 960 :: st))) rfl rfl rfl
theorem s197_95 : ji_Ev C 197 95 M (l0 :: some (.int x) :: l) st o ↔ ji_Ev C 197 96 M (l0 :: some (.int x) :: l) (.int x :: st) o := ev_go (S := (96, M, (l0 :: some (.int x) :: l), (.int x :: st))) rfl rfl rfl
theorem s197_96 : ji_Ev C 197 96 M lv (.int y :: .int x :: st) o ↔ ji_Ev C 197 97 M lv (.int (x + y) :: st) o := ev_go (S := (97, M, lv, (.int (x + y) :: st))) rfl rfl rfl
theorem s197_97 : ji_Ev C 197 97 M lv (.int x :: .ref a :: st) o ↔ ji_evA (ji_kd M a) (fun n => vp_in x n ∧ ji_Ev C 197 98 M lv (.int (ji_gI M a x.toNatClampNeg) :: st) o) := ev_iald rfl
theorem s197_98 : ji_Ev C 197 98 M lv (.int y :: .int x :: .ref a :: st) o ↔ ji_evA (ji_kd M a) (fun n => vp_in x n ∧ ji_Ev C 197 99 (ji_sI M a x.toNatClampNeg y) lv st o) := ev_iast rfl
theorem s197_99 : ji_Ev C 197 99 M lv st o ↔ ji_evL (lv.getD 1 none) ji_isI (fun v => match v with | .int x => 1 < lv.length ∧ ji_Ev C 197 102 M (ji_s1 lv 1 (.int (x + Int32.ofInt 1))) st o | _ => False) := ev_iinc rfl
theorem s197_102 : ji_Ev C 197 102 M lv st o ↔ ji_Ev C 197 63 M lv st o := ev_gt rfl (by decide) rfl
theorem s197_105 : ji_Ev C 197 105 M (some (.ref a) :: l) st o ↔ ji_Ev C 197 106 M (some (.ref a) :: l) (.ref a :: st) o := ev_go (S := (106, M, (some (.ref a) :: l), (.ref a :: st))) rfl rfl rfl
theorem s197_106 : ji_Ev C 197 106 M lv (.int x :: st) o ↔ ji_Ev C 197 107 M lv (.int x :: .int x :: st) o := ev_go (S := (107, M, lv, (.int x :: .int x :: st))) rfl rfl rfl
theorem s197_106r : ji_Ev C 197 106 M lv (.ref a :: st) o ↔ ji_Ev C 197 107 M lv (.ref a :: .ref a :: st) o := ev_go (S := (107, M, lv, (.ref a :: .ref a :: st))) rfl rfl rfl
theorem s197_107 : ji_Ev C 197 107 M lv (.ref a :: st) o ↔ ji_kd M a = some (0, 9) ∧ ji_Ev C 197 110 M lv (.int (ji_gI M a 15) :: st) o := ev_getI (k := 197) rfl fd_9_57 rfl
theorem s197_110 : ji_Ev C 197 110 M lv st o ↔ ji_Ev C 197 111 M lv (.int 1 :: st) o := ev_go (S := (111, M, lv, (.int 1 :: st))) rfl rfl rfl
theorem s197_111 : ji_Ev C 197 111 M lv (.int y :: .int x :: st) o ↔ ji_Ev C 197 112 M lv (.int (x + y) :: st) o := ev_go (S := (112, M, lv, (.int (x + y) :: st))) rfl rfl rfl
theorem s197_112 : ji_Ev C 197 112 M lv (.int x :: .ref a :: st) o ↔ ji_kd M a = some (0, 9) ∧ ji_Ev C 197 115 (ji_sI M a 15 x) lv st o := ev_putI (k := 197) rfl fd_9_57 rfl (by decide)
theorem s197_115 : ji_Ev C 197 115 M (some (.ref a) :: l) st o ↔ ji_Ev C 197 116 M (some (.ref a) :: l) (.ref a :: st) o := ev_go (S := (116, M, (some (.ref a) :: l), (.ref a :: st))) rfl rfl rfl
theorem s197_116 : ji_Ev C 197 116 M lv (.ref a :: st) o ↔ ji_kd M a = some (0, 9) ∧ ji_Ev C 197 119 M lv (.int (ji_gI M a 15) :: st) o := ev_getI (k := 197) rfl fd_9_57 rfl
theorem s197_119 : ji_Ev C 197 119 M lv st o ↔ ji_Ev C 197 120 M lv (.int 1 :: st) o := ev_go (S := (120, M, lv, (.int 1 :: st))) rfl rfl rfl
theorem s197_120 : ji_Ev C 197 120 M lv (.int y :: .int x :: st) o ↔ ji_Ev C 197 121 M lv (.int (x - y) :: st) o := ev_go (S := (121, M, lv, (.int (x - y) :: st))) rfl rfl rfl
theorem s197_121 : ji_Ev C 197 121 M lv [.int x] o ↔ o = (some (.int x), M) := ev_ireti rfl rfl
theorem s198_0 : ji_Ev C 198 0 M (some (.ref a) :: l) st o ↔ ji_Ev C 198 1 M (some (.ref a) :: l) (.ref a :: st) o := ev_go (S := (1, M, (some (.ref a) :: l), (.ref a :: st))) rfl rfl rfl
theorem s198_1 : ji_Ev C 198 1 M (l0 :: some (.int x) :: l) st o ↔ ji_Ev C 198 2 M (l0 :: some (.int x) :: l) (.int x :: st) o := ev_go (S := (2, M, (l0 :: some (.int x) :: l), (.int x :: st))) rfl rfl rfl
theorem s198_2 : ji_Ev C 198 2 M lv st o ↔ ji_Ev C 198 3 M lv (.int 0 :: st) o := ev_go (S := (3, M, lv, (.int 0 :: st))) rfl rfl rfl
theorem s198_3 : ji_Ev C 198 3 M (some (.ref a) :: l) st o ↔ ji_Ev C 198 4 M (some (.ref a) :: l) (.ref a :: st) o := ev_go (S := (4, M, (some (.ref a) :: l), (.ref a :: st))) rfl rfl rfl
theorem s198_4 : ji_Ev C 198 4 M lv (.ref a :: st) o ↔ ji_kd M a = some (0, 9) ∧ ji_Ev C 198 7 M lv (.int (ji_gI M a 15) :: st) o := ev_getI (k := 198) rfl fd_9_57 rfl
theorem s198_7 : ji_Ev C 198 7 M lv st o ↔ ji_Ev C 198 8 M lv (.int 1 :: st) o := ev_go (S := (8, M, lv, (.int 1 :: st))) rfl rfl rfl
theorem s198_8 : ji_Ev C 198 8 M lv (.int y :: .int x :: st) o ↔ ji_Ev C 198 9 M lv (.int (x - y) :: st) o := ev_go (S := (9, M, lv, (.int (x - y) :: st))) rfl rfl rfl
theorem s198_9 : ji_Ev C 198 9 M lv (p2 :: p1 :: p0 :: .ref a :: st) o ↔ (ji_rcb M 9 (.ref a) = true ∧ ji_ok8 st) ∧ ji_evC (C 158 [.ref a, p0, p1, p2] M) (fun v M' => ji_Ev C 198 12 M' lv (v.toList ++ st) o) := ev_inv (k := 198) rfl cd_9_255 rfl
theorem s198_12 : ji_Ev C 198 12 M lv (.int x :: st) o ↔ if x = 0 then ji_Ev C 198 15 M lv st o else ji_Ev C 198 18 M lv st o := ev_brz (c := .ne) rfl (by decide) rfl
theorem s198_15 : ji_Ev C 198 15 M lv st o ↔ ji_Ev C 198 17 M lv (.int (-2) :: st) o := ev_go (S := (17, M, lv, (.int (-2) :: st))) rfl rfl rfl
theorem s198_17 : ji_Ev C 198 17 M lv [.int x] o ↔ o = (some (.int x), M) := ev_ireti rfl rfl
theorem s198_18 : ji_Ev C 198 18 M (some (.ref a) :: l) st o ↔ ji_Ev C 198 19 M (some (.ref a) :: l) (.ref a :: st) o := ev_go (S := (19, M, (some (.ref a) :: l), (.ref a :: st))) rfl rfl rfl
theorem s198_19 : ji_Ev C 198 19 M lv (.ref a :: st) o ↔ ji_kd M a = some (0, 9) ∧ ji_Ev C 198 22 M lv (.int (ji_gI M a 16) :: st) o := ev_getI (k := 198) rfl fd_9_60 rfl
theorem s198_22 : ji_Ev C 198 22 M lv (.int x :: st) o ↔ 2 < lv.length ∧ ji_Ev C 198 23 M (ji_s1 lv 2 (.int x)) st o := ev_stI rfl rfl rfl
theorem s198_23 : ji_Ev C 198 23 M (some (.ref a) :: l) st o ↔ ji_Ev C 198 24 M (some (.ref a) :: l) (.ref a :: st) o := ev_go (S := (24, M, (some (.ref a) :: l), (.ref a :: st))) rfl rfl rfl
theorem s198_24 : ji_Ev C 198 24 M (l0 :: some (.int x) :: l) st o ↔ ji_Ev C 198 25 M (l0 :: some (.int x) :: l) (.int x :: st) o := ev_go (S := (25, M, (l0 :: some (.int x) :: l), (.int x :: st))) rfl rfl rfl
theorem s198_25 : ji_Ev C 198 25 M lv (.int x :: .ref a :: st) o ↔ ji_kd M a = some (0, 9) ∧ ji_Ev C 198 28 (ji_sI M a 16 x) lv st o := ev_putI (k := 198) rfl fd_9_60 rfl (by decide)
theorem s198_28 : ji_Ev C 198 28 M (l0 :: l1 :: some (.int x) :: l) st o ↔ ji_Ev C 198 29 M (l0 :: l1 :: some (.int x) :: l) (.int x :: st) o := ev_go (S := (29, M, (l0 :: l1 :: some (.int x) :: l), (.int x :: st))) rfl rfl rfl
theorem s198_29 : ji_Ev C 198 29 M lv [.int x] o ↔ o = (some (.int x), M) := ev_ireti rfl rfl
theorem s199_0 : ji_Ev C 199 0 M (some (.ref a) :: l) st o ↔ ji_Ev C 199 1 M (some (.ref a) :: l) (.ref a :: st) o := ev_go (S := (1, M, (some (.ref a) :: l), (.ref a :: st))) rfl rfl rfl
theorem s199_1 : ji_Ev C 199 1 M (l0 :: some (.int x) :: l) st o ↔ ji_Ev C 199 2 M (l0 :: some (.int x) :: l) (.int x :: st) o := ev_go (S := (2, M, (l0 :: some (.int x) :: l), (.int x :: st))) rfl rfl rfl
theorem s199_2 : ji_Ev C 199 2 M lv (p0 :: .ref a :: st) o ↔ (ji_rcb M 9 (.ref a) = true ∧ ji_ok8 st) ∧ ji_evC (C 166 [.ref a, p0] M) (fun v M' => ji_Ev C 199 5 M' lv (v.toList ++ st) o) := ev_inv (k := 199) rfl cd_9_275 rfl
theorem s199_5 : ji_Ev C 199 5 M lv (.int x :: st) o ↔ if x = 0 then ji_Ev C 199 32 M lv st o else ji_Ev C 199 8 M lv st o := ev_brz (c := .eq) rfl (by decide) rfl
theorem s199_8 : ji_Ev C 199 8 M (some (.ref a) :: l) st o ↔ ji_Ev C 199 9 M (some (.ref a) :: l) (.ref a :: st) o := ev_go (S := (9, M, (some (.ref a) :: l), (.ref a :: st))) rfl rfl rfl
theorem s199_9 : ji_Ev C 199 9 M (l0 :: l1 :: some (.int x) :: l) st o ↔ ji_Ev C 199 10 M (l0 :: l1 :: some (.int x) :: l) (.int x :: st) o := ev_go (S := (10, M, (l0 :: l1 :: some (.int x) :: l), (.int x :: st))) rfl rfl rfl
theorem s199_10 : ji_Ev C 199 10 M lv st o ↔ ji_Ev C 199 11 M lv (.int 0 :: st) o := ev_go (S := (11, M, lv, (.int 0 :: st))) rfl rfl rfl
theorem s199_11 : ji_Ev C 199 11 M lv st o ↔ ji_Ev C 199 12 M lv (.int 2 :: st) o := ev_go (S := (12, M, lv, (.int 2 :: st))) rfl rfl rfl
theorem s199_12 : ji_Ev C 199 12 M lv (p2 :: p1 :: p0 :: .ref a :: st) o ↔ (ji_rcb M 9 (.ref a) = true ∧ ji_ok8 st) ∧ ji_evC (C 158 [.ref a, p0, p1, p2] M) (fun v M' => ji_Ev C 199 15 M' lv (v.toList ++ st) o) := ev_inv (k := 199) rfl cd_9_255 rfl
theorem s199_15 : ji_Ev C 199 15 M lv (.int x :: st) o ↔ if x = 0 then ji_Ev C 199 32 M lv st o else ji_Ev C 199 18 M lv st o := ev_brz (c := .eq) rfl (by decide) rfl
theorem s199_18 : ji_Ev C 199 18 M (some (.ref a) :: l) st o ↔ ji_Ev C 199 19 M (some (.ref a) :: l) (.ref a :: st) o := ev_go (S := (19, M, (some (.ref a) :: l), (.ref a :: st))) rfl rfl rfl
theorem s199_19 : ji_Ev C 199 19 M (some (.ref a) :: l) st o ↔ ji_Ev C 199 20 M (some (.ref a) :: l) (.ref a :: st) o := ev_go (S := (20, M, (some (.ref a) :: l), (.ref a :: st))) rfl rfl rfl
theorem s199_20 : ji_Ev C 199 20 M lv (.ref a :: st) o ↔ ji_kd M a = some (0, 9) ∧ ji_Ev C 199 23 M lv (.int (ji_gI M a 16) :: st) o := ev_getI (k := 199) rfl fd_9_60 rfl
theorem s199_23 : ji_Ev C 199 23 M (l0 :: some (.int x) :: l) st o ↔ ji_Ev C 199 24 M (l0 :: some (.int x) :: l) (.int x :: st) o := ev_go (S := (24, M, (l0 :: some (.int x) :: l), (.int x :: st))) rfl rfl rfl
theorem s199_24 : ji_Ev C 199 24 M (l0 :: l1 :: some (.int x) :: l) st o ↔ ji_Ev C 199 25 M (l0 :: l1 :: some (.int x) :: l) (.int x :: st) o := ev_go (S := (25, M, (l0 :: l1 :: some (.int x) :: l), (.int x :: st))) rfl rfl rfl
theorem s199_25 : ji_Ev C 199 25 M lv (p2 :: p1 :: p0 :: .ref a :: st) o ↔ (ji_rcb M 9 (.ref a) = true ∧ ji_ok8 st) ∧ ji_evC (C 171 [.ref a, p0, p1, p2] M) (fun v M' => ji_Ev C 199 28 M' lv (v.toList ++ st) o) := ev_inv (k := 199) rfl cd_9_290 rfl
theorem s199_28 : ji_Ev C 199 28 M lv (.int x :: st) o ↔ ji_Ev C 199 29 M lv (.long x.toInt64 :: st) o := ev_go (S := (29, M, lv, (.long x.toInt64 :: st))) rfl rfl rfl
theorem s199_29 : ji_Ev C 199 29 M lv st o ↔ ji_Ev C 199 35 M lv st o := ev_gt rfl (by decide) rfl
theorem s199_32 : ji_Ev C 199 32 M lv st o ↔ ji_Ev C 199 35 M lv (.long (-4611686018427387904) :: st) o := ev_go (S := (35, M, lv, (.long (-4611686018427387904) :: st))) rfl rfl rfl
theorem s199_35 : ji_Ev C 199 35 M lv [.long u] o ↔ o = (some (.long u), M) := ev_lret rfl rfl
theorem s200_0 : ji_Ev C 200 0 M (some (.ref a) :: l) st o ↔ ji_Ev C 200 1 M (some (.ref a) :: l) (.ref a :: st) o := ev_go (S := (1, M, (some (.ref a) :: l), (.ref a :: st))) rfl rfl rfl
theorem s200_1 : ji_Ev C 200 1 M (l0 :: some (.int x) :: l) st o ↔ ji_Ev C 200 2 M (l0 :: some (.int x) :: l) (.int x :: st) o := ev_go (S := (2, M, (l0 :: some (.int x) :: l), (.int x :: st))) rfl rfl rfl
theorem s200_2 : ji_Ev C 200 2 M lv st o ↔ ji_Ev C 200 3 M lv (.int 0 :: st) o := ev_go (S := (3, M, lv, (.int 0 :: st))) rfl rfl rfl
theorem s200_3 : ji_Ev C 200 3 M lv st o ↔ ji_Ev C 200 4 M lv (.int 3 :: st) o := ev_go (S := (4, M, lv, (.int 3 :: st))) rfl rfl rfl
theorem s200_4 : ji_Ev C 200 4 M lv (p2 :: p1 :: p0 :: .ref a :: st) o ↔ (ji_rcb M 9 (.ref a) = true ∧ ji_ok8 st) ∧ ji_evC (C 158 [.ref a, p0, p1, p2] M) (fun v M' => ji_Ev C 200 7 M' lv (v.toList ++ st) o) := ev_inv (k := 200) rfl cd_9_255 rfl
theorem s200_7 : ji_Ev C 200 7 M lv (.int x :: st) o ↔ if x = 0 then ji_Ev C 200 30 M lv st o else ji_Ev C 200 10 M lv st o := ev_brz (c := .eq) rfl (by decide) rfl
theorem s200_10 : ji_Ev C 200 10 M (some (.ref a) :: l) st o ↔ ji_Ev C 200 11 M (some (.ref a) :: l) (.ref a :: st) o := ev_go (S := (11, M, (some (.ref a) :: l), (.ref a :: st))) rfl rfl rfl
theorem s200_11 : ji_Ev C 200 11 M (l0 :: l1 :: some (.int x) :: l) st o ↔ ji_Ev C 200 12 M (l0 :: l1 :: some (.int x) :: l) (.int x :: st) o := ev_go (S := (12, M, (l0 :: l1 :: some (.int x) :: l), (.int x :: st))) rfl rfl rfl
theorem s200_12 : ji_Ev C 200 12 M lv st o ↔ ji_Ev C 200 13 M lv (.int 0 :: st) o := ev_go (S := (13, M, lv, (.int 0 :: st))) rfl rfl rfl
theorem s200_13 : ji_Ev C 200 13 M lv st o ↔ ji_Ev C 200 14 M lv (.int 3 :: st) o := ev_go (S := (14, M, lv, (.int 3 :: st))) rfl rfl rfl
theorem s200_14 : ji_Ev C 200 14 M lv (p2 :: p1 :: p0 :: .ref a :: st) o ↔ (ji_rcb M 9 (.ref a) = true ∧ ji_ok8 st) ∧ ji_evC (C 158 [.ref a, p0, p1, p2] M) (fun v M' => ji_Ev C 200 17 M' lv (v.toList ++ st) o) := ev_inv (k := 200) rfl cd_9_255 rfl
theorem s200_17 : ji_Ev C 200 17 M lv (.int x :: st) o ↔ if x = 0 then ji_Ev C 200 30 M lv st o else ji_Ev C 200 20 M lv st o := ev_brz (c := .eq) rfl (by decide) rfl
theorem s200_20 : ji_Ev C 200 20 M (some (.ref a) :: l) st o ↔ ji_Ev C 200 21 M (some (.ref a) :: l) (.ref a :: st) o := ev_go (S := (21, M, (some (.ref a) :: l), (.ref a :: st))) rfl rfl rfl
theorem s200_21 : ji_Ev C 200 21 M (l0 :: l1 :: l2 :: some (.int x) :: l) st o ↔ ji_Ev C 200 22 M (l0 :: l1 :: l2 :: some (.int x) :: l) (.int x :: st) o := ev_go (S := (22, M, (l0 :: l1 :: l2 :: some (.int x) :: l), (.int x :: st))) rfl rfl rfl
theorem s200_22 : ji_Ev C 200 22 M lv st o ↔ ji_Ev C 200 23 M lv (.int 0 :: st) o := ev_go (S := (23, M, lv, (.int 0 :: st))) rfl rfl rfl
theorem s200_23 : ji_Ev C 200 23 M lv st o ↔ ji_Ev C 200 24 M lv (.int 1 :: st) o := ev_go (S := (24, M, lv, (.int 1 :: st))) rfl rfl rfl
theorem s200_24 : ji_Ev C 200 24 M lv (p2 :: p1 :: p0 :: .ref a :: st) o ↔ (ji_rcb M 9 (.ref a) = true ∧ ji_ok8 st) ∧ ji_evC (C 158 [.ref a, p0, p1, p2] M) (fun v M' => ji_Ev C 200 27 M' lv (v.toList ++ st) o) := ev_inv (k := 200) rfl cd_9_255 rfl
theorem s200_27 : ji_Ev C 200 27 M lv (.int x :: st) o ↔ if x = 0 then ji_Ev C 200 30 M lv st o else ji_Ev C 200 33 M lv st o := ev_brz (c := .ne) rfl (by decide) rfl
theorem s200_30 : ji_Ev C 200 30 M lv st o ↔ ji_Ev C 200 32 M lv (.int (-2) :: st) o := ev_go (S := (32, M, lv, (.int (-2) :: st))) rfl rfl rfl
theorem s200_32 : ji_Ev C 200 32 M lv [.int x] o ↔ o = (some (.int x), M) := ev_ireti rfl rfl
theorem s200_33 : ji_Ev C 200 33 M (some (.ref a) :: l) st o ↔ ji_Ev C 200 34 M (some (.ref a) :: l) (.ref a :: st) o := ev_go (S := (34, M, (some (.ref a) :: l), (.ref a :: st))) rfl rfl rfl
theorem s200_34 : ji_Ev C 200 34 M lv (.ref a :: st) o ↔ ji_kd M a = some (0, 9) ∧ ji_Ev C 200 37 M lv (.int (ji_gI M a 33) :: st) o := ev_getI (k := 200) rfl fd_9_111 rfl
theorem s200_37 : ji_Ev C 200 37 M lv st o ↔ ji_Ev C 200 39 M lv (.int 30 :: st) o := ev_go (S := (39, M, lv, (.int 30 :: st))) rfl rfl rfl
theorem s200_39 : ji_Ev C 200 39 M lv (.int y :: .int x :: st) o ↔ if x = y then ji_Ev C 200 42 M lv st o else ji_Ev C 200 45 M lv st o := ev_brc (c := .ne) rfl (by decide) rfl
theorem s200_42 : ji_Ev C 200 42 M lv st o ↔ ji_Ev C 200 44 M lv (.int (-4) :: st) o := ev_go (S := (44, M, lv, (.int (-4) :: st))) rfl rfl rfl
theorem s200_44 : ji_Ev C 200 44 M lv [.int x] o ↔ o = (some (.int x), M) := ev_ireti rfl rfl
theorem s200_45 : ji_Ev C 200 45 M (some (.ref a) :: l) st o ↔ ji_Ev C 200 46 M (some (.ref a) :: l) (.ref a :: st) o := ev_go (S := (46, M, (some (.ref a) :: l), (.ref a :: st))) rfl rfl rfl
theorem s200_46 : ji_Ev C 200 46 M lv (.ref a :: st) o ↔ ji_kd M a = some (0, 9) ∧ ji_Ev C 200 49 M lv (ji_rv (ji_gR M a 34) :: st) o := ev_getR (k := 200) rfl fd_9_114 rfl
theorem s200_49 : ji_Ev C 200 49 M (some (.ref a) :: l) st o ↔ ji_Ev C 200 50 M (some (.ref a) :: l) (.ref a :: st) o := ev_go (S := (50, M, (some (.ref a) :: l), (.ref a :: st))) rfl rfl rfl
theorem s200_50 : ji_Ev C 200 50 M lv (.ref a :: st) o ↔ ji_kd M a = some (0, 9) ∧ ji_Ev C 200 53 M lv (.int (ji_gI M a 33) :: st) o := ev_getI (k := 200) rfl fd_9_111 rfl
theorem s200_53 : ji_Ev C 200 53 M (l0 :: some (.int x) :: l) st o ↔ ji_Ev C 200 54 M (l0 :: some (.int x) :: l) (.int x :: st) o := ev_go (S := (54, M, (l0 :: some (.int x) :: l), (.int x :: st))) rfl rfl rfl
theorem s200_54 : ji_Ev C 200 54 M lv (.int y :: .int x :: .ref a :: st) o ↔ ji_evA (ji_kd M a) (fun n => vp_in x n ∧ ji_Ev C 200 55 (ji_sI M a x.toNatClampNeg y) lv st o) := ev_iast rfl
theorem s200_55 : ji_Ev C 200 55 M (some (.ref a) :: l) st o ↔ ji_Ev C 200 56 M (some (.ref a) :: l) (.ref a :: st) o := ev_go (S := (56, M, (some (.ref a) :: l), (.ref a :: st))) rfl rfl rfl
theorem s200_56 : ji_Ev C 200 56 M lv (.ref a :: st) o ↔ ji_kd M a = some (0, 9) ∧ ji_Ev C 200 59 M lv (ji_rv (ji_gR M a 35) :: st) o := ev_getR (k := 200) rfl fd_9_117 rfl
theorem s200_59 : ji_Ev C 200 59 M (some (.ref a) :: l) st o ↔ ji_Ev C 200 60 M (some (.ref a) :: l) (.ref a :: st) o := ev_go (S := (60, M, (some (.ref a) :: l), (.ref a :: st))) rfl rfl rfl
theorem s200_60 : ji_Ev C 200 60 M lv (.ref a :: st) o ↔ ji_kd M a = some (0, 9) ∧ ji_Ev C 200 63 M lv (.int (ji_gI M a 33) :: st) o := ev_getI (k := 200) rfl fd_9_111 rfl
theorem s200_63 : ji_Ev C 200 63 M (l0 :: l1 :: some (.int x) :: l) st o ↔ ji_Ev C 200 64 M (l0 :: l1 :: some (.int x) :: l) (.int x :: st) o := ev_go (S := (64, M, (l0 :: l1 :: some (.int x) :: l), (.int x :: st))) rfl rfl rfl
theorem s200_64 : ji_Ev C 200 64 M lv (.int y :: .int x :: .ref a :: st) o ↔ ji_evA (ji_kd M a) (fun n => vp_in x n ∧ ji_Ev C 200 65 (ji_sI M a x.toNatClampNeg y) lv st o) := ev_iast rfl
theorem s200_65 : ji_Ev C 200 65 M (some (.ref a) :: l) st o ↔ ji_Ev C 200 66 M (some (.ref a) :: l) (.ref a :: st) o := ev_go (S := (66, M, (some (.ref a) :: l), (.ref a :: st))) rfl rfl rfl
theorem s200_66 : ji_Ev C 200 66 M lv (.ref a :: st) o ↔ ji_kd M a = some (0, 9) ∧ ji_Ev C 200 69 M lv (ji_rv (ji_gR M a 36) :: st) o := ev_getR (k := 200) rfl fd_9_120 rfl
theorem s200_69 : ji_Ev C 200 69 M (some (.ref a) :: l) st o ↔ ji_Ev C 200 70 M (some (.ref a) :: l) (.ref a :: st) o := ev_go (S := (70, M, (some (.ref a) :: l), (.ref a :: st))) rfl rfl rfl
theorem s200_70 : ji_Ev C 200 70 M lv (.ref a :: st) o ↔ ji_kd M a = some (0, 9) ∧ ji_Ev C 200 73 M lv (.int (ji_gI M a 33) :: st) o := ev_getI (k := 200) rfl fd_9_111 rfl
theorem s200_73 : ji_Ev C 200 73 M (l0 :: l1 :: l2 :: some (.int x) :: l) st o ↔ ji_Ev C 200 74 M (l0 :: l1 :: l2 :: some (.int x) :: l) (.int x :: st) o := ev_go (S := (74, M, (l0 :: l1 :: l2 :: some (.int x) :: l), (.int x :: st))) rfl rfl rfl
theorem s200_74 : ji_Ev C 200 74 M lv (.int y :: .int x :: .ref a :: st) o ↔ ji_evA (ji_kd M a) (fun n => vp_in x n ∧ ji_Ev C 200 75 (ji_sI M a x.toNatClampNeg y) lv st o) := ev_iast rfl
theorem s200_75 : ji_Ev C 200 75 M (some (.ref a) :: l) st o ↔ ji_Ev C 200 76 M (some (.ref a) :: l) (.ref a :: st) o := ev_go (S := (76, M, (some (.ref a) :: l), (.ref a :: st))) rfl rfl rfl
theorem s200_76 : ji_Ev C 200 76 M lv (.ref a :: st) o ↔ ji_kd M a = some (0, 9) ∧ ji_Ev C 200 79 M lv (ji_rv (ji_gR M a 37) :: st) o := ev_getR (k := 200) rfl fd_9_123 rfl
theorem s200_79 : ji_Ev C 200 79 M (some (.ref a) :: l) st o ↔ ji_Ev C 200 80 M (some (.ref a) :: l) (.ref a :: st) o := ev_go (S := (80, M, (some (.ref a) :: l), (.ref a :: st))) rfl rfl rfl
theorem s200_80 : ji_Ev C 200 80 M lv (.ref a :: st) o ↔ ji_kd M a = some (0, 9) ∧ ji_Ev C 200 83 M lv (.int (ji_gI M a 33) :: st) o := ev_getI (k := 200) rfl fd_9_111 rfl
theorem s200_83 : ji_Ev C 200 83 M (some (.ref a) :: l) st o ↔ ji_Ev C 200 84 M (some (.ref a) :: l) (.ref a :: st) o := ev_go (S := (84, M, (some (.ref a) :: l), (.ref a :: st))) rfl rfl rfl
theorem s200_84 : ji_Ev C 200 84 M lv (.ref a :: st) o ↔ ji_kd M a = some (0, 9) ∧ ji_Ev C 200 87 M lv (.int (ji_gI M a 0) :: st) o := ev_getI (k := 200) rfl fd_9_7 rfl
theorem s200_87 : ji_Ev C 200 87 M lv (.int y :: .int x :: .ref a :: st) o ↔ ji_evA (ji_kd M a) (fun n => vp_in x n ∧ ji_Ev C 200 88 (ji_sI M a x.toNatClampNeg y) lv st o) := ev_iast rfl
theorem s200_88 : ji_Ev C 200 88 M (some (.ref a) :: l) st o ↔ ji_Ev C 200 89 M (some (.ref a) :: l) (.ref a :: st) o := ev_go (S := (89, M, (some (.ref a) :: l), (.ref a :: st))) rfl rfl rfl
theorem s200_89 : ji_Ev C 200 89 M lv (.int x :: st) o ↔ ji_Ev C 200 90 M lv (.int x :: .int x :: st) o := ev_go (S := (90, M, lv, (.int x :: .int x :: st))) rfl rfl rfl
theorem s200_89r : ji_Ev C 200 89 M lv (.ref a :: st) o ↔ ji_Ev C 200 90 M lv (.ref a :: .ref a :: st) o := ev_go (S := (90, M, lv, (.ref a :: .ref a :: st))) rfl rfl rfl
theorem s200_90 : ji_Ev C 200 90 M lv (.ref a :: st) o ↔ ji_kd M a = some (0, 9) ∧ ji_Ev C 200 93 M lv (.int (ji_gI M a 33) :: st) o := ev_getI (k := 200) rfl fd_9_111 rfl
theorem s200_93 : ji_Ev C 200 93 M lv st o ↔ ji_Ev C 200 94 M lv (.int 1 :: st) o := ev_go (S := (94, M, lv, (.int 1 :: st))) rfl rfl rfl
theorem s200_94 : ji_Ev C 200 94 M lv (.int y :: .int x :: st) o ↔ ji_Ev C 200 95 M lv (.int (x + y) :: st) o := ev_go (S := (95, M, lv, (.int (x + y) :: st))) rfl rfl rfl
theorem s200_95 : ji_Ev C 200 95 M lv (.int x :: .ref a :: st) o ↔ ji_kd M a = some (0, 9) ∧ ji_Ev C 200 98 (ji_sI M a 33 x) lv st o := ev_putI (k := 200) rfl fd_9_111 rfl (by decide)
theorem s200_98 : ji_Ev C 200 98 M (some (.ref a) :: l) st o ↔ ji_Ev C 200 99 M (some (.ref a) :: l) (.ref a :: st) o := ev_go (S := (99, M, (some (.ref a) :: l), (.ref a :: st))) rfl rfl rfl
theorem s200_99 : ji_Ev C 200 99 M lv (.ref a :: st) o ↔ ji_kd M a = some (0, 9) ∧ ji_Ev C 200 102 M lv (.int (ji_gI M a 33) :: st) o := ev_getI (k := 200) rfl fd_9_111 rfl
theorem s200_102 : ji_Ev C 200 102 M lv [.int x] o ↔ o = (some (.int x), M) := ev_ireti rfl rfl
theorem s201_0 : ji_Ev C 201 0 M (some (.ref a) :: l) st o ↔ ji_Ev C 201 1 M (some (.ref a) :: l) (.ref a :: st) o := ev_go (S := (1, M, (some (.ref a) :: l), (.ref a :: st))) rfl rfl rfl
theorem s201_1 : ji_Ev C 201 1 M (l0 :: some (.int x) :: l) st o ↔ ji_Ev C 201 2 M (l0 :: some (.int x) :: l) (.int x :: st) o := ev_go (S := (2, M, (l0 :: some (.int x) :: l), (.int x :: st))) rfl rfl rfl
theorem s201_2 : ji_Ev C 201 2 M lv st o ↔ ji_Ev C 201 3 M lv (.int 0 :: st) o := ev_go (S := (3, M, lv, (.int 0 :: st))) rfl rfl rfl
theorem s201_3 : ji_Ev C 201 3 M lv st o ↔ ji_Ev C 201 4 M lv (.int 3 :: st) o := ev_go (S := (4, M, lv, (.int 3 :: st))) rfl rfl rfl
theorem s201_4 : ji_Ev C 201 4 M lv (p2 :: p1 :: p0 :: .ref a :: st) o ↔ (ji_rcb M 9 (.ref a) = true ∧ ji_ok8 st) ∧ ji_evC (C 158 [.ref a, p0, p1, p2] M) (fun v M' => ji_Ev C 201 7 M' lv (v.toList ++ st) o) := ev_inv (k := 201) rfl cd_9_255 rfl
theorem s201_7 : ji_Ev C 201 7 M lv (.int x :: st) o ↔ if x = 0 then ji_Ev C 201 33 M lv st o else ji_Ev C 201 10 M lv st o := ev_brz (c := .eq) rfl (by decide) rfl
theorem s201_10 : ji_Ev C 201 10 M (some (.ref a) :: l) st o ↔ ji_Ev C 201 11 M (some (.ref a) :: l) (.ref a :: st) o := ev_go (S := (11, M, (some (.ref a) :: l), (.ref a :: st))) rfl rfl rfl
theorem s201_11 : ji_Ev C 201 11 M (l0 :: l1 :: some (.int x) :: l) st o ↔ ji_Ev C 201 12 M (l0 :: l1 :: some (.int x) :: l) (.int x :: st) o := ev_go (S := (12, M, (l0 :: l1 :: some (.int x) :: l), (.int x :: st))) rfl rfl rfl
theorem s201_12 : ji_Ev C 201 12 M lv st o ↔ ji_Ev C 201 13 M lv (.int 0 :: st) o := ev_go (S := (13, M, lv, (.int 0 :: st))) rfl rfl rfl
theorem s201_13 : ji_Ev C 201 13 M lv st o ↔ ji_Ev C 201 14 M lv (.int 3 :: st) o := ev_go (S := (14, M, lv, (.int 3 :: st))) rfl rfl rfl
theorem s201_14 : ji_Ev C 201 14 M lv (p2 :: p1 :: p0 :: .ref a :: st) o ↔ (ji_rcb M 9 (.ref a) = true ∧ ji_ok8 st) ∧ ji_evC (C 158 [.ref a, p0, p1, p2] M) (fun v M' => ji_Ev C 201 17 M' lv (v.toList ++ st) o) := ev_inv (k := 201) rfl cd_9_255 rfl
theorem s201_17 : ji_Ev C 201 17 M lv (.int x :: st) o ↔ if x = 0 then ji_Ev C 201 33 M lv st o else ji_Ev C 201 20 M lv st o := ev_brz (c := .eq) rfl (by decide) rfl
theorem s201_20 : ji_Ev C 201 20 M (some (.ref a) :: l) st o ↔ ji_Ev C 201 21 M (some (.ref a) :: l) (.ref a :: st) o := ev_go (S := (21, M, (some (.ref a) :: l), (.ref a :: st))) rfl rfl rfl
theorem s201_21 : ji_Ev C 201 21 M (l0 :: l1 :: l2 :: some (.int x) :: l) st o ↔ ji_Ev C 201 22 M (l0 :: l1 :: l2 :: some (.int x) :: l) (.int x :: st) o := ev_go (S := (22, M, (l0 :: l1 :: l2 :: some (.int x) :: l), (.int x :: st))) rfl rfl rfl
theorem s201_22 : ji_Ev C 201 22 M lv st o ↔ ji_Ev C 201 23 M lv (.int 0 :: st) o := ev_go (S := (23, M, lv, (.int 0 :: st))) rfl rfl rfl
theorem s201_23 : ji_Ev C 201 23 M (some (.ref a) :: l) st o ↔ ji_Ev C 201 24 M (some (.ref a) :: l) (.ref a :: st) o := ev_go (S := (24, M, (some (.ref a) :: l), (.ref a :: st))) rfl rfl rfl
theorem s201_24 : ji_Ev C 201 24 M lv (.ref a :: st) o ↔ ji_kd M a = some (0, 9) ∧ ji_Ev C 201 27 M lv (.int (ji_gI M a 0) :: st) o := ev_getI (k := 201) rfl fd_9_7 rfl
theorem s201_27 : ji_Ev C 201 27 M lv (p2 :: p1 :: p0 :: .ref a :: st) o ↔ (ji_rcb M 9 (.ref a) = true ∧ ji_ok8 st) ∧ ji_evC (C 158 [.ref a, p0, p1, p2] M) (fun v M' => ji_Ev C 201 30 M' lv (v.toList ++ st) o) := ev_inv (k := 201) rfl cd_9_255 rfl
theorem s201_30 : ji_Ev C 201 30 M lv (.int x :: st) o ↔ if x = 0 then ji_Ev C 201 33 M lv st o else ji_Ev C 201 36 M lv st o := ev_brz (c := .ne) rfl (by decide) rfl
theorem s201_33 : ji_Ev C 201 33 M lv st o ↔ ji_Ev C 201 35 M lv (.int (-2) :: st) o := ev_go (S := (35, M, lv, (.int (-2) :: st))) rfl rfl rfl
theorem s201_35 : ji_Ev C 201 35 M lv [.int x] o ↔ o = (some (.int x), M) := ev_ireti rfl rfl
theorem s201_36 : ji_Ev C 201 36 M (some (.ref a) :: l) st o ↔ ji_Ev C 201 37 M (some (.ref a) :: l) (.ref a :: st) o := ev_go (S := (37, M, (some (.ref a) :: l), (.ref a :: st))) rfl rfl rfl
theorem s201_37 : ji_Ev C 201 37 M (l0 :: some (.int x) :: l) st o ↔ ji_Ev C 201 38 M (l0 :: some (.int x) :: l) (.int x :: st) o := ev_go (S := (38, M, (l0 :: some (.int x) :: l), (.int x :: st))) rfl rfl rfl
theorem s201_38 : ji_Ev C 201 38 M (l0 :: l1 :: some (.int x) :: l) st o ↔ ji_Ev C 201 39 M (l0 :: l1 :: some (.int x) :: l) (.int x :: st) o := ev_go (S := (39, M, (l0 :: l1 :: some (.int x) :: l), (.int x :: st))) rfl rfl rfl
theorem s201_39 : ji_Ev C 201 39 M (l0 :: l1 :: l2 :: some (.int x) :: l) st o ↔ ji_Ev C 201 40 M (l0 :: l1 :: l2 :: some (.int x) :: l) (.int x :: st) o := ev_go (S := (40, M, (l0 :: l1 :: l2 :: some (.int x) :: l), (.int x :: st))) rfl rfl rfl
theorem s201_40 : ji_Ev C 201 40 M lv (p2 :: p1 :: p0 :: .ref a :: st) o ↔ (ji_rcb M 9 (.ref a) = true ∧ ji_ok8 st) ∧ ji_evC (C 187 [.ref a, p0, p1, p2] M) (fun v M' => ji_Ev C 201 43 M' lv (v.toList ++ st) o) := ev_inv (k := 201) rfl cd_9_294 rfl
theorem s201_43 : ji_Ev C 201 43 M lv (.int x :: st) o ↔ if x = 0 then ji_Ev C 201 50 M lv st o else ji_Ev C 201 46 M lv st o := ev_brz (c := .eq) rfl (by decide) rfl
theorem s201_46 : ji_Ev C 201 46 M lv st o ↔ ji_Ev C 201 47 M lv (.int 1 :: st) o := ev_go (S := (47, M, lv, (.int 1 :: st))) rfl rfl rfl
theorem s201_47 : ji_Ev C 201 47 M lv st o ↔ ji_Ev C 201 51 M lv st o := ev_gt rfl (by decide) rfl
theorem s201_50 : ji_Ev C 201 50 M lv st o ↔ ji_Ev C 201 51 M lv (.int 0 :: st) o := ev_go (S := (51, M, lv, (.int 0 :: st))) rfl rfl rfl
theorem s201_51 : ji_Ev C 201 51 M lv [.int x] o ↔ o = (some (.int x), M) := ev_ireti rfl rfl
theorem s202_0 : ji_Ev C 202 0 M lv st o ↔ ji_Ev C 202 1 M lv (.int 0 :: st) o := ev_go (S := (1, M, lv, (.int 0 :: st))) rfl rfl rfl
theorem s202_1 : ji_Ev C 202 1 M lv (.int x :: st) o ↔ 4 < lv.length ∧ ji_Ev C 202 3 M (ji_s1 lv 4 (.int x)) st o := ev_stI rfl rfl rfl
theorem s202_3 : ji_Ev C 202 3 M (l0 :: some (.int x) :: l) st o ↔ ji_Ev C 202 4 M (l0 :: some (.int x) :: l) (.int x :: st) o := ev_go (S := (4, M, (l0 :: some (.int x) :: l), (.int x :: st))) rfl rfl rfl
theorem s202_4 : ji_Ev C 202 4 M lv (.int x :: st) o ↔ if x < 0 then ji_Ev C 202 27 M lv st o else ji_Ev C 202 7 M lv st o := ev_brz (c := .lt) rfl (by decide) rfl
theorem s202_7 : ji_Ev C 202 7 M (l0 :: some (.int x) :: l) st o ↔ ji_Ev C 202 8 M (l0 :: some (.int x) :: l) (.int x :: st) o := ev_go (S := (8, M, (l0 :: some (.int x) :: l), (.int x :: st))) rfl rfl rfl
theorem s202_8 : ji_Ev C 202 8 M (some (.ref a) :: l) st o ↔ ji_Ev C 202 9 M (some (.ref a) :: l) (.ref a :: st) o := ev_go (S := (9, M, (some (.ref a) :: l), (.ref a :: st))) rfl rfl rfl
theorem s202_9 : ji_Ev C 202 9 M lv (.ref a :: st) o ↔ ji_kd M a = some (0, 9) ∧ ji_Ev C 202 12 M lv (.int (ji_gI M a 4) :: st) o := ev_getI (k := 202) rfl fd_9_22 rfl
theorem s202_12 : ji_Ev C 202 12 M lv (.int y :: .int x :: st) o ↔ ji_Ev C 202 13 M lv (.int (x >>> (y &&& 31)) :: st) o := ev_go (S := (13, M, lv, (.int (x >>> (y &&& 31)) :: st))) rfl rfl rfl
theorem s202_13 : ji_Ev C 202 13 M lv (.int x :: st) o ↔ if x = 0 then ji_Ev C 202 16 M lv st o else ji_Ev C 202 27 M lv st o := ev_brz (c := .ne) rfl (by decide) rfl
theorem s202_16 : ji_Ev C 202 16 M (some (.ref a) :: l) st o ↔ ji_Ev C 202 17 M (some (.ref a) :: l) (.ref a :: st) o := ev_go (S := (17, M, (some (.ref a) :: l), (.ref a :: st))) rfl rfl rfl
theorem s202_17 : ji_Ev C 202 17 M (l0 :: l1 :: some (.int x) :: l) st o ↔ ji_Ev C 202 18 M (l0 :: l1 :: some (.int x) :: l) (.int x :: st) o := ev_go (S := (18, M, (l0 :: l1 :: some (.int x) :: l), (.int x :: st))) rfl rfl rfl
theorem s202_18 : ji_Ev C 202 18 M lv st o ↔ ji_Ev C 202 19 M lv (.int 1 :: st) o := ev_go (S := (19, M, lv, (.int 1 :: st))) rfl rfl rfl
theorem s202_19 : ji_Ev C 202 19 M lv st o ↔ ji_Ev C 202 21 M lv (.int 24 :: st) o := ev_go (S := (21, M, lv, (.int 24 :: st))) rfl rfl rfl
theorem s202_21 : ji_Ev C 202 21 M lv (p2 :: p1 :: p0 :: .ref a :: st) o ↔ (ji_rcb M 9 (.ref a) = true ∧ ji_ok8 st) ∧ ji_evC (C 158 [.ref a, p0, p1, p2] M) (fun v M' => ji_Ev C 202 24 M' lv (v.toList ++ st) o) := ev_inv (k := 202) rfl cd_9_255 rfl
theorem s202_24 : ji_Ev C 202 24 M lv (.int x :: st) o ↔ if x = 0 then ji_Ev C 202 27 M lv st o else ji_Ev C 202 30 M lv st o := ev_brz (c := .ne) rfl (by decide) rfl
theorem s202_27 : ji_Ev C 202 27 M lv st o ↔ ji_Ev C 202 29 M lv (.int (-2) :: st) o := ev_go (S := (29, M, lv, (.int (-2) :: st))) rfl rfl rfl
theorem s202_29 : ji_Ev C 202 29 M lv [.int x] o ↔ o = (some (.int x), M) := ev_ireti rfl rfl
theorem s202_30 : ji_Ev C 202 30 M lv st o ↔ ji_Ev C 202 31 M lv (.int 0 :: st) o := ev_go (S := (31, M, lv, (.int 0 :: st))) rfl rfl rfl
theorem s202_31 : ji_Ev C 202 31 M lv (.int x :: st) o ↔ 5 < lv.length ∧ ji_Ev C 202 33 M (ji_s1 lv 5 (.int x)) st o := ev_stI rfl rfl rfl
theorem s202_33 : ji_Ev C 202 33 M (l0 :: l1 :: l2 :: l3 :: l4 :: some (.int x) :: l) st o ↔ ji_Ev C 202 35 M (l0 :: l1 :: l2 :: l3 :: l4 :: some (.int x) :: l) (.int x :: st) o := ev_go (S := (35, M, (l0 :: l1 :: l2 :: l3 :: l4 :: some (.int x) :: l), (.int x :: st))) rfl rfl rfl
theorem s202_35 : ji_Ev C 202 35 M (some (.ref a) :: l) st o ↔ ji_Ev C 202 36 M (some (.ref a) :: l) (.ref a :: st) o := ev_go (S := (36, M, (some (.ref a) :: l), (.ref a :: st))) rfl rfl rfl
theorem s202_36 : ji_Ev C 202 36 M lv (.ref a :: st) o ↔ ji_kd M a = some (0, 9) ∧ ji_Ev C 202 39 M lv (.int (ji_gI M a 4) :: st) o := ev_getI (k := 202) rfl fd_9_22 rfl
theorem s202_39 : ji_Ev C 202 39 M lv (.int y :: .int x :: st) o ↔ if x < y then ji_Ev C 202 42 M lv st o else ji_Ev C 202 81 M lv st o := ev_brc (c := .ge) rfl (by decide) rfl
theorem s202_42 : ji_Ev C 202 42 M (l0 :: some (.int x) :: l) st o ↔ ji_Ev C 202 43 M (l0 :: some (.int x) :: l) (.int x :: st) o := ev_go (S := (43, M, (l0 :: some (.int x) :: l), (.int x :: st))) rfl rfl rfl
theorem s202_43 : ji_Ev C 202 43 M (l0 :: l1 :: l2 :: l3 :: l4 :: some (.int x) :: l) st o ↔ ji_Ev C 202 45 M (l0 :: l1 :: l2 :: l3 :: l4 :: some (.int x) :: l) (.int x :: st) o := ev_go (S := (45, M, (l0 :: l1 :: l2 :: l3 :: l4 :: some (.int x) :: l), (.int x :: st))) rfl rfl rfl
theorem s202_45 : ji_Ev C 202 45 M lv (.int y :: .int x :: st) o ↔ ji_Ev C 202 46 M lv (.int (x >>> (y &&& 31)) :: st) o := ev_go (S := (46, M, lv, (.int (x >>> (y &&& 31)) :: st))) rfl rfl rfl
theorem s202_46 : ji_Ev C 202 46 M lv st o ↔ ji_Ev C 202 47 M lv (.int 1 :: st) o := ev_go (S := (47, M, lv, (.int 1 :: st))) rfl rfl rfl
theorem s202_47 : ji_Ev C 202 47 M lv (.int y :: .int x :: st) o ↔ ji_Ev C 202 48 M lv (.int (x &&& y) :: st) o := ev_go (S := (48, M, lv, (.int (x &&& y) :: st))) rfl rfl rfl
theorem s202_48 : ji_Ev C 202 48 M lv (.int x :: st) o ↔ if x = 0 then ji_Ev C 202 51 M lv st o else ji_Ev C 202 54 M lv st o := ev_brz (c := .ne) rfl (by decide) rfl
theorem s202_51 : ji_Ev C 202 51 M lv st o ↔ ji_Ev C 202 75 M lv st o := ev_gt rfl (by decide) rfl
theorem s202_54 : ji_Ev C 202 54 M (l0 :: l1 :: l2 :: l3 :: some (.int x) :: l) st o ↔ ji_Ev C 202 56 M (l0 :: l1 :: l2 :: l3 :: some (.int x) :: l) (.int x :: st) o := ev_go (S := (56, M, (l0 :: l1 :: l2 :: l3 :: some (.int x) :: l), (.int x :: st))) rfl rfl rfl
theorem s202_56 : ji_Ev C 202 56 M lv st o ↔ ji_Ev C 202 57 M lv (.int 5 :: st) o := ev_go (S := (57, M, lv, (.int 5 :: st))) rfl rfl rfl
theorem s202_57 : ji_Ev C 202 57 M lv (.int y :: .int x :: st) o ↔ if x = y then ji_Ev C 202 60 M lv st o else ji_Ev C 202 63 M lv st o := ev_brc (c := .ne) rfl (by decide) rfl
theorem s202_60 : ji_Ev C 202 60 M lv st o ↔ ji_Ev C 202 62 M lv (.int (-2) :: st) o := ev_go (S := (62, M, lv, (.int (-2) :: st))) rfl rfl rfl
theorem s202_62 : ji_Ev C 202 62 M lv [.int x] o ↔ o = (some (.int x), M) := ev_ireti rfl rfl
theorem s202_63 : ji_Ev C 202 63 M (some (.ref a) :: l) st o ↔ ji_Ev C 202 64 M (some (.ref a) :: l) (.ref a :: st) o := ev_go (S := (64, M, (some (.ref a) :: l), (.ref a :: st))) rfl rfl rfl
theorem s202_64 : ji_Ev C 202 64 M lv (.ref a :: st) o ↔ ji_kd M a = some (0, 9) ∧ ji_Ev C 202 67 M lv (ji_rv (ji_gR M a 44) :: st) o := ev_getR (k := 202) rfl fd_9_144 rfl
theorem s202_67 : ji_Ev C 202 67 M (l0 :: l1 :: l2 :: l3 :: some (.int x) :: l) st o ↔ ji_Ev C 202 69 M (l0 :: l1 :: l2 :: l3 :: some (.int x) :: l) (.int x :: st) o := ev_go (S := (69, M, (l0 :: l1 :: l2 :: l3 :: some (.int x) :: l), (.int x :: st))) rfl rfl rfl
theorem s202_69 : ji_Ev C 202 69 M (l0 :: l1 :: l2 :: l3 :: l4 :: some (.int x) :: l) st o ↔ ji_Ev C 202 71 M (l0 :: l1 :: l2 :: l3 :: l4 :: some (.int x) :: l) (.int x :: st) o := ev_go (S := (71, M, (l0 :: l1 :: l2 :: l3 :: l4 :: some (.int x) :: l), (.int x :: st))) rfl rfl rfl
theorem s202_71 : ji_Ev C 202 71 M lv (.int y :: .int x :: .ref a :: st) o ↔ ji_evA (ji_kd M a) (fun n => vp_in x n ∧ ji_Ev C 202 72 (ji_sI M a x.toNatClampNeg y) lv st o) := ev_iast rfl
theorem s202_72 : ji_Ev C 202 72 M lv st o ↔ ji_evL (lv.getD 4 none) ji_isI (fun v => match v with | .int x => 4 < lv.length ∧ ji_Ev C 202 75 M (ji_s1 lv 4 (.int (x + Int32.ofInt 1))) st o | _ => False) := ev_iinc rfl
theorem s202_75 : ji_Ev C 202 75 M lv st o ↔ ji_evL (lv.getD 5 none) ji_isI (fun v => match v with | .int x => 5 < lv.length ∧ ji_Ev C 202 78 M (ji_s1 lv 5 (.int (x + Int32.ofInt 1))) st o | _ => False) := ev_iinc rfl
theorem s202_78 : ji_Ev C 202 78 M lv st o ↔ ji_Ev C 202 33 M lv st o := ev_gt rfl (by decide) rfl
theorem s202_81 : ji_Ev C 202 81 M (some (.ref a) :: l) st o ↔ ji_Ev C 202 82 M (some (.ref a) :: l) (.ref a :: st) o := ev_go (S := (82, M, (some (.ref a) :: l), (.ref a :: st))) rfl rfl rfl
theorem s202_82 : ji_Ev C 202 82 M lv (.ref a :: st) o ↔ ji_kd M a = some (0, 9) ∧ ji_Ev C 202 85 M lv (.int (ji_gI M a 0) :: st) o := ev_getI (k := 202) rfl fd_9_7 rfl
theorem s202_85 : ji_Ev C 202 85 M (l0 :: l1 :: l2 :: l3 :: some (.int x) :: l) st o ↔ ji_Ev C 202 87 M (l0 :: l1 :: l2 :: l3 :: some (.int x) :: l) (.int x :: st) o := ev_go (S := (87, M, (l0 :: l1 :: l2 :: l3 :: some (.int x) :: l), (.int x :: st))) rfl rfl rfl
theorem s202_87 : ji_Ev C 202 87 M (l0 :: l1 :: some (.int x) :: l) st o ↔ ji_Ev C 202 88 M (l0 :: l1 :: some (.int x) :: l) (.int x :: st) o := ev_go (S := (88, M, (l0 :: l1 :: some (.int x) :: l), (.int x :: st))) rfl rfl rfl
theorem s202_88 : ji_Ev C 202 88 M lv (.int y :: .int x :: st) o ↔ ji_Ev C 202 89 M lv (.int (x * y) :: st) o := ev_go (S := (89, M, lv, (.int (x * y) :: st))) rfl rfl rfl
theorem s202_89 : ji_Ev C 202 89 M lv (.int y :: .int x :: st) o ↔ ji_Ev C 202 90 M lv (.int (x + y) :: st) o := ev_go (S := (90, M, lv, (.int (x + y) :: st))) rfl rfl rfl
theorem s202_90 : ji_Ev C 202 90 M lv st o ↔ ji_Ev C 202 93 M lv (.int 999 :: st) o := ev_go (S := (93, M, lv, (.int 999 :: st))) rfl rfl rfl
theorem s202_93 : ji_Ev C 202 93 M lv (.int y :: .int x :: st) o ↔ if y < x then ji_Ev C 202 96 M lv st o else ji_Ev C 202 99 M lv st o := ev_brc (c := .le) rfl (by decide) rfl
theorem s202_96 : ji_Ev C 202 96 M lv st o ↔ ji_Ev C 202 98 M lv (.int (-4) :: st) o := ev_go (S := (98, M, lv, (.int (-4) :: st))) rfl rfl rfl
theorem s202_98 : ji_Ev C 202 98 M lv [.int x] o ↔ o = (some (.int x), M) := ev_ireti rfl rfl
theorem s202_99 : ji_Ev C 202 99 M (some (.ref a) :: l) st o ↔ ji_Ev C 202 100 M (some (.ref a) :: l) (.ref a :: st) o := ev_go (S := (100, M, (some (.ref a) :: l), (.ref a :: st))) rfl rfl rfl
theorem s202_100 : ji_Ev C 202 100 M (l0 :: l1 :: l2 :: some (.int x) :: l) st o ↔ ji_Ev C 202 101 M (l0 :: l1 :: l2 :: some (.int x) :: l) (.int x :: st) o := ev_go (S := (101, M, (l0 :: l1 :: l2 :: some (.int x) :: l), (.int x :: st))) rfl rfl rfl
theorem s202_101 : ji_Ev C 202 101 M lv st o ↔ ji_Ev C 202 102 M lv (.int (-1) :: st) o := ev_go (S := (102, M, lv, (.int (-1) :: st))) rfl rfl rfl
theorem s202_102 : ji_Ev C 202 102 M (l0 :: l1 :: l2 :: l3 :: some (.int x) :: l) st o ↔ ji_Ev C 202 104 M (l0 :: l1 :: l2 :: l3 :: some (.int x) :: l) (.int x :: st) o := ev_go (S := (104, M, (l0 :: l1 :: l2 :: l3 :: some (.int x) :: l), (.int x :: st))) rfl rfl rfl
theorem s202_104 : ji_Ev C 202 104 M lv st o ↔ ji_Ev C 202 105 M lv (.int 1 :: st) o := ev_go (S := (105, M, lv, (.int 1 :: st))) rfl rfl rfl
theorem s202_105 : ji_Ev C 202 105 M lv (.int y :: .int x :: st) o ↔ ji_Ev C 202 106 M lv (.int (x - y) :: st) o := ev_go (S := (106, M, lv, (.int (x - y) :: st))) rfl rfl rfl
theorem s202_106 : ji_Ev C 202 106 M lv (p2 :: p1 :: p0 :: .ref a :: st) o ↔ (ji_rcb M 9 (.ref a) = true ∧ ji_ok8 st) ∧ ji_evC (C 158 [.ref a, p0, p1, p2] M) (fun v M' => ji_Ev C 202 109 M' lv (v.toList ++ st) o) := ev_inv (k := 202) rfl cd_9_255 rfl
theorem s202_109 : ji_Ev C 202 109 M lv (.int x :: st) o ↔ if x = 0 then ji_Ev C 202 112 M lv st o else ji_Ev C 202 114 M lv st o := ev_brz (c := .ne) rfl (by decide) rfl
theorem s202_112 : ji_Ev C 202 112 M lv st o ↔ ji_Ev C 202 113 M lv (.int (-1) :: st) o := ev_go (S := (113, M, lv, (.int (-1) :: st))) rfl rfl rfl
theorem s202_113 : ji_Ev C 202 113 M lv [.int x] o ↔ o = (some (.int x), M) := ev_ireti rfl rfl
theorem s202_114 : ji_Ev C 202 114 M lv st o ↔ ji_Ev C 202 115 M lv (.int 1 :: st) o := ev_go (S := (115, M, lv, (.int 1 :: st))) rfl rfl rfl
theorem s202_115 : ji_Ev C 202 115 M lv (.int x :: st) o ↔ 5 < lv.length ∧ ji_Ev C 202 117 M (ji_s1 lv 5 (.int x)) st o := ev_stI rfl rfl rfl
theorem s202_117 : ji_Ev C 202 117 M lv st o ↔ ji_Ev C 202 118 M lv (.int 2 :: st) o := ev_go (S := (118, M, lv, (.int 2 :: st))) rfl rfl rfl
theorem s202_118 : ji_Ev C 202 118 M lv (.int x :: st) o ↔ 6 < lv.length ∧ ji_Ev C 202 120 M (ji_s1 lv 6 (.int x)) st o := ev_stI rfl rfl rfl
theorem s202_120 : ji_Ev C 202 120 M (l0 :: l1 :: l2 :: l3 :: l4 :: l5 :: some (.int x) :: l) st o ↔ ji_Ev C 202 122 M (l0 :: l1 :: l2 :: l3 :: l4 :: l5 :: some (.int x) :: l) (.int x :: st) o := ev_go (S := (122, M, (l0 :: l1 :: l2 :: l3 :: l4 :: l5 :: some (.int x) :: l), (.int x :: st))) rfl rfl rfl
theorem s202_122 : ji_Ev C 202 122 M (l0 :: l1 :: l2 :: l3 :: some (.int x) :: l) st o ↔ ji_Ev C 202 124 M (l0 :: l1 :: l2 :: l3 :: some (.int x) :: l) (.int x :: st) o := ev_go (S := (124, M, (l0 :: l1 :: l2 :: l3 :: some (.int x) :: l), (.int x :: st))) rfl rfl rfl
theorem s202_124 : ji_Ev C 202 124 M lv (.int y :: .int x :: st) o ↔ if y < x then ji_Ev C 202 140 M lv st o else ji_Ev C 202 127 M lv st o := ev_brc (c := .gt) rfl (by decide) rfl
theorem s202_127 : ji_Ev C 202 127 M (l0 :: l1 :: l2 :: l3 :: l4 :: some (.int x) :: l) st o ↔ ji_Ev C 202 129 M (l0 :: l1 :: l2 :: l3 :: l4 :: some (.int x) :: l) (.int x :: st) o := ev_go (S := (129, M, (l0 :: l1 :: l2 :: l3 :: l4 :: some (.int x) :: l), (.int x :: st))) rfl rfl rfl
theorem s202_129 : ji_Ev C 202 129 M (l0 :: l1 :: l2 :: l3 :: l4 :: l5 :: some (.int x) :: l) st o ↔ ji_Ev C 202 131 M (l0 :: l1 :: l2 :: l3 :: l4 :: l5 :: some (.int x) :: l) (.int x :: st) o := ev_go (S := (131, M, (l0 :: l1 :: l2 :: l3 :: l4 :: l5 :: some (.int x) :: l), (.int x :: st))) rfl rfl rfl
theorem s202_131 : ji_Ev C 202 131 M lv (.int y :: .int x :: st) o ↔ ji_Ev C 202 132 M lv (.int (x * y) :: st) o := ev_go (S := (132, M, lv, (.int (x * y) :: st))) rfl rfl rfl
theorem s202_132 : ji_Ev C 202 132 M lv (.int x :: st) o ↔ 5 < lv.length ∧ ji_Ev C 202 134 M (ji_s1 lv 5 (.int x)) st o := ev_stI rfl rfl rfl
theorem s202_134 : ji_Ev C 202 134 M lv st o ↔ ji_evL (lv.getD 6 none) ji_isI (fun v => match v with | .int x => 6 < lv.length ∧ ji_Ev C 202 137 M (ji_s1 lv 6 (.int (x + Int32.ofInt 1))) st o | _ => False) := ev_iinc rfl
theorem s202_137 : ji_Ev C 202 137 M lv st o ↔ ji_Ev C 202 120 M lv st o := ev_gt rfl (by decide) rfl
theorem s202_140 : ji_Ev C 202 140 M lv st o ↔ ji_Ev C 202 143 M lv (.long (-1) :: st) o := ev_go (S := (143, M, lv, (.long (-1) :: st))) rfl rfl rfl
theorem s202_143 : ji_Ev C 202 143 M lv (.long u :: st) o ↔ 7 < lv.length ∧ ji_Ev C 202 145 M (ji_s2 lv 6 (.long u)) st o := ev_stL rfl rfl rfl
theorem s202_145 : ji_Ev C 202 145 M lv st o ↔ ji_Ev C 202 146 M lv (.int 0 :: st) o := ev_go (S := (146, M, lv, (.int 0 :: st))) rfl rfl rfl
theorem s202_146 : ji_Ev C 202 146 M lv (.int x :: st) o ↔ 8 < lv.length ∧ ji_Ev C 202 148 M (ji_s1 lv 8 (.int x)) st o := ev_stI rfl rfl rfl
theorem s202_148 : ji_Ev C 202 148 M (l0 :: l1 :: l2 :: l3 :: l4 :: l5 :: l6 :: l7 :: some (.int x) :: l) st o ↔ ji_Ev C 202 150 M (l0 :: l1 :: l2 :: l3 :: l4 :: l5 :: l6 :: l7 :: some (.int x) :: l) (.int x :: st) o := ev_go (S := (150, M, (l0 :: l1 :: l2 :: l3 :: l4 :: l5 :: l6 :: l7 :: some (.int x) :: l), (.int x :: st))) rfl rfl rfl
theorem s202_150 : ji_Ev C 202 150 M (l0 :: l1 :: l2 :: l3 :: l4 :: some (.int x) :: l) st o ↔ ji_Ev C 202 152 M (l0 :: l1 :: l2 :: l3 :: l4 :: some (.int x) :: l) (.int x :: st) o := ev_go (S := (152, M, (l0 :: l1 :: l2 :: l3 :: l4 :: some (.int x) :: l), (.int x :: st))) rfl rfl rfl
theorem s202_152 : ji_Ev C 202 152 M lv (.int y :: .int x :: st) o ↔ if x < y then ji_Ev C 202 155 M lv st o else ji_Ev C 202 230 M lv st o := ev_brc (c := .ge) rfl (by decide) rfl
theorem s202_155 : ji_Ev C 202 155 M (some (.ref a) :: l) st o ↔ ji_Ev C 202 156 M (some (.ref a) :: l) (.ref a :: st) o := ev_go (S := (156, M, (some (.ref a) :: l), (.ref a :: st))) rfl rfl rfl
theorem s202_156 : ji_Ev C 202 156 M (l0 :: l1 :: l2 :: l3 :: l4 :: l5 :: l6 :: l7 :: some (.int x) :: l) st o ↔ ji_Ev C 202 158 M (l0 :: l1 :: l2 :: l3 :: l4 :: l5 :: l6 :: l7 :: some (.int x) :: l) (.int x :: st) o := ev_go (S := (158, M, (l0 :: l1 :: l2 :: l3 :: l4 :: l5 :: l6 :: l7 :: some (.int x) :: l), (.int x :: st))) rfl rfl rfl
theorem s202_158 : ji_Ev C 202 158 M (l0 :: l1 :: l2 :: l3 :: some (.int x) :: l) st o ↔ ji_Ev C 202 160 M (l0 :: l1 :: l2 :: l3 :: some (.int x) :: l) (.int x :: st) o := ev_go (S := (160, M, (l0 :: l1 :: l2 :: l3 :: some (.int x) :: l), (.int x :: st))) rfl rfl rfl
theorem s202_160 : ji_Ev C 202 160 M lv (p1 :: p0 :: .ref a :: st) o ↔ (ji_rcb M 9 (.ref a) = true ∧ ji_ok8 st) ∧ ji_evC (C 203 [.ref a, p0, p1] M) (fun v M' => ji_Ev C 202 163 M' lv (v.toList ++ st) o) := ev_inv (k := 202) rfl cd_9_396 rfl
theorem s202_163 : ji_Ev C 202 163 M (some (.ref a) :: l) st o ↔ ji_Ev C 202 164 M (some (.ref a) :: l) (.ref a :: st) o := ev_go (S := (164, M, (some (.ref a) :: l), (.ref a :: st))) rfl rfl rfl
theorem s202_164 : ji_Ev C 202 164 M (l0 :: l1 :: l2 :: l3 :: some (.int x) :: l) st o ↔ ji_Ev C 202 166 M (l0 :: l1 :: l2 :: l3 :: some (.int x) :: l) (.int x :: st) o := ev_go (S := (166, M, (l0 :: l1 :: l2 :: l3 :: some (.int x) :: l), (.int x :: st))) rfl rfl rfl
theorem s202_166 : ji_Ev C 202 166 M (l0 :: l1 :: some (.int x) :: l) st o ↔ ji_Ev C 202 167 M (l0 :: l1 :: some (.int x) :: l) (.int x :: st) o := ev_go (S := (167, M, (l0 :: l1 :: some (.int x) :: l), (.int x :: st))) rfl rfl rfl
theorem s202_167 : ji_Ev C 202 167 M lv (p1 :: p0 :: .ref a :: st) o ↔ (ji_rcb M 9 (.ref a) = true ∧ ji_ok8 st) ∧ ji_evC (C 204 [.ref a, p0, p1] M) (fun v M' => ji_Ev C 202 170 M' lv (v.toList ++ st) o) := ev_inv (k := 202) rfl cd_9_400 rfl
theorem s202_170 : ji_Ev C 202 170 M lv (.long u :: st) o ↔ 10 < lv.length ∧ ji_Ev C 202 172 M (ji_s2 lv 9 (.long u)) st o := ev_stL rfl rfl rfl
theorem s202_172 : ji_Ev C 202 172 M (l0 :: l1 :: l2 :: l3 :: l4 :: l5 :: some (.long u) :: l) st o ↔ ji_Ev C 202 174 M (l0 :: l1 :: l2 :: l3 :: l4 :: l5 :: some (.long u) :: l) (.long u :: st) o := ev_go (S := (174, M, (l0 :: l1 :: l2 :: l3 :: l4 :: l5 :: some (.long u) :: l), (.long u :: st))) rfl rfl rfl
theorem s202_174 : ji_Ev C 202 174 M lv st o ↔ ji_Ev C 202 175 M lv (.long 0 :: st) o := ev_go (S := (175, M, lv, (.long 0 :: st))) rfl rfl rfl
theorem s202_175 : ji_Ev C 202 175 M lv (.long v :: .long u :: st) o ↔ ji_Ev C 202 176 M lv (.int (lg_cmp u v) :: st) o := ev_go (S := (176, M, lv, (.int (lg_cmp u v) :: st))) rfl rfl rfl
theorem s202_176 : ji_Ev C 202 176 M lv (.int x :: st) o ↔ if x < 0 then ji_Ev C 202 190 M lv st o else ji_Ev C 202 179 M lv st o := ev_brz (c := .lt) rfl (by decide) rfl
theorem s202_179 : ji_Ev C 202 179 M (l0 :: l1 :: l2 :: l3 :: l4 :: l5 :: l6 :: l7 :: l8 :: some (.long u) :: l) st o ↔ ji_Ev C 202 181 M (l0 :: l1 :: l2 :: l3 :: l4 :: l5 :: l6 :: l7 :: l8 :: some (.long u) :: l) (.long u :: st) o := ev_go (S := (181, M, (l0 :: l1 :: l2 :: l3 :: l4 :: l5 :: l6 :: l7 :: l8 :: some (.long u) :: l), (.long u :: st))) rfl rfl rfl
theorem s202_181 : ji_Ev C 202 181 M (l0 :: l1 :: l2 :: l3 :: l4 :: l5 :: some (.long u) :: l) st o ↔ ji_Ev C 202 183 M (l0 :: l1 :: l2 :: l3 :: l4 :: l5 :: some (.long u) :: l) (.long u :: st) o := ev_go (S := (183, M, (l0 :: l1 :: l2 :: l3 :: l4 :: l5 :: some (.long u) :: l), (.long u :: st))) rfl rfl rfl
theorem s202_183 : ji_Ev C 202 183 M lv (.long v :: .long u :: st) o ↔ ji_Ev C 202 184 M lv (.int (lg_cmp u v) :: st) o := ev_go (S := (184, M, lv, (.int (lg_cmp u v) :: st))) rfl rfl rfl
theorem s202_184 : ji_Ev C 202 184 M lv (.int x :: st) o ↔ if x < 0 then ji_Ev C 202 190 M lv st o else ji_Ev C 202 187 M lv st o := ev_brz (c := .lt) rfl (by decide) rfl
theorem s202_187 : ji_Ev C 202 187 M lv st o ↔ ji_Ev C 202 224 M lv st o := ev_gt rfl (by decide) rfl
theorem s202_190 : ji_Ev C 202 190 M (l0 :: l1 :: l2 :: l3 :: l4 :: l5 :: l6 :: l7 :: l8 :: some (.long u) :: l) st o ↔ ji_Ev C 202 192 M (l0 :: l1 :: l2 :: l3 :: l4 :: l5 :: l6 :: l7 :: l8 :: some (.long u) :: l) (.long u :: st) o := ev_go (S := (192, M, (l0 :: l1 :: l2 :: l3 :: l4 :: l5 :: l6 :: l7 :: l8 :: some (.long u) :: l), (.long u :: st))) rfl rfl rfl
theorem s202_192 : ji_Ev C 202 192 M lv (.long u :: st) o ↔ 7 < lv.length ∧ ji_Ev C 202 194 M (ji_s2 lv 6 (.long u)) st o := ev_stL rfl rfl rfl
theorem s202_194 : ji_Ev C 202 194 M lv st o ↔ ji_Ev C 202 195 M lv (.int 0 :: st) o := ev_go (S := (195, M, lv, (.int 0 :: st))) rfl rfl rfl
theorem s202_195 : ji_Ev C 202 195 M lv (.int x :: st) o ↔ 11 < lv.length ∧ ji_Ev C 202 197 M (ji_s1 lv 11 (.int x)) st o := ev_stI rfl rfl rfl
theorem s202_197 : ji_Ev C 202 197 M (l0 :: l1 :: l2 :: l3 :: l4 :: l5 :: l6 :: l7 :: l8 :: l9 :: l10 :: some (.int x) :: l) st o ↔ ji_Ev C 202 199 M (l0 :: l1 :: l2 :: l3 :: l4 :: l5 :: l6 :: l7 :: l8 :: l9 :: l10 :: some (.int x) :: l) (.int x :: st) o := ev_go (S := (199, M, (l0 :: l1 :: l2 :: l3 :: l4 :: l5 :: l6 :: l7 :: l8 :: l9 :: l10 :: some (.int x) :: l), (.int x :: st))) rfl rfl rfl
theorem s202_199 : ji_Ev C 202 199 M (l0 :: l1 :: l2 :: l3 :: some (.int x) :: l) st o ↔ ji_Ev C 202 201 M (l0 :: l1 :: l2 :: l3 :: some (.int x) :: l) (.int x :: st) o := ev_go (S := (201, M, (l0 :: l1 :: l2 :: l3 :: some (.int x) :: l), (.int x :: st))) rfl rfl rfl
theorem s202_201 : ji_Ev C 202 201 M lv (.int y :: .int x :: st) o ↔ if x < y then ji_Ev C 202 204 M lv st o else ji_Ev C 202 224 M lv st o := ev_brc (c := .ge) rfl (by decide) rfl
theorem s202_204 : ji_Ev C 202 204 M (some (.ref a) :: l) st o ↔ ji_Ev C 202 205 M (some (.ref a) :: l) (.ref a :: st) o := ev_go (S := (205, M, (some (.ref a) :: l), (.ref a :: st))) rfl rfl rfl
theorem s202_205 : ji_Ev C 202 205 M lv (.ref a :: st) o ↔ ji_kd M a = some (0, 9) ∧ ji_Ev C 202 208 M lv (ji_rv (ji_gR M a 43) :: st) o := ev_getR (k := 202) rfl fd_9_141 rfl
theorem s202_208 : ji_Ev C 202 208 M (l0 :: l1 :: l2 :: l3 :: l4 :: l5 :: l6 :: l7 :: l8 :: l9 :: l10 :: some (.int x) :: l) st o ↔ ji_Ev C 202 210 M (l0 :: l1 :: l2 :: l3 :: l4 :: l5 :: l6 :: l7 :: l8 :: l9 :: l10 :: some (.int x) :: l) (.int x :: st) o := ev_go (S := (210, M, (l0 :: l1 :: l2 :: l3 :: l4 :: l5 :: l6 :: l7 :: l8 :: l9 :: l10 :: some (.int x) :: l), (.int x :: st))) rfl rfl rfl
theorem s202_210 : ji_Ev C 202 210 M (some (.ref a) :: l) st o ↔ ji_Ev C 202 211 M (some (.ref a) :: l) (.ref a :: st) o := ev_go (S := (211, M, (some (.ref a) :: l), (.ref a :: st))) rfl rfl rfl
theorem s202_211 : ji_Ev C 202 211 M lv (.ref a :: st) o ↔ ji_kd M a = some (0, 9) ∧ ji_Ev C 202 214 M lv (ji_rv (ji_gR M a 42) :: st) o := ev_getR (k := 202) rfl fd_9_138 rfl
theorem s202_214 : ji_Ev C 202 214 M (l0 :: l1 :: l2 :: l3 :: l4 :: l5 :: l6 :: l7 :: l8 :: l9 :: l10 :: some (.int x) :: l) st o ↔ ji_Ev C 202 216 M (l0 :: l1 :: l2 :: l3 :: l4 :: l5 :: l6 :: l7 :: l8 :: l9 :: l10 :: some (.int x) :: l) (.int x :: st) o := ev_go (S := (216, M, (l0 :: l1 :: l2 :: l3 :: l4 :: l5 :: l6 :: l7 :: l8 :: l9 :: l10 :: some (.int x) :: l), (.int x :: st))) rfl rfl rfl
theorem s202_216 : ji_Ev C 202 216 M lv (.int x :: .ref a :: st) o ↔ ji_evA (ji_kd M a) (fun n => vp_in x n ∧ ji_Ev C 202 217 M lv (.int (ji_gI M a x.toNatClampNeg) :: st) o) := ev_iald rfl
theorem s202_217 : ji_Ev C 202 217 M lv (.int y :: .int x :: .ref a :: st) o ↔ ji_evA (ji_kd M a) (fun n => vp_in x n ∧ ji_Ev C 202 218 (ji_sI M a x.toNatClampNeg y) lv st o) := ev_iast rfl
theorem s202_218 : ji_Ev C 202 218 M lv st o ↔ ji_evL (lv.getD 11 none) ji_isI (fun v => match v with | .int x => 11 < lv.length ∧ ji_Ev C 202 221 M (ji_s1 lv 11 (.int (x + Int32.ofInt 1))) st o | _ => False) := ev_iinc rfl
theorem s202_221 : ji_Ev C 202 221 M lv st o ↔ ji_Ev C 202 197 M lv st o := ev_gt rfl (by decide) rfl
theorem s202_224 : ji_Ev C 202 224 M lv st o ↔ ji_evL (lv.getD 8 none) ji_isI (fun v => match v with | .int x => 8 < lv.length ∧ ji_Ev C 202 227 M (ji_s1 lv 8 (.int (x + Int32.ofInt 1))) st o | _ => False) := ev_iinc rfl
theorem s202_227 : ji_Ev C 202 227 M lv st o ↔ ji_Ev C 202 148 M lv st o := ev_gt rfl (by decide) rfl
theorem s202_230 : ji_Ev C 202 230 M (l0 :: l1 :: l2 :: some (.int x) :: l) st o ↔ ji_Ev C 202 231 M (l0 :: l1 :: l2 :: some (.int x) :: l) (.int x :: st) o := ev_go (S := (231, M, (l0 :: l1 :: l2 :: some (.int x) :: l), (.int x :: st))) rfl rfl rfl
theorem s202_231 : ji_Ev C 202 231 M lv (.int x :: st) o ↔ if x < 0 then ji_Ev C 202 241 M lv st o else ji_Ev C 202 234 M lv st o := ev_brz (c := .lt) rfl (by decide) rfl
theorem s202_234 : ji_Ev C 202 234 M (some (.ref a) :: l) st o ↔ ji_Ev C 202 235 M (some (.ref a) :: l) (.ref a :: st) o := ev_go (S := (235, M, (some (.ref a) :: l), (.ref a :: st))) rfl rfl rfl
theorem s202_235 : ji_Ev C 202 235 M lv (.ref a :: st) o ↔ ji_kd M a = some (0, 9) ∧ ji_Ev C 202 238 M lv (ji_rv (ji_gR M a 43) :: st) o := ev_getR (k := 202) rfl fd_9_141 rfl
theorem s202_238 : ji_Ev C 202 238 M (l0 :: l1 :: l2 :: some (.int x) :: l) st o ↔ ji_Ev C 202 239 M (l0 :: l1 :: l2 :: some (.int x) :: l) (.int x :: st) o := ev_go (S := (239, M, (l0 :: l1 :: l2 :: some (.int x) :: l), (.int x :: st))) rfl rfl rfl
theorem s202_239 : ji_Ev C 202 239 M lv (.int x :: .ref a :: st) o ↔ ji_evA (ji_kd M a) (fun n => vp_in x n ∧ ji_Ev C 202 240 M lv (.int (ji_gI M a x.toNatClampNeg) :: st) o) := ev_iald rfl
theorem s202_240 : ji_Ev C 202 240 M lv [.int x] o ↔ o = (some (.int x), M) := ev_ireti rfl rfl
theorem s202_241 : ji_Ev C 202 241 M (l0 :: l1 :: l2 :: l3 :: l4 :: l5 :: some (.long u) :: l) st o ↔ ji_Ev C 202 243 M (l0 :: l1 :: l2 :: l3 :: l4 :: l5 :: some (.long u) :: l) (.long u :: st) o := ev_go (S := (243, M, (l0 :: l1 :: l2 :: l3 :: l4 :: l5 :: some (.long u) :: l), (.long u :: st))) rfl rfl rfl
theorem s202_243 : ji_Ev C 202 243 M lv st o ↔ ji_Ev C 202 246 M lv (.long (1000) :: st) o := ev_go (S := (246, M, lv, (.long (1000) :: st))) rfl rfl rfl
theorem s202_246 : ji_Ev C 202 246 M lv (.long v :: .long u :: st) o ↔ ¬ v = 0 ∧ ji_Ev C 202 247 M lv (.long (u / v) :: st) o := ev_dvL rfl
theorem s202_247 : ji_Ev C 202 247 M lv st o ↔ ji_Ev C 202 250 M lv (.long (2147483647) :: st) o := ev_go (S := (250, M, lv, (.long (2147483647) :: st))) rfl rfl rfl
theorem s202_250 : ji_Ev C 202 250 M lv (.long v :: .long u :: st) o ↔ ji_Ev C 202 251 M lv (.int (lg_cmp u v) :: st) o := ev_go (S := (251, M, lv, (.int (lg_cmp u v) :: st))) rfl rfl rfl
theorem s202_251 : ji_Ev C 202 251 M lv (.int x :: st) o ↔ if 0 < x then ji_Ev C 202 254 M lv st o else ji_Ev C 202 260 M lv st o := ev_brz (c := .le) rfl (by decide) rfl
theorem s202_254 : ji_Ev C 202 254 M lv st o ↔ ji_Ev C 202 257 M lv (.int (2147483647) :: st) o := ev_go (S := (257, M, lv, (.int (2147483647) :: st))) rfl rfl rfl
theorem s202_257 : ji_Ev C 202 257 M lv st o ↔ ji_Ev C 202 267 M lv st o := ev_gt rfl (by decide) rfl
theorem s202_260 : ji_Ev C 202 260 M (l0 :: l1 :: l2 :: l3 :: l4 :: l5 :: some (.long u) :: l) st o ↔ ji_Ev C 202 262 M (l0 :: l1 :: l2 :: l3 :: l4 :: l5 :: some (.long u) :: l) (.long u :: st) o := ev_go (S := (262, M, (l0 :: l1 :: l2 :: l3 :: l4 :: l5 :: some (.long u) :: l), (.long u :: st))) rfl rfl rfl
theorem s202_262 : ji_Ev C 202 262 M lv st o ↔ ji_Ev C 202 265 M lv (.long (1000) :: st) o := ev_go (S := (265, M, lv, (.long (1000) :: st))) rfl rfl rfl
theorem s202_265 : ji_Ev C 202 265 M lv (.long v :: .long u :: st) o ↔ ¬ v = 0 ∧ ji_Ev C 202 266 M lv (.long (u / v) :: st) o := ev_dvL rfl
theorem s202_266 : ji_Ev C 202 266 M lv (.long u :: st) o ↔ ji_Ev C 202 267 M lv (.int u.toInt32 :: st) o := ev_go (S := (267, M, lv, (.int u.toInt32 :: st))) rfl rfl rfl
theorem s202_267 : ji_Ev C 202 267 M lv [.int x] o ↔ o = (some (.int x), M) := ev_ireti rfl rfl
theorem s203_0 : ji_Ev C 203 0 M (l0 :: some (.int x) :: l) st o ↔ ji_Ev C 203 1 M (l0 :: some (.int x) :: l) (.int x :: st) o := ev_go (S := (1, M, (l0 :: some (.int x) :: l), (.int x :: st))) rfl rfl rfl
theorem s203_1 : ji_Ev C 203 1 M lv (.int x :: st) o ↔ 3 < lv.length ∧ ji_Ev C 203 2 M (ji_s1 lv 3 (.int x)) st o := ev_stI rfl rfl rfl
theorem s203_2 : ji_Ev C 203 2 M (l0 :: l1 :: some (.int x) :: l) st o ↔ ji_Ev C 203 3 M (l0 :: l1 :: some (.int x) :: l) (.int x :: st) o := ev_go (S := (3, M, (l0 :: l1 :: some (.int x) :: l), (.int x :: st))) rfl rfl rfl
theorem s203_3 : ji_Ev C 203 3 M lv st o ↔ ji_Ev C 203 4 M lv (.int 1 :: st) o := ev_go (S := (4, M, lv, (.int 1 :: st))) rfl rfl rfl
theorem s203_4 : ji_Ev C 203 4 M lv (.int y :: .int x :: st) o ↔ ji_Ev C 203 5 M lv (.int (x - y) :: st) o := ev_go (S := (5, M, lv, (.int (x - y) :: st))) rfl rfl rfl
theorem s203_5 : ji_Ev C 203 5 M lv (.int x :: st) o ↔ 4 < lv.length ∧ ji_Ev C 203 7 M (ji_s1 lv 4 (.int x)) st o := ev_stI rfl rfl rfl
theorem s203_7 : ji_Ev C 203 7 M (l0 :: l1 :: l2 :: l3 :: some (.int x) :: l) st o ↔ ji_Ev C 203 9 M (l0 :: l1 :: l2 :: l3 :: some (.int x) :: l) (.int x :: st) o := ev_go (S := (9, M, (l0 :: l1 :: l2 :: l3 :: some (.int x) :: l), (.int x :: st))) rfl rfl rfl
theorem s203_9 : ji_Ev C 203 9 M lv (.int x :: st) o ↔ if x < 0 then ji_Ev C 203 38 M lv st o else ji_Ev C 203 12 M lv st o := ev_brz (c := .lt) rfl (by decide) rfl
theorem s203_12 : ji_Ev C 203 12 M (some (.ref a) :: l) st o ↔ ji_Ev C 203 13 M (some (.ref a) :: l) (.ref a :: st) o := ev_go (S := (13, M, (some (.ref a) :: l), (.ref a :: st))) rfl rfl rfl
theorem s203_13 : ji_Ev C 203 13 M lv (.ref a :: st) o ↔ ji_kd M a = some (0, 9) ∧ ji_Ev C 203 16 M lv (ji_rv (ji_gR M a 45) :: st) o := ev_getR (k := 203) rfl fd_9_147 rfl
theorem s203_16 : ji_Ev C 203 16 M (l0 :: l1 :: l2 :: l3 :: some (.int x) :: l) st o ↔ ji_Ev C 203 18 M (l0 :: l1 :: l2 :: l3 :: some (.int x) :: l) (.int x :: st) o := ev_go (S := (18, M, (l0 :: l1 :: l2 :: l3 :: some (.int x) :: l), (.int x :: st))) rfl rfl rfl
theorem s203_18 : ji_Ev C 203 18 M (l0 :: l1 :: l2 :: some (.int x) :: l) st o ↔ ji_Ev C 203 19 M (l0 :: l1 :: l2 :: some (.int x) :: l) (.int x :: st) o := ev_go (S := (19, M, (l0 :: l1 :: l2 :: some (.int x) :: l), (.int x :: st))) rfl rfl rfl
theorem s203_19 : ji_Ev C 203 19 M (l0 :: l1 :: some (.int x) :: l) st o ↔ ji_Ev C 203 20 M (l0 :: l1 :: some (.int x) :: l) (.int x :: st) o := ev_go (S := (20, M, (l0 :: l1 :: some (.int x) :: l), (.int x :: st))) rfl rfl rfl
theorem s203_20 : ji_Ev C 203 20 M (l0 :: l1 :: l2 :: l3 :: some (.int x) :: l) st o ↔ ji_Ev C 203 22 M (l0 :: l1 :: l2 :: l3 :: some (.int x) :: l) (.int x :: st) o := ev_go (S := (22, M, (l0 :: l1 :: l2 :: l3 :: some (.int x) :: l), (.int x :: st))) rfl rfl rfl
theorem s203_22 : ji_Ev C 203 22 M lv (.int y :: .int x :: st) o ↔ ji_Ev C 203 23 M lv (.int (x - y) :: st) o := ev_go (S := (23, M, lv, (.int (x - y) :: st))) rfl rfl rfl
theorem s203_23 : ji_Ev C 203 23 M lv (.int y :: .int x :: st) o ↔ ¬ y = 0 ∧ ji_Ev C 203 24 M lv (.int (x - x / y * y) :: st) o := ev_dvR rfl
theorem s203_24 : ji_Ev C 203 24 M lv (.int y :: .int x :: .ref a :: st) o ↔ ji_evA (ji_kd M a) (fun n => vp_in x n ∧ ji_Ev C 203 25 (ji_sI M a x.toNatClampNeg y) lv st o) := ev_iast rfl
theorem s203_25 : ji_Ev C 203 25 M (l0 :: l1 :: l2 :: some (.int x) :: l) st o ↔ ji_Ev C 203 26 M (l0 :: l1 :: l2 :: some (.int x) :: l) (.int x :: st) o := ev_go (S := (26, M, (l0 :: l1 :: l2 :: some (.int x) :: l), (.int x :: st))) rfl rfl rfl
theorem s203_26 : ji_Ev C 203 26 M (l0 :: l1 :: some (.int x) :: l) st o ↔ ji_Ev C 203 27 M (l0 :: l1 :: some (.int x) :: l) (.int x :: st) o := ev_go (S := (27, M, (l0 :: l1 :: some (.int x) :: l), (.int x :: st))) rfl rfl rfl
theorem s203_27 : ji_Ev C 203 27 M (l0 :: l1 :: l2 :: l3 :: some (.int x) :: l) st o ↔ ji_Ev C 203 29 M (l0 :: l1 :: l2 :: l3 :: some (.int x) :: l) (.int x :: st) o := ev_go (S := (29, M, (l0 :: l1 :: l2 :: l3 :: some (.int x) :: l), (.int x :: st))) rfl rfl rfl
theorem s203_29 : ji_Ev C 203 29 M lv (.int y :: .int x :: st) o ↔ ji_Ev C 203 30 M lv (.int (x - y) :: st) o := ev_go (S := (30, M, lv, (.int (x - y) :: st))) rfl rfl rfl
theorem s203_30 : ji_Ev C 203 30 M lv (.int y :: .int x :: st) o ↔ ¬ y = 0 ∧ ji_Ev C 203 31 M lv (.int (x / y) :: st) o := ev_dvI rfl
theorem s203_31 : ji_Ev C 203 31 M lv (.int x :: st) o ↔ 3 < lv.length ∧ ji_Ev C 203 32 M (ji_s1 lv 3 (.int x)) st o := ev_stI rfl rfl rfl
theorem s203_32 : ji_Ev C 203 32 M lv st o ↔ ji_evL (lv.getD 4 none) ji_isI (fun v => match v with | .int x => 4 < lv.length ∧ ji_Ev C 203 35 M (ji_s1 lv 4 (.int (x + Int32.ofInt (-1)))) st o | _ => False) := ev_iinc rfl
theorem s203_35 : ji_Ev C 203 35 M lv st o ↔ ji_Ev C 203 7 M lv st o := ev_gt rfl (by decide) rfl
theorem s203_38 : ji_Ev C 203 38 M lv st o ↔ ji_Ev C 203 39 M lv (.int 0 :: st) o := ev_go (S := (39, M, lv, (.int 0 :: st))) rfl rfl rfl
theorem s203_39 : ji_Ev C 203 39 M lv (.int x :: st) o ↔ 4 < lv.length ∧ ji_Ev C 203 41 M (ji_s1 lv 4 (.int x)) st o := ev_stI rfl rfl rfl
theorem s203_41 : ji_Ev C 203 41 M lv st o ↔ ji_Ev C 203 42 M lv (.int 0 :: st) o := ev_go (S := (42, M, lv, (.int 0 :: st))) rfl rfl rfl
theorem s203_42 : ji_Ev C 203 42 M lv (.int x :: st) o ↔ 5 < lv.length ∧ ji_Ev C 203 44 M (ji_s1 lv 5 (.int x)) st o := ev_stI rfl rfl rfl
theorem s203_44 : ji_Ev C 203 44 M (l0 :: l1 :: l2 :: l3 :: l4 :: some (.int x) :: l) st o ↔ ji_Ev C 203 46 M (l0 :: l1 :: l2 :: l3 :: l4 :: some (.int x) :: l) (.int x :: st) o := ev_go (S := (46, M, (l0 :: l1 :: l2 :: l3 :: l4 :: some (.int x) :: l), (.int x :: st))) rfl rfl rfl
theorem s203_46 : ji_Ev C 203 46 M (l0 :: l1 :: some (.int x) :: l) st o ↔ ji_Ev C 203 47 M (l0 :: l1 :: some (.int x) :: l) (.int x :: st) o := ev_go (S := (47, M, (l0 :: l1 :: some (.int x) :: l), (.int x :: st))) rfl rfl rfl
theorem s203_47 : ji_Ev C 203 47 M lv (.int y :: .int x :: st) o ↔ if x < y then ji_Ev C 203 50 M lv st o else ji_Ev C 203 134 M lv st o := ev_brc (c := .ge) rfl (by decide) rfl
theorem s203_50 : ji_Ev C 203 50 M (some (.ref a) :: l) st o ↔ ji_Ev C 203 51 M (some (.ref a) :: l) (.ref a :: st) o := ev_go (S := (51, M, (some (.ref a) :: l), (.ref a :: st))) rfl rfl rfl
theorem s203_51 : ji_Ev C 203 51 M lv (.ref a :: st) o ↔ ji_kd M a = some (0, 9) ∧ ji_Ev C 203 54 M lv (ji_rv (ji_gR M a 45) :: st) o := ev_getR (k := 203) rfl fd_9_147 rfl
theorem s203_54 : ji_Ev C 203 54 M (l0 :: l1 :: l2 :: l3 :: l4 :: some (.int x) :: l) st o ↔ ji_Ev C 203 56 M (l0 :: l1 :: l2 :: l3 :: l4 :: some (.int x) :: l) (.int x :: st) o := ev_go (S := (56, M, (l0 :: l1 :: l2 :: l3 :: l4 :: some (.int x) :: l), (.int x :: st))) rfl rfl rfl
theorem s203_56 : ji_Ev C 203 56 M lv (.int x :: .ref a :: st) o ↔ ji_evA (ji_kd M a) (fun n => vp_in x n ∧ ji_Ev C 203 57 M lv (.int (ji_gI M a x.toNatClampNeg) :: st) o) := ev_iald rfl
theorem s203_57 : ji_Ev C 203 57 M lv (.int x :: st) o ↔ 6 < lv.length ∧ ji_Ev C 203 59 M (ji_s1 lv 6 (.int x)) st o := ev_stI rfl rfl rfl
theorem s203_59 : ji_Ev C 203 59 M lv st o ↔ ji_Ev C 203 60 M lv (.int 0 :: st) o := ev_go (S := (60, M, lv, (.int 0 :: st))) rfl rfl rfl
theorem s203_60 : ji_Ev C 203 60 M lv (.int x :: st) o ↔ 7 < lv.length ∧ ji_Ev C 203 62 M (ji_s1 lv 7 (.int x)) st o := ev_stI rfl rfl rfl
theorem s203_62 : ji_Ev C 203 62 M (l0 :: l1 :: l2 :: l3 :: some (.int x) :: l) st o ↔ ji_Ev C 203 64 M (l0 :: l1 :: l2 :: l3 :: some (.int x) :: l) (.int x :: st) o := ev_go (S := (64, M, (l0 :: l1 :: l2 :: l3 :: some (.int x) :: l), (.int x :: st))) rfl rfl rfl
theorem s203_64 : ji_Ev C 203 64 M (l0 :: l1 :: l2 :: l3 :: l4 :: l5 :: l6 :: some (.int x) :: l) st o ↔ ji_Ev C 203 66 M (l0 :: l1 :: l2 :: l3 :: l4 :: l5 :: l6 :: some (.int x) :: l) (.int x :: st) o := ev_go (S := (66, M, (l0 :: l1 :: l2 :: l3 :: l4 :: l5 :: l6 :: some (.int x) :: l), (.int x :: st))) rfl rfl rfl
theorem s203_66 : ji_Ev C 203 66 M lv (.int y :: .int x :: st) o ↔ ji_Ev C 203 67 M lv (.int (x >>> (y &&& 31)) :: st) o := ev_go (S := (67, M, lv, (.int (x >>> (y &&& 31)) :: st))) rfl rfl rfl
theorem s203_67 : ji_Ev C 203 67 M lv st o ↔ ji_Ev C 203 68 M lv (.int 1 :: st) o := ev_go (S := (68, M, lv, (.int 1 :: st))) rfl rfl rfl
theorem s203_68 : ji_Ev C 203 68 M lv (.int y :: .int x :: st) o ↔ ji_Ev C 203 69 M lv (.int (x &&& y) :: st) o := ev_go (S := (69, M, lv, (.int (x &&& y) :: st))) rfl rfl rfl
theorem s203_69 : ji_Ev C 203 69 M lv st o ↔ ji_Ev C 203 70 M lv (.int 1 :: st) o := ev_go (S := (70, M, lv, (.int 1 :: st))) rfl rfl rfl
theorem s203_70 : ji_Ev C 203 70 M lv (.int y :: .int x :: st) o ↔ if x = y then ji_Ev C 203 78 M lv st o else ji_Ev C 203 73 M lv st o := ev_brc (c := .eq) rfl (by decide) rfl
theorem s203_73 : ji_Ev C 203 73 M (l0 :: l1 :: l2 :: l3 :: l4 :: l5 :: some (.int x) :: l) st o ↔ ji_Ev C 203 75 M (l0 :: l1 :: l2 :: l3 :: l4 :: l5 :: some (.int x) :: l) (.int x :: st) o := ev_go (S := (75, M, (l0 :: l1 :: l2 :: l3 :: l4 :: l5 :: some (.int x) :: l), (.int x :: st))) rfl rfl rfl
theorem s203_75 : ji_Ev C 203 75 M lv (.int x :: st) o ↔ if 0 < x then ji_Ev C 203 78 M lv st o else ji_Ev C 203 105 M lv st o := ev_brz (c := .le) rfl (by decide) rfl
theorem s203_78 : ji_Ev C 203 78 M (l0 :: l1 :: l2 :: l3 :: l4 :: l5 :: some (.int x) :: l) st o ↔ ji_Ev C 203 80 M (l0 :: l1 :: l2 :: l3 :: l4 :: l5 :: some (.int x) :: l) (.int x :: st) o := ev_go (S := (80, M, (l0 :: l1 :: l2 :: l3 :: l4 :: l5 :: some (.int x) :: l), (.int x :: st))) rfl rfl rfl
theorem s203_80 : ji_Ev C 203 80 M (l0 :: l1 :: l2 :: l3 :: some (.int x) :: l) st o ↔ ji_Ev C 203 82 M (l0 :: l1 :: l2 :: l3 :: some (.int x) :: l) (.int x :: st) o := ev_go (S := (82, M, (l0 :: l1 :: l2 :: l3 :: some (.int x) :: l), (.int x :: st))) rfl rfl rfl
theorem s203_82 : ji_Ev C 203 82 M (l0 :: l1 :: l2 :: l3 :: l4 :: l5 :: l6 :: some (.int x) :: l) st o ↔ ji_Ev C 203 84 M (l0 :: l1 :: l2 :: l3 :: l4 :: l5 :: l6 :: some (.int x) :: l) (.int x :: st) o := ev_go (S := (84, M, (l0 :: l1 :: l2 :: l3 :: l4 :: l5 :: l6 :: some (.int x) :: l), (.int x :: st))) rfl rfl rfl
theorem s203_84 : ji_Ev C 203 84 M lv (.int y :: .int x :: st) o ↔ ji_Ev C 203 85 M lv (.int (x >>> (y &&& 31)) :: st) o := ev_go (S := (85, M, lv, (.int (x >>> (y &&& 31)) :: st))) rfl rfl rfl
theorem s203_85 : ji_Ev C 203 85 M lv st o ↔ ji_Ev C 203 86 M lv (.int 1 :: st) o := ev_go (S := (86, M, lv, (.int 1 :: st))) rfl rfl rfl
theorem s203_86 : ji_Ev C 203 86 M lv (.int y :: .int x :: st) o ↔ ji_Ev C 203 87 M lv (.int (x &&& y) :: st) o := ev_go (S := (87, M, lv, (.int (x &&& y) :: st))) rfl rfl rfl
theorem s203_87 : ji_Ev C 203 87 M lv st o ↔ ji_Ev C 203 88 M lv (.int 1 :: st) o := ev_go (S := (88, M, lv, (.int 1 :: st))) rfl rfl rfl
theorem s203_88 : ji_Ev C 203 88 M lv (.int y :: .int x :: st) o ↔ if x = y then ji_Ev C 203 91 M lv st o else ji_Ev C 203 95 M lv st o := ev_brc (c := .ne) rfl (by decide) rfl
theorem s203_91 : ji_Ev C 203 91 M lv st o ↔ ji_Ev C 203 92 M lv (.int 0 :: st) o := ev_go (S := (92, M, lv, (.int 0 :: st))) rfl rfl rfl
theorem s203_92 : ji_Ev C 203 92 M lv st o ↔ ji_Ev C 203 96 M lv st o := ev_gt rfl (by decide) rfl
theorem s203_95 : ji_Ev C 203 95 M lv st o ↔ ji_Ev C 203 96 M lv (.int 1 :: st) o := ev_go (S := (96, M, lv, (.int 1 :: st))) rfl rfl rfl
theorem s203_96 : ji_Ev C 203 96 M lv (.int y :: .int x :: st) o ↔ ji_Ev C 203 97 M lv (.int (x - y) :: st) o := ev_go (S := (97, M, lv, (.int (x - y) :: st))) rfl rfl rfl
theorem s203_97 : ji_Ev C 203 97 M lv (.int x :: st) o ↔ 6 < lv.length ∧ ji_Ev C 203 99 M (ji_s1 lv 6 (.int x)) st o := ev_stI rfl rfl rfl
theorem s203_99 : ji_Ev C 203 99 M lv st o ↔ ji_evL (lv.getD 7 none) ji_isI (fun v => match v with | .int x => 7 < lv.length ∧ ji_Ev C 203 102 M (ji_s1 lv 7 (.int (x + Int32.ofInt 1))) st o | _ => False) := ev_iinc rfl
theorem s203_102 : ji_Ev C 203 102 M lv st o ↔ ji_Ev C 203 62 M lv st o := ev_gt rfl (by decide) rfl
theorem s203_105 : ji_Ev C 203 105 M (l0 :: l1 :: l2 :: l3 :: some (.int x) :: l) st o ↔ ji_Ev C 203 107 M (l0 :: l1 :: l2 :: l3 :: some (.int x) :: l) (.int x :: st) o := ev_go (S := (107, M, (l0 :: l1 :: l2 :: l3 :: some (.int x) :: l), (.int x :: st))) rfl rfl rfl
theorem s203_107 : ji_Ev C 203 107 M lv st o ↔ ji_Ev C 203 108 M lv (.int 1 :: st) o := ev_go (S := (108, M, lv, (.int 1 :: st))) rfl rfl rfl
theorem s203_108 : ji_Ev C 203 108 M (l0 :: l1 :: l2 :: l3 :: l4 :: l5 :: l6 :: some (.int x) :: l) st o ↔ ji_Ev C 203 110 M (l0 :: l1 :: l2 :: l3 :: l4 :: l5 :: l6 :: some (.int x) :: l) (.int x :: st) o := ev_go (S := (110, M, (l0 :: l1 :: l2 :: l3 :: l4 :: l5 :: l6 :: some (.int x) :: l), (.int x :: st))) rfl rfl rfl
theorem s203_110 : ji_Ev C 203 110 M lv (.int y :: .int x :: st) o ↔ ji_Ev C 203 111 M lv (.int (x <<< (y &&& 31)) :: st) o := ev_go (S := (111, M, lv, (.int (x <<< (y &&& 31)) :: st))) rfl rfl rfl
theorem s203_111 : ji_Ev C 203 111 M lv (.int y :: .int x :: st) o ↔ ji_Ev C 203 112 M lv (.int (x ||| y) :: st) o := ev_go (S := (112, M, lv, (.int (x ||| y) :: st))) rfl rfl rfl
theorem s203_112 : ji_Ev C 203 112 M lv (.int x :: st) o ↔ 4 < lv.length ∧ ji_Ev C 203 114 M (ji_s1 lv 4 (.int x)) st o := ev_stI rfl rfl rfl
theorem s203_114 : ji_Ev C 203 114 M (some (.ref a) :: l) st o ↔ ji_Ev C 203 115 M (some (.ref a) :: l) (.ref a :: st) o := ev_go (S := (115, M, (some (.ref a) :: l), (.ref a :: st))) rfl rfl rfl
theorem s203_115 : ji_Ev C 203 115 M lv (.ref a :: st) o ↔ ji_kd M a = some (0, 9) ∧ ji_Ev C 203 118 M lv (ji_rv (ji_gR M a 42) :: st) o := ev_getR (k := 203) rfl fd_9_138 rfl
theorem s203_118 : ji_Ev C 203 118 M (l0 :: l1 :: l2 :: l3 :: l4 :: some (.int x) :: l) st o ↔ ji_Ev C 203 120 M (l0 :: l1 :: l2 :: l3 :: l4 :: some (.int x) :: l) (.int x :: st) o := ev_go (S := (120, M, (l0 :: l1 :: l2 :: l3 :: l4 :: some (.int x) :: l), (.int x :: st))) rfl rfl rfl
theorem s203_120 : ji_Ev C 203 120 M (some (.ref a) :: l) st o ↔ ji_Ev C 203 121 M (some (.ref a) :: l) (.ref a :: st) o := ev_go (S := (121, M, (some (.ref a) :: l), (.ref a :: st))) rfl rfl rfl
theorem s203_121 : ji_Ev C 203 121 M lv (.ref a :: st) o ↔ ji_kd M a = some (0, 9) ∧ ji_Ev C 203 124 M lv (ji_rv (ji_gR M a 44) :: st) o := ev_getR (k := 203) rfl fd_9_144 rfl
theorem s203_124 : ji_Ev C 203 124 M (l0 :: l1 :: l2 :: l3 :: l4 :: l5 :: l6 :: some (.int x) :: l) st o ↔ ji_Ev C 203 126 M (l0 :: l1 :: l2 :: l3 :: l4 :: l5 :: l6 :: some (.int x) :: l) (.int x :: st) o := ev_go (S := (126, M, (l0 :: l1 :: l2 :: l3 :: l4 :: l5 :: l6 :: some (.int x) :: l), (.int x :: st))) rfl rfl rfl
theorem s203_126 : ji_Ev C 203 126 M lv (.int x :: .ref a :: st) o ↔ ji_evA (ji_kd M a) (fun n => vp_in x n ∧ ji_Ev C 203 127 M lv (.int (ji_gI M a x.toNatClampNeg) :: st) o) := ev_iald rfl
theorem s203_127 : ji_Ev C 203 127 M lv (.int y :: .int x :: .ref a :: st) o ↔ ji_evA (ji_kd M a) (fun n => vp_in x n ∧ ji_Ev C 203 128 (ji_sI M a x.toNatClampNeg y) lv st o) := ev_iast rfl
theorem s203_128 : ji_Ev C 203 128 M lv st o ↔ ji_evL (lv.getD 5 none) ji_isI (fun v => match v with | .int x => 5 < lv.length ∧ ji_Ev C 203 131 M (ji_s1 lv 5 (.int (x + Int32.ofInt 1))) st o | _ => False) := ev_iinc rfl
theorem s203_131 : ji_Ev C 203 131 M lv st o ↔ ji_Ev C 203 44 M lv st o := ev_gt rfl (by decide) rfl
theorem s203_134 : ji_Ev C 203 134 M lv [] o ↔ o = (none, M) := ev_vret rfl rfl
theorem s204_0 : ji_Ev C 204 0 M (some (.ref a) :: l) st o ↔ ji_Ev C 204 1 M (some (.ref a) :: l) (.ref a :: st) o := ev_go (S := (1, M, (some (.ref a) :: l), (.ref a :: st))) rfl rfl rfl
theorem s204_1 : ji_Ev C 204 1 M lv (.ref a :: st) o ↔ ji_kd M a = some (0, 9) ∧ ji_Ev C 204 4 M lv (.int (ji_gI M a 0) :: st) o := ev_getI (k := 204) rfl fd_9_7 rfl
theorem s204_4 : ji_Ev C 204 4 M lv (.int x :: st) o ↔ 3 < lv.length ∧ ji_Ev C 204 5 M (ji_s1 lv 3 (.int x)) st o := ev_stI rfl rfl rfl
theorem s204_5 : ji_Ev C 204 5 M (some (.ref a) :: l) st o ↔ ji_Ev C 204 6 M (some (.ref a) :: l) (.ref a :: st) o := ev_go (S := (6, M, (some (.ref a) :: l), (.ref a :: st))) rfl rfl rfl
theorem s204_6 : ji_Ev C 204 6 M lv (.ref a :: st) o ↔ ji_kd M a = some (0, 9) ∧ ji_Ev C 204 9 M lv (.long (ji_gL M a 5) :: st) o := ev_getL (k := 204) rfl fd_9_25 rfl
theorem s204_9 : ji_Ev C 204 9 M lv (.long u :: st) o ↔ 5 < lv.length ∧ ji_Ev C 204 11 M (ji_s2 lv 4 (.long u)) st o := ev_stL rfl rfl rfl
theorem s204_11 : ji_Ev C 204 11 M lv st o ↔ ji_Ev C 204 12 M lv (.int 0 :: st) o := ev_go (S := (12, M, lv, (.int 0 :: st))) rfl rfl rfl
theorem s204_12 : ji_Ev C 204 12 M lv (.int x :: st) o ↔ 6 < lv.length ∧ ji_Ev C 204 14 M (ji_s1 lv 6 (.int x)) st o := ev_stI rfl rfl rfl
theorem s204_14 : ji_Ev C 204 14 M (l0 :: l1 :: l2 :: l3 :: l4 :: l5 :: some (.int x) :: l) st o ↔ ji_Ev C 204 16 M (l0 :: l1 :: l2 :: l3 :: l4 :: l5 :: some (.int x) :: l) (.int x :: st) o := ev_go (S := (16, M, (l0 :: l1 :: l2 :: l3 :: l4 :: l5 :: some (.int x) :: l), (.int x :: st))) rfl rfl rfl
theorem s204_16 : ji_Ev C 204 16 M (some (.ref a) :: l) st o ↔ ji_Ev C 204 17 M (some (.ref a) :: l) (.ref a :: st) o := ev_go (S := (17, M, (some (.ref a) :: l), (.ref a :: st))) rfl rfl rfl
theorem s204_17 : ji_Ev C 204 17 M lv (.ref a :: st) o ↔ ji_kd M a = some (0, 9) ∧ ji_Ev C 204 20 M lv (.int (ji_gI M a 4) :: st) o := ev_getI (k := 204) rfl fd_9_22 rfl
theorem s204_20 : ji_Ev C 204 20 M lv (.int y :: .int x :: st) o ↔ if x < y then ji_Ev C 204 23 M lv st o else ji_Ev C 204 85 M lv st o := ev_brc (c := .ge) rfl (by decide) rfl
theorem s204_23 : ji_Ev C 204 23 M (some (.ref a) :: l) st o ↔ ji_Ev C 204 24 M (some (.ref a) :: l) (.ref a :: st) o := ev_go (S := (24, M, (some (.ref a) :: l), (.ref a :: st))) rfl rfl rfl
theorem s204_24 : ji_Ev C 204 24 M lv (.ref a :: st) o ↔ ji_kd M a = some (0, 9) ∧ ji_Ev C 204 27 M lv (ji_rv (ji_gR M a 38) :: st) o := ev_getR (k := 204) rfl fd_9_126 rfl
theorem s204_27 : ji_Ev C 204 27 M (l0 :: l1 :: l2 :: l3 :: l4 :: l5 :: some (.int x) :: l) st o ↔ ji_Ev C 204 29 M (l0 :: l1 :: l2 :: l3 :: l4 :: l5 :: some (.int x) :: l) (.int x :: st) o := ev_go (S := (29, M, (l0 :: l1 :: l2 :: l3 :: l4 :: l5 :: some (.int x) :: l), (.int x :: st))) rfl rfl rfl
theorem s204_29 : ji_Ev C 204 29 M (some (.ref a) :: l) st o ↔ ji_Ev C 204 30 M (some (.ref a) :: l) (.ref a :: st) o := ev_go (S := (30, M, (some (.ref a) :: l), (.ref a :: st))) rfl rfl rfl
theorem s204_30 : ji_Ev C 204 30 M lv (.ref a :: st) o ↔ ji_kd M a = some (0, 9) ∧ ji_Ev C 204 33 M lv (ji_rv (ji_gR M a 10) :: st) o := ev_getR (k := 204) rfl fd_9_42 rfl
theorem s204_33 : ji_Ev C 204 33 M (l0 :: l1 :: l2 :: l3 :: l4 :: l5 :: some (.int x) :: l) st o ↔ ji_Ev C 204 35 M (l0 :: l1 :: l2 :: l3 :: l4 :: l5 :: some (.int x) :: l) (.int x :: st) o := ev_go (S := (35, M, (l0 :: l1 :: l2 :: l3 :: l4 :: l5 :: some (.int x) :: l), (.int x :: st))) rfl rfl rfl
theorem s204_35 : ji_Ev C 204 35 M lv (.int x :: .ref a :: st) o ↔ ji_evA (ji_kd M a) (fun n => vp_in x n ∧ ji_Ev C 204 36 M lv (.int (ji_gI M a x.toNatClampNeg) :: st) o) := ev_iald rfl
theorem s204_36 : ji_Ev C 204 36 M lv (.int y :: .int x :: .ref a :: st) o ↔ ji_evA (ji_kd M a) (fun n => vp_in x n ∧ ji_Ev C 204 37 (ji_sI M a x.toNatClampNeg y) lv st o) := ev_iast rfl
theorem s204_37 : ji_Ev C 204 37 M (some (.ref a) :: l) st o ↔ ji_Ev C 204 38 M (some (.ref a) :: l) (.ref a :: st) o := ev_go (S := (38, M, (some (.ref a) :: l), (.ref a :: st))) rfl rfl rfl
theorem s204_38 : ji_Ev C 204 38 M lv (.ref a :: st) o ↔ ji_kd M a = some (0, 9) ∧ ji_Ev C 204 41 M lv (ji_rv (ji_gR M a 39) :: st) o := ev_getR (k := 204) rfl fd_9_129 rfl
theorem s204_41 : ji_Ev C 204 41 M (l0 :: l1 :: l2 :: l3 :: l4 :: l5 :: some (.int x) :: l) st o ↔ ji_Ev C 204 43 M (l0 :: l1 :: l2 :: l3 :: l4 :: l5 :: some (.int x) :: l) (.int x :: st) o := ev_go (S := (43, M, (l0 :: l1 :: l2 :: l3 :: l4 :: l5 :: some (.int x) :: l), (.int x :: st))) rfl rfl rfl
theorem s204_43 : ji_Ev C 204 43 M (some (.ref a) :: l) st o ↔ ji_Ev C 204 44 M (some (.ref a) :: l) (.ref a :: st) o := ev_go (S := (44, M, (some (.ref a) :: l), (.ref a :: st))) rfl rfl rfl
theorem s204_44 : ji_Ev C 204 44 M lv (.ref a :: st) o ↔ ji_kd M a = some (0, 9) ∧ ji_Ev C 204 47 M lv (ji_rv (ji_gR M a 11) :: st) o := ev_getR (k := 204) rfl fd_9_45 rfl
theorem s204_47 : ji_Ev C 204 47 M (l0 :: l1 :: l2 :: l3 :: l4 :: l5 :: some (.int x) :: l) st o ↔ ji_Ev C 204 49 M (l0 :: l1 :: l2 :: l3 :: l4 :: l5 :: some (.int x) :: l) (.int x :: st) o := ev_go (S := (49, M, (l0 :: l1 :: l2 :: l3 :: l4 :: l5 :: some (.int x) :: l), (.int x :: st))) rfl rfl rfl
theorem s204_49 : ji_Ev C 204 49 M lv (.int x :: .ref a :: st) o ↔ ji_evA (ji_kd M a) (fun n => vp_in x n ∧ ji_Ev C 204 50 M lv (.int (ji_gI M a x.toNatClampNeg) :: st) o) := ev_iald rfl
theorem s204_50 : ji_Ev C 204 50 M lv (.int y :: .int x :: .ref a :: st) o ↔ ji_evA (ji_kd M a) (fun n => vp_in x n ∧ ji_Ev C 204 51 (ji_sI M a x.toNatClampNeg y) lv st o) := ev_iast rfl
theorem s204_51 : ji_Ev C 204 51 M (some (.ref a) :: l) st o ↔ ji_Ev C 204 52 M (some (.ref a) :: l) (.ref a :: st) o := ev_go (S := (52, M, (some (.ref a) :: l), (.ref a :: st))) rfl rfl rfl
theorem s204_52 : ji_Ev C 204 52 M lv (.ref a :: st) o ↔ ji_kd M a = some (0, 9) ∧ ji_Ev C 204 55 M lv (ji_rv (ji_gR M a 40) :: st) o := ev_getR (k := 204) rfl fd_9_132 rfl
theorem s204_55 : ji_Ev C 204 55 M (l0 :: l1 :: l2 :: l3 :: l4 :: l5 :: some (.int x) :: l) st o ↔ ji_Ev C 204 57 M (l0 :: l1 :: l2 :: l3 :: l4 :: l5 :: some (.int x) :: l) (.int x :: st) o := ev_go (S := (57, M, (l0 :: l1 :: l2 :: l3 :: l4 :: l5 :: some (.int x) :: l), (.int x :: st))) rfl rfl rfl
theorem s204_57 : ji_Ev C 204 57 M (some (.ref a) :: l) st o ↔ ji_Ev C 204 58 M (some (.ref a) :: l) (.ref a :: st) o := ev_go (S := (58, M, (some (.ref a) :: l), (.ref a :: st))) rfl rfl rfl
theorem s204_58 : ji_Ev C 204 58 M lv (.ref a :: st) o ↔ ji_kd M a = some (0, 9) ∧ ji_Ev C 204 61 M lv (ji_rv (ji_gR M a 12) :: st) o := ev_getR (k := 204) rfl fd_9_48 rfl
theorem s204_61 : ji_Ev C 204 61 M (l0 :: l1 :: l2 :: l3 :: l4 :: l5 :: some (.int x) :: l) st o ↔ ji_Ev C 204 63 M (l0 :: l1 :: l2 :: l3 :: l4 :: l5 :: some (.int x) :: l) (.int x :: st) o := ev_go (S := (63, M, (l0 :: l1 :: l2 :: l3 :: l4 :: l5 :: some (.int x) :: l), (.int x :: st))) rfl rfl rfl
theorem s204_63 : ji_Ev C 204 63 M lv (.int x :: .ref a :: st) o ↔ ji_evA (ji_kd M a) (fun n => vp_in x n ∧ ji_Ev C 204 64 M lv (.int (ji_gI M a x.toNatClampNeg) :: st) o) := ev_iald rfl
theorem s204_64 : ji_Ev C 204 64 M lv (.int y :: .int x :: .ref a :: st) o ↔ ji_evA (ji_kd M a) (fun n => vp_in x n ∧ ji_Ev C 204 65 (ji_sI M a x.toNatClampNeg y) lv st o) := ev_iast rfl
theorem s204_65 : ji_Ev C 204 65 M (some (.ref a) :: l) st o ↔ ji_Ev C 204 66 M (some (.ref a) :: l) (.ref a :: st) o := ev_go (S := (66, M, (some (.ref a) :: l), (.ref a :: st))) rfl rfl rfl
theorem s204_66 : ji_Ev C 204 66 M lv (.ref a :: st) o ↔ ji_kd M a = some (0, 9) ∧ ji_Ev C 204 69 M lv (ji_rv (ji_gR M a 41) :: st) o := ev_getR (k := 204) rfl fd_9_135 rfl
theorem s204_69 : ji_Ev C 204 69 M (l0 :: l1 :: l2 :: l3 :: l4 :: l5 :: some (.int x) :: l) st o ↔ ji_Ev C 204 71 M (l0 :: l1 :: l2 :: l3 :: l4 :: l5 :: some (.int x) :: l) (.int x :: st) o := ev_go (S := (71, M, (l0 :: l1 :: l2 :: l3 :: l4 :: l5 :: some (.int x) :: l), (.int x :: st))) rfl rfl rfl
theorem s204_71 : ji_Ev C 204 71 M (some (.ref a) :: l) st o ↔ ji_Ev C 204 72 M (some (.ref a) :: l) (.ref a :: st) o := ev_go (S := (72, M, (some (.ref a) :: l), (.ref a :: st))) rfl rfl rfl
theorem s204_72 : ji_Ev C 204 72 M lv (.ref a :: st) o ↔ ji_kd M a = some (0, 9) ∧ ji_Ev C 204 75 M lv (ji_rv (ji_gR M a 13) :: st) o := ev_getR (k := 204) rfl fd_9_51 rfl
theorem s204_75 : ji_Ev C 204 75 M (l0 :: l1 :: l2 :: l3 :: l4 :: l5 :: some (.int x) :: l) st o ↔ ji_Ev C 204 77 M (l0 :: l1 :: l2 :: l3 :: l4 :: l5 :: some (.int x) :: l) (.int x :: st) o := ev_go (S := (77, M, (l0 :: l1 :: l2 :: l3 :: l4 :: l5 :: some (.int x) :: l), (.int x :: st))) rfl rfl rfl
theorem s204_77 : ji_Ev C 204 77 M lv (.int x :: .ref a :: st) o ↔ ji_evA (ji_kd M a) (fun n => vp_in x n ∧ ji_Ev C 204 78 M lv (.int (ji_gI M a x.toNatClampNeg) :: st) o) := ev_iald rfl
theorem s204_78 : ji_Ev C 204 78 M lv (.int y :: .int x :: .ref a :: st) o ↔ ji_evA (ji_kd M a) (fun n => vp_in x n ∧ ji_Ev C 204 79 (ji_sI M a x.toNatClampNeg y) lv st o) := ev_iast rfl
theorem s204_79 : ji_Ev C 204 79 M lv st o ↔ ji_evL (lv.getD 6 none) ji_isI (fun v => match v with | .int x => 6 < lv.length ∧ ji_Ev C 204 82 M (ji_s1 lv 6 (.int (x + Int32.ofInt 1))) st o | _ => False) := ev_iinc rfl
theorem s204_82 : ji_Ev C 204 82 M lv st o ↔ ji_Ev C 204 14 M lv st o := ev_gt rfl (by decide) rfl
theorem s204_85 : ji_Ev C 204 85 M lv st o ↔ ji_Ev C 204 86 M lv (.int 0 :: st) o := ev_go (S := (86, M, lv, (.int 0 :: st))) rfl rfl rfl
theorem s204_86 : ji_Ev C 204 86 M lv (.int x :: st) o ↔ 6 < lv.length ∧ ji_Ev C 204 88 M (ji_s1 lv 6 (.int x)) st o := ev_stI rfl rfl rfl
theorem s204_88 : ji_Ev C 204 88 M (l0 :: l1 :: l2 :: l3 :: l4 :: l5 :: some (.int x) :: l) st o ↔ ji_Ev C 204 90 M (l0 :: l1 :: l2 :: l3 :: l4 :: l5 :: some (.int x) :: l) (.int x :: st) o := ev_go (S := (90, M, (l0 :: l1 :: l2 :: l3 :: l4 :: l5 :: some (.int x) :: l), (.int x :: st))) rfl rfl rfl
theorem s204_90 : ji_Ev C 204 90 M (l0 :: some (.int x) :: l) st o ↔ ji_Ev C 204 91 M (l0 :: some (.int x) :: l) (.int x :: st) o := ev_go (S := (91, M, (l0 :: some (.int x) :: l), (.int x :: st))) rfl rfl rfl
theorem s204_91 : ji_Ev C 204 91 M lv (.int y :: .int x :: st) o ↔ if x < y then ji_Ev C 204 94 M lv st o else ji_Ev C 204 172 M lv st o := ev_brc (c := .ge) rfl (by decide) rfl
theorem s204_94 : ji_Ev C 204 94 M (some (.ref a) :: l) st o ↔ ji_Ev C 204 95 M (some (.ref a) :: l) (.ref a :: st) o := ev_go (S := (95, M, (some (.ref a) :: l), (.ref a :: st))) rfl rfl rfl
theorem s204_95 : ji_Ev C 204 95 M lv (.ref a :: st) o ↔ ji_kd M a = some (0, 9) ∧ ji_Ev C 204 98 M lv (ji_rv (ji_gR M a 42) :: st) o := ev_getR (k := 204) rfl fd_9_138 rfl
theorem s204_98 : ji_Ev C 204 98 M (l0 :: l1 :: l2 :: l3 :: l4 :: l5 :: some (.int x) :: l) st o ↔ ji_Ev C 204 100 M (l0 :: l1 :: l2 :: l3 :: l4 :: l5 :: some (.int x) :: l) (.int x :: st) o := ev_go (S := (100, M, (l0 :: l1 :: l2 :: l3 :: l4 :: l5 :: some (.int x) :: l), (.int x :: st))) rfl rfl rfl
theorem s204_100 : ji_Ev C 204 100 M lv (.int x :: .ref a :: st) o ↔ ji_evA (ji_kd M a) (fun n => vp_in x n ∧ ji_Ev C 204 101 M lv (.int (ji_gI M a x.toNatClampNeg) :: st) o) := ev_iald rfl
theorem s204_101 : ji_Ev C 204 101 M lv (.int x :: st) o ↔ 7 < lv.length ∧ ji_Ev C 204 103 M (ji_s1 lv 7 (.int x)) st o := ev_stI rfl rfl rfl
theorem s204_103 : ji_Ev C 204 103 M (some (.ref a) :: l) st o ↔ ji_Ev C 204 104 M (some (.ref a) :: l) (.ref a :: st) o := ev_go (S := (104, M, (some (.ref a) :: l), (.ref a :: st))) rfl rfl rfl
theorem s204_104 : ji_Ev C 204 104 M (some (.ref a) :: l) st o ↔ ji_Ev C 204 105 M (some (.ref a) :: l) (.ref a :: st) o := ev_go (S := (105, M, (some (.ref a) :: l), (.ref a :: st))) rfl rfl rfl
theorem s204_105 : ji_Ev C 204 105 M lv (.ref a :: st) o ↔ ji_kd M a = some (0, 9) ∧ ji_Ev C 204 108 M lv (ji_rv (ji_gR M a 12) :: st) o := ev_getR (k := 204) rfl fd_9_48 rfl
theorem s204_108 : ji_Ev C 204 108 M (l0 :: l1 :: l2 :: l3 :: l4 :: l5 :: l6 :: some (.int x) :: l) st o ↔ ji_Ev C 204 110 M (l0 :: l1 :: l2 :: l3 :: l4 :: l5 :: l6 :: some (.int x) :: l) (.int x :: st) o := ev_go (S := (110, M, (l0 :: l1 :: l2 :: l3 :: l4 :: l5 :: l6 :: some (.int x) :: l), (.int x :: st))) rfl rfl rfl
theorem s204_110 : ji_Ev C 204 110 M lv (.int x :: .ref a :: st) o ↔ ji_evA (ji_kd M a) (fun n => vp_in x n ∧ ji_Ev C 204 111 M lv (.int (ji_gI M a x.toNatClampNeg) :: st) o) := ev_iald rfl
theorem s204_111 : ji_Ev C 204 111 M lv st o ↔ ji_Ev C 204 112 M lv (.int 3 :: st) o := ev_go (S := (112, M, lv, (.int 3 :: st))) rfl rfl rfl
theorem s204_112 : ji_Ev C 204 112 M lv (p1 :: p0 :: .ref a :: st) o ↔ (ji_rcb M 9 (.ref a) = true ∧ ji_ok8 st) ∧ ji_evC (C 169 [.ref a, p0, p1] M) (fun v M' => ji_Ev C 204 115 M' lv (v.toList ++ st) o) := ev_inv (k := 204) rfl cd_9_297 rfl
theorem s204_115 : ji_Ev C 204 115 M lv (.int x :: st) o ↔ if x = 0 then ji_Ev C 204 147 M lv st o else ji_Ev C 204 118 M lv st o := ev_brz (c := .eq) rfl (by decide) rfl
theorem s204_118 : ji_Ev C 204 118 M (some (.ref a) :: l) st o ↔ ji_Ev C 204 119 M (some (.ref a) :: l) (.ref a :: st) o := ev_go (S := (119, M, (some (.ref a) :: l), (.ref a :: st))) rfl rfl rfl
theorem s204_119 : ji_Ev C 204 119 M (l0 :: l1 :: l2 :: l3 :: l4 :: l5 :: l6 :: some (.int x) :: l) st o ↔ ji_Ev C 204 121 M (l0 :: l1 :: l2 :: l3 :: l4 :: l5 :: l6 :: some (.int x) :: l) (.int x :: st) o := ev_go (S := (121, M, (l0 :: l1 :: l2 :: l3 :: l4 :: l5 :: l6 :: some (.int x) :: l), (.int x :: st))) rfl rfl rfl
theorem s204_121 : ji_Ev C 204 121 M lv st o ↔ ji_Ev C 204 122 M lv (.int 3 :: st) o := ev_go (S := (122, M, lv, (.int 3 :: st))) rfl rfl rfl
theorem s204_122 : ji_Ev C 204 122 M lv (p1 :: p0 :: .ref a :: st) o ↔ (ji_rcb M 9 (.ref a) = true ∧ ji_ok8 st) ∧ ji_evC (C 188 [.ref a, p0, p1] M) (fun v M' => ji_Ev C 204 125 M' lv (v.toList ++ st) o) := ev_inv (k := 204) rfl cd_9_304 rfl
theorem s204_125 : ji_Ev C 204 125 M lv (.int x :: st) o ↔ if x = 0 then ji_Ev C 204 147 M lv st o else ji_Ev C 204 128 M lv st o := ev_brz (c := .eq) rfl (by decide) rfl
theorem s204_128 : ji_Ev C 204 128 M (some (.ref a) :: l) st o ↔ ji_Ev C 204 129 M (some (.ref a) :: l) (.ref a :: st) o := ev_go (S := (129, M, (some (.ref a) :: l), (.ref a :: st))) rfl rfl rfl
theorem s204_129 : ji_Ev C 204 129 M lv (.ref a :: st) o ↔ ji_kd M a = some (0, 9) ∧ ji_Ev C 204 132 M lv (ji_rv (ji_gR M a 12) :: st) o := ev_getR (k := 204) rfl fd_9_48 rfl
theorem s204_132 : ji_Ev C 204 132 M (l0 :: l1 :: l2 :: l3 :: l4 :: l5 :: l6 :: some (.int x) :: l) st o ↔ ji_Ev C 204 134 M (l0 :: l1 :: l2 :: l3 :: l4 :: l5 :: l6 :: some (.int x) :: l) (.int x :: st) o := ev_go (S := (134, M, (l0 :: l1 :: l2 :: l3 :: l4 :: l5 :: l6 :: some (.int x) :: l), (.int x :: st))) rfl rfl rfl
theorem s204_134 : ji_Ev C 204 134 M lv st o ↔ ji_Ev C 204 135 M lv (.int 3 :: st) o := ev_go (S := (135, M, lv, (.int 3 :: st))) rfl rfl rfl
theorem s204_135 : ji_Ev C 204 135 M lv (.int y :: .int x :: .ref a :: st) o ↔ ji_evA (ji_kd M a) (fun n => vp_in x n ∧ ji_Ev C 204 136 (ji_sI M a x.toNatClampNeg y) lv st o) := ev_iast rfl
theorem s204_136 : ji_Ev C 204 136 M (some (.ref a) :: l) st o ↔ ji_Ev C 204 137 M (some (.ref a) :: l) (.ref a :: st) o := ev_go (S := (137, M, (some (.ref a) :: l), (.ref a :: st))) rfl rfl rfl
theorem s204_137 : ji_Ev C 204 137 M lv (.ref a :: st) o ↔ ji_kd M a = some (0, 9) ∧ ji_Ev C 204 140 M lv (ji_rv (ji_gR M a 13) :: st) o := ev_getR (k := 204) rfl fd_9_51 rfl
theorem s204_140 : ji_Ev C 204 140 M (l0 :: l1 :: l2 :: l3 :: l4 :: l5 :: l6 :: some (.int x) :: l) st o ↔ ji_Ev C 204 142 M (l0 :: l1 :: l2 :: l3 :: l4 :: l5 :: l6 :: some (.int x) :: l) (.int x :: st) o := ev_go (S := (142, M, (l0 :: l1 :: l2 :: l3 :: l4 :: l5 :: l6 :: some (.int x) :: l), (.int x :: st))) rfl rfl rfl
theorem s204_142 : ji_Ev C 204 142 M (some (.ref a) :: l) st o ↔ ji_Ev C 204 143 M (some (.ref a) :: l) (.ref a :: st) o := ev_go (S := (143, M, (some (.ref a) :: l), (.ref a :: st))) rfl rfl rfl
theorem s204_143 : ji_Ev C 204 143 M lv (.ref a :: st) o ↔ ji_kd M a = some (0, 9) ∧ ji_Ev C 204 146 M lv (.int (ji_gI M a 0) :: st) o := ev_getI (k := 204) rfl fd_9_7 rfl
theorem s204_146 : ji_Ev C 204 146 M lv (.int y :: .int x :: .ref a :: st) o ↔ ji_evA (ji_kd M a) (fun n => vp_in x n ∧ ji_Ev C 204 147 (ji_sI M a x.toNatClampNeg y) lv st o) := ev_iast rfl
theorem s204_147 : ji_Ev C 204 147 M lv st o ↔ ji_Ev C 204 148 M lv (.int 0 :: st) o := ev_go (S := (148, M, lv, (.int 0 :: st))) rfl rfl rfl
theorem s204_148 : ji_Ev C 204 148 M lv (.int x :: st) o ↔ 8 < lv.length ∧ ji_Ev C 204 150 M (ji_s1 lv 8 (.int x)) st o := ev_stI rfl rfl rfl
theorem s204_150 : ji_Ev C 204 150 M (l0 :: l1 :: l2 :: l3 :: l4 :: l5 :: l6 :: l7 :: some (.int x) :: l) st o ↔ ji_Ev C 204 152 M (l0 :: l1 :: l2 :: l3 :: l4 :: l5 :: l6 :: l7 :: some (.int x) :: l) (.int x :: st) o := ev_go (S := (152, M, (l0 :: l1 :: l2 :: l3 :: l4 :: l5 :: l6 :: l7 :: some (.int x) :: l), (.int x :: st))) rfl rfl rfl
theorem s204_152 : ji_Ev C 204 152 M (l0 :: l1 :: some (.int x) :: l) st o ↔ ji_Ev C 204 153 M (l0 :: l1 :: some (.int x) :: l) (.int x :: st) o := ev_go (S := (153, M, (l0 :: l1 :: some (.int x) :: l), (.int x :: st))) rfl rfl rfl
theorem s204_153 : ji_Ev C 204 153 M lv (.int y :: .int x :: st) o ↔ if x < y then ji_Ev C 204 156 M lv st o else ji_Ev C 204 166 M lv st o := ev_brc (c := .ge) rfl (by decide) rfl
theorem s204_156 : ji_Ev C 204 156 M (some (.ref a) :: l) st o ↔ ji_Ev C 204 157 M (some (.ref a) :: l) (.ref a :: st) o := ev_go (S := (157, M, (some (.ref a) :: l), (.ref a :: st))) rfl rfl rfl
theorem s204_157 : ji_Ev C 204 157 M lv (.ref a :: st) o ↔ (ji_rcb M 9 (.ref a) = true ∧ ji_ok8 st) ∧ ji_evC (C 160 [.ref a] M) (fun v M' => ji_Ev C 204 160 M' lv (v.toList ++ st) o) := ev_inv (k := 204) rfl cd_9_272 rfl
theorem s204_160 : ji_Ev C 204 160 M lv st o ↔ ji_evL (lv.getD 8 none) ji_isI (fun v => match v with | .int x => 8 < lv.length ∧ ji_Ev C 204 163 M (ji_s1 lv 8 (.int (x + Int32.ofInt 1))) st o | _ => False) := ev_iinc rfl
theorem s204_163 : ji_Ev C 204 163 M lv st o ↔ ji_Ev C 204 150 M lv st o := ev_gt rfl (by decide) rfl
theorem s204_166 : ji_Ev C 204 166 M lv st o ↔ ji_evL (lv.getD 6 none) ji_isI (fun v => match v with | .int x => 6 < lv.length ∧ ji_Ev C 204 169 M (ji_s1 lv 6 (.int (x + Int32.ofInt 1))) st o | _ => False) := ev_iinc rfl
theorem s204_169 : ji_Ev C 204 169 M lv st o ↔ ji_Ev C 204 88 M lv st o := ev_gt rfl (by decide) rfl
theorem s204_172 : ji_Ev C 204 172 M (some (.ref a) :: l) st o ↔ ji_Ev C 204 173 M (some (.ref a) :: l) (.ref a :: st) o := ev_go (S := (173, M, (some (.ref a) :: l), (.ref a :: st))) rfl rfl rfl
theorem s204_173 : ji_Ev C 204 173 M lv (.ref a :: st) o ↔ (ji_rcb M 9 (.ref a) = true ∧ ji_ok8 st) ∧ ji_evC (C 194 [.ref a] M) (fun v M' => ji_Ev C 204 176 M' lv (v.toList ++ st) o) := ev_inv (k := 204) rfl cd_9_313 rfl
theorem s204_176 : ji_Ev C 204 176 M lv (.long u :: st) o ↔ 7 < lv.length ∧ ji_Ev C 204 178 M (ji_s2 lv 6 (.long u)) st o := ev_stL rfl rfl rfl
theorem s204_178 : ji_Ev C 204 178 M (some (.ref a) :: l) st o ↔ ji_Ev C 204 179 M (some (.ref a) :: l) (.ref a :: st) o := ev_go (S := (179, M, (some (.ref a) :: l), (.ref a :: st))) rfl rfl rfl
theorem s204_179 : ji_Ev C 204 179 M (l0 :: l1 :: l2 :: some (.int x) :: l) st o ↔ ji_Ev C 204 180 M (l0 :: l1 :: l2 :: some (.int x) :: l) (.int x :: st) o := ev_go (S := (180, M, (l0 :: l1 :: l2 :: some (.int x) :: l), (.int x :: st))) rfl rfl rfl
theorem s204_180 : ji_Ev C 204 180 M lv (.int x :: .ref a :: st) o ↔ ji_kd M a = some (0, 9) ∧ ji_Ev C 204 183 (ji_sI M a 0 x) lv st o := ev_putI (k := 204) rfl fd_9_7 rfl (by decide)
theorem s204_183 : ji_Ev C 204 183 M (some (.ref a) :: l) st o ↔ ji_Ev C 204 184 M (some (.ref a) :: l) (.ref a :: st) o := ev_go (S := (184, M, (some (.ref a) :: l), (.ref a :: st))) rfl rfl rfl
theorem s204_184 : ji_Ev C 204 184 M (l0 :: l1 :: l2 :: l3 :: some (.long u) :: l) st o ↔ ji_Ev C 204 186 M (l0 :: l1 :: l2 :: l3 :: some (.long u) :: l) (.long u :: st) o := ev_go (S := (186, M, (l0 :: l1 :: l2 :: l3 :: some (.long u) :: l), (.long u :: st))) rfl rfl rfl
theorem s204_186 : ji_Ev C 204 186 M lv (.long u :: .ref a :: st) o ↔ ji_kd M a = some (0, 9) ∧ ji_Ev C 204 189 (ji_sL M a 5 u) lv st o := ev_putL (k := 204) rfl fd_9_25 rfl (by decide)
theorem s204_189 : ji_Ev C 204 189 M lv st o ↔ ji_Ev C 204 190 M lv (.int 0 :: st) o := ev_go (S := (190, M, lv, (.int 0 :: st))) rfl rfl rfl
theorem s204_190 : ji_Ev C 204 190 M lv (.int x :: st) o ↔ 8 < lv.length ∧ ji_Ev C 204 192 M (ji_s1 lv 8 (.int x)) st o := ev_stI rfl rfl rfl
theorem s204_192 : ji_Ev C 204 192 M (l0 :: l1 :: l2 :: l3 :: l4 :: l5 :: l6 :: l7 :: some (.int x) :: l) st o ↔ ji_Ev C 204 194 M (l0 :: l1 :: l2 :: l3 :: l4 :: l5 :: l6 :: l7 :: some (.int x) :: l) (.int x :: st) o := ev_go (S := (194, M, (l0 :: l1 :: l2 :: l3 :: l4 :: l5 :: l6 :: l7 :: some (.int x) :: l), (.int x :: st))) rfl rfl rfl
theorem s204_194 : ji_Ev C 204 194 M (some (.ref a) :: l) st o ↔ ji_Ev C 204 195 M (some (.ref a) :: l) (.ref a :: st) o := ev_go (S := (195, M, (some (.ref a) :: l), (.ref a :: st))) rfl rfl rfl
theorem s204_195 : ji_Ev C 204 195 M lv (.ref a :: st) o ↔ ji_kd M a = some (0, 9) ∧ ji_Ev C 204 198 M lv (.int (ji_gI M a 4) :: st) o := ev_getI (k := 204) rfl fd_9_22 rfl
theorem s204_198 : ji_Ev C 204 198 M lv (.int y :: .int x :: st) o ↔ if x < y then ji_Ev C 204 201 M lv st o else ji_Ev C 204 263 M lv st o := ev_brc (c := .ge) rfl (by decide) rfl
theorem s204_201 : ji_Ev C 204 201 M (some (.ref a) :: l) st o ↔ ji_Ev C 204 202 M (some (.ref a) :: l) (.ref a :: st) o := ev_go (S := (202, M, (some (.ref a) :: l), (.ref a :: st))) rfl rfl rfl
theorem s204_202 : ji_Ev C 204 202 M lv (.ref a :: st) o ↔ ji_kd M a = some (0, 9) ∧ ji_Ev C 204 205 M lv (ji_rv (ji_gR M a 10) :: st) o := ev_getR (k := 204) rfl fd_9_42 rfl
theorem s204_205 : ji_Ev C 204 205 M (l0 :: l1 :: l2 :: l3 :: l4 :: l5 :: l6 :: l7 :: some (.int x) :: l) st o ↔ ji_Ev C 204 207 M (l0 :: l1 :: l2 :: l3 :: l4 :: l5 :: l6 :: l7 :: some (.int x) :: l) (.int x :: st) o := ev_go (S := (207, M, (l0 :: l1 :: l2 :: l3 :: l4 :: l5 :: l6 :: l7 :: some (.int x) :: l), (.int x :: st))) rfl rfl rfl
theorem s204_207 : ji_Ev C 204 207 M (some (.ref a) :: l) st o ↔ ji_Ev C 204 208 M (some (.ref a) :: l) (.ref a :: st) o := ev_go (S := (208, M, (some (.ref a) :: l), (.ref a :: st))) rfl rfl rfl
theorem s204_208 : ji_Ev C 204 208 M lv (.ref a :: st) o ↔ ji_kd M a = some (0, 9) ∧ ji_Ev C 204 211 M lv (ji_rv (ji_gR M a 38) :: st) o := ev_getR (k := 204) rfl fd_9_126 rfl
theorem s204_211 : ji_Ev C 204 211 M (l0 :: l1 :: l2 :: l3 :: l4 :: l5 :: l6 :: l7 :: some (.int x) :: l) st o ↔ ji_Ev C 204 213 M (l0 :: l1 :: l2 :: l3 :: l4 :: l5 :: l6 :: l7 :: some (.int x) :: l) (.int x :: st) o := ev_go (S := (213, M, (l0 :: l1 :: l2 :: l3 :: l4 :: l5 :: l6 :: l7 :: some (.int x) :: l), (.int x :: st))) rfl rfl rfl
theorem s204_213 : ji_Ev C 204 213 M lv (.int x :: .ref a :: st) o ↔ ji_evA (ji_kd M a) (fun n => vp_in x n ∧ ji_Ev C 204 214 M lv (.int (ji_gI M a x.toNatClampNeg) :: st) o) := ev_iald rfl
theorem s204_214 : ji_Ev C 204 214 M lv (.int y :: .int x :: .ref a :: st) o ↔ ji_evA (ji_kd M a) (fun n => vp_in x n ∧ ji_Ev C 204 215 (ji_sI M a x.toNatClampNeg y) lv st o) := ev_iast rfl
theorem s204_215 : ji_Ev C 204 215 M (some (.ref a) :: l) st o ↔ ji_Ev C 204 216 M (some (.ref a) :: l) (.ref a :: st) o := ev_go (S := (216, M, (some (.ref a) :: l), (.ref a :: st))) rfl rfl rfl
theorem s204_216 : ji_Ev C 204 216 M lv (.ref a :: st) o ↔ ji_kd M a = some (0, 9) ∧ ji_Ev C 204 219 M lv (ji_rv (ji_gR M a 11) :: st) o := ev_getR (k := 204) rfl fd_9_45 rfl
theorem s204_219 : ji_Ev C 204 219 M (l0 :: l1 :: l2 :: l3 :: l4 :: l5 :: l6 :: l7 :: some (.int x) :: l) st o ↔ ji_Ev C 204 221 M (l0 :: l1 :: l2 :: l3 :: l4 :: l5 :: l6 :: l7 :: some (.int x) :: l) (.int x :: st) o := ev_go (S := (221, M, (l0 :: l1 :: l2 :: l3 :: l4 :: l5 :: l6 :: l7 :: some (.int x) :: l), (.int x :: st))) rfl rfl rfl
theorem s204_221 : ji_Ev C 204 221 M (some (.ref a) :: l) st o ↔ ji_Ev C 204 222 M (some (.ref a) :: l) (.ref a :: st) o := ev_go (S := (222, M, (some (.ref a) :: l), (.ref a :: st))) rfl rfl rfl
theorem s204_222 : ji_Ev C 204 222 M lv (.ref a :: st) o ↔ ji_kd M a = some (0, 9) ∧ ji_Ev C 204 225 M lv (ji_rv (ji_gR M a 39) :: st) o := ev_getR (k := 204) rfl fd_9_129 rfl
theorem s204_225 : ji_Ev C 204 225 M (l0 :: l1 :: l2 :: l3 :: l4 :: l5 :: l6 :: l7 :: some (.int x) :: l) st o ↔ ji_Ev C 204 227 M (l0 :: l1 :: l2 :: l3 :: l4 :: l5 :: l6 :: l7 :: some (.int x) :: l) (.int x :: st) o := ev_go (S := (227, M, (l0 :: l1 :: l2 :: l3 :: l4 :: l5 :: l6 :: l7 :: some (.int x) :: l), (.int x :: st))) rfl rfl rfl
theorem s204_227 : ji_Ev C 204 227 M lv (.int x :: .ref a :: st) o ↔ ji_evA (ji_kd M a) (fun n => vp_in x n ∧ ji_Ev C 204 228 M lv (.int (ji_gI M a x.toNatClampNeg) :: st) o) := ev_iald rfl
theorem s204_228 : ji_Ev C 204 228 M lv (.int y :: .int x :: .ref a :: st) o ↔ ji_evA (ji_kd M a) (fun n => vp_in x n ∧ ji_Ev C 204 229 (ji_sI M a x.toNatClampNeg y) lv st o) := ev_iast rfl
theorem s204_229 : ji_Ev C 204 229 M (some (.ref a) :: l) st o ↔ ji_Ev C 204 230 M (some (.ref a) :: l) (.ref a :: st) o := ev_go (S := (230, M, (some (.ref a) :: l), (.ref a :: st))) rfl rfl rfl
theorem s204_230 : ji_Ev C 204 230 M lv (.ref a :: st) o ↔ ji_kd M a = some (0, 9) ∧ ji_Ev C 204 233 M lv (ji_rv (ji_gR M a 12) :: st) o := ev_getR (k := 204) rfl fd_9_48 rfl
theorem s204_233 : ji_Ev C 204 233 M (l0 :: l1 :: l2 :: l3 :: l4 :: l5 :: l6 :: l7 :: some (.int x) :: l) st o ↔ ji_Ev C 204 235 M (l0 :: l1 :: l2 :: l3 :: l4 :: l5 :: l6 :: l7 :: some (.int x) :: l) (.int x :: st) o := ev_go (S := (235, M, (l0 :: l1 :: l2 :: l3 :: l4 :: l5 :: l6 :: l7 :: some (.int x) :: l), (.int x :: st))) rfl rfl rfl
theorem s204_235 : ji_Ev C 204 235 M (some (.ref a) :: l) st o ↔ ji_Ev C 204 236 M (some (.ref a) :: l) (.ref a :: st) o := ev_go (S := (236, M, (some (.ref a) :: l), (.ref a :: st))) rfl rfl rfl
theorem s204_236 : ji_Ev C 204 236 M lv (.ref a :: st) o ↔ ji_kd M a = some (0, 9) ∧ ji_Ev C 204 239 M lv (ji_rv (ji_gR M a 40) :: st) o := ev_getR (k := 204) rfl fd_9_132 rfl
theorem s204_239 : ji_Ev C 204 239 M (l0 :: l1 :: l2 :: l3 :: l4 :: l5 :: l6 :: l7 :: some (.int x) :: l) st o ↔ ji_Ev C 204 241 M (l0 :: l1 :: l2 :: l3 :: l4 :: l5 :: l6 :: l7 :: some (.int x) :: l) (.int x :: st) o := ev_go (S := (241, M, (l0 :: l1 :: l2 :: l3 :: l4 :: l5 :: l6 :: l7 :: some (.int x) :: l), (.int x :: st))) rfl rfl rfl
theorem s204_241 : ji_Ev C 204 241 M lv (.int x :: .ref a :: st) o ↔ ji_evA (ji_kd M a) (fun n => vp_in x n ∧ ji_Ev C 204 242 M lv (.int (ji_gI M a x.toNatClampNeg) :: st) o) := ev_iald rfl
theorem s204_242 : ji_Ev C 204 242 M lv (.int y :: .int x :: .ref a :: st) o ↔ ji_evA (ji_kd M a) (fun n => vp_in x n ∧ ji_Ev C 204 243 (ji_sI M a x.toNatClampNeg y) lv st o) := ev_iast rfl
theorem s204_243 : ji_Ev C 204 243 M (some (.ref a) :: l) st o ↔ ji_Ev C 204 244 M (some (.ref a) :: l) (.ref a :: st) o := ev_go (S := (244, M, (some (.ref a) :: l), (.ref a :: st))) rfl rfl rfl
theorem s204_244 : ji_Ev C 204 244 M lv (.ref a :: st) o ↔ ji_kd M a = some (0, 9) ∧ ji_Ev C 204 247 M lv (ji_rv (ji_gR M a 13) :: st) o := ev_getR (k := 204) rfl fd_9_51 rfl
theorem s204_247 : ji_Ev C 204 247 M (l0 :: l1 :: l2 :: l3 :: l4 :: l5 :: l6 :: l7 :: some (.int x) :: l) st o ↔ ji_Ev C 204 249 M (l0 :: l1 :: l2 :: l3 :: l4 :: l5 :: l6 :: l7 :: some (.int x) :: l) (.int x :: st) o := ev_go (S := (249, M, (l0 :: l1 :: l2 :: l3 :: l4 :: l5 :: l6 :: l7 :: some (.int x) :: l), (.int x :: st))) rfl rfl rfl
theorem s204_249 : ji_Ev C 204 249 M (some (.ref a) :: l) st o ↔ ji_Ev C 204 250 M (some (.ref a) :: l) (.ref a :: st) o := ev_go (S := (250, M, (some (.ref a) :: l), (.ref a :: st))) rfl rfl rfl
theorem s204_250 : ji_Ev C 204 250 M lv (.ref a :: st) o ↔ ji_kd M a = some (0, 9) ∧ ji_Ev C 204 253 M lv (ji_rv (ji_gR M a 41) :: st) o := ev_getR (k := 204) rfl fd_9_135 rfl
theorem s204_253 : ji_Ev C 204 253 M (l0 :: l1 :: l2 :: l3 :: l4 :: l5 :: l6 :: l7 :: some (.int x) :: l) st o ↔ ji_Ev C 204 255 M (l0 :: l1 :: l2 :: l3 :: l4 :: l5 :: l6 :: l7 :: some (.int x) :: l) (.int x :: st) o := ev_go (S := (255, M, (l0 :: l1 :: l2 :: l3 :: l4 :: l5 :: l6 :: l7 :: some (.int x) :: l), (.int x :: st))) rfl rfl rfl
theorem s204_255 : ji_Ev C 204 255 M lv (.int x :: .ref a :: st) o ↔ ji_evA (ji_kd M a) (fun n => vp_in x n ∧ ji_Ev C 204 256 M lv (.int (ji_gI M a x.toNatClampNeg) :: st) o) := ev_iald rfl
theorem s204_256 : ji_Ev C 204 256 M lv (.int y :: .int x :: .ref a :: st) o ↔ ji_evA (ji_kd M a) (fun n => vp_in x n ∧ ji_Ev C 204 257 (ji_sI M a x.toNatClampNeg y) lv st o) := ev_iast rfl
theorem s204_257 : ji_Ev C 204 257 M lv st o ↔ ji_evL (lv.getD 8 none) ji_isI (fun v => match v with | .int x => 8 < lv.length ∧ ji_Ev C 204 260 M (ji_s1 lv 8 (.int (x + Int32.ofInt 1))) st o | _ => False) := ev_iinc rfl
theorem s204_260 : ji_Ev C 204 260 M lv st o ↔ ji_Ev C 204 192 M lv st o := ev_gt rfl (by decide) rfl
theorem s204_263 : ji_Ev C 204 263 M (l0 :: l1 :: l2 :: l3 :: l4 :: l5 :: some (.long u) :: l) st o ↔ ji_Ev C 204 265 M (l0 :: l1 :: l2 :: l3 :: l4 :: l5 :: some (.long u) :: l) (.long u :: st) o := ev_go (S := (265, M, (l0 :: l1 :: l2 :: l3 :: l4 :: l5 :: some (.long u) :: l), (.long u :: st))) rfl rfl rfl
theorem s204_265 : ji_Ev C 204 265 M lv [.long u] o ↔ o = (some (.long u), M) := ev_lret rfl rfl
theorem s205_0 : ji_Ev C 205 0 M (some (.ref a) :: l) st o ↔ ji_Ev C 205 1 M (some (.ref a) :: l) (.ref a :: st) o := ev_go (S := (1, M, (some (.ref a) :: l), (.ref a :: st))) rfl rfl rfl
theorem s205_1 : ji_Ev C 205 1 M (l0 :: some (.int x) :: l) st o ↔ ji_Ev C 205 2 M (l0 :: some (.int x) :: l) (.int x :: st) o := ev_go (S := (2, M, (l0 :: some (.int x) :: l), (.int x :: st))) rfl rfl rfl
theorem s205_2 : ji_Ev C 205 2 M lv st o ↔ ji_Ev C 205 3 M lv (.int 0 :: st) o := ev_go (S := (3, M, lv, (.int 0 :: st))) rfl rfl rfl
theorem s205_3 : ji_Ev C 205 3 M lv st o ↔ ji_Ev C 205 5 M lv (.int 99 :: st) o := ev_go (S := (5, M, lv, (.int 99 :: st))) rfl rfl rfl
theorem s205_5 : ji_Ev C 205 5 M lv (p2 :: p1 :: p0 :: .ref a :: st) o ↔ (ji_rcb M 9 (.ref a) = true ∧ ji_ok8 st) ∧ ji_evC (C 158 [.ref a, p0, p1, p2] M) (fun v M' => ji_Ev C 205 8 M' lv (v.toList ++ st) o) := ev_inv (k := 205) rfl cd_9_255 rfl
theorem s205_8 : ji_Ev C 205 8 M lv (.int x :: st) o ↔ if x = 0 then ji_Ev C 205 22 M lv st o else ji_Ev C 205 11 M lv st o := ev_brz (c := .eq) rfl (by decide) rfl
theorem s205_11 : ji_Ev C 205 11 M (some (.ref a) :: l) st o ↔ ji_Ev C 205 12 M (some (.ref a) :: l) (.ref a :: st) o := ev_go (S := (12, M, (some (.ref a) :: l), (.ref a :: st))) rfl rfl rfl
theorem s205_12 : ji_Ev C 205 12 M (l0 :: l1 :: some (.int x) :: l) st o ↔ ji_Ev C 205 13 M (l0 :: l1 :: some (.int x) :: l) (.int x :: st) o := ev_go (S := (13, M, (l0 :: l1 :: some (.int x) :: l), (.int x :: st))) rfl rfl rfl
theorem s205_13 : ji_Ev C 205 13 M lv st o ↔ ji_Ev C 205 14 M lv (.int 0 :: st) o := ev_go (S := (14, M, lv, (.int 0 :: st))) rfl rfl rfl
theorem s205_14 : ji_Ev C 205 14 M lv st o ↔ ji_Ev C 205 16 M lv (.int 9 :: st) o := ev_go (S := (16, M, lv, (.int 9 :: st))) rfl rfl rfl
theorem s205_16 : ji_Ev C 205 16 M lv (p2 :: p1 :: p0 :: .ref a :: st) o ↔ (ji_rcb M 9 (.ref a) = true ∧ ji_ok8 st) ∧ ji_evC (C 158 [.ref a, p0, p1, p2] M) (fun v M' => ji_Ev C 205 19 M' lv (v.toList ++ st) o) := ev_inv (k := 205) rfl cd_9_255 rfl
theorem s205_19 : ji_Ev C 205 19 M lv (.int x :: st) o ↔ if x = 0 then ji_Ev C 205 22 M lv st o else ji_Ev C 205 25 M lv st o := ev_brz (c := .ne) rfl (by decide) rfl
theorem s205_22 : ji_Ev C 205 22 M lv st o ↔ ji_Ev C 205 24 M lv (.int (-2) :: st) o := ev_go (S := (24, M, lv, (.int (-2) :: st))) rfl rfl rfl
theorem s205_24 : ji_Ev C 205 24 M lv [.int x] o ↔ o = (some (.int x), M) := ev_ireti rfl rfl
theorem s205_25 : ji_Ev C 205 25 M (some (.ref a) :: l) st o ↔ ji_Ev C 205 26 M (some (.ref a) :: l) (.ref a :: st) o := ev_go (S := (26, M, (some (.ref a) :: l), (.ref a :: st))) rfl rfl rfl
theorem s205_26 : ji_Ev C 205 26 M lv (.ref a :: st) o ↔ ji_kd M a = some (0, 9) ∧ ji_Ev C 205 29 M lv (.int (ji_gI M a 46) :: st) o := ev_getI (k := 205) rfl fd_9_150 rfl
theorem s205_29 : ji_Ev C 205 29 M lv st o ↔ ji_Ev C 205 31 M lv (.int 6 :: st) o := ev_go (S := (31, M, lv, (.int 6 :: st))) rfl rfl rfl
theorem s205_31 : ji_Ev C 205 31 M lv (.int y :: .int x :: st) o ↔ if x = y then ji_Ev C 205 34 M lv st o else ji_Ev C 205 37 M lv st o := ev_brc (c := .ne) rfl (by decide) rfl
theorem s205_34 : ji_Ev C 205 34 M lv st o ↔ ji_Ev C 205 36 M lv (.int (-4) :: st) o := ev_go (S := (36, M, lv, (.int (-4) :: st))) rfl rfl rfl
theorem s205_36 : ji_Ev C 205 36 M lv [.int x] o ↔ o = (some (.int x), M) := ev_ireti rfl rfl
theorem s205_37 : ji_Ev C 205 37 M (some (.ref a) :: l) st o ↔ ji_Ev C 205 38 M (some (.ref a) :: l) (.ref a :: st) o := ev_go (S := (38, M, (some (.ref a) :: l), (.ref a :: st))) rfl rfl rfl
theorem s205_38 : ji_Ev C 205 38 M lv (.ref a :: st) o ↔ ji_kd M a = some (0, 9) ∧ ji_Ev C 205 41 M lv (ji_rv (ji_gR M a 47) :: st) o := ev_getR (k := 205) rfl fd_9_153 rfl
theorem s205_41 : ji_Ev C 205 41 M (some (.ref a) :: l) st o ↔ ji_Ev C 205 42 M (some (.ref a) :: l) (.ref a :: st) o := ev_go (S := (42, M, (some (.ref a) :: l), (.ref a :: st))) rfl rfl rfl
theorem s205_42 : ji_Ev C 205 42 M lv (.ref a :: st) o ↔ ji_kd M a = some (0, 9) ∧ ji_Ev C 205 45 M lv (.int (ji_gI M a 46) :: st) o := ev_getI (k := 205) rfl fd_9_150 rfl
theorem s205_45 : ji_Ev C 205 45 M (l0 :: some (.int x) :: l) st o ↔ ji_Ev C 205 46 M (l0 :: some (.int x) :: l) (.int x :: st) o := ev_go (S := (46, M, (l0 :: some (.int x) :: l), (.int x :: st))) rfl rfl rfl
theorem s205_46 : ji_Ev C 205 46 M lv (.int y :: .int x :: .ref a :: st) o ↔ ji_evA (ji_kd M a) (fun n => vp_in x n ∧ ji_Ev C 205 47 (ji_sI M a x.toNatClampNeg y) lv st o) := ev_iast rfl
theorem s205_47 : ji_Ev C 205 47 M (some (.ref a) :: l) st o ↔ ji_Ev C 205 48 M (some (.ref a) :: l) (.ref a :: st) o := ev_go (S := (48, M, (some (.ref a) :: l), (.ref a :: st))) rfl rfl rfl
theorem s205_48 : ji_Ev C 205 48 M lv (.ref a :: st) o ↔ ji_kd M a = some (0, 9) ∧ ji_Ev C 205 51 M lv (ji_rv (ji_gR M a 48) :: st) o := ev_getR (k := 205) rfl fd_9_156 rfl
theorem s205_51 : ji_Ev C 205 51 M (some (.ref a) :: l) st o ↔ ji_Ev C 205 52 M (some (.ref a) :: l) (.ref a :: st) o := ev_go (S := (52, M, (some (.ref a) :: l), (.ref a :: st))) rfl rfl rfl
theorem s205_52 : ji_Ev C 205 52 M lv (.ref a :: st) o ↔ ji_kd M a = some (0, 9) ∧ ji_Ev C 205 55 M lv (.int (ji_gI M a 46) :: st) o := ev_getI (k := 205) rfl fd_9_150 rfl
theorem s205_55 : ji_Ev C 205 55 M (l0 :: l1 :: some (.int x) :: l) st o ↔ ji_Ev C 205 56 M (l0 :: l1 :: some (.int x) :: l) (.int x :: st) o := ev_go (S := (56, M, (l0 :: l1 :: some (.int x) :: l), (.int x :: st))) rfl rfl rfl
theorem s205_56 : ji_Ev C 205 56 M lv (.int y :: .int x :: .ref a :: st) o ↔ ji_evA (ji_kd M a) (fun n => vp_in x n ∧ ji_Ev C 205 57 (ji_sI M a x.toNatClampNeg y) lv st o) := ev_iast rfl
theorem s205_57 : ji_Ev C 205 57 M (some (.ref a) :: l) st o ↔ ji_Ev C 205 58 M (some (.ref a) :: l) (.ref a :: st) o := ev_go (S := (58, M, (some (.ref a) :: l), (.ref a :: st))) rfl rfl rfl
theorem s205_58 : ji_Ev C 205 58 M lv (.ref a :: st) o ↔ ji_kd M a = some (0, 9) ∧ ji_Ev C 205 61 M lv (ji_rv (ji_gR M a 49) :: st) o := ev_getR (k := 205) rfl fd_9_159 rfl
theorem s205_61 : ji_Ev C 205 61 M (some (.ref a) :: l) st o ↔ ji_Ev C 205 62 M (some (.ref a) :: l) (.ref a :: st) o := ev_go (S := (62, M, (some (.ref a) :: l), (.ref a :: st))) rfl rfl rfl
theorem s205_62 : ji_Ev C 205 62 M lv (.ref a :: st) o ↔ ji_kd M a = some (0, 9) ∧ ji_Ev C 205 65 M lv (.int (ji_gI M a 46) :: st) o := ev_getI (k := 205) rfl fd_9_150 rfl
theorem s205_65 : ji_Ev C 205 65 M (some (.ref a) :: l) st o ↔ ji_Ev C 205 66 M (some (.ref a) :: l) (.ref a :: st) o := ev_go (S := (66, M, (some (.ref a) :: l), (.ref a :: st))) rfl rfl rfl
theorem s205_66 : ji_Ev C 205 66 M lv (.ref a :: st) o ↔ ji_kd M a = some (0, 9) ∧ ji_Ev C 205 69 M lv (.int (ji_gI M a 0) :: st) o := ev_getI (k := 205) rfl fd_9_7 rfl
theorem s205_69 : ji_Ev C 205 69 M lv (.int y :: .int x :: .ref a :: st) o ↔ ji_evA (ji_kd M a) (fun n => vp_in x n ∧ ji_Ev C 205 70 (ji_sI M a x.toNatClampNeg y) lv st o) := ev_iast rfl
theorem s205_70 : ji_Ev C 205 70 M (some (.ref a) :: l) st o ↔ ji_Ev C 205 71 M (some (.ref a) :: l) (.ref a :: st) o := ev_go (S := (71, M, (some (.ref a) :: l), (.ref a :: st))) rfl rfl rfl
theorem s205_71 : ji_Ev C 205 71 M lv (.int x :: st) o ↔ ji_Ev C 205 72 M lv (.int x :: .int x :: st) o := ev_go (S := (72, M, lv, (.int x :: .int x :: st))) rfl rfl rfl
theorem s205_71r : ji_Ev C 205 71 M lv (.ref a :: st) o ↔ ji_Ev C 205 72 M lv (.ref a :: .ref a :: st) o := ev_go (S := (72, M, lv, (.ref a :: .ref a :: st))) rfl rfl rfl
theorem s205_72 : ji_Ev C 205 72 M lv (.ref a :: st) o ↔ ji_kd M a = some (0, 9) ∧ ji_Ev C 205 75 M lv (.int (ji_gI M a 46) :: st) o := ev_getI (k := 205) rfl fd_9_150 rfl
theorem s205_75 : ji_Ev C 205 75 M lv st o ↔ ji_Ev C 205 76 M lv (.int 1 :: st) o := ev_go (S := (76, M, lv, (.int 1 :: st))) rfl rfl rfl
theorem s205_76 : ji_Ev C 205 76 M lv (.int y :: .int x :: st) o ↔ ji_Ev C 205 77 M lv (.int (x + y) :: st) o := ev_go (S := (77, M, lv, (.int (x + y) :: st))) rfl rfl rfl
theorem s205_77 : ji_Ev C 205 77 M lv (.int x :: .ref a :: st) o ↔ ji_kd M a = some (0, 9) ∧ ji_Ev C 205 80 (ji_sI M a 46 x) lv st o := ev_putI (k := 205) rfl fd_9_150 rfl (by decide)
theorem s205_80 : ji_Ev C 205 80 M (some (.ref a) :: l) st o ↔ ji_Ev C 205 81 M (some (.ref a) :: l) (.ref a :: st) o := ev_go (S := (81, M, (some (.ref a) :: l), (.ref a :: st))) rfl rfl rfl
theorem s205_81 : ji_Ev C 205 81 M lv (.ref a :: st) o ↔ ji_kd M a = some (0, 9) ∧ ji_Ev C 205 84 M lv (.int (ji_gI M a 46) :: st) o := ev_getI (k := 205) rfl fd_9_150 rfl
theorem s205_84 : ji_Ev C 205 84 M lv st o ↔ ji_Ev C 205 85 M lv (.int 1 :: st) o := ev_go (S := (85, M, lv, (.int 1 :: st))) rfl rfl rfl
theorem s205_85 : ji_Ev C 205 85 M lv (.int y :: .int x :: st) o ↔ ji_Ev C 205 86 M lv (.int (x - y) :: st) o := ev_go (S := (86, M, lv, (.int (x - y) :: st))) rfl rfl rfl
theorem s205_86 : ji_Ev C 205 86 M lv [.int x] o ↔ o = (some (.int x), M) := ev_ireti rfl rfl
theorem s206_0 : ji_Ev C 206 0 M (some (.ref a) :: l) st o ↔ ji_Ev C 206 1 M (some (.ref a) :: l) (.ref a :: st) o := ev_go (S := (1, M, (some (.ref a) :: l), (.ref a :: st))) rfl rfl rfl
theorem s206_1 : ji_Ev C 206 1 M (l0 :: some (.int x) :: l) st o ↔ ji_Ev C 206 2 M (l0 :: some (.int x) :: l) (.int x :: st) o := ev_go (S := (2, M, (l0 :: some (.int x) :: l), (.int x :: st))) rfl rfl rfl
theorem s206_2 : ji_Ev C 206 2 M lv st o ↔ ji_Ev C 206 3 M lv (.int 0 :: st) o := ev_go (S := (3, M, lv, (.int 0 :: st))) rfl rfl rfl
theorem s206_3 : ji_Ev C 206 3 M lv st o ↔ ji_Ev C 206 4 M lv (.int 1 :: st) o := ev_go (S := (4, M, lv, (.int 1 :: st))) rfl rfl rfl
theorem s206_4 : ji_Ev C 206 4 M (some (.ref a) :: l) st o ↔ ji_Ev C 206 5 M (some (.ref a) :: l) (.ref a :: st) o := ev_go (S := (5, M, (some (.ref a) :: l), (.ref a :: st))) rfl rfl rfl
theorem s206_5 : ji_Ev C 206 5 M lv (.ref a :: st) o ↔ ji_kd M a = some (0, 9) ∧ ji_Ev C 206 8 M lv (.int (ji_gI M a 46) :: st) o := ev_getI (k := 206) rfl fd_9_150 rfl
theorem s206_8 : ji_Ev C 206 8 M lv (.int y :: .int x :: st) o ↔ ji_Ev C 206 9 M lv (.int (x <<< (y &&& 31)) :: st) o := ev_go (S := (9, M, lv, (.int (x <<< (y &&& 31)) :: st))) rfl rfl rfl
theorem s206_9 : ji_Ev C 206 9 M lv st o ↔ ji_Ev C 206 10 M lv (.int 1 :: st) o := ev_go (S := (10, M, lv, (.int 1 :: st))) rfl rfl rfl
theorem s206_10 : ji_Ev C 206 10 M lv (.int y :: .int x :: st) o ↔ ji_Ev C 206 11 M lv (.int (x - y) :: st) o := ev_go (S := (11, M, lv, (.int (x - y) :: st))) rfl rfl rfl
theorem s206_11 : ji_Ev C 206 11 M lv (p2 :: p1 :: p0 :: .ref a :: st) o ↔ (ji_rcb M 9 (.ref a) = true ∧ ji_ok8 st) ∧ ji_evC (C 158 [.ref a, p0, p1, p2] M) (fun v M' => ji_Ev C 206 14 M' lv (v.toList ++ st) o) := ev_inv (k := 206) rfl cd_9_255 rfl
theorem s206_14 : ji_Ev C 206 14 M lv (.int x :: st) o ↔ if x = 0 then ji_Ev C 206 17 M lv st o else ji_Ev C 206 20 M lv st o := ev_brz (c := .ne) rfl (by decide) rfl
theorem s206_17 : ji_Ev C 206 17 M lv st o ↔ ji_Ev C 206 19 M lv (.int (-2) :: st) o := ev_go (S := (19, M, lv, (.int (-2) :: st))) rfl rfl rfl
theorem s206_19 : ji_Ev C 206 19 M lv [.int x] o ↔ o = (some (.int x), M) := ev_ireti rfl rfl
theorem s206_20 : ji_Ev C 206 20 M lv st o ↔ ji_Ev C 206 21 M lv (.int 0 :: st) o := ev_go (S := (21, M, lv, (.int 0 :: st))) rfl rfl rfl
theorem s206_21 : ji_Ev C 206 21 M lv (.int x :: st) o ↔ 2 < lv.length ∧ ji_Ev C 206 22 M (ji_s1 lv 2 (.int x)) st o := ev_stI rfl rfl rfl
theorem s206_22 : ji_Ev C 206 22 M lv st o ↔ ji_Ev C 206 23 M lv (.int 0 :: st) o := ev_go (S := (23, M, lv, (.int 0 :: st))) rfl rfl rfl
theorem s206_23 : ji_Ev C 206 23 M lv (.int x :: st) o ↔ 3 < lv.length ∧ ji_Ev C 206 24 M (ji_s1 lv 3 (.int x)) st o := ev_stI rfl rfl rfl
theorem s206_24 : ji_Ev C 206 24 M (l0 :: l1 :: l2 :: some (.int x) :: l) st o ↔ ji_Ev C 206 25 M (l0 :: l1 :: l2 :: some (.int x) :: l) (.int x :: st) o := ev_go (S := (25, M, (l0 :: l1 :: l2 :: some (.int x) :: l), (.int x :: st))) rfl rfl rfl
theorem s206_25 : ji_Ev C 206 25 M (some (.ref a) :: l) st o ↔ ji_Ev C 206 26 M (some (.ref a) :: l) (.ref a :: st) o := ev_go (S := (26, M, (some (.ref a) :: l), (.ref a :: st))) rfl rfl rfl
theorem s206_26 : ji_Ev C 206 26 M lv (.ref a :: st) o ↔ ji_kd M a = some (0, 9) ∧ ji_Ev C 206 29 M lv (.int (ji_gI M a 46) :: st) o := ev_getI (k := 206) rfl fd_9_150 rfl
theorem s206_29 : ji_Ev C 206 29 M lv (.int y :: .int x :: st) o ↔ if x < y then ji_Ev C 206 32 M lv st o else ji_Ev C 206 98 M lv st o := ev_brc (c := .ge) rfl (by decide) rfl
theorem s206_32 : ji_Ev C 206 32 M (some (.ref a) :: l) st o ↔ ji_Ev C 206 33 M (some (.ref a) :: l) (.ref a :: st) o := ev_go (S := (33, M, (some (.ref a) :: l), (.ref a :: st))) rfl rfl rfl
theorem s206_33 : ji_Ev C 206 33 M lv (.ref a :: st) o ↔ ji_kd M a = some (0, 9) ∧ ji_Ev C 206 36 M lv (ji_rv (ji_gR M a 47) :: st) o := ev_getR (k := 206) rfl fd_9_153 rfl
theorem s206_36 : ji_Ev C 206 36 M (l0 :: l1 :: l2 :: some (.int x) :: l) st o ↔ ji_Ev C 206 37 M (l0 :: l1 :: l2 :: some (.int x) :: l) (.int x :: st) o := ev_go (S := (37, M, (l0 :: l1 :: l2 :: some (.int x) :: l), (.int x :: st))) rfl rfl rfl
theorem s206_37 : ji_Ev C 206 37 M lv (.int x :: .ref a :: st) o ↔ ji_evA (ji_kd M a) (fun n => vp_in x n ∧ ji_Ev C 206 38 M lv (.int (ji_gI M a x.toNatClampNeg) :: st) o) := ev_iald rfl
theorem s206_38 : ji_Ev C 206 38 M (some (.ref a) :: l) st o ↔ ji_Ev C 206 39 M (some (.ref a) :: l) (.ref a :: st) o := ev_go (S := (39, M, (some (.ref a) :: l), (.ref a :: st))) rfl rfl rfl
theorem s206_39 : ji_Ev C 206 39 M lv (.ref a :: st) o ↔ ji_kd M a = some (0, 9) ∧ ji_Ev C 206 42 M lv (ji_rv (ji_gR M a 48) :: st) o := ev_getR (k := 206) rfl fd_9_156 rfl
theorem s206_42 : ji_Ev C 206 42 M (l0 :: l1 :: l2 :: some (.int x) :: l) st o ↔ ji_Ev C 206 43 M (l0 :: l1 :: l2 :: some (.int x) :: l) (.int x :: st) o := ev_go (S := (43, M, (l0 :: l1 :: l2 :: some (.int x) :: l), (.int x :: st))) rfl rfl rfl
theorem s206_43 : ji_Ev C 206 43 M lv (.int x :: .ref a :: st) o ↔ ji_evA (ji_kd M a) (fun n => vp_in x n ∧ ji_Ev C 206 44 M lv (.int (ji_gI M a x.toNatClampNeg) :: st) o) := ev_iald rfl
theorem s206_44 : ji_Ev C 206 44 M (some (.ref a) :: l) st o ↔ ji_Ev C 206 45 M (some (.ref a) :: l) (.ref a :: st) o := ev_go (S := (45, M, (some (.ref a) :: l), (.ref a :: st))) rfl rfl rfl
theorem s206_45 : ji_Ev C 206 45 M lv (.ref a :: st) o ↔ ji_kd M a = some (0, 9) ∧ ji_Ev C 206 48 M lv (.int (ji_gI M a 0) :: st) o := ev_getI (k := 206) rfl fd_9_7 rfl
theorem s206_48 : ji_Ev C 206 48 M (some (.ref a) :: l) st o ↔ ji_Ev C 206 49 M (some (.ref a) :: l) (.ref a :: st) o := ev_go (S := (49, M, (some (.ref a) :: l), (.ref a :: st))) rfl rfl rfl
theorem s206_49 : ji_Ev C 206 49 M lv (.ref a :: st) o ↔ ji_kd M a = some (0, 9) ∧ ji_Ev C 206 52 M lv (ji_rv (ji_gR M a 49) :: st) o := ev_getR (k := 206) rfl fd_9_159 rfl
theorem s206_52 : ji_Ev C 206 52 M (l0 :: l1 :: l2 :: some (.int x) :: l) st o ↔ ji_Ev C 206 53 M (l0 :: l1 :: l2 :: some (.int x) :: l) (.int x :: st) o := ev_go (S := (53, M, (l0 :: l1 :: l2 :: some (.int x) :: l), (.int x :: st))) rfl rfl rfl
theorem s206_53 : ji_Ev C 206 53 M lv (.int x :: .ref a :: st) o ↔ ji_evA (ji_kd M a) (fun n => vp_in x n ∧ ji_Ev C 206 54 M lv (.int (ji_gI M a x.toNatClampNeg) :: st) o) := ev_iald rfl
theorem s206_54 : ji_Ev C 206 54 M lv (.int y :: .int x :: st) o ↔ ji_Ev C 206 55 M lv (.int (x - y) :: st) o := ev_go (S := (55, M, lv, (.int (x - y) :: st))) rfl rfl rfl
theorem s206_55 : ji_Ev C 206 55 M lv st o ↔ ji_Ev C 206 58 M lv (.int 168 :: st) o := ev_go (S := (58, M, lv, (.int 168 :: st))) rfl rfl rfl
theorem s206_58 : ji_Ev C 206 58 M lv (.int y :: .int x :: st) o ↔ ¬ y = 0 ∧ ji_Ev C 206 59 M lv (.int (x / y) :: st) o := ev_dvI rfl
theorem s206_59 : ji_Ev C 206 59 M lv (.int y :: .int x :: st) o ↔ ji_Ev C 206 60 M lv (.int (x * y) :: st) o := ev_go (S := (60, M, lv, (.int (x * y) :: st))) rfl rfl rfl
theorem s206_60 : ji_Ev C 206 60 M lv (.int y :: .int x :: st) o ↔ ji_Ev C 206 61 M lv (.int (x + y) :: st) o := ev_go (S := (61, M, lv, (.int (x + y) :: st))) rfl rfl rfl
theorem s206_61 : ji_Ev C 206 61 M lv (.int x :: st) o ↔ 4 < lv.length ∧ ji_Ev C 206 63 M (ji_s1 lv 4 (.int x)) st o := ev_stI rfl rfl rfl
theorem s206_63 : ji_Ev C 206 63 M (l0 :: l1 :: some (.int x) :: l) st o ↔ ji_Ev C 206 64 M (l0 :: l1 :: some (.int x) :: l) (.int x :: st) o := ev_go (S := (64, M, (l0 :: l1 :: some (.int x) :: l), (.int x :: st))) rfl rfl rfl
theorem s206_64 : ji_Ev C 206 64 M (l0 :: some (.int x) :: l) st o ↔ ji_Ev C 206 65 M (l0 :: some (.int x) :: l) (.int x :: st) o := ev_go (S := (65, M, (l0 :: some (.int x) :: l), (.int x :: st))) rfl rfl rfl
theorem s206_65 : ji_Ev C 206 65 M (l0 :: l1 :: l2 :: some (.int x) :: l) st o ↔ ji_Ev C 206 66 M (l0 :: l1 :: l2 :: some (.int x) :: l) (.int x :: st) o := ev_go (S := (66, M, (l0 :: l1 :: l2 :: some (.int x) :: l), (.int x :: st))) rfl rfl rfl
theorem s206_66 : ji_Ev C 206 66 M lv (.int y :: .int x :: st) o ↔ ji_Ev C 206 67 M lv (.int (x >>> (y &&& 31)) :: st) o := ev_go (S := (67, M, lv, (.int (x >>> (y &&& 31)) :: st))) rfl rfl rfl
theorem s206_67 : ji_Ev C 206 67 M lv st o ↔ ji_Ev C 206 68 M lv (.int 1 :: st) o := ev_go (S := (68, M, lv, (.int 1 :: st))) rfl rfl rfl
theorem s206_68 : ji_Ev C 206 68 M lv (.int y :: .int x :: st) o ↔ ji_Ev C 206 69 M lv (.int (x &&& y) :: st) o := ev_go (S := (69, M, lv, (.int (x &&& y) :: st))) rfl rfl rfl
theorem s206_69 : ji_Ev C 206 69 M lv (.int x :: st) o ↔ if x = 0 then ji_Ev C 206 72 M lv st o else ji_Ev C 206 76 M lv st o := ev_brz (c := .ne) rfl (by decide) rfl
theorem s206_72 : ji_Ev C 206 72 M lv st o ↔ ji_Ev C 206 73 M lv (.int 0 :: st) o := ev_go (S := (73, M, lv, (.int 0 :: st))) rfl rfl rfl
theorem s206_73 : ji_Ev C 206 73 M lv st o ↔ ji_Ev C 206 90 M lv st o := ev_gt rfl (by decide) rfl
theorem s206_76 : ji_Ev C 206 76 M (l0 :: l1 :: l2 :: l3 :: some (.int x) :: l) st o ↔ ji_Ev C 206 78 M (l0 :: l1 :: l2 :: l3 :: some (.int x) :: l) (.int x :: st) o := ev_go (S := (78, M, (l0 :: l1 :: l2 :: l3 :: some (.int x) :: l), (.int x :: st))) rfl rfl rfl
theorem s206_78 : ji_Ev C 206 78 M lv st o ↔ ji_Ev C 206 80 M lv (.int 99 :: st) o := ev_go (S := (80, M, lv, (.int 99 :: st))) rfl rfl rfl
theorem s206_80 : ji_Ev C 206 80 M lv (.int y :: .int x :: st) o ↔ if y < x then ji_Ev C 206 83 M lv st o else ji_Ev C 206 88 M lv st o := ev_brc (c := .le) rfl (by decide) rfl
theorem s206_83 : ji_Ev C 206 83 M lv st o ↔ ji_Ev C 206 85 M lv (.int 99 :: st) o := ev_go (S := (85, M, lv, (.int 99 :: st))) rfl rfl rfl
theorem s206_85 : ji_Ev C 206 85 M lv st o ↔ ji_Ev C 206 90 M lv st o := ev_gt rfl (by decide) rfl
theorem s206_88 : ji_Ev C 206 88 M (l0 :: l1 :: l2 :: l3 :: some (.int x) :: l) st o ↔ ji_Ev C 206 90 M (l0 :: l1 :: l2 :: l3 :: some (.int x) :: l) (.int x :: st) o := ev_go (S := (90, M, (l0 :: l1 :: l2 :: l3 :: some (.int x) :: l), (.int x :: st))) rfl rfl rfl
theorem s206_90 : ji_Ev C 206 90 M lv (.int y :: .int x :: st) o ↔ ji_Ev C 206 91 M lv (.int (x + y) :: st) o := ev_go (S := (91, M, lv, (.int (x + y) :: st))) rfl rfl rfl
theorem s206_91 : ji_Ev C 206 91 M lv (.int x :: st) o ↔ 2 < lv.length ∧ ji_Ev C 206 92 M (ji_s1 lv 2 (.int x)) st o := ev_stI rfl rfl rfl
theorem s206_92 : ji_Ev C 206 92 M lv st o ↔ ji_evL (lv.getD 3 none) ji_isI (fun v => match v with | .int x => 3 < lv.length ∧ ji_Ev C 206 95 M (ji_s1 lv 3 (.int (x + Int32.ofInt 1))) st o | _ => False) := ev_iinc rfl
theorem s206_95 : ji_Ev C 206 95 M lv st o ↔ ji_Ev C 206 24 M lv st o := ev_gt rfl (by decide) rfl
theorem s206_98 : ji_Ev C 206 98 M (l0 :: l1 :: some (.int x) :: l) st o ↔ ji_Ev C 206 99 M (l0 :: l1 :: some (.int x) :: l) (.int x :: st) o := ev_go (S := (99, M, (l0 :: l1 :: some (.int x) :: l), (.int x :: st))) rfl rfl rfl
theorem s206_99 : ji_Ev C 206 99 M lv [.int x] o ↔ o = (some (.int x), M) := ev_ireti rfl rfl
theorem s207_0 : ji_Ev C 207 0 M (some (.ref a) :: l) st o ↔ ji_Ev C 207 1 M (some (.ref a) :: l) (.ref a :: st) o := ev_go (S := (1, M, (some (.ref a) :: l), (.ref a :: st))) rfl rfl rfl
theorem s207_1 : ji_Ev C 207 1 M (l0 :: some (.int x) :: l) st o ↔ ji_Ev C 207 2 M (l0 :: some (.int x) :: l) (.int x :: st) o := ev_go (S := (2, M, (l0 :: some (.int x) :: l), (.int x :: st))) rfl rfl rfl
theorem s207_2 : ji_Ev C 207 2 M lv st o ↔ ji_Ev C 207 3 M lv (.int 0 :: st) o := ev_go (S := (3, M, lv, (.int 0 :: st))) rfl rfl rfl
theorem s207_3 : ji_Ev C 207 3 M lv st o ↔ ji_Ev C 207 6 M lv (.int 9999 :: st) o := ev_go (S := (6, M, lv, (.int 9999 :: st))) rfl rfl rfl
theorem s207_6 : ji_Ev C 207 6 M lv (p2 :: p1 :: p0 :: .ref a :: st) o ↔ (ji_rcb M 9 (.ref a) = true ∧ ji_ok8 st) ∧ ji_evC (C 158 [.ref a, p0, p1, p2] M) (fun v M' => ji_Ev C 207 9 M' lv (v.toList ++ st) o) := ev_inv (k := 207) rfl cd_9_255 rfl
theorem s207_9 : ji_Ev C 207 9 M lv (.int x :: st) o ↔ if x = 0 then ji_Ev C 207 12 M lv st o else ji_Ev C 207 15 M lv st o := ev_brz (c := .ne) rfl (by decide) rfl
theorem s207_12 : ji_Ev C 207 12 M lv st o ↔ ji_Ev C 207 14 M lv (.int (-2) :: st) o := ev_go (S := (14, M, lv, (.int (-2) :: st))) rfl rfl rfl
theorem s207_14 : ji_Ev C 207 14 M lv [.int x] o ↔ o = (some (.int x), M) := ev_ireti rfl rfl
theorem s207_15 : ji_Ev C 207 15 M (some (.ref a) :: l) st o ↔ ji_Ev C 207 16 M (some (.ref a) :: l) (.ref a :: st) o := ev_go (S := (16, M, (some (.ref a) :: l), (.ref a :: st))) rfl rfl rfl
theorem s207_16 : ji_Ev C 207 16 M lv (.ref a :: st) o ↔ ji_kd M a = some (0, 9) ∧ ji_Ev C 207 19 M lv (.int (ji_gI M a 50) :: st) o := ev_getI (k := 207) rfl fd_9_162 rfl
theorem s207_19 : ji_Ev C 207 19 M lv st o ↔ ji_Ev C 207 21 M lv (.int 6 :: st) o := ev_go (S := (21, M, lv, (.int 6 :: st))) rfl rfl rfl
theorem s207_21 : ji_Ev C 207 21 M lv (.int y :: .int x :: st) o ↔ if x = y then ji_Ev C 207 24 M lv st o else ji_Ev C 207 27 M lv st o := ev_brc (c := .ne) rfl (by decide) rfl
theorem s207_24 : ji_Ev C 207 24 M lv st o ↔ ji_Ev C 207 26 M lv (.int (-4) :: st) o := ev_go (S := (26, M, lv, (.int (-4) :: st))) rfl rfl rfl
theorem s207_26 : ji_Ev C 207 26 M lv [.int x] o ↔ o = (some (.int x), M) := ev_ireti rfl rfl
theorem s207_27 : ji_Ev C 207 27 M (l0 :: some (.int x) :: l) st o ↔ ji_Ev C 207 28 M (l0 :: some (.int x) :: l) (.int x :: st) o := ev_go (S := (28, M, (l0 :: some (.int x) :: l), (.int x :: st))) rfl rfl rfl
theorem s207_28 : ji_Ev C 207 28 M lv (.int x :: st) o ↔ 2 < lv.length ∧ ji_Ev C 207 29 M (ji_s1 lv 2 (.int x)) st o := ev_stI rfl rfl rfl
theorem s207_29 : ji_Ev C 207 29 M lv st o ↔ ji_Ev C 207 30 M lv (.int 0 :: st) o := ev_go (S := (30, M, lv, (.int 0 :: st))) rfl rfl rfl
theorem s207_30 : ji_Ev C 207 30 M lv (.int x :: st) o ↔ 3 < lv.length ∧ ji_Ev C 207 31 M (ji_s1 lv 3 (.int x)) st o := ev_stI rfl rfl rfl
theorem s207_31 : ji_Ev C 207 31 M (l0 :: l1 :: l2 :: some (.int x) :: l) st o ↔ ji_Ev C 207 32 M (l0 :: l1 :: l2 :: some (.int x) :: l) (.int x :: st) o := ev_go (S := (32, M, (l0 :: l1 :: l2 :: some (.int x) :: l), (.int x :: st))) rfl rfl rfl
theorem s207_32 : ji_Ev C 207 32 M lv st o ↔ ji_Ev C 207 33 M lv (.int 4 :: st) o := ev_go (S := (33, M, lv, (.int 4 :: st))) rfl rfl rfl
theorem s207_33 : ji_Ev C 207 33 M lv (.int y :: .int x :: st) o ↔ if x < y then ji_Ev C 207 36 M lv st o else ji_Ev C 207 64 M lv st o := ev_brc (c := .ge) rfl (by decide) rfl
theorem s207_36 : ji_Ev C 207 36 M (some (.ref a) :: l) st o ↔ ji_Ev C 207 37 M (some (.ref a) :: l) (.ref a :: st) o := ev_go (S := (37, M, (some (.ref a) :: l), (.ref a :: st))) rfl rfl rfl
theorem s207_37 : ji_Ev C 207 37 M lv (.ref a :: st) o ↔ ji_kd M a = some (0, 9) ∧ ji_Ev C 207 40 M lv (ji_rv (ji_gR M a 52) :: st) o := ev_getR (k := 207) rfl fd_9_168 rfl
theorem s207_40 : ji_Ev C 207 40 M lv st o ↔ ji_Ev C 207 41 M lv (.int 4 :: st) o := ev_go (S := (41, M, lv, (.int 4 :: st))) rfl rfl rfl
theorem s207_41 : ji_Ev C 207 41 M (some (.ref a) :: l) st o ↔ ji_Ev C 207 42 M (some (.ref a) :: l) (.ref a :: st) o := ev_go (S := (42, M, (some (.ref a) :: l), (.ref a :: st))) rfl rfl rfl
theorem s207_42 : ji_Ev C 207 42 M lv (.ref a :: st) o ↔ ji_kd M a = some (0, 9) ∧ ji_Ev C 207 45 M lv (.int (ji_gI M a 50) :: st) o := ev_getI (k := 207) rfl fd_9_162 rfl
theorem s207_45 : ji_Ev C 207 45 M lv (.int y :: .int x :: st) o ↔ ji_Ev C 207 46 M lv (.int (x * y) :: st) o := ev_go (S := (46, M, lv, (.int (x * y) :: st))) rfl rfl rfl
theorem s207_46 : ji_Ev C 207 46 M (l0 :: l1 :: l2 :: some (.int x) :: l) st o ↔ ji_Ev C 207 47 M (l0 :: l1 :: l2 :: some (.int x) :: l) (.int x :: st) o := ev_go (S := (47, M, (l0 :: l1 :: l2 :: some (.int x) :: l), (.int x :: st))) rfl rfl rfl
theorem s207_47 : ji_Ev C 207 47 M lv (.int y :: .int x :: st) o ↔ ji_Ev C 207 48 M lv (.int (x + y) :: st) o := ev_go (S := (48, M, lv, (.int (x + y) :: st))) rfl rfl rfl
theorem s207_48 : ji_Ev C 207 48 M (l0 :: l1 :: some (.int x) :: l) st o ↔ ji_Ev C 207 49 M (l0 :: l1 :: some (.int x) :: l) (.int x :: st) o := ev_go (S := (49, M, (l0 :: l1 :: some (.int x) :: l), (.int x :: st))) rfl rfl rfl
theorem s207_49 : ji_Ev C 207 49 M lv st o ↔ ji_Ev C 207 51 M lv (.int 10 :: st) o := ev_go (S := (51, M, lv, (.int 10 :: st))) rfl rfl rfl
theorem s207_51 : ji_Ev C 207 51 M lv (.int y :: .int x :: st) o ↔ ¬ y = 0 ∧ ji_Ev C 207 52 M lv (.int (x - x / y * y) :: st) o := ev_dvR rfl
theorem s207_52 : ji_Ev C 207 52 M lv (.int y :: .int x :: .ref a :: st) o ↔ ji_evA (ji_kd M a) (fun n => vp_in x n ∧ ji_Ev C 207 53 (ji_sI M a x.toNatClampNeg y) lv st o) := ev_iast rfl
theorem s207_53 : ji_Ev C 207 53 M (l0 :: l1 :: some (.int x) :: l) st o ↔ ji_Ev C 207 54 M (l0 :: l1 :: some (.int x) :: l) (.int x :: st) o := ev_go (S := (54, M, (l0 :: l1 :: some (.int x) :: l), (.int x :: st))) rfl rfl rfl
theorem s207_54 : ji_Ev C 207 54 M lv st o ↔ ji_Ev C 207 56 M lv (.int 10 :: st) o := ev_go (S := (56, M, lv, (.int 10 :: st))) rfl rfl rfl
theorem s207_56 : ji_Ev C 207 56 M lv (.int y :: .int x :: st) o ↔ ¬ y = 0 ∧ ji_Ev C 207 57 M lv (.int (x / y) :: st) o := ev_dvI rfl
theorem s207_57 : ji_Ev C 207 57 M lv (.int x :: st) o ↔ 2 < lv.length ∧ ji_Ev C 207 58 M (ji_s1 lv 2 (.int x)) st o := ev_stI rfl rfl rfl
theorem s207_58 : ji_Ev C 207 58 M lv st o ↔ ji_evL (lv.getD 3 none) ji_isI (fun v => match v with | .int x => 3 < lv.length ∧ ji_Ev C 207 61 M (ji_s1 lv 3 (.int (x + Int32.ofInt 1))) st o | _ => False) := ev_iinc rfl
theorem s207_61 : ji_Ev C 207 61 M lv st o ↔ ji_Ev C 207 31 M lv st o := ev_gt rfl (by decide) rfl
theorem s207_64 : ji_Ev C 207 64 M (some (.ref a) :: l) st o ↔ ji_Ev C 207 65 M (some (.ref a) :: l) (.ref a :: st) o := ev_go (S := (65, M, (some (.ref a) :: l), (.ref a :: st))) rfl rfl rfl
theorem s207_65 : ji_Ev C 207 65 M lv (.int x :: st) o ↔ ji_Ev C 207 66 M lv (.int x :: .int x :: st) o := ev_go (S := (66, M, lv, (.int x :: .int x :: st))) rfl rfl rfl
theorem s207_65r : ji_Ev C 207 65 M lv (.ref a :: st) o ↔ ji_Ev C 207 66 M lv (.ref a :: .ref a :: st) o := ev_go (S := (66, M, lv, (.ref a :: .ref a :: st))) rfl rfl rfl
theorem s207_66 : ji_Ev C 207 66 M lv (.ref a :: st) o ↔ ji_kd M a = some (0, 9) ∧ ji_Ev C 207 69 M lv (.int (ji_gI M a 50) :: st) o := ev_getI (k := 207) rfl fd_9_162 rfl
theorem s207_69 : ji_Ev C 207 69 M lv st o ↔ ji_Ev C 207 70 M lv (.int 1 :: st) o := ev_go (S := (70, M, lv, (.int 1 :: st))) rfl rfl rfl
theorem s207_70 : ji_Ev C 207 70 M lv (.int y :: .int x :: st) o ↔ ji_Ev C 207 71 M lv (.int (x + y) :: st) o := ev_go (S := (71, M, lv, (.int (x + y) :: st))) rfl rfl rfl
theorem s207_71 : ji_Ev C 207 71 M lv (.int x :: .ref a :: st) o ↔ ji_kd M a = some (0, 9) ∧ ji_Ev C 207 74 (ji_sI M a 50 x) lv st o := ev_putI (k := 207) rfl fd_9_162 rfl (by decide)
theorem s207_74 : ji_Ev C 207 74 M (some (.ref a) :: l) st o ↔ ji_Ev C 207 75 M (some (.ref a) :: l) (.ref a :: st) o := ev_go (S := (75, M, (some (.ref a) :: l), (.ref a :: st))) rfl rfl rfl
theorem s207_75 : ji_Ev C 207 75 M lv (.ref a :: st) o ↔ ji_kd M a = some (0, 9) ∧ ji_Ev C 207 78 M lv (.int (ji_gI M a 50) :: st) o := ev_getI (k := 207) rfl fd_9_162 rfl
theorem s207_78 : ji_Ev C 207 78 M lv st o ↔ ji_Ev C 207 79 M lv (.int 1 :: st) o := ev_go (S := (79, M, lv, (.int 1 :: st))) rfl rfl rfl
theorem s207_79 : ji_Ev C 207 79 M lv (.int y :: .int x :: st) o ↔ ji_Ev C 207 80 M lv (.int (x - y) :: st) o := ev_go (S := (80, M, lv, (.int (x - y) :: st))) rfl rfl rfl
theorem s207_80 : ji_Ev C 207 80 M lv [.int x] o ↔ o = (some (.int x), M) := ev_ireti rfl rfl
theorem s208_0 : ji_Ev C 208 0 M (some (.ref a) :: l) st o ↔ ji_Ev C 208 1 M (some (.ref a) :: l) (.ref a :: st) o := ev_go (S := (1, M, (some (.ref a) :: l), (.ref a :: st))) rfl rfl rfl
theorem s208_1 : ji_Ev C 208 1 M (l0 :: some (.int x) :: l) st o ↔ ji_Ev C 208 2 M (l0 :: some (.int x) :: l) (.int x :: st) o := ev_go (S := (2, M, (l0 :: some (.int x) :: l), (.int x :: st))) rfl rfl rfl
theorem s208_2 : ji_Ev C 208 2 M lv (p0 :: .ref a :: st) o ↔ (ji_rcb M 9 (.ref a) = true ∧ ji_ok8 st) ∧ ji_evC (C 166 [.ref a, p0] M) (fun v M' => ji_Ev C 208 5 M' lv (v.toList ++ st) o) := ev_inv (k := 208) rfl cd_9_275 rfl
theorem s208_5 : ji_Ev C 208 5 M lv (.int x :: st) o ↔ if x = 0 then ji_Ev C 208 20 M lv st o else ji_Ev C 208 8 M lv st o := ev_brz (c := .eq) rfl (by decide) rfl
theorem s208_8 : ji_Ev C 208 8 M (some (.ref a) :: l) st o ↔ ji_Ev C 208 9 M (some (.ref a) :: l) (.ref a :: st) o := ev_go (S := (9, M, (some (.ref a) :: l), (.ref a :: st))) rfl rfl rfl
theorem s208_9 : ji_Ev C 208 9 M (l0 :: l1 :: some (.int x) :: l) st o ↔ ji_Ev C 208 10 M (l0 :: l1 :: some (.int x) :: l) (.int x :: st) o := ev_go (S := (10, M, (l0 :: l1 :: some (.int x) :: l), (.int x :: st))) rfl rfl rfl
theorem s208_10 : ji_Ev C 208 10 M lv st o ↔ ji_Ev C 208 11 M lv (.int 0 :: st) o := ev_go (S := (11, M, lv, (.int 0 :: st))) rfl rfl rfl
theorem s208_11 : ji_Ev C 208 11 M lv st o ↔ ji_Ev C 208 14 M lv (.int 14640 :: st) o := ev_go (S := (14, M, lv, (.int 14640 :: st))) rfl rfl rfl
theorem s208_14 : ji_Ev C 208 14 M lv (p2 :: p1 :: p0 :: .ref a :: st) o ↔ (ji_rcb M 9 (.ref a) = true ∧ ji_ok8 st) ∧ ji_evC (C 158 [.ref a, p0, p1, p2] M) (fun v M' => ji_Ev C 208 17 M' lv (v.toList ++ st) o) := ev_inv (k := 208) rfl cd_9_255 rfl
theorem s208_17 : ji_Ev C 208 17 M lv (.int x :: st) o ↔ if x = 0 then ji_Ev C 208 20 M lv st o else ji_Ev C 208 23 M lv st o := ev_brz (c := .ne) rfl (by decide) rfl
theorem s208_20 : ji_Ev C 208 20 M lv st o ↔ ji_Ev C 208 22 M lv (.int (-2) :: st) o := ev_go (S := (22, M, lv, (.int (-2) :: st))) rfl rfl rfl
theorem s208_22 : ji_Ev C 208 22 M lv [.int x] o ↔ o = (some (.int x), M) := ev_ireti rfl rfl
theorem s208_23 : ji_Ev C 208 23 M (some (.ref a) :: l) st o ↔ ji_Ev C 208 24 M (some (.ref a) :: l) (.ref a :: st) o := ev_go (S := (24, M, (some (.ref a) :: l), (.ref a :: st))) rfl rfl rfl
theorem s208_24 : ji_Ev C 208 24 M lv (.ref a :: st) o ↔ ji_kd M a = some (0, 9) ∧ ji_Ev C 208 27 M lv (.int (ji_gI M a 51) :: st) o := ev_getI (k := 208) rfl fd_9_165 rfl
theorem s208_27 : ji_Ev C 208 27 M lv st o ↔ ji_Ev C 208 29 M lv (.int 6 :: st) o := ev_go (S := (29, M, lv, (.int 6 :: st))) rfl rfl rfl
theorem s208_29 : ji_Ev C 208 29 M lv (.int y :: .int x :: st) o ↔ if x = y then ji_Ev C 208 32 M lv st o else ji_Ev C 208 35 M lv st o := ev_brc (c := .ne) rfl (by decide) rfl
theorem s208_32 : ji_Ev C 208 32 M lv st o ↔ ji_Ev C 208 34 M lv (.int (-4) :: st) o := ev_go (S := (34, M, lv, (.int (-4) :: st))) rfl rfl rfl
theorem s208_34 : ji_Ev C 208 34 M lv [.int x] o ↔ o = (some (.int x), M) := ev_ireti rfl rfl
theorem s208_35 : ji_Ev C 208 35 M (l0 :: l1 :: some (.int x) :: l) st o ↔ ji_Ev C 208 36 M (l0 :: l1 :: some (.int x) :: l) (.int x :: st) o := ev_go (S := (36, M, (l0 :: l1 :: some (.int x) :: l), (.int x :: st))) rfl rfl rfl
theorem s208_36 : ji_Ev C 208 36 M lv (.int x :: st) o ↔ 3 < lv.length ∧ ji_Ev C 208 37 M (ji_s1 lv 3 (.int x)) st o := ev_stI rfl rfl rfl
theorem s208_37 : ji_Ev C 208 37 M lv st o ↔ ji_Ev C 208 38 M lv (.int 0 :: st) o := ev_go (S := (38, M, lv, (.int 0 :: st))) rfl rfl rfl
theorem s208_38 : ji_Ev C 208 38 M lv (.int x :: st) o ↔ 4 < lv.length ∧ ji_Ev C 208 40 M (ji_s1 lv 4 (.int x)) st o := ev_stI rfl rfl rfl
theorem s208_40 : ji_Ev C 208 40 M (l0 :: l1 :: l2 :: l3 :: some (.int x) :: l) st o ↔ ji_Ev C 208 42 M (l0 :: l1 :: l2 :: l3 :: some (.int x) :: l) (.int x :: st) o := ev_go (S := (42, M, (l0 :: l1 :: l2 :: l3 :: some (.int x) :: l), (.int x :: st))) rfl rfl rfl
theorem s208_42 : ji_Ev C 208 42 M lv st o ↔ ji_Ev C 208 43 M lv (.int 4 :: st) o := ev_go (S := (43, M, lv, (.int 4 :: st))) rfl rfl rfl
theorem s208_43 : ji_Ev C 208 43 M lv (.int y :: .int x :: st) o ↔ if x < y then ji_Ev C 208 46 M lv st o else ji_Ev C 208 75 M lv st o := ev_brc (c := .ge) rfl (by decide) rfl
theorem s208_46 : ji_Ev C 208 46 M (some (.ref a) :: l) st o ↔ ji_Ev C 208 47 M (some (.ref a) :: l) (.ref a :: st) o := ev_go (S := (47, M, (some (.ref a) :: l), (.ref a :: st))) rfl rfl rfl
theorem s208_47 : ji_Ev C 208 47 M lv (.ref a :: st) o ↔ ji_kd M a = some (0, 9) ∧ ji_Ev C 208 50 M lv (ji_rv (ji_gR M a 54) :: st) o := ev_getR (k := 208) rfl fd_9_174 rfl
theorem s208_50 : ji_Ev C 208 50 M lv st o ↔ ji_Ev C 208 51 M lv (.int 4 :: st) o := ev_go (S := (51, M, lv, (.int 4 :: st))) rfl rfl rfl
theorem s208_51 : ji_Ev C 208 51 M (some (.ref a) :: l) st o ↔ ji_Ev C 208 52 M (some (.ref a) :: l) (.ref a :: st) o := ev_go (S := (52, M, (some (.ref a) :: l), (.ref a :: st))) rfl rfl rfl
theorem s208_52 : ji_Ev C 208 52 M lv (.ref a :: st) o ↔ ji_kd M a = some (0, 9) ∧ ji_Ev C 208 55 M lv (.int (ji_gI M a 51) :: st) o := ev_getI (k := 208) rfl fd_9_165 rfl
theorem s208_55 : ji_Ev C 208 55 M lv (.int y :: .int x :: st) o ↔ ji_Ev C 208 56 M lv (.int (x * y) :: st) o := ev_go (S := (56, M, lv, (.int (x * y) :: st))) rfl rfl rfl
theorem s208_56 : ji_Ev C 208 56 M (l0 :: l1 :: l2 :: l3 :: some (.int x) :: l) st o ↔ ji_Ev C 208 58 M (l0 :: l1 :: l2 :: l3 :: some (.int x) :: l) (.int x :: st) o := ev_go (S := (58, M, (l0 :: l1 :: l2 :: l3 :: some (.int x) :: l), (.int x :: st))) rfl rfl rfl
theorem s208_58 : ji_Ev C 208 58 M lv (.int y :: .int x :: st) o ↔ ji_Ev C 208 59 M lv (.int (x + y) :: st) o := ev_go (S := (59, M, lv, (.int (x + y) :: st))) rfl rfl rfl
theorem s208_59 : ji_Ev C 208 59 M (l0 :: l1 :: l2 :: some (.int x) :: l) st o ↔ ji_Ev C 208 60 M (l0 :: l1 :: l2 :: some (.int x) :: l) (.int x :: st) o := ev_go (S := (60, M, (l0 :: l1 :: l2 :: some (.int x) :: l), (.int x :: st))) rfl rfl rfl
theorem s208_60 : ji_Ev C 208 60 M lv st o ↔ ji_Ev C 208 62 M lv (.int 11 :: st) o := ev_go (S := (62, M, lv, (.int 11 :: st))) rfl rfl rfl
theorem s208_62 : ji_Ev C 208 62 M lv (.int y :: .int x :: st) o ↔ ¬ y = 0 ∧ ji_Ev C 208 63 M lv (.int (x - x / y * y) :: st) o := ev_dvR rfl
theorem s208_63 : ji_Ev C 208 63 M lv (.int y :: .int x :: .ref a :: st) o ↔ ji_evA (ji_kd M a) (fun n => vp_in x n ∧ ji_Ev C 208 64 (ji_sI M a x.toNatClampNeg y) lv st o) := ev_iast rfl
theorem s208_64 : ji_Ev C 208 64 M (l0 :: l1 :: l2 :: some (.int x) :: l) st o ↔ ji_Ev C 208 65 M (l0 :: l1 :: l2 :: some (.int x) :: l) (.int x :: st) o := ev_go (S := (65, M, (l0 :: l1 :: l2 :: some (.int x) :: l), (.int x :: st))) rfl rfl rfl
theorem s208_65 : ji_Ev C 208 65 M lv st o ↔ ji_Ev C 208 67 M lv (.int 11 :: st) o := ev_go (S := (67, M, lv, (.int 11 :: st))) rfl rfl rfl
theorem s208_67 : ji_Ev C 208 67 M lv (.int y :: .int x :: st) o ↔ ¬ y = 0 ∧ ji_Ev C 208 68 M lv (.int (x / y) :: st) o := ev_dvI rfl
theorem s208_68 : ji_Ev C 208 68 M lv (.int x :: st) o ↔ 3 < lv.length ∧ ji_Ev C 208 69 M (ji_s1 lv 3 (.int x)) st o := ev_stI rfl rfl rfl
theorem s208_69 : ji_Ev C 208 69 M lv st o ↔ ji_evL (lv.getD 4 none) ji_isI (fun v => match v with | .int x => 4 < lv.length ∧ ji_Ev C 208 72 M (ji_s1 lv 4 (.int (x + Int32.ofInt 1))) st o | _ => False) := ev_iinc rfl
theorem s208_72 : ji_Ev C 208 72 M lv st o ↔ ji_Ev C 208 40 M lv st o := ev_gt rfl (by decide) rfl
theorem s208_75 : ji_Ev C 208 75 M (some (.ref a) :: l) st o ↔ ji_Ev C 208 76 M (some (.ref a) :: l) (.ref a :: st) o := ev_go (S := (76, M, (some (.ref a) :: l), (.ref a :: st))) rfl rfl rfl
theorem s208_76 : ji_Ev C 208 76 M lv (.ref a :: st) o ↔ ji_kd M a = some (0, 9) ∧ ji_Ev C 208 79 M lv (ji_rv (ji_gR M a 53) :: st) o := ev_getR (k := 208) rfl fd_9_171 rfl
theorem s208_79 : ji_Ev C 208 79 M (some (.ref a) :: l) st o ↔ ji_Ev C 208 80 M (some (.ref a) :: l) (.ref a :: st) o := ev_go (S := (80, M, (some (.ref a) :: l), (.ref a :: st))) rfl rfl rfl
theorem s208_80 : ji_Ev C 208 80 M lv (.ref a :: st) o ↔ ji_kd M a = some (0, 9) ∧ ji_Ev C 208 83 M lv (.int (ji_gI M a 51) :: st) o := ev_getI (k := 208) rfl fd_9_165 rfl
theorem s208_83 : ji_Ev C 208 83 M (l0 :: some (.int x) :: l) st o ↔ ji_Ev C 208 84 M (l0 :: some (.int x) :: l) (.int x :: st) o := ev_go (S := (84, M, (l0 :: some (.int x) :: l), (.int x :: st))) rfl rfl rfl
theorem s208_84 : ji_Ev C 208 84 M lv (.int y :: .int x :: .ref a :: st) o ↔ ji_evA (ji_kd M a) (fun n => vp_in x n ∧ ji_Ev C 208 85 (ji_sI M a x.toNatClampNeg y) lv st o) := ev_iast rfl
theorem s208_85 : ji_Ev C 208 85 M (some (.ref a) :: l) st o ↔ ji_Ev C 208 86 M (some (.ref a) :: l) (.ref a :: st) o := ev_go (S := (86, M, (some (.ref a) :: l), (.ref a :: st))) rfl rfl rfl
theorem s208_86 : ji_Ev C 208 86 M lv (.int x :: st) o ↔ ji_Ev C 208 87 M lv (.int x :: .int x :: st) o := ev_go (S := (87, M, lv, (.int x :: .int x :: st))) rfl rfl rfl
theorem s208_86r : ji_Ev C 208 86 M lv (.ref a :: st) o ↔ ji_Ev C 208 87 M lv (.ref a :: .ref a :: st) o := ev_go (S := (87, M, lv, (.ref a :: .ref a :: st))) rfl rfl rfl
theorem s208_87 : ji_Ev C 208 87 M lv (.ref a :: st) o ↔ ji_kd M a = some (0, 9) ∧ ji_Ev C 208 90 M lv (.int (ji_gI M a 51) :: st) o := ev_getI (k := 208) rfl fd_9_165 rfl
theorem s208_90 : ji_Ev C 208 90 M lv st o ↔ ji_Ev C 208 91 M lv (.int 1 :: st) o := ev_go (S := (91, M, lv, (.int 1 :: st))) rfl rfl rfl
theorem s208_91 : ji_Ev C 208 91 M lv (.int y :: .int x :: st) o ↔ ji_Ev C 208 92 M lv (.int (x + y) :: st) o := ev_go (S := (92, M, lv, (.int (x + y) :: st))) rfl rfl rfl
theorem s208_92 : ji_Ev C 208 92 M lv (.int x :: .ref a :: st) o ↔ ji_kd M a = some (0, 9) ∧ ji_Ev C 208 95 (ji_sI M a 51 x) lv st o := ev_putI (k := 208) rfl fd_9_165 rfl (by decide)
theorem s208_95 : ji_Ev C 208 95 M (some (.ref a) :: l) st o ↔ ji_Ev C 208 96 M (some (.ref a) :: l) (.ref a :: st) o := ev_go (S := (96, M, (some (.ref a) :: l), (.ref a :: st))) rfl rfl rfl
theorem s208_96 : ji_Ev C 208 96 M lv (.ref a :: st) o ↔ ji_kd M a = some (0, 9) ∧ ji_Ev C 208 99 M lv (.int (ji_gI M a 51) :: st) o := ev_getI (k := 208) rfl fd_9_165 rfl
theorem s208_99 : ji_Ev C 208 99 M lv st o ↔ ji_Ev C 208 100 M lv (.int 1 :: st) o := ev_go (S := (100, M, lv, (.int 1 :: st))) rfl rfl rfl
theorem s208_100 : ji_Ev C 208 100 M lv (.int y :: .int x :: st) o ↔ ji_Ev C 208 101 M lv (.int (x - y) :: st) o := ev_go (S := (101, M, lv, (.int (x - y) :: st))) rfl rfl rfl
theorem s208_101 : ji_Ev C 208 101 M lv [.int x] o ↔ o = (some (.int x), M) := ev_ireti rfl rfl
theorem s209_0 : ji_Ev C 209 0 M (some (.ref a) :: l) st o ↔ ji_Ev C 209 1 M (some (.ref a) :: l) (.ref a :: st) o := ev_go (S := (1, M, (some (.ref a) :: l), (.ref a :: st))) rfl rfl rfl
theorem s209_1 : ji_Ev C 209 1 M (l0 :: some (.int x) :: l) st o ↔ ji_Ev C 209 2 M (l0 :: some (.int x) :: l) (.int x :: st) o := ev_go (S := (2, M, (l0 :: some (.int x) :: l), (.int x :: st))) rfl rfl rfl
theorem s209_2 : ji_Ev C 209 2 M lv st o ↔ ji_Ev C 209 3 M lv (.int 0 :: st) o := ev_go (S := (3, M, lv, (.int 0 :: st))) rfl rfl rfl
theorem s209_3 : ji_Ev C 209 3 M (some (.ref a) :: l) st o ↔ ji_Ev C 209 4 M (some (.ref a) :: l) (.ref a :: st) o := ev_go (S := (4, M, (some (.ref a) :: l), (.ref a :: st))) rfl rfl rfl
theorem s209_4 : ji_Ev C 209 4 M lv (.ref a :: st) o ↔ ji_kd M a = some (0, 9) ∧ ji_Ev C 209 7 M lv (.int (ji_gI M a 50) :: st) o := ev_getI (k := 209) rfl fd_9_162 rfl
theorem s209_7 : ji_Ev C 209 7 M lv st o ↔ ji_Ev C 209 8 M lv (.int 1 :: st) o := ev_go (S := (8, M, lv, (.int 1 :: st))) rfl rfl rfl
theorem s209_8 : ji_Ev C 209 8 M lv (.int y :: .int x :: st) o ↔ ji_Ev C 209 9 M lv (.int (x - y) :: st) o := ev_go (S := (9, M, lv, (.int (x - y) :: st))) rfl rfl rfl
theorem s209_9 : ji_Ev C 209 9 M lv (p2 :: p1 :: p0 :: .ref a :: st) o ↔ (ji_rcb M 9 (.ref a) = true ∧ ji_ok8 st) ∧ ji_evC (C 158 [.ref a, p0, p1, p2] M) (fun v M' => ji_Ev C 209 12 M' lv (v.toList ++ st) o) := ev_inv (k := 209) rfl cd_9_255 rfl
theorem s209_12 : ji_Ev C 209 12 M lv (.int x :: st) o ↔ if x = 0 then ji_Ev C 209 39 M lv st o else ji_Ev C 209 15 M lv st o := ev_brz (c := .eq) rfl (by decide) rfl
theorem s209_15 : ji_Ev C 209 15 M (some (.ref a) :: l) st o ↔ ji_Ev C 209 16 M (some (.ref a) :: l) (.ref a :: st) o := ev_go (S := (16, M, (some (.ref a) :: l), (.ref a :: st))) rfl rfl rfl
theorem s209_16 : ji_Ev C 209 16 M (l0 :: l1 :: some (.int x) :: l) st o ↔ ji_Ev C 209 17 M (l0 :: l1 :: some (.int x) :: l) (.int x :: st) o := ev_go (S := (17, M, (l0 :: l1 :: some (.int x) :: l), (.int x :: st))) rfl rfl rfl
theorem s209_17 : ji_Ev C 209 17 M lv st o ↔ ji_Ev C 209 18 M lv (.int 0 :: st) o := ev_go (S := (18, M, lv, (.int 0 :: st))) rfl rfl rfl
theorem s209_18 : ji_Ev C 209 18 M (some (.ref a) :: l) st o ↔ ji_Ev C 209 19 M (some (.ref a) :: l) (.ref a :: st) o := ev_go (S := (19, M, (some (.ref a) :: l), (.ref a :: st))) rfl rfl rfl
theorem s209_19 : ji_Ev C 209 19 M lv (.ref a :: st) o ↔ ji_kd M a = some (0, 9) ∧ ji_Ev C 209 22 M lv (.int (ji_gI M a 51) :: st) o := ev_getI (k := 209) rfl fd_9_165 rfl
theorem s209_22 : ji_Ev C 209 22 M lv st o ↔ ji_Ev C 209 23 M lv (.int 1 :: st) o := ev_go (S := (23, M, lv, (.int 1 :: st))) rfl rfl rfl
theorem s209_23 : ji_Ev C 209 23 M lv (.int y :: .int x :: st) o ↔ ji_Ev C 209 24 M lv (.int (x - y) :: st) o := ev_go (S := (24, M, lv, (.int (x - y) :: st))) rfl rfl rfl
theorem s209_24 : ji_Ev C 209 24 M lv (p2 :: p1 :: p0 :: .ref a :: st) o ↔ (ji_rcb M 9 (.ref a) = true ∧ ji_ok8 st) ∧ ji_evC (C 158 [.ref a, p0, p1, p2] M) (fun v M' => ji_Ev C 209 27 M' lv (v.toList ++ st) o) := ev_inv (k := 209) rfl cd_9_255 rfl
theorem s209_27 : ji_Ev C 209 27 M lv (.int x :: st) o ↔ if x = 0 then ji_Ev C 209 39 M lv st o else ji_Ev C 209 30 M lv st o := ev_brz (c := .eq) rfl (by decide) rfl
theorem s209_30 : ji_Ev C 209 30 M (some (.ref a) :: l) st o ↔ ji_Ev C 209 31 M (some (.ref a) :: l) (.ref a :: st) o := ev_go (S := (31, M, (some (.ref a) :: l), (.ref a :: st))) rfl rfl rfl
theorem s209_31 : ji_Ev C 209 31 M (l0 :: some (.int x) :: l) st o ↔ ji_Ev C 209 32 M (l0 :: some (.int x) :: l) (.int x :: st) o := ev_go (S := (32, M, (l0 :: some (.int x) :: l), (.int x :: st))) rfl rfl rfl
theorem s209_32 : ji_Ev C 209 32 M (l0 :: l1 :: some (.int x) :: l) st o ↔ ji_Ev C 209 33 M (l0 :: l1 :: some (.int x) :: l) (.int x :: st) o := ev_go (S := (33, M, (l0 :: l1 :: some (.int x) :: l), (.int x :: st))) rfl rfl rfl
theorem s209_33 : ji_Ev C 209 33 M lv (p1 :: p0 :: .ref a :: st) o ↔ (ji_rcb M 9 (.ref a) = true ∧ ji_ok8 st) ∧ ji_evC (C 210 [.ref a, p0, p1] M) (fun v M' => ji_Ev C 209 36 M' lv (v.toList ++ st) o) := ev_inv (k := 209) rfl cd_9_409 rfl
theorem s209_36 : ji_Ev C 209 36 M lv st o ↔ ji_Ev C 209 41 M lv st o := ev_gt rfl (by decide) rfl
theorem s209_39 : ji_Ev C 209 39 M lv st o ↔ ji_Ev C 209 41 M lv (.int (-2) :: st) o := ev_go (S := (41, M, lv, (.int (-2) :: st))) rfl rfl rfl
theorem s209_41 : ji_Ev C 209 41 M lv [.int x] o ↔ o = (some (.int x), M) := ev_ireti rfl rfl
theorem s210_0 : ji_Ev C 210 0 M (some (.ref a) :: l) st o ↔ ji_Ev C 210 1 M (some (.ref a) :: l) (.ref a :: st) o := ev_go (S := (1, M, (some (.ref a) :: l), (.ref a :: st))) rfl rfl rfl
theorem s210_1 : ji_Ev C 210 1 M lv (.ref a :: st) o ↔ ji_kd M a = some (0, 9) ∧ ji_Ev C 210 4 M lv (ji_rv (ji_gR M a 54) :: st) o := ev_getR (k := 210) rfl fd_9_174 rfl
theorem s210_4 : ji_Ev C 210 4 M lv st o ↔ ji_Ev C 210 5 M lv (.int 4 :: st) o := ev_go (S := (5, M, lv, (.int 4 :: st))) rfl rfl rfl
theorem s210_5 : ji_Ev C 210 5 M (l0 :: l1 :: some (.int x) :: l) st o ↔ ji_Ev C 210 6 M (l0 :: l1 :: some (.int x) :: l) (.int x :: st) o := ev_go (S := (6, M, (l0 :: l1 :: some (.int x) :: l), (.int x :: st))) rfl rfl rfl
theorem s210_6 : ji_Ev C 210 6 M lv (.int y :: .int x :: st) o ↔ ji_Ev C 210 7 M lv (.int (x * y) :: st) o := ev_go (S := (7, M, lv, (.int (x * y) :: st))) rfl rfl rfl
theorem s210_7 : ji_Ev C 210 7 M lv (.int x :: .ref a :: st) o ↔ ji_evA (ji_kd M a) (fun n => vp_in x n ∧ ji_Ev C 210 8 M lv (.int (ji_gI M a x.toNatClampNeg) :: st) o) := ev_iald rfl
theorem s210_8 : ji_Ev C 210 8 M lv st o ↔ ji_Ev C 210 10 M lv (.int 10 :: st) o := ev_go (S := (10, M, lv, (.int 10 :: st))) rfl rfl rfl
theorem s210_10 : ji_Ev C 210 10 M lv (.int y :: .int x :: st) o ↔ if x < y then ji_Ev C 210 13 M lv st o else ji_Ev C 210 34 M lv st o := ev_brc (c := .ge) rfl (by decide) rfl
theorem s210_13 : ji_Ev C 210 13 M (some (.ref a) :: l) st o ↔ ji_Ev C 210 14 M (some (.ref a) :: l) (.ref a :: st) o := ev_go (S := (14, M, (some (.ref a) :: l), (.ref a :: st))) rfl rfl rfl
theorem s210_14 : ji_Ev C 210 14 M lv (.ref a :: st) o ↔ ji_kd M a = some (0, 9) ∧ ji_Ev C 210 17 M lv (ji_rv (ji_gR M a 54) :: st) o := ev_getR (k := 210) rfl fd_9_174 rfl
theorem s210_17 : ji_Ev C 210 17 M lv st o ↔ ji_Ev C 210 18 M lv (.int 4 :: st) o := ev_go (S := (18, M, lv, (.int 4 :: st))) rfl rfl rfl
theorem s210_18 : ji_Ev C 210 18 M (l0 :: l1 :: some (.int x) :: l) st o ↔ ji_Ev C 210 19 M (l0 :: l1 :: some (.int x) :: l) (.int x :: st) o := ev_go (S := (19, M, (l0 :: l1 :: some (.int x) :: l), (.int x :: st))) rfl rfl rfl
theorem s210_19 : ji_Ev C 210 19 M lv (.int y :: .int x :: st) o ↔ ji_Ev C 210 20 M lv (.int (x * y) :: st) o := ev_go (S := (20, M, lv, (.int (x * y) :: st))) rfl rfl rfl
theorem s210_20 : ji_Ev C 210 20 M lv (.int x :: .ref a :: st) o ↔ ji_evA (ji_kd M a) (fun n => vp_in x n ∧ ji_Ev C 210 21 M lv (.int (ji_gI M a x.toNatClampNeg) :: st) o) := ev_iald rfl
theorem s210_21 : ji_Ev C 210 21 M (some (.ref a) :: l) st o ↔ ji_Ev C 210 22 M (some (.ref a) :: l) (.ref a :: st) o := ev_go (S := (22, M, (some (.ref a) :: l), (.ref a :: st))) rfl rfl rfl
theorem s210_22 : ji_Ev C 210 22 M lv (.ref a :: st) o ↔ ji_kd M a = some (0, 9) ∧ ji_Ev C 210 25 M lv (ji_rv (ji_gR M a 52) :: st) o := ev_getR (k := 210) rfl fd_9_168 rfl
theorem s210_25 : ji_Ev C 210 25 M lv st o ↔ ji_Ev C 210 26 M lv (.int 4 :: st) o := ev_go (S := (26, M, lv, (.int 4 :: st))) rfl rfl rfl
theorem s210_26 : ji_Ev C 210 26 M (l0 :: some (.int x) :: l) st o ↔ ji_Ev C 210 27 M (l0 :: some (.int x) :: l) (.int x :: st) o := ev_go (S := (27, M, (l0 :: some (.int x) :: l), (.int x :: st))) rfl rfl rfl
theorem s210_27 : ji_Ev C 210 27 M lv (.int y :: .int x :: st) o ↔ ji_Ev C 210 28 M lv (.int (x * y) :: st) o := ev_go (S := (28, M, lv, (.int (x * y) :: st))) rfl rfl rfl
theorem s210_28 : ji_Ev C 210 28 M lv (.int x :: .ref a :: st) o ↔ ji_evA (ji_kd M a) (fun n => vp_in x n ∧ ji_Ev C 210 29 M lv (.int (ji_gI M a x.toNatClampNeg) :: st) o) := ev_iald rfl
theorem s210_29 : ji_Ev C 210 29 M lv (.int y :: .int x :: st) o ↔ if x = y then ji_Ev C 210 34 M lv st o else ji_Ev C 210 32 M lv st o := ev_brc (c := .eq) rfl (by decide) rfl
theorem s210_32 : ji_Ev C 210 32 M lv st o ↔ ji_Ev C 210 33 M lv (.int 0 :: st) o := ev_go (S := (33, M, lv, (.int 0 :: st))) rfl rfl rfl
theorem s210_33 : ji_Ev C 210 33 M lv [.int x] o ↔ o = (some (.int x), M) := ev_ireti rfl rfl
theorem s210_34 : ji_Ev C 210 34 M lv st o ↔ ji_Ev C 210 35 M lv (.int 0 :: st) o := ev_go (S := (35, M, lv, (.int 0 :: st))) rfl rfl rfl
theorem s210_35 : ji_Ev C 210 35 M lv (.int x :: st) o ↔ 3 < lv.length ∧ ji_Ev C 210 36 M (ji_s1 lv 3 (.int x)) st o := ev_stI rfl rfl rfl
theorem s210_36 : ji_Ev C 210 36 M lv st o ↔ ji_Ev C 210 37 M lv (.int 0 :: st) o := ev_go (S := (37, M, lv, (.int 0 :: st))) rfl rfl rfl
theorem s210_37 : ji_Ev C 210 37 M lv (.int x :: st) o ↔ 4 < lv.length ∧ ji_Ev C 210 39 M (ji_s1 lv 4 (.int x)) st o := ev_stI rfl rfl rfl
theorem s210_39 : ji_Ev C 210 39 M (l0 :: l1 :: l2 :: l3 :: some (.int x) :: l) st o ↔ ji_Ev C 210 41 M (l0 :: l1 :: l2 :: l3 :: some (.int x) :: l) (.int x :: st) o := ev_go (S := (41, M, (l0 :: l1 :: l2 :: l3 :: some (.int x) :: l), (.int x :: st))) rfl rfl rfl
theorem s210_41 : ji_Ev C 210 41 M lv st o ↔ ji_Ev C 210 42 M lv (.int 4 :: st) o := ev_go (S := (42, M, lv, (.int 4 :: st))) rfl rfl rfl
theorem s210_42 : ji_Ev C 210 42 M lv (.int y :: .int x :: st) o ↔ if x < y then ji_Ev C 210 45 M lv st o else ji_Ev C 210 84 M lv st o := ev_brc (c := .ge) rfl (by decide) rfl
theorem s210_45 : ji_Ev C 210 45 M (l0 :: l1 :: l2 :: some (.int x) :: l) st o ↔ ji_Ev C 210 46 M (l0 :: l1 :: l2 :: some (.int x) :: l) (.int x :: st) o := ev_go (S := (46, M, (l0 :: l1 :: l2 :: some (.int x) :: l), (.int x :: st))) rfl rfl rfl
theorem s210_46 : ji_Ev C 210 46 M (some (.ref a) :: l) st o ↔ ji_Ev C 210 47 M (some (.ref a) :: l) (.ref a :: st) o := ev_go (S := (47, M, (some (.ref a) :: l), (.ref a :: st))) rfl rfl rfl
theorem s210_47 : ji_Ev C 210 47 M lv (.ref a :: st) o ↔ ji_kd M a = some (0, 9) ∧ ji_Ev C 210 50 M lv (ji_rv (ji_gR M a 54) :: st) o := ev_getR (k := 210) rfl fd_9_174 rfl
theorem s210_50 : ji_Ev C 210 50 M lv st o ↔ ji_Ev C 210 51 M lv (.int 4 :: st) o := ev_go (S := (51, M, lv, (.int 4 :: st))) rfl rfl rfl
theorem s210_51 : ji_Ev C 210 51 M (l0 :: l1 :: some (.int x) :: l) st o ↔ ji_Ev C 210 52 M (l0 :: l1 :: some (.int x) :: l) (.int x :: st) o := ev_go (S := (52, M, (l0 :: l1 :: some (.int x) :: l), (.int x :: st))) rfl rfl rfl
theorem s210_52 : ji_Ev C 210 52 M lv (.int y :: .int x :: st) o ↔ ji_Ev C 210 53 M lv (.int (x * y) :: st) o := ev_go (S := (53, M, lv, (.int (x * y) :: st))) rfl rfl rfl
theorem s210_53 : ji_Ev C 210 53 M (l0 :: l1 :: l2 :: l3 :: some (.int x) :: l) st o ↔ ji_Ev C 210 55 M (l0 :: l1 :: l2 :: l3 :: some (.int x) :: l) (.int x :: st) o := ev_go (S := (55, M, (l0 :: l1 :: l2 :: l3 :: some (.int x) :: l), (.int x :: st))) rfl rfl rfl
theorem s210_55 : ji_Ev C 210 55 M lv (.int y :: .int x :: st) o ↔ ji_Ev C 210 56 M lv (.int (x + y) :: st) o := ev_go (S := (56, M, lv, (.int (x + y) :: st))) rfl rfl rfl
theorem s210_56 : ji_Ev C 210 56 M lv (.int x :: .ref a :: st) o ↔ ji_evA (ji_kd M a) (fun n => vp_in x n ∧ ji_Ev C 210 57 M lv (.int (ji_gI M a x.toNatClampNeg) :: st) o) := ev_iald rfl
theorem s210_57 : ji_Ev C 210 57 M (some (.ref a) :: l) st o ↔ ji_Ev C 210 58 M (some (.ref a) :: l) (.ref a :: st) o := ev_go (S := (58, M, (some (.ref a) :: l), (.ref a :: st))) rfl rfl rfl
theorem s210_58 : ji_Ev C 210 58 M lv (.ref a :: st) o ↔ ji_kd M a = some (0, 9) ∧ ji_Ev C 210 61 M lv (ji_rv (ji_gR M a 52) :: st) o := ev_getR (k := 210) rfl fd_9_168 rfl
theorem s210_61 : ji_Ev C 210 61 M lv st o ↔ ji_Ev C 210 62 M lv (.int 4 :: st) o := ev_go (S := (62, M, lv, (.int 4 :: st))) rfl rfl rfl
theorem s210_62 : ji_Ev C 210 62 M (l0 :: some (.int x) :: l) st o ↔ ji_Ev C 210 63 M (l0 :: some (.int x) :: l) (.int x :: st) o := ev_go (S := (63, M, (l0 :: some (.int x) :: l), (.int x :: st))) rfl rfl rfl
theorem s210_63 : ji_Ev C 210 63 M lv (.int y :: .int x :: st) o ↔ ji_Ev C 210 64 M lv (.int (x * y) :: st) o := ev_go (S := (64, M, lv, (.int (x * y) :: st))) rfl rfl rfl
theorem s210_64 : ji_Ev C 210 64 M (l0 :: l1 :: l2 :: l3 :: some (.int x) :: l) st o ↔ ji_Ev C 210 66 M (l0 :: l1 :: l2 :: l3 :: some (.int x) :: l) (.int x :: st) o := ev_go (S := (66, M, (l0 :: l1 :: l2 :: l3 :: some (.int x) :: l), (.int x :: st))) rfl rfl rfl
theorem s210_66 : ji_Ev C 210 66 M lv (.int y :: .int x :: st) o ↔ ji_Ev C 210 67 M lv (.int (x + y) :: st) o := ev_go (S := (67, M, lv, (.int (x + y) :: st))) rfl rfl rfl
theorem s210_67 : ji_Ev C 210 67 M lv (.int x :: .ref a :: st) o ↔ ji_evA (ji_kd M a) (fun n => vp_in x n ∧ ji_Ev C 210 68 M lv (.int (ji_gI M a x.toNatClampNeg) :: st) o) := ev_iald rfl
theorem s210_68 : ji_Ev C 210 68 M lv (.int y :: .int x :: st) o ↔ if x = y then ji_Ev C 210 71 M lv st o else ji_Ev C 210 75 M lv st o := ev_brc (c := .ne) rfl (by decide) rfl
theorem s210_71 : ji_Ev C 210 71 M lv st o ↔ ji_Ev C 210 72 M lv (.int 1 :: st) o := ev_go (S := (72, M, lv, (.int 1 :: st))) rfl rfl rfl
theorem s210_72 : ji_Ev C 210 72 M lv st o ↔ ji_Ev C 210 76 M lv st o := ev_gt rfl (by decide) rfl
theorem s210_75 : ji_Ev C 210 75 M lv st o ↔ ji_Ev C 210 76 M lv (.int 0 :: st) o := ev_go (S := (76, M, lv, (.int 0 :: st))) rfl rfl rfl
theorem s210_76 : ji_Ev C 210 76 M lv (.int y :: .int x :: st) o ↔ ji_Ev C 210 77 M lv (.int (x + y) :: st) o := ev_go (S := (77, M, lv, (.int (x + y) :: st))) rfl rfl rfl
theorem s210_77 : ji_Ev C 210 77 M lv (.int x :: st) o ↔ 3 < lv.length ∧ ji_Ev C 210 78 M (ji_s1 lv 3 (.int x)) st o := ev_stI rfl rfl rfl
theorem s210_78 : ji_Ev C 210 78 M lv st o ↔ ji_evL (lv.getD 4 none) ji_isI (fun v => match v with | .int x => 4 < lv.length ∧ ji_Ev C 210 81 M (ji_s1 lv 4 (.int (x + Int32.ofInt 1))) st o | _ => False) := ev_iinc rfl
theorem s210_81 : ji_Ev C 210 81 M lv st o ↔ ji_Ev C 210 39 M lv st o := ev_gt rfl (by decide) rfl
theorem s210_84 : ji_Ev C 210 84 M (l0 :: l1 :: l2 :: some (.int x) :: l) st o ↔ ji_Ev C 210 85 M (l0 :: l1 :: l2 :: some (.int x) :: l) (.int x :: st) o := ev_go (S := (85, M, (l0 :: l1 :: l2 :: some (.int x) :: l), (.int x :: st))) rfl rfl rfl
theorem s210_85 : ji_Ev C 210 85 M lv [.int x] o ↔ o = (some (.int x), M) := ev_ireti rfl rfl
theorem s211_0 : ji_Ev C 211 0 M (some (.ref a) :: l) st o ↔ ji_Ev C 211 1 M (some (.ref a) :: l) (.ref a :: st) o := ev_go (S := (1, M, (some (.ref a) :: l), (.ref a :: st))) rfl rfl rfl
theorem s211_1 : ji_Ev C 211 1 M (l0 :: some (.int x) :: l) st o ↔ ji_Ev C 211 2 M (l0 :: some (.int x) :: l) (.int x :: st) o := ev_go (S := (2, M, (l0 :: some (.int x) :: l), (.int x :: st))) rfl rfl rfl
theorem s211_2 : ji_Ev C 211 2 M lv st o ↔ ji_Ev C 211 3 M lv (.int (-1) :: st) o := ev_go (S := (3, M, lv, (.int (-1) :: st))) rfl rfl rfl
theorem s211_3 : ji_Ev C 211 3 M (some (.ref a) :: l) st o ↔ ji_Ev C 211 4 M (some (.ref a) :: l) (.ref a :: st) o := ev_go (S := (4, M, (some (.ref a) :: l), (.ref a :: st))) rfl rfl rfl
theorem s211_4 : ji_Ev C 211 4 M lv (.ref a :: st) o ↔ ji_kd M a = some (0, 9) ∧ ji_Ev C 211 7 M lv (.int (ji_gI M a 50) :: st) o := ev_getI (k := 211) rfl fd_9_162 rfl
theorem s211_7 : ji_Ev C 211 7 M lv st o ↔ ji_Ev C 211 8 M lv (.int 1 :: st) o := ev_go (S := (8, M, lv, (.int 1 :: st))) rfl rfl rfl
theorem s211_8 : ji_Ev C 211 8 M lv (.int y :: .int x :: st) o ↔ ji_Ev C 211 9 M lv (.int (x - y) :: st) o := ev_go (S := (9, M, lv, (.int (x - y) :: st))) rfl rfl rfl
theorem s211_9 : ji_Ev C 211 9 M lv (p2 :: p1 :: p0 :: .ref a :: st) o ↔ (ji_rcb M 9 (.ref a) = true ∧ ji_ok8 st) ∧ ji_evC (C 158 [.ref a, p0, p1, p2] M) (fun v M' => ji_Ev C 211 12 M' lv (v.toList ++ st) o) := ev_inv (k := 211) rfl cd_9_255 rfl
theorem s211_12 : ji_Ev C 211 12 M lv (.int x :: st) o ↔ if x = 0 then ji_Ev C 211 15 M lv st o else ji_Ev C 211 18 M lv st o := ev_brz (c := .ne) rfl (by decide) rfl
theorem s211_15 : ji_Ev C 211 15 M lv st o ↔ ji_Ev C 211 17 M lv (.int (-2) :: st) o := ev_go (S := (17, M, lv, (.int (-2) :: st))) rfl rfl rfl
theorem s211_17 : ji_Ev C 211 17 M lv [.int x] o ↔ o = (some (.int x), M) := ev_ireti rfl rfl
theorem s211_18 : ji_Ev C 211 18 M (some (.ref a) :: l) st o ↔ ji_Ev C 211 19 M (some (.ref a) :: l) (.ref a :: st) o := ev_go (S := (19, M, (some (.ref a) :: l), (.ref a :: st))) rfl rfl rfl
theorem s211_19 : ji_Ev C 211 19 M lv (.ref a :: st) o ↔ (ji_rcb M 9 (.ref a) = true ∧ ji_ok8 st) ∧ ji_evC (C 212 [.ref a] M) (fun v M' => ji_Ev C 211 22 M' lv (v.toList ++ st) o) := ev_inv (k := 211) rfl cd_9_412 rfl
theorem s211_22 : ji_Ev C 211 22 M lv (.int x :: st) o ↔ 2 < lv.length ∧ ji_Ev C 211 23 M (ji_s1 lv 2 (.int x)) st o := ev_stI rfl rfl rfl
theorem s211_23 : ji_Ev C 211 23 M (l0 :: some (.int x) :: l) st o ↔ ji_Ev C 211 24 M (l0 :: some (.int x) :: l) (.int x :: st) o := ev_go (S := (24, M, (l0 :: some (.int x) :: l), (.int x :: st))) rfl rfl rfl
theorem s211_24 : ji_Ev C 211 24 M lv st o ↔ ji_Ev C 211 25 M lv (.int (-1) :: st) o := ev_go (S := (25, M, lv, (.int (-1) :: st))) rfl rfl rfl
theorem s211_25 : ji_Ev C 211 25 M lv (.int y :: .int x :: st) o ↔ if x = y then ji_Ev C 211 28 M lv st o else ji_Ev C 211 32 M lv st o := ev_brc (c := .ne) rfl (by decide) rfl
theorem s211_28 : ji_Ev C 211 28 M (l0 :: l1 :: some (.int x) :: l) st o ↔ ji_Ev C 211 29 M (l0 :: l1 :: some (.int x) :: l) (.int x :: st) o := ev_go (S := (29, M, (l0 :: l1 :: some (.int x) :: l), (.int x :: st))) rfl rfl rfl
theorem s211_29 : ji_Ev C 211 29 M lv st o ↔ ji_Ev C 211 55 M lv st o := ev_gt rfl (by decide) rfl
theorem s211_32 : ji_Ev C 211 32 M (some (.ref a) :: l) st o ↔ ji_Ev C 211 33 M (some (.ref a) :: l) (.ref a :: st) o := ev_go (S := (33, M, (some (.ref a) :: l), (.ref a :: st))) rfl rfl rfl
theorem s211_33 : ji_Ev C 211 33 M lv (.ref a :: st) o ↔ ji_kd M a = some (0, 9) ∧ ji_Ev C 211 36 M lv (ji_rv (ji_gR M a 56) :: st) o := ev_getR (k := 211) rfl fd_9_180 rfl
theorem s211_36 : ji_Ev C 211 36 M (l0 :: some (.int x) :: l) st o ↔ ji_Ev C 211 37 M (l0 :: some (.int x) :: l) (.int x :: st) o := ev_go (S := (37, M, (l0 :: some (.int x) :: l), (.int x :: st))) rfl rfl rfl
theorem s211_37 : ji_Ev C 211 37 M lv (.int x :: .ref a :: st) o ↔ ji_evA (ji_kd M a) (fun n => vp_in x n ∧ ji_Ev C 211 38 M lv (.int (ji_gI M a x.toNatClampNeg) :: st) o) := ev_iald rfl
theorem s211_38 : ji_Ev C 211 38 M (some (.ref a) :: l) st o ↔ ji_Ev C 211 39 M (some (.ref a) :: l) (.ref a :: st) o := ev_go (S := (39, M, (some (.ref a) :: l), (.ref a :: st))) rfl rfl rfl
theorem s211_39 : ji_Ev C 211 39 M lv (.ref a :: st) o ↔ ji_kd M a = some (0, 9) ∧ ji_Ev C 211 42 M lv (.int (ji_gI M a 51) :: st) o := ev_getI (k := 211) rfl fd_9_165 rfl
theorem s211_42 : ji_Ev C 211 42 M lv (.int y :: .int x :: st) o ↔ if x = y then ji_Ev C 211 45 M lv st o else ji_Ev C 211 49 M lv st o := ev_brc (c := .ne) rfl (by decide) rfl
theorem s211_45 : ji_Ev C 211 45 M lv st o ↔ ji_Ev C 211 46 M lv (.int (-1) :: st) o := ev_go (S := (46, M, lv, (.int (-1) :: st))) rfl rfl rfl
theorem s211_46 : ji_Ev C 211 46 M lv st o ↔ ji_Ev C 211 55 M lv st o := ev_gt rfl (by decide) rfl
theorem s211_49 : ji_Ev C 211 49 M (some (.ref a) :: l) st o ↔ ji_Ev C 211 50 M (some (.ref a) :: l) (.ref a :: st) o := ev_go (S := (50, M, (some (.ref a) :: l), (.ref a :: st))) rfl rfl rfl
theorem s211_50 : ji_Ev C 211 50 M lv (.ref a :: st) o ↔ ji_kd M a = some (0, 9) ∧ ji_Ev C 211 53 M lv (ji_rv (ji_gR M a 56) :: st) o := ev_getR (k := 211) rfl fd_9_180 rfl
theorem s211_53 : ji_Ev C 211 53 M (l0 :: some (.int x) :: l) st o ↔ ji_Ev C 211 54 M (l0 :: some (.int x) :: l) (.int x :: st) o := ev_go (S := (54, M, (l0 :: some (.int x) :: l), (.int x :: st))) rfl rfl rfl
theorem s211_54 : ji_Ev C 211 54 M lv (.int x :: .ref a :: st) o ↔ ji_evA (ji_kd M a) (fun n => vp_in x n ∧ ji_Ev C 211 55 M lv (.int (ji_gI M a x.toNatClampNeg) :: st) o) := ev_iald rfl
theorem s211_55 : ji_Ev C 211 55 M lv [.int x] o ↔ o = (some (.int x), M) := ev_ireti rfl rfl
theorem s212_0 : ji_Ev C 212 0 M lv st o ↔ ji_Ev C 212 1 M lv (.int (-1) :: st) o := ev_go (S := (1, M, lv, (.int (-1) :: st))) rfl rfl rfl
theorem s212_1 : ji_Ev C 212 1 M lv (.int x :: st) o ↔ 1 < lv.length ∧ ji_Ev C 212 2 M (ji_s1 lv 1 (.int x)) st o := ev_stI rfl rfl rfl
theorem s212_2 : ji_Ev C 212 2 M lv st o ↔ ji_Ev C 212 3 M lv (.int 1 :: st) o := ev_go (S := (3, M, lv, (.int 1 :: st))) rfl rfl rfl
theorem s212_3 : ji_Ev C 212 3 M lv (.int x :: st) o ↔ 2 < lv.length ∧ ji_Ev C 212 4 M (ji_s1 lv 2 (.int x)) st o := ev_stI rfl rfl rfl
theorem s212_4 : ji_Ev C 212 4 M lv st o ↔ ji_Ev C 212 5 M lv (.int 0 :: st) o := ev_go (S := (5, M, lv, (.int 0 :: st))) rfl rfl rfl
theorem s212_5 : ji_Ev C 212 5 M lv (.int x :: st) o ↔ 3 < lv.length ∧ ji_Ev C 212 6 M (ji_s1 lv 3 (.int x)) st o := ev_stI rfl rfl rfl
theorem s212_6 : ji_Ev C 212 6 M (l0 :: l1 :: l2 :: some (.int x) :: l) st o ↔ ji_Ev C 212 7 M (l0 :: l1 :: l2 :: some (.int x) :: l) (.int x :: st) o := ev_go (S := (7, M, (l0 :: l1 :: l2 :: some (.int x) :: l), (.int x :: st))) rfl rfl rfl
theorem s212_7 : ji_Ev C 212 7 M (some (.ref a) :: l) st o ↔ ji_Ev C 212 8 M (some (.ref a) :: l) (.ref a :: st) o := ev_go (S := (8, M, (some (.ref a) :: l), (.ref a :: st))) rfl rfl rfl
theorem s212_8 : ji_Ev C 212 8 M lv (.ref a :: st) o ↔ ji_kd M a = some (0, 9) ∧ ji_Ev C 212 11 M lv (.int (ji_gI M a 50) :: st) o := ev_getI (k := 212) rfl fd_9_162 rfl
theorem s212_11 : ji_Ev C 212 11 M lv (.int y :: .int x :: st) o ↔ if x < y then ji_Ev C 212 14 M lv st o else ji_Ev C 212 29 M lv st o := ev_brc (c := .ge) rfl (by decide) rfl
theorem s212_14 : ji_Ev C 212 14 M (l0 :: l1 :: some (.int x) :: l) st o ↔ ji_Ev C 212 15 M (l0 :: l1 :: some (.int x) :: l) (.int x :: st) o := ev_go (S := (15, M, (l0 :: l1 :: some (.int x) :: l), (.int x :: st))) rfl rfl rfl
theorem s212_15 : ji_Ev C 212 15 M (some (.ref a) :: l) st o ↔ ji_Ev C 212 16 M (some (.ref a) :: l) (.ref a :: st) o := ev_go (S := (16, M, (some (.ref a) :: l), (.ref a :: st))) rfl rfl rfl
theorem s212_16 : ji_Ev C 212 16 M lv (.ref a :: st) o ↔ ji_kd M a = some (0, 9) ∧ ji_Ev C 212 19 M lv (.int (ji_gI M a 51) :: st) o := ev_getI (k := 212) rfl fd_9_165 rfl
theorem s212_19 : ji_Ev C 212 19 M lv st o ↔ ji_Ev C 212 20 M lv (.int 1 :: st) o := ev_go (S := (20, M, lv, (.int 1 :: st))) rfl rfl rfl
theorem s212_20 : ji_Ev C 212 20 M lv (.int y :: .int x :: st) o ↔ ji_Ev C 212 21 M lv (.int (x + y) :: st) o := ev_go (S := (21, M, lv, (.int (x + y) :: st))) rfl rfl rfl
theorem s212_21 : ji_Ev C 212 21 M lv (.int y :: .int x :: st) o ↔ ji_Ev C 212 22 M lv (.int (x * y) :: st) o := ev_go (S := (22, M, lv, (.int (x * y) :: st))) rfl rfl rfl
theorem s212_22 : ji_Ev C 212 22 M lv (.int x :: st) o ↔ 2 < lv.length ∧ ji_Ev C 212 23 M (ji_s1 lv 2 (.int x)) st o := ev_stI rfl rfl rfl
theorem s212_23 : ji_Ev C 212 23 M lv st o ↔ ji_evL (lv.getD 3 none) ji_isI (fun v => match v with | .int x => 3 < lv.length ∧ ji_Ev C 212 26 M (ji_s1 lv 3 (.int (x + Int32.ofInt 1))) st o | _ => False) := ev_iinc rfl
theorem s212_26 : ji_Ev C 212 26 M lv st o ↔ ji_Ev C 212 6 M lv st o := ev_gt rfl (by decide) rfl
theorem s212_29 : ji_Ev C 212 29 M lv st o ↔ ji_Ev C 212 30 M lv (.int 0 :: st) o := ev_go (S := (30, M, lv, (.int 0 :: st))) rfl rfl rfl
theorem s212_30 : ji_Ev C 212 30 M lv (.int x :: st) o ↔ 3 < lv.length ∧ ji_Ev C 212 31 M (ji_s1 lv 3 (.int x)) st o := ev_stI rfl rfl rfl
theorem s212_31 : ji_Ev C 212 31 M (l0 :: l1 :: l2 :: some (.int x) :: l) st o ↔ ji_Ev C 212 32 M (l0 :: l1 :: l2 :: some (.int x) :: l) (.int x :: st) o := ev_go (S := (32, M, (l0 :: l1 :: l2 :: some (.int x) :: l), (.int x :: st))) rfl rfl rfl
theorem s212_32 : ji_Ev C 212 32 M (l0 :: l1 :: some (.int x) :: l) st o ↔ ji_Ev C 212 33 M (l0 :: l1 :: some (.int x) :: l) (.int x :: st) o := ev_go (S := (33, M, (l0 :: l1 :: some (.int x) :: l), (.int x :: st))) rfl rfl rfl
theorem s212_33 : ji_Ev C 212 33 M lv (.int y :: .int x :: st) o ↔ if x < y then ji_Ev C 212 36 M lv st o else ji_Ev C 212 243 M lv st o := ev_brc (c := .ge) rfl (by decide) rfl
theorem s212_36 : ji_Ev C 212 36 M (l0 :: l1 :: l2 :: some (.int x) :: l) st o ↔ ji_Ev C 212 37 M (l0 :: l1 :: l2 :: some (.int x) :: l) (.int x :: st) o := ev_go (S := (37, M, (l0 :: l1 :: l2 :: some (.int x) :: l), (.int x :: st))) rfl rfl rfl
theorem s212_37 : ji_Ev C 212 37 M lv (.int x :: st) o ↔ 4 < lv.length ∧ ji_Ev C 212 39 M (ji_s1 lv 4 (.int x)) st o := ev_stI rfl rfl rfl
theorem s212_39 : ji_Ev C 212 39 M (some (.ref a) :: l) st o ↔ ji_Ev C 212 40 M (some (.ref a) :: l) (.ref a :: st) o := ev_go (S := (40, M, (some (.ref a) :: l), (.ref a :: st))) rfl rfl rfl
theorem s212_40 : ji_Ev C 212 40 M lv (.ref a :: st) o ↔ ji_kd M a = some (0, 9) ∧ ji_Ev C 212 43 M lv (.int (ji_gI M a 50) :: st) o := ev_getI (k := 212) rfl fd_9_162 rfl
theorem s212_43 : ji_Ev C 212 43 M lv st o ↔ ji_Ev C 212 44 M lv (.int 1 :: st) o := ev_go (S := (44, M, lv, (.int 1 :: st))) rfl rfl rfl
theorem s212_44 : ji_Ev C 212 44 M lv (.int y :: .int x :: st) o ↔ ji_Ev C 212 45 M lv (.int (x - y) :: st) o := ev_go (S := (45, M, lv, (.int (x - y) :: st))) rfl rfl rfl
theorem s212_45 : ji_Ev C 212 45 M lv (.int x :: st) o ↔ 5 < lv.length ∧ ji_Ev C 212 47 M (ji_s1 lv 5 (.int x)) st o := ev_stI rfl rfl rfl
theorem s212_47 : ji_Ev C 212 47 M (l0 :: l1 :: l2 :: l3 :: l4 :: some (.int x) :: l) st o ↔ ji_Ev C 212 49 M (l0 :: l1 :: l2 :: l3 :: l4 :: some (.int x) :: l) (.int x :: st) o := ev_go (S := (49, M, (l0 :: l1 :: l2 :: l3 :: l4 :: some (.int x) :: l), (.int x :: st))) rfl rfl rfl
theorem s212_49 : ji_Ev C 212 49 M lv (.int x :: st) o ↔ if x < 0 then ji_Ev C 212 85 M lv st o else ji_Ev C 212 52 M lv st o := ev_brz (c := .lt) rfl (by decide) rfl
theorem s212_52 : ji_Ev C 212 52 M (some (.ref a) :: l) st o ↔ ji_Ev C 212 53 M (some (.ref a) :: l) (.ref a :: st) o := ev_go (S := (53, M, (some (.ref a) :: l), (.ref a :: st))) rfl rfl rfl
theorem s212_53 : ji_Ev C 212 53 M lv (.ref a :: st) o ↔ ji_kd M a = some (0, 9) ∧ ji_Ev C 212 56 M lv (ji_rv (ji_gR M a 55) :: st) o := ev_getR (k := 212) rfl fd_9_177 rfl
theorem s212_56 : ji_Ev C 212 56 M (l0 :: l1 :: l2 :: l3 :: l4 :: some (.int x) :: l) st o ↔ ji_Ev C 212 58 M (l0 :: l1 :: l2 :: l3 :: l4 :: some (.int x) :: l) (.int x :: st) o := ev_go (S := (58, M, (l0 :: l1 :: l2 :: l3 :: l4 :: some (.int x) :: l), (.int x :: st))) rfl rfl rfl
theorem s212_58 : ji_Ev C 212 58 M (l0 :: l1 :: l2 :: l3 :: some (.int x) :: l) st o ↔ ji_Ev C 212 60 M (l0 :: l1 :: l2 :: l3 :: some (.int x) :: l) (.int x :: st) o := ev_go (S := (60, M, (l0 :: l1 :: l2 :: l3 :: some (.int x) :: l), (.int x :: st))) rfl rfl rfl
theorem s212_60 : ji_Ev C 212 60 M (some (.ref a) :: l) st o ↔ ji_Ev C 212 61 M (some (.ref a) :: l) (.ref a :: st) o := ev_go (S := (61, M, (some (.ref a) :: l), (.ref a :: st))) rfl rfl rfl
theorem s212_61 : ji_Ev C 212 61 M lv (.ref a :: st) o ↔ ji_kd M a = some (0, 9) ∧ ji_Ev C 212 64 M lv (.int (ji_gI M a 51) :: st) o := ev_getI (k := 212) rfl fd_9_165 rfl
theorem s212_64 : ji_Ev C 212 64 M lv st o ↔ ji_Ev C 212 65 M lv (.int 1 :: st) o := ev_go (S := (65, M, lv, (.int 1 :: st))) rfl rfl rfl
theorem s212_65 : ji_Ev C 212 65 M lv (.int y :: .int x :: st) o ↔ ji_Ev C 212 66 M lv (.int (x + y) :: st) o := ev_go (S := (66, M, lv, (.int (x + y) :: st))) rfl rfl rfl
theorem s212_66 : ji_Ev C 212 66 M lv (.int y :: .int x :: st) o ↔ ¬ y = 0 ∧ ji_Ev C 212 67 M lv (.int (x - x / y * y) :: st) o := ev_dvR rfl
theorem s212_67 : ji_Ev C 212 67 M lv (.int y :: .int x :: .ref a :: st) o ↔ ji_evA (ji_kd M a) (fun n => vp_in x n ∧ ji_Ev C 212 68 (ji_sI M a x.toNatClampNeg y) lv st o) := ev_iast rfl
theorem s212_68 : ji_Ev C 212 68 M (l0 :: l1 :: l2 :: l3 :: some (.int x) :: l) st o ↔ ji_Ev C 212 70 M (l0 :: l1 :: l2 :: l3 :: some (.int x) :: l) (.int x :: st) o := ev_go (S := (70, M, (l0 :: l1 :: l2 :: l3 :: some (.int x) :: l), (.int x :: st))) rfl rfl rfl
theorem s212_70 : ji_Ev C 212 70 M (some (.ref a) :: l) st o ↔ ji_Ev C 212 71 M (some (.ref a) :: l) (.ref a :: st) o := ev_go (S := (71, M, (some (.ref a) :: l), (.ref a :: st))) rfl rfl rfl
theorem s212_71 : ji_Ev C 212 71 M lv (.ref a :: st) o ↔ ji_kd M a = some (0, 9) ∧ ji_Ev C 212 74 M lv (.int (ji_gI M a 51) :: st) o := ev_getI (k := 212) rfl fd_9_165 rfl
theorem s212_74 : ji_Ev C 212 74 M lv st o ↔ ji_Ev C 212 75 M lv (.int 1 :: st) o := ev_go (S := (75, M, lv, (.int 1 :: st))) rfl rfl rfl
theorem s212_75 : ji_Ev C 212 75 M lv (.int y :: .int x :: st) o ↔ ji_Ev C 212 76 M lv (.int (x + y) :: st) o := ev_go (S := (76, M, lv, (.int (x + y) :: st))) rfl rfl rfl
theorem s212_76 : ji_Ev C 212 76 M lv (.int y :: .int x :: st) o ↔ ¬ y = 0 ∧ ji_Ev C 212 77 M lv (.int (x / y) :: st) o := ev_dvI rfl
theorem s212_77 : ji_Ev C 212 77 M lv (.int x :: st) o ↔ 4 < lv.length ∧ ji_Ev C 212 79 M (ji_s1 lv 4 (.int x)) st o := ev_stI rfl rfl rfl
theorem s212_79 : ji_Ev C 212 79 M lv st o ↔ ji_evL (lv.getD 5 none) ji_isI (fun v => match v with | .int x => 5 < lv.length ∧ ji_Ev C 212 82 M (ji_s1 lv 5 (.int (x + Int32.ofInt (-1)))) st o | _ => False) := ev_iinc rfl
theorem s212_82 : ji_Ev C 212 82 M lv st o ↔ ji_Ev C 212 47 M lv st o := ev_gt rfl (by decide) rfl
theorem s212_85 : ji_Ev C 212 85 M lv st o ↔ ji_Ev C 212 86 M lv (.int 0 :: st) o := ev_go (S := (86, M, lv, (.int 0 :: st))) rfl rfl rfl
theorem s212_86 : ji_Ev C 212 86 M lv (.int x :: st) o ↔ 5 < lv.length ∧ ji_Ev C 212 88 M (ji_s1 lv 5 (.int x)) st o := ev_stI rfl rfl rfl
theorem s212_88 : ji_Ev C 212 88 M lv st o ↔ ji_Ev C 212 89 M lv (.int 0 :: st) o := ev_go (S := (89, M, lv, (.int 0 :: st))) rfl rfl rfl
theorem s212_89 : ji_Ev C 212 89 M lv (.int x :: st) o ↔ 6 < lv.length ∧ ji_Ev C 212 91 M (ji_s1 lv 6 (.int x)) st o := ev_stI rfl rfl rfl
theorem s212_91 : ji_Ev C 212 91 M lv st o ↔ ji_Ev C 212 92 M lv (.int 1 :: st) o := ev_go (S := (92, M, lv, (.int 1 :: st))) rfl rfl rfl
theorem s212_92 : ji_Ev C 212 92 M lv (.int x :: st) o ↔ 7 < lv.length ∧ ji_Ev C 212 94 M (ji_s1 lv 7 (.int x)) st o := ev_stI rfl rfl rfl
theorem s212_94 : ji_Ev C 212 94 M lv st o ↔ ji_Ev C 212 95 M lv (.int 0 :: st) o := ev_go (S := (95, M, lv, (.int 0 :: st))) rfl rfl rfl
theorem s212_95 : ji_Ev C 212 95 M lv (.int x :: st) o ↔ 8 < lv.length ∧ ji_Ev C 212 97 M (ji_s1 lv 8 (.int x)) st o := ev_stI rfl rfl rfl
theorem s212_97 : ji_Ev C 212 97 M (l0 :: l1 :: l2 :: l3 :: l4 :: l5 :: l6 :: l7 :: some (.int x) :: l) st o ↔ ji_Ev C 212 99 M (l0 :: l1 :: l2 :: l3 :: l4 :: l5 :: l6 :: l7 :: some (.int x) :: l) (.int x :: st) o := ev_go (S := (99, M, (l0 :: l1 :: l2 :: l3 :: l4 :: l5 :: l6 :: l7 :: some (.int x) :: l), (.int x :: st))) rfl rfl rfl
theorem s212_99 : ji_Ev C 212 99 M (some (.ref a) :: l) st o ↔ ji_Ev C 212 100 M (some (.ref a) :: l) (.ref a :: st) o := ev_go (S := (100, M, (some (.ref a) :: l), (.ref a :: st))) rfl rfl rfl
theorem s212_100 : ji_Ev C 212 100 M lv (.ref a :: st) o ↔ ji_kd M a = some (0, 9) ∧ ji_Ev C 212 103 M lv (.int (ji_gI M a 50) :: st) o := ev_getI (k := 212) rfl fd_9_162 rfl
theorem s212_103 : ji_Ev C 212 103 M lv (.int y :: .int x :: st) o ↔ if x < y then ji_Ev C 212 106 M lv st o else ji_Ev C 212 188 M lv st o := ev_brc (c := .ge) rfl (by decide) rfl
theorem s212_106 : ji_Ev C 212 106 M (l0 :: l1 :: l2 :: l3 :: l4 :: l5 :: l6 :: some (.int x) :: l) st o ↔ ji_Ev C 212 108 M (l0 :: l1 :: l2 :: l3 :: l4 :: l5 :: l6 :: some (.int x) :: l) (.int x :: st) o := ev_go (S := (108, M, (l0 :: l1 :: l2 :: l3 :: l4 :: l5 :: l6 :: some (.int x) :: l), (.int x :: st))) rfl rfl rfl
theorem s212_108 : ji_Ev C 212 108 M lv (.int x :: st) o ↔ if x = 0 then ji_Ev C 212 188 M lv st o else ji_Ev C 212 111 M lv st o := ev_brz (c := .eq) rfl (by decide) rfl
theorem s212_111 : ji_Ev C 212 111 M (some (.ref a) :: l) st o ↔ ji_Ev C 212 112 M (some (.ref a) :: l) (.ref a :: st) o := ev_go (S := (112, M, (some (.ref a) :: l), (.ref a :: st))) rfl rfl rfl
theorem s212_112 : ji_Ev C 212 112 M lv (.ref a :: st) o ↔ ji_kd M a = some (0, 9) ∧ ji_Ev C 212 115 M lv (ji_rv (ji_gR M a 55) :: st) o := ev_getR (k := 212) rfl fd_9_177 rfl
theorem s212_115 : ji_Ev C 212 115 M (l0 :: l1 :: l2 :: l3 :: l4 :: l5 :: l6 :: l7 :: some (.int x) :: l) st o ↔ ji_Ev C 212 117 M (l0 :: l1 :: l2 :: l3 :: l4 :: l5 :: l6 :: l7 :: some (.int x) :: l) (.int x :: st) o := ev_go (S := (117, M, (l0 :: l1 :: l2 :: l3 :: l4 :: l5 :: l6 :: l7 :: some (.int x) :: l), (.int x :: st))) rfl rfl rfl
theorem s212_117 : ji_Ev C 212 117 M lv (.int x :: .ref a :: st) o ↔ ji_evA (ji_kd M a) (fun n => vp_in x n ∧ ji_Ev C 212 118 M lv (.int (ji_gI M a x.toNatClampNeg) :: st) o) := ev_iald rfl
theorem s212_118 : ji_Ev C 212 118 M lv (.int x :: st) o ↔ 9 < lv.length ∧ ji_Ev C 212 120 M (ji_s1 lv 9 (.int x)) st o := ev_stI rfl rfl rfl
theorem s212_120 : ji_Ev C 212 120 M (l0 :: l1 :: l2 :: l3 :: l4 :: l5 :: l6 :: l7 :: l8 :: some (.int x) :: l) st o ↔ ji_Ev C 212 122 M (l0 :: l1 :: l2 :: l3 :: l4 :: l5 :: l6 :: l7 :: l8 :: some (.int x) :: l) (.int x :: st) o := ev_go (S := (122, M, (l0 :: l1 :: l2 :: l3 :: l4 :: l5 :: l6 :: l7 :: l8 :: some (.int x) :: l), (.int x :: st))) rfl rfl rfl
theorem s212_122 : ji_Ev C 212 122 M (some (.ref a) :: l) st o ↔ ji_Ev C 212 123 M (some (.ref a) :: l) (.ref a :: st) o := ev_go (S := (123, M, (some (.ref a) :: l), (.ref a :: st))) rfl rfl rfl
theorem s212_123 : ji_Ev C 212 123 M lv (.ref a :: st) o ↔ ji_kd M a = some (0, 9) ∧ ji_Ev C 212 126 M lv (.int (ji_gI M a 51) :: st) o := ev_getI (k := 212) rfl fd_9_165 rfl
theorem s212_126 : ji_Ev C 212 126 M lv (.int y :: .int x :: st) o ↔ if x = y then ji_Ev C 212 129 M lv st o else ji_Ev C 212 132 M lv st o := ev_brc (c := .ne) rfl (by decide) rfl
theorem s212_129 : ji_Ev C 212 129 M lv st o ↔ ji_Ev C 212 182 M lv st o := ev_gt rfl (by decide) rfl
theorem s212_132 : ji_Ev C 212 132 M (l0 :: l1 :: l2 :: l3 :: l4 :: l5 :: some (.int x) :: l) st o ↔ ji_Ev C 212 134 M (l0 :: l1 :: l2 :: l3 :: l4 :: l5 :: some (.int x) :: l) (.int x :: st) o := ev_go (S := (134, M, (l0 :: l1 :: l2 :: l3 :: l4 :: l5 :: some (.int x) :: l), (.int x :: st))) rfl rfl rfl
theorem s212_134 : ji_Ev C 212 134 M (l0 :: l1 :: l2 :: l3 :: l4 :: l5 :: l6 :: l7 :: l8 :: some (.int x) :: l) st o ↔ ji_Ev C 212 136 M (l0 :: l1 :: l2 :: l3 :: l4 :: l5 :: l6 :: l7 :: l8 :: some (.int x) :: l) (.int x :: st) o := ev_go (S := (136, M, (l0 :: l1 :: l2 :: l3 :: l4 :: l5 :: l6 :: l7 :: l8 :: some (.int x) :: l), (.int x :: st))) rfl rfl rfl
theorem s212_136 : ji_Ev C 212 136 M lv (.int y :: .int x :: st) o ↔ ji_Ev C 212 137 M lv (.int (x >>> (y &&& 31)) :: st) o := ev_go (S := (137, M, lv, (.int (x >>> (y &&& 31)) :: st))) rfl rfl rfl
theorem s212_137 : ji_Ev C 212 137 M lv st o ↔ ji_Ev C 212 138 M lv (.int 1 :: st) o := ev_go (S := (138, M, lv, (.int 1 :: st))) rfl rfl rfl
theorem s212_138 : ji_Ev C 212 138 M lv (.int y :: .int x :: st) o ↔ ji_Ev C 212 139 M lv (.int (x &&& y) :: st) o := ev_go (S := (139, M, lv, (.int (x &&& y) :: st))) rfl rfl rfl
theorem s212_139 : ji_Ev C 212 139 M lv (.int x :: st) o ↔ if x = 0 then ji_Ev C 212 142 M lv st o else ji_Ev C 212 157 M lv st o := ev_brz (c := .ne) rfl (by decide) rfl
theorem s212_142 : ji_Ev C 212 142 M (some (.ref a) :: l) st o ↔ ji_Ev C 212 143 M (some (.ref a) :: l) (.ref a :: st) o := ev_go (S := (143, M, (some (.ref a) :: l), (.ref a :: st))) rfl rfl rfl
theorem s212_143 : ji_Ev C 212 143 M (l0 :: l1 :: l2 :: l3 :: l4 :: l5 :: l6 :: l7 :: some (.int x) :: l) st o ↔ ji_Ev C 212 145 M (l0 :: l1 :: l2 :: l3 :: l4 :: l5 :: l6 :: l7 :: some (.int x) :: l) (.int x :: st) o := ev_go (S := (145, M, (l0 :: l1 :: l2 :: l3 :: l4 :: l5 :: l6 :: l7 :: some (.int x) :: l), (.int x :: st))) rfl rfl rfl
theorem s212_145 : ji_Ev C 212 145 M (l0 :: l1 :: l2 :: l3 :: l4 :: l5 :: l6 :: l7 :: l8 :: some (.int x) :: l) st o ↔ ji_Ev C 212 147 M (l0 :: l1 :: l2 :: l3 :: l4 :: l5 :: l6 :: l7 :: l8 :: some (.int x) :: l) (.int x :: st) o := ev_go (S := (147, M, (l0 :: l1 :: l2 :: l3 :: l4 :: l5 :: l6 :: l7 :: l8 :: some (.int x) :: l), (.int x :: st))) rfl rfl rfl
theorem s212_147 : ji_Ev C 212 147 M lv (p1 :: p0 :: .ref a :: st) o ↔ (ji_rcb M 9 (.ref a) = true ∧ ji_ok8 st) ∧ ji_evC (C 210 [.ref a, p0, p1] M) (fun v M' => ji_Ev C 212 150 M' lv (v.toList ++ st) o) := ev_inv (k := 212) rfl cd_9_409 rfl
theorem s212_150 : ji_Ev C 212 150 M lv (.int x :: st) o ↔ if 0 < x then ji_Ev C 212 153 M lv st o else ji_Ev C 212 157 M lv st o := ev_brz (c := .le) rfl (by decide) rfl
theorem s212_153 : ji_Ev C 212 153 M lv st o ↔ ji_Ev C 212 154 M lv (.int 1 :: st) o := ev_go (S := (154, M, lv, (.int 1 :: st))) rfl rfl rfl
theorem s212_154 : ji_Ev C 212 154 M lv st o ↔ ji_Ev C 212 158 M lv st o := ev_gt rfl (by decide) rfl
theorem s212_157 : ji_Ev C 212 157 M lv st o ↔ ji_Ev C 212 158 M lv (.int 0 :: st) o := ev_go (S := (158, M, lv, (.int 0 :: st))) rfl rfl rfl
theorem s212_158 : ji_Ev C 212 158 M lv (.int x :: st) o ↔ 7 < lv.length ∧ ji_Ev C 212 160 M (ji_s1 lv 7 (.int x)) st o := ev_stI rfl rfl rfl
theorem s212_160 : ji_Ev C 212 160 M (l0 :: l1 :: l2 :: l3 :: l4 :: l5 :: some (.int x) :: l) st o ↔ ji_Ev C 212 162 M (l0 :: l1 :: l2 :: l3 :: l4 :: l5 :: some (.int x) :: l) (.int x :: st) o := ev_go (S := (162, M, (l0 :: l1 :: l2 :: l3 :: l4 :: l5 :: some (.int x) :: l), (.int x :: st))) rfl rfl rfl
theorem s212_162 : ji_Ev C 212 162 M lv st o ↔ ji_Ev C 212 163 M lv (.int 1 :: st) o := ev_go (S := (163, M, lv, (.int 1 :: st))) rfl rfl rfl
theorem s212_163 : ji_Ev C 212 163 M (l0 :: l1 :: l2 :: l3 :: l4 :: l5 :: l6 :: l7 :: l8 :: some (.int x) :: l) st o ↔ ji_Ev C 212 165 M (l0 :: l1 :: l2 :: l3 :: l4 :: l5 :: l6 :: l7 :: l8 :: some (.int x) :: l) (.int x :: st) o := ev_go (S := (165, M, (l0 :: l1 :: l2 :: l3 :: l4 :: l5 :: l6 :: l7 :: l8 :: some (.int x) :: l), (.int x :: st))) rfl rfl rfl
theorem s212_165 : ji_Ev C 212 165 M lv (.int y :: .int x :: st) o ↔ ji_Ev C 212 166 M lv (.int (x <<< (y &&& 31)) :: st) o := ev_go (S := (166, M, lv, (.int (x <<< (y &&& 31)) :: st))) rfl rfl rfl
theorem s212_166 : ji_Ev C 212 166 M lv (.int y :: .int x :: st) o ↔ ji_Ev C 212 167 M lv (.int (x ||| y) :: st) o := ev_go (S := (167, M, lv, (.int (x ||| y) :: st))) rfl rfl rfl
theorem s212_167 : ji_Ev C 212 167 M lv (.int x :: st) o ↔ 6 < lv.length ∧ ji_Ev C 212 169 M (ji_s1 lv 6 (.int x)) st o := ev_stI rfl rfl rfl
theorem s212_169 : ji_Ev C 212 169 M (l0 :: l1 :: l2 :: l3 :: l4 :: some (.int x) :: l) st o ↔ ji_Ev C 212 171 M (l0 :: l1 :: l2 :: l3 :: l4 :: some (.int x) :: l) (.int x :: st) o := ev_go (S := (171, M, (l0 :: l1 :: l2 :: l3 :: l4 :: some (.int x) :: l), (.int x :: st))) rfl rfl rfl
theorem s212_171 : ji_Ev C 212 171 M (some (.ref a) :: l) st o ↔ ji_Ev C 212 172 M (some (.ref a) :: l) (.ref a :: st) o := ev_go (S := (172, M, (some (.ref a) :: l), (.ref a :: st))) rfl rfl rfl
theorem s212_172 : ji_Ev C 212 172 M (l0 :: l1 :: l2 :: l3 :: l4 :: l5 :: l6 :: l7 :: some (.int x) :: l) st o ↔ ji_Ev C 212 174 M (l0 :: l1 :: l2 :: l3 :: l4 :: l5 :: l6 :: l7 :: some (.int x) :: l) (.int x :: st) o := ev_go (S := (174, M, (l0 :: l1 :: l2 :: l3 :: l4 :: l5 :: l6 :: l7 :: some (.int x) :: l), (.int x :: st))) rfl rfl rfl
theorem s212_174 : ji_Ev C 212 174 M (l0 :: l1 :: l2 :: l3 :: l4 :: l5 :: l6 :: l7 :: l8 :: some (.int x) :: l) st o ↔ ji_Ev C 212 176 M (l0 :: l1 :: l2 :: l3 :: l4 :: l5 :: l6 :: l7 :: l8 :: some (.int x) :: l) (.int x :: st) o := ev_go (S := (176, M, (l0 :: l1 :: l2 :: l3 :: l4 :: l5 :: l6 :: l7 :: l8 :: some (.int x) :: l), (.int x :: st))) rfl rfl rfl
theorem s212_176 : ji_Ev C 212 176 M lv (p1 :: p0 :: .ref a :: st) o ↔ (ji_rcb M 9 (.ref a) = true ∧ ji_ok8 st) ∧ ji_evC (C 210 [.ref a, p0, p1] M) (fun v M' => ji_Ev C 212 179 M' lv (v.toList ++ st) o) := ev_inv (k := 212) rfl cd_9_409 rfl
theorem s212_179 : ji_Ev C 212 179 M lv (.int y :: .int x :: st) o ↔ ji_Ev C 212 180 M lv (.int (x + y) :: st) o := ev_go (S := (180, M, lv, (.int (x + y) :: st))) rfl rfl rfl
theorem s212_180 : ji_Ev C 212 180 M lv (.int x :: st) o ↔ 5 < lv.length ∧ ji_Ev C 212 182 M (ji_s1 lv 5 (.int x)) st o := ev_stI rfl rfl rfl
theorem s212_182 : ji_Ev C 212 182 M lv st o ↔ ji_evL (lv.getD 8 none) ji_isI (fun v => match v with | .int x => 8 < lv.length ∧ ji_Ev C 212 185 M (ji_s1 lv 8 (.int (x + Int32.ofInt 1))) st o | _ => False) := ev_iinc rfl
theorem s212_185 : ji_Ev C 212 185 M lv st o ↔ ji_Ev C 212 97 M lv st o := ev_gt rfl (by decide) rfl
theorem s212_188 : ji_Ev C 212 188 M (l0 :: l1 :: l2 :: l3 :: l4 :: l5 :: l6 :: some (.int x) :: l) st o ↔ ji_Ev C 212 190 M (l0 :: l1 :: l2 :: l3 :: l4 :: l5 :: l6 :: some (.int x) :: l) (.int x :: st) o := ev_go (S := (190, M, (l0 :: l1 :: l2 :: l3 :: l4 :: l5 :: l6 :: some (.int x) :: l), (.int x :: st))) rfl rfl rfl
theorem s212_190 : ji_Ev C 212 190 M lv (.int x :: st) o ↔ if x = 0 then ji_Ev C 212 237 M lv st o else ji_Ev C 212 193 M lv st o := ev_brz (c := .eq) rfl (by decide) rfl
theorem s212_193 : ji_Ev C 212 193 M (l0 :: l1 :: l2 :: l3 :: l4 :: some (.int x) :: l) st o ↔ ji_Ev C 212 195 M (l0 :: l1 :: l2 :: l3 :: l4 :: some (.int x) :: l) (.int x :: st) o := ev_go (S := (195, M, (l0 :: l1 :: l2 :: l3 :: l4 :: some (.int x) :: l), (.int x :: st))) rfl rfl rfl
theorem s212_195 : ji_Ev C 212 195 M (l0 :: some (.int x) :: l) st o ↔ ji_Ev C 212 196 M (l0 :: some (.int x) :: l) (.int x :: st) o := ev_go (S := (196, M, (l0 :: some (.int x) :: l), (.int x :: st))) rfl rfl rfl
theorem s212_196 : ji_Ev C 212 196 M lv (.int y :: .int x :: st) o ↔ if y < x then ji_Ev C 212 202 M lv st o else ji_Ev C 212 199 M lv st o := ev_brc (c := .gt) rfl (by decide) rfl
theorem s212_199 : ji_Ev C 212 199 M lv st o ↔ ji_Ev C 212 237 M lv st o := ev_gt rfl (by decide) rfl
theorem s212_202 : ji_Ev C 212 202 M (l0 :: l1 :: l2 :: l3 :: l4 :: some (.int x) :: l) st o ↔ ji_Ev C 212 204 M (l0 :: l1 :: l2 :: l3 :: l4 :: some (.int x) :: l) (.int x :: st) o := ev_go (S := (204, M, (l0 :: l1 :: l2 :: l3 :: l4 :: some (.int x) :: l), (.int x :: st))) rfl rfl rfl
theorem s212_204 : ji_Ev C 212 204 M lv (.int x :: st) o ↔ 1 < lv.length ∧ ji_Ev C 212 205 M (ji_s1 lv 1 (.int x)) st o := ev_stI rfl rfl rfl
theorem s212_205 : ji_Ev C 212 205 M lv st o ↔ ji_Ev C 212 206 M lv (.int 0 :: st) o := ev_go (S := (206, M, lv, (.int 0 :: st))) rfl rfl rfl
theorem s212_206 : ji_Ev C 212 206 M lv (.int x :: st) o ↔ 8 < lv.length ∧ ji_Ev C 212 208 M (ji_s1 lv 8 (.int x)) st o := ev_stI rfl rfl rfl
theorem s212_208 : ji_Ev C 212 208 M (l0 :: l1 :: l2 :: l3 :: l4 :: l5 :: l6 :: l7 :: some (.int x) :: l) st o ↔ ji_Ev C 212 210 M (l0 :: l1 :: l2 :: l3 :: l4 :: l5 :: l6 :: l7 :: some (.int x) :: l) (.int x :: st) o := ev_go (S := (210, M, (l0 :: l1 :: l2 :: l3 :: l4 :: l5 :: l6 :: l7 :: some (.int x) :: l), (.int x :: st))) rfl rfl rfl
theorem s212_210 : ji_Ev C 212 210 M (some (.ref a) :: l) st o ↔ ji_Ev C 212 211 M (some (.ref a) :: l) (.ref a :: st) o := ev_go (S := (211, M, (some (.ref a) :: l), (.ref a :: st))) rfl rfl rfl
theorem s212_211 : ji_Ev C 212 211 M lv (.ref a :: st) o ↔ ji_kd M a = some (0, 9) ∧ ji_Ev C 212 214 M lv (.int (ji_gI M a 50) :: st) o := ev_getI (k := 212) rfl fd_9_162 rfl
theorem s212_214 : ji_Ev C 212 214 M lv (.int y :: .int x :: st) o ↔ if x < y then ji_Ev C 212 217 M lv st o else ji_Ev C 212 237 M lv st o := ev_brc (c := .ge) rfl (by decide) rfl
theorem s212_217 : ji_Ev C 212 217 M (some (.ref a) :: l) st o ↔ ji_Ev C 212 218 M (some (.ref a) :: l) (.ref a :: st) o := ev_go (S := (218, M, (some (.ref a) :: l), (.ref a :: st))) rfl rfl rfl
theorem s212_218 : ji_Ev C 212 218 M lv (.ref a :: st) o ↔ ji_kd M a = some (0, 9) ∧ ji_Ev C 212 221 M lv (ji_rv (ji_gR M a 56) :: st) o := ev_getR (k := 212) rfl fd_9_180 rfl
theorem s212_221 : ji_Ev C 212 221 M (l0 :: l1 :: l2 :: l3 :: l4 :: l5 :: l6 :: l7 :: some (.int x) :: l) st o ↔ ji_Ev C 212 223 M (l0 :: l1 :: l2 :: l3 :: l4 :: l5 :: l6 :: l7 :: some (.int x) :: l) (.int x :: st) o := ev_go (S := (223, M, (l0 :: l1 :: l2 :: l3 :: l4 :: l5 :: l6 :: l7 :: some (.int x) :: l), (.int x :: st))) rfl rfl rfl
theorem s212_223 : ji_Ev C 212 223 M (some (.ref a) :: l) st o ↔ ji_Ev C 212 224 M (some (.ref a) :: l) (.ref a :: st) o := ev_go (S := (224, M, (some (.ref a) :: l), (.ref a :: st))) rfl rfl rfl
theorem s212_224 : ji_Ev C 212 224 M lv (.ref a :: st) o ↔ ji_kd M a = some (0, 9) ∧ ji_Ev C 212 227 M lv (ji_rv (ji_gR M a 55) :: st) o := ev_getR (k := 212) rfl fd_9_177 rfl
theorem s212_227 : ji_Ev C 212 227 M (l0 :: l1 :: l2 :: l3 :: l4 :: l5 :: l6 :: l7 :: some (.int x) :: l) st o ↔ ji_Ev C 212 229 M (l0 :: l1 :: l2 :: l3 :: l4 :: l5 :: l6 :: l7 :: some (.int x) :: l) (.int x :: st) o := ev_go (S := (229, M, (l0 :: l1 :: l2 :: l3 :: l4 :: l5 :: l6 :: l7 :: some (.int x) :: l), (.int x :: st))) rfl rfl rfl
theorem s212_229 : ji_Ev C 212 229 M lv (.int x :: .ref a :: st) o ↔ ji_evA (ji_kd M a) (fun n => vp_in x n ∧ ji_Ev C 212 230 M lv (.int (ji_gI M a x.toNatClampNeg) :: st) o) := ev_iald rfl
theorem s212_230 : ji_Ev C 212 230 M lv (.int y :: .int x :: .ref a :: st) o ↔ ji_evA (ji_kd M a) (fun n => vp_in x n ∧ ji_Ev C 212 231 (ji_sI M a x.toNatClampNeg y) lv st o) := ev_iast rfl
theorem s212_231 : ji_Ev C 212 231 M lv st o ↔ ji_evL (lv.getD 8 none) ji_isI (fun v => match v with | .int x => 8 < lv.length ∧ ji_Ev C 212 234 M (ji_s1 lv 8 (.int (x + Int32.ofInt 1))) st o | _ => False) := ev_iinc rfl
theorem s212_234 : ji_Ev C 212 234 M lv st o ↔ ji_Ev C 212 208 M lv st o := ev_gt rfl (by decide) rfl
theorem s212_237 : ji_Ev C 212 237 M lv st o ↔ ji_evL (lv.getD 3 none) ji_isI (fun v => match v with | .int x => 3 < lv.length ∧ ji_Ev C 212 240 M (ji_s1 lv 3 (.int (x + Int32.ofInt 1))) st o | _ => False) := ev_iinc rfl
theorem s212_240 : ji_Ev C 212 240 M lv st o ↔ ji_Ev C 212 31 M lv st o := ev_gt rfl (by decide) rfl
theorem s212_243 : ji_Ev C 212 243 M (l0 :: some (.int x) :: l) st o ↔ ji_Ev C 212 244 M (l0 :: some (.int x) :: l) (.int x :: st) o := ev_go (S := (244, M, (l0 :: some (.int x) :: l), (.int x :: st))) rfl rfl rfl
theorem s212_244 : ji_Ev C 212 244 M lv [.int x] o ↔ o = (some (.int x), M) := ev_ireti rfl rfl
theorem s213_0 : ji_Ev C 213 0 M (some (.ref a) :: l) st o ↔ ji_Ev C 213 1 M (some (.ref a) :: l) (.ref a :: st) o := ev_go (S := (1, M, (some (.ref a) :: l), (.ref a :: st))) rfl rfl rfl
theorem s213_1 : ji_Ev C 213 1 M (l0 :: some (.int x) :: l) st o ↔ ji_Ev C 213 2 M (l0 :: some (.int x) :: l) (.int x :: st) o := ev_go (S := (2, M, (l0 :: some (.int x) :: l), (.int x :: st))) rfl rfl rfl
theorem s213_2 : ji_Ev C 213 2 M lv st o ↔ ji_Ev C 213 3 M lv (.int 0 :: st) o := ev_go (S := (3, M, lv, (.int 0 :: st))) rfl rfl rfl
theorem s213_3 : ji_Ev C 213 3 M lv st o ↔ ji_Ev C 213 4 M lv (.int 3 :: st) o := ev_go (S := (4, M, lv, (.int 3 :: st))) rfl rfl rfl
theorem s213_4 : ji_Ev C 213 4 M lv (p2 :: p1 :: p0 :: .ref a :: st) o ↔ (ji_rcb M 9 (.ref a) = true ∧ ji_ok8 st) ∧ ji_evC (C 158 [.ref a, p0, p1, p2] M) (fun v M' => ji_Ev C 213 7 M' lv (v.toList ++ st) o) := ev_inv (k := 213) rfl cd_9_255 rfl
theorem s213_7 : ji_Ev C 213 7 M lv (.int x :: st) o ↔ if x = 0 then ji_Ev C 213 34 M lv st o else ji_Ev C 213 10 M lv st o := ev_brz (c := .eq) rfl (by decide) rfl
theorem s213_10 : ji_Ev C 213 10 M (some (.ref a) :: l) st o ↔ ji_Ev C 213 11 M (some (.ref a) :: l) (.ref a :: st) o := ev_go (S := (11, M, (some (.ref a) :: l), (.ref a :: st))) rfl rfl rfl
theorem s213_11 : ji_Ev C 213 11 M (l0 :: l1 :: some (.int x) :: l) st o ↔ ji_Ev C 213 12 M (l0 :: l1 :: some (.int x) :: l) (.int x :: st) o := ev_go (S := (12, M, (l0 :: l1 :: some (.int x) :: l), (.int x :: st))) rfl rfl rfl
theorem s213_12 : ji_Ev C 213 12 M lv st o ↔ ji_Ev C 213 13 M lv (.int 0 :: st) o := ev_go (S := (13, M, lv, (.int 0 :: st))) rfl rfl rfl
theorem s213_13 : ji_Ev C 213 13 M lv st o ↔ ji_Ev C 213 16 M lv (.int 9999 :: st) o := ev_go (S := (16, M, lv, (.int 9999 :: st))) rfl rfl rfl
theorem s213_16 : ji_Ev C 213 16 M lv (p2 :: p1 :: p0 :: .ref a :: st) o ↔ (ji_rcb M 9 (.ref a) = true ∧ ji_ok8 st) ∧ ji_evC (C 158 [.ref a, p0, p1, p2] M) (fun v M' => ji_Ev C 213 19 M' lv (v.toList ++ st) o) := ev_inv (k := 213) rfl cd_9_255 rfl
theorem s213_19 : ji_Ev C 213 19 M lv (.int x :: st) o ↔ if x = 0 then ji_Ev C 213 34 M lv st o else ji_Ev C 213 22 M lv st o := ev_brz (c := .eq) rfl (by decide) rfl
theorem s213_22 : ji_Ev C 213 22 M (some (.ref a) :: l) st o ↔ ji_Ev C 213 23 M (some (.ref a) :: l) (.ref a :: st) o := ev_go (S := (23, M, (some (.ref a) :: l), (.ref a :: st))) rfl rfl rfl
theorem s213_23 : ji_Ev C 213 23 M (l0 :: l1 :: l2 :: some (.int x) :: l) st o ↔ ji_Ev C 213 24 M (l0 :: l1 :: l2 :: some (.int x) :: l) (.int x :: st) o := ev_go (S := (24, M, (l0 :: l1 :: l2 :: some (.int x) :: l), (.int x :: st))) rfl rfl rfl
theorem s213_24 : ji_Ev C 213 24 M lv st o ↔ ji_Ev C 213 25 M lv (.int 0 :: st) o := ev_go (S := (25, M, lv, (.int 0 :: st))) rfl rfl rfl
theorem s213_25 : ji_Ev C 213 25 M lv st o ↔ ji_Ev C 213 28 M lv (.int 9999 :: st) o := ev_go (S := (28, M, lv, (.int 9999 :: st))) rfl rfl rfl
theorem s213_28 : ji_Ev C 213 28 M lv (p2 :: p1 :: p0 :: .ref a :: st) o ↔ (ji_rcb M 9 (.ref a) = true ∧ ji_ok8 st) ∧ ji_evC (C 158 [.ref a, p0, p1, p2] M) (fun v M' => ji_Ev C 213 31 M' lv (v.toList ++ st) o) := ev_inv (k := 213) rfl cd_9_255 rfl
theorem s213_31 : ji_Ev C 213 31 M lv (.int x :: st) o ↔ if x = 0 then ji_Ev C 213 34 M lv st o else ji_Ev C 213 37 M lv st o := ev_brz (c := .ne) rfl (by decide) rfl
theorem s213_34 : ji_Ev C 213 34 M lv st o ↔ ji_Ev C 213 36 M lv (.int (-2) :: st) o := ev_go (S := (36, M, lv, (.int (-2) :: st))) rfl rfl rfl
theorem s213_36 : ji_Ev C 213 36 M lv [.int x] o ↔ o = (some (.int x), M) := ev_ireti rfl rfl
theorem s213_37 : ji_Ev C 213 37 M (some (.ref a) :: l) st o ↔ ji_Ev C 213 38 M (some (.ref a) :: l) (.ref a :: st) o := ev_go (S := (38, M, (some (.ref a) :: l), (.ref a :: st))) rfl rfl rfl
theorem s213_38 : ji_Ev C 213 38 M lv (.ref a :: st) o ↔ ji_kd M a = some (0, 9) ∧ ji_Ev C 213 41 M lv (.int (ji_gI M a 57) :: st) o := ev_getI (k := 213) rfl fd_9_183 rfl
theorem s213_41 : ji_Ev C 213 41 M lv st o ↔ ji_Ev C 213 43 M lv (.int 20 :: st) o := ev_go (S := (43, M, lv, (.int 20 :: st))) rfl rfl rfl
theorem s213_43 : ji_Ev C 213 43 M lv (.int y :: .int x :: st) o ↔ if x = y then ji_Ev C 213 46 M lv st o else ji_Ev C 213 49 M lv st o := ev_brc (c := .ne) rfl (by decide) rfl
theorem s213_46 : ji_Ev C 213 46 M lv st o ↔ ji_Ev C 213 48 M lv (.int (-4) :: st) o := ev_go (S := (48, M, lv, (.int (-4) :: st))) rfl rfl rfl
theorem s213_48 : ji_Ev C 213 48 M lv [.int x] o ↔ o = (some (.int x), M) := ev_ireti rfl rfl
theorem s213_49 : ji_Ev C 213 49 M (some (.ref a) :: l) st o ↔ ji_Ev C 213 50 M (some (.ref a) :: l) (.ref a :: st) o := ev_go (S := (50, M, (some (.ref a) :: l), (.ref a :: st))) rfl rfl rfl
theorem s213_50 : ji_Ev C 213 50 M lv (.ref a :: st) o ↔ ji_kd M a = some (0, 9) ∧ ji_Ev C 213 53 M lv (ji_rv (ji_gR M a 60) :: st) o := ev_getR (k := 213) rfl fd_9_192 rfl
theorem s213_53 : ji_Ev C 213 53 M (some (.ref a) :: l) st o ↔ ji_Ev C 213 54 M (some (.ref a) :: l) (.ref a :: st) o := ev_go (S := (54, M, (some (.ref a) :: l), (.ref a :: st))) rfl rfl rfl
theorem s213_54 : ji_Ev C 213 54 M lv (.ref a :: st) o ↔ ji_kd M a = some (0, 9) ∧ ji_Ev C 213 57 M lv (.int (ji_gI M a 57) :: st) o := ev_getI (k := 213) rfl fd_9_183 rfl
theorem s213_57 : ji_Ev C 213 57 M (l0 :: some (.int x) :: l) st o ↔ ji_Ev C 213 58 M (l0 :: some (.int x) :: l) (.int x :: st) o := ev_go (S := (58, M, (l0 :: some (.int x) :: l), (.int x :: st))) rfl rfl rfl
theorem s213_58 : ji_Ev C 213 58 M lv (.int y :: .int x :: .ref a :: st) o ↔ ji_evA (ji_kd M a) (fun n => vp_in x n ∧ ji_Ev C 213 59 (ji_sI M a x.toNatClampNeg y) lv st o) := ev_iast rfl
theorem s213_59 : ji_Ev C 213 59 M (some (.ref a) :: l) st o ↔ ji_Ev C 213 60 M (some (.ref a) :: l) (.ref a :: st) o := ev_go (S := (60, M, (some (.ref a) :: l), (.ref a :: st))) rfl rfl rfl
theorem s213_60 : ji_Ev C 213 60 M lv (.ref a :: st) o ↔ ji_kd M a = some (0, 9) ∧ ji_Ev C 213 63 M lv (ji_rv (ji_gR M a 61) :: st) o := ev_getR (k := 213) rfl fd_9_195 rfl
theorem s213_63 : ji_Ev C 213 63 M (some (.ref a) :: l) st o ↔ ji_Ev C 213 64 M (some (.ref a) :: l) (.ref a :: st) o := ev_go (S := (64, M, (some (.ref a) :: l), (.ref a :: st))) rfl rfl rfl
theorem s213_64 : ji_Ev C 213 64 M lv (.ref a :: st) o ↔ ji_kd M a = some (0, 9) ∧ ji_Ev C 213 67 M lv (.int (ji_gI M a 57) :: st) o := ev_getI (k := 213) rfl fd_9_183 rfl
theorem s213_67 : ji_Ev C 213 67 M (l0 :: l1 :: some (.int x) :: l) st o ↔ ji_Ev C 213 68 M (l0 :: l1 :: some (.int x) :: l) (.int x :: st) o := ev_go (S := (68, M, (l0 :: l1 :: some (.int x) :: l), (.int x :: st))) rfl rfl rfl
theorem s213_68 : ji_Ev C 213 68 M lv (.int y :: .int x :: .ref a :: st) o ↔ ji_evA (ji_kd M a) (fun n => vp_in x n ∧ ji_Ev C 213 69 (ji_sI M a x.toNatClampNeg y) lv st o) := ev_iast rfl
theorem s213_69 : ji_Ev C 213 69 M (some (.ref a) :: l) st o ↔ ji_Ev C 213 70 M (some (.ref a) :: l) (.ref a :: st) o := ev_go (S := (70, M, (some (.ref a) :: l), (.ref a :: st))) rfl rfl rfl
theorem s213_70 : ji_Ev C 213 70 M lv (.ref a :: st) o ↔ ji_kd M a = some (0, 9) ∧ ji_Ev C 213 73 M lv (ji_rv (ji_gR M a 62) :: st) o := ev_getR (k := 213) rfl fd_9_198 rfl
theorem s213_73 : ji_Ev C 213 73 M (some (.ref a) :: l) st o ↔ ji_Ev C 213 74 M (some (.ref a) :: l) (.ref a :: st) o := ev_go (S := (74, M, (some (.ref a) :: l), (.ref a :: st))) rfl rfl rfl
theorem s213_74 : ji_Ev C 213 74 M lv (.ref a :: st) o ↔ ji_kd M a = some (0, 9) ∧ ji_Ev C 213 77 M lv (.int (ji_gI M a 57) :: st) o := ev_getI (k := 213) rfl fd_9_183 rfl
theorem s213_77 : ji_Ev C 213 77 M (l0 :: l1 :: l2 :: some (.int x) :: l) st o ↔ ji_Ev C 213 78 M (l0 :: l1 :: l2 :: some (.int x) :: l) (.int x :: st) o := ev_go (S := (78, M, (l0 :: l1 :: l2 :: some (.int x) :: l), (.int x :: st))) rfl rfl rfl
theorem s213_78 : ji_Ev C 213 78 M lv (.int y :: .int x :: .ref a :: st) o ↔ ji_evA (ji_kd M a) (fun n => vp_in x n ∧ ji_Ev C 213 79 (ji_sI M a x.toNatClampNeg y) lv st o) := ev_iast rfl
theorem s213_79 : ji_Ev C 213 79 M (some (.ref a) :: l) st o ↔ ji_Ev C 213 80 M (some (.ref a) :: l) (.ref a :: st) o := ev_go (S := (80, M, (some (.ref a) :: l), (.ref a :: st))) rfl rfl rfl
theorem s213_80 : ji_Ev C 213 80 M lv (.ref a :: st) o ↔ ji_kd M a = some (0, 9) ∧ ji_Ev C 213 83 M lv (ji_rv (ji_gR M a 63) :: st) o := ev_getR (k := 213) rfl fd_9_201 rfl
theorem s213_83 : ji_Ev C 213 83 M (some (.ref a) :: l) st o ↔ ji_Ev C 213 84 M (some (.ref a) :: l) (.ref a :: st) o := ev_go (S := (84, M, (some (.ref a) :: l), (.ref a :: st))) rfl rfl rfl
theorem s213_84 : ji_Ev C 213 84 M lv (.ref a :: st) o ↔ ji_kd M a = some (0, 9) ∧ ji_Ev C 213 87 M lv (.int (ji_gI M a 57) :: st) o := ev_getI (k := 213) rfl fd_9_183 rfl
theorem s213_87 : ji_Ev C 213 87 M (some (.ref a) :: l) st o ↔ ji_Ev C 213 88 M (some (.ref a) :: l) (.ref a :: st) o := ev_go (S := (88, M, (some (.ref a) :: l), (.ref a :: st))) rfl rfl rfl
theorem s213_88 : ji_Ev C 213 88 M lv (.ref a :: st) o ↔ ji_kd M a = some (0, 9) ∧ ji_Ev C 213 91 M lv (.int (ji_gI M a 0) :: st) o := ev_getI (k := 213) rfl fd_9_7 rfl
theorem s213_91 : ji_Ev C 213 91 M lv (.int y :: .int x :: .ref a :: st) o ↔ ji_evA (ji_kd M a) (fun n => vp_in x n ∧ ji_Ev C 213 92 (ji_sI M a x.toNatClampNeg y) lv st o) := ev_iast rfl
theorem s213_92 : ji_Ev C 213 92 M (some (.ref a) :: l) st o ↔ ji_Ev C 213 93 M (some (.ref a) :: l) (.ref a :: st) o := ev_go (S := (93, M, (some (.ref a) :: l), (.ref a :: st))) rfl rfl rfl
theorem s213_93 : ji_Ev C 213 93 M lv (.int x :: st) o ↔ ji_Ev C 213 94 M lv (.int x :: .int x :: st) o := ev_go (S := (94, M, lv, (.int x :: .int x :: st))) rfl rfl rfl
theorem s213_93r : ji_Ev C 213 93 M lv (.ref a :: st) o ↔ ji_Ev C 213 94 M lv (.ref a :: .ref a :: st) o := ev_go (S := (94, M, lv, (.ref a :: .ref a :: st))) rfl rfl rfl
theorem s213_94 : ji_Ev C 213 94 M lv (.ref a :: st) o ↔ ji_kd M a = some (0, 9) ∧ ji_Ev C 213 97 M lv (.int (ji_gI M a 57) :: st) o := ev_getI (k := 213) rfl fd_9_183 rfl
theorem s213_97 : ji_Ev C 213 97 M lv st o ↔ ji_Ev C 213 98 M lv (.int 1 :: st) o := ev_go (S := (98, M, lv, (.int 1 :: st))) rfl rfl rfl
theorem s213_98 : ji_Ev C 213 98 M lv (.int y :: .int x :: st) o ↔ ji_Ev C 213 99 M lv (.int (x + y) :: st) o := ev_go (S := (99, M, lv, (.int (x + y) :: st))) rfl rfl rfl
theorem s213_99 : ji_Ev C 213 99 M lv (.int x :: .ref a :: st) o ↔ ji_kd M a = some (0, 9) ∧ ji_Ev C 213 102 (ji_sI M a 57 x) lv st o := ev_putI (k := 213) rfl fd_9_183 rfl (by decide)
theorem s213_102 : ji_Ev C 213 102 M (some (.ref a) :: l) st o ↔ ji_Ev C 213 103 M (some (.ref a) :: l) (.ref a :: st) o := ev_go (S := (103, M, (some (.ref a) :: l), (.ref a :: st))) rfl rfl rfl
theorem s213_103 : ji_Ev C 213 103 M lv (.ref a :: st) o ↔ ji_kd M a = some (0, 9) ∧ ji_Ev C 213 106 M lv (.int (ji_gI M a 57) :: st) o := ev_getI (k := 213) rfl fd_9_183 rfl
theorem s213_106 : ji_Ev C 213 106 M lv [.int x] o ↔ o = (some (.int x), M) := ev_ireti rfl rfl
theorem s214_0 : ji_Ev C 214 0 M (some (.ref a) :: l) st o ↔ ji_Ev C 214 1 M (some (.ref a) :: l) (.ref a :: st) o := ev_go (S := (1, M, (some (.ref a) :: l), (.ref a :: st))) rfl rfl rfl
theorem s214_1 : ji_Ev C 214 1 M (l0 :: some (.int x) :: l) st o ↔ ji_Ev C 214 2 M (l0 :: some (.int x) :: l) (.int x :: st) o := ev_go (S := (2, M, (l0 :: some (.int x) :: l), (.int x :: st))) rfl rfl rfl
theorem s214_2 : ji_Ev C 214 2 M lv st o ↔ ji_Ev C 214 3 M lv (.int 0 :: st) o := ev_go (S := (3, M, lv, (.int 0 :: st))) rfl rfl rfl
theorem s214_3 : ji_Ev C 214 3 M lv st o ↔ ji_Ev C 214 4 M lv (.int 3 :: st) o := ev_go (S := (4, M, lv, (.int 3 :: st))) rfl rfl rfl
theorem s214_4 : ji_Ev C 214 4 M lv (p2 :: p1 :: p0 :: .ref a :: st) o ↔ (ji_rcb M 9 (.ref a) = true ∧ ji_ok8 st) ∧ ji_evC (C 158 [.ref a, p0, p1, p2] M) (fun v M' => ji_Ev C 214 7 M' lv (v.toList ++ st) o) := ev_inv (k := 214) rfl cd_9_255 rfl
theorem s214_7 : ji_Ev C 214 7 M lv (.int x :: st) o ↔ if x = 0 then ji_Ev C 214 33 M lv st o else ji_Ev C 214 10 M lv st o := ev_brz (c := .eq) rfl (by decide) rfl
theorem s214_10 : ji_Ev C 214 10 M (some (.ref a) :: l) st o ↔ ji_Ev C 214 11 M (some (.ref a) :: l) (.ref a :: st) o := ev_go (S := (11, M, (some (.ref a) :: l), (.ref a :: st))) rfl rfl rfl
theorem s214_11 : ji_Ev C 214 11 M (l0 :: l1 :: some (.int x) :: l) st o ↔ ji_Ev C 214 12 M (l0 :: l1 :: some (.int x) :: l) (.int x :: st) o := ev_go (S := (12, M, (l0 :: l1 :: some (.int x) :: l), (.int x :: st))) rfl rfl rfl
theorem s214_12 : ji_Ev C 214 12 M lv st o ↔ ji_Ev C 214 13 M lv (.int 0 :: st) o := ev_go (S := (13, M, lv, (.int 0 :: st))) rfl rfl rfl
theorem s214_13 : ji_Ev C 214 13 M (some (.ref a) :: l) st o ↔ ji_Ev C 214 14 M (some (.ref a) :: l) (.ref a :: st) o := ev_go (S := (14, M, (some (.ref a) :: l), (.ref a :: st))) rfl rfl rfl
theorem s214_14 : ji_Ev C 214 14 M lv (.ref a :: st) o ↔ ji_kd M a = some (0, 9) ∧ ji_Ev C 214 17 M lv (.int (ji_gI M a 0) :: st) o := ev_getI (k := 214) rfl fd_9_7 rfl
theorem s214_17 : ji_Ev C 214 17 M lv (p2 :: p1 :: p0 :: .ref a :: st) o ↔ (ji_rcb M 9 (.ref a) = true ∧ ji_ok8 st) ∧ ji_evC (C 158 [.ref a, p0, p1, p2] M) (fun v M' => ji_Ev C 214 20 M' lv (v.toList ++ st) o) := ev_inv (k := 214) rfl cd_9_255 rfl
theorem s214_20 : ji_Ev C 214 20 M lv (.int x :: st) o ↔ if x = 0 then ji_Ev C 214 33 M lv st o else ji_Ev C 214 23 M lv st o := ev_brz (c := .eq) rfl (by decide) rfl
theorem s214_23 : ji_Ev C 214 23 M (some (.ref a) :: l) st o ↔ ji_Ev C 214 24 M (some (.ref a) :: l) (.ref a :: st) o := ev_go (S := (24, M, (some (.ref a) :: l), (.ref a :: st))) rfl rfl rfl
theorem s214_24 : ji_Ev C 214 24 M (l0 :: l1 :: l2 :: some (.int x) :: l) st o ↔ ji_Ev C 214 25 M (l0 :: l1 :: l2 :: some (.int x) :: l) (.int x :: st) o := ev_go (S := (25, M, (l0 :: l1 :: l2 :: some (.int x) :: l), (.int x :: st))) rfl rfl rfl
theorem s214_25 : ji_Ev C 214 25 M lv st o ↔ ji_Ev C 214 26 M lv (.int 0 :: st) o := ev_go (S := (26, M, lv, (.int 0 :: st))) rfl rfl rfl
theorem s214_26 : ji_Ev C 214 26 M lv st o ↔ ji_Ev C 214 27 M lv (.int 3 :: st) o := ev_go (S := (27, M, lv, (.int 3 :: st))) rfl rfl rfl
theorem s214_27 : ji_Ev C 214 27 M lv (p2 :: p1 :: p0 :: .ref a :: st) o ↔ (ji_rcb M 9 (.ref a) = true ∧ ji_ok8 st) ∧ ji_evC (C 158 [.ref a, p0, p1, p2] M) (fun v M' => ji_Ev C 214 30 M' lv (v.toList ++ st) o) := ev_inv (k := 214) rfl cd_9_255 rfl
theorem s214_30 : ji_Ev C 214 30 M lv (.int x :: st) o ↔ if x = 0 then ji_Ev C 214 33 M lv st o else ji_Ev C 214 36 M lv st o := ev_brz (c := .ne) rfl (by decide) rfl
theorem s214_33 : ji_Ev C 214 33 M lv st o ↔ ji_Ev C 214 35 M lv (.int (-2) :: st) o := ev_go (S := (35, M, lv, (.int (-2) :: st))) rfl rfl rfl
theorem s214_35 : ji_Ev C 214 35 M lv [.int x] o ↔ o = (some (.int x), M) := ev_ireti rfl rfl
theorem s214_36 : ji_Ev C 214 36 M lv st o ↔ ji_Ev C 214 37 M lv (.int 0 :: st) o := ev_go (S := (37, M, lv, (.int 0 :: st))) rfl rfl rfl
theorem s214_37 : ji_Ev C 214 37 M lv (.int x :: st) o ↔ 4 < lv.length ∧ ji_Ev C 214 39 M (ji_s1 lv 4 (.int x)) st o := ev_stI rfl rfl rfl
theorem s214_39 : ji_Ev C 214 39 M lv st o ↔ ji_Ev C 214 42 M lv (.int 9999 :: st) o := ev_go (S := (42, M, lv, (.int 9999 :: st))) rfl rfl rfl
theorem s214_42 : ji_Ev C 214 42 M lv (.int x :: st) o ↔ 5 < lv.length ∧ ji_Ev C 214 44 M (ji_s1 lv 5 (.int x)) st o := ev_stI rfl rfl rfl
theorem s214_44 : ji_Ev C 214 44 M lv st o ↔ ji_Ev C 214 45 M lv (.int 0 :: st) o := ev_go (S := (45, M, lv, (.int 0 :: st))) rfl rfl rfl
theorem s214_45 : ji_Ev C 214 45 M lv (.int x :: st) o ↔ 6 < lv.length ∧ ji_Ev C 214 47 M (ji_s1 lv 6 (.int x)) st o := ev_stI rfl rfl rfl
theorem s214_47 : ji_Ev C 214 47 M (l0 :: l1 :: l2 :: l3 :: l4 :: l5 :: some (.int x) :: l) st o ↔ ji_Ev C 214 49 M (l0 :: l1 :: l2 :: l3 :: l4 :: l5 :: some (.int x) :: l) (.int x :: st) o := ev_go (S := (49, M, (l0 :: l1 :: l2 :: l3 :: l4 :: l5 :: some (.int x) :: l), (.int x :: st))) rfl rfl rfl
theorem s214_49 : ji_Ev C 214 49 M (some (.ref a) :: l) st o ↔ ji_Ev C 214 50 M (some (.ref a) :: l) (.ref a :: st) o := ev_go (S := (50, M, (some (.ref a) :: l), (.ref a :: st))) rfl rfl rfl
theorem s214_50 : ji_Ev C 214 50 M lv (.ref a :: st) o ↔ ji_kd M a = some (0, 9) ∧ ji_Ev C 214 53 M lv (.int (ji_gI M a 57) :: st) o := ev_getI (k := 214) rfl fd_9_183 rfl
theorem s214_53 : ji_Ev C 214 53 M lv (.int y :: .int x :: st) o ↔ if x < y then ji_Ev C 214 56 M lv st o else ji_Ev C 214 139 M lv st o := ev_brc (c := .ge) rfl (by decide) rfl
theorem s214_56 : ji_Ev C 214 56 M (some (.ref a) :: l) st o ↔ ji_Ev C 214 57 M (some (.ref a) :: l) (.ref a :: st) o := ev_go (S := (57, M, (some (.ref a) :: l), (.ref a :: st))) rfl rfl rfl
theorem s214_57 : ji_Ev C 214 57 M lv (.ref a :: st) o ↔ ji_kd M a = some (0, 9) ∧ ji_Ev C 214 60 M lv (ji_rv (ji_gR M a 60) :: st) o := ev_getR (k := 214) rfl fd_9_192 rfl
theorem s214_60 : ji_Ev C 214 60 M (l0 :: l1 :: l2 :: l3 :: l4 :: l5 :: some (.int x) :: l) st o ↔ ji_Ev C 214 62 M (l0 :: l1 :: l2 :: l3 :: l4 :: l5 :: some (.int x) :: l) (.int x :: st) o := ev_go (S := (62, M, (l0 :: l1 :: l2 :: l3 :: l4 :: l5 :: some (.int x) :: l), (.int x :: st))) rfl rfl rfl
theorem s214_62 : ji_Ev C 214 62 M lv (.int x :: .ref a :: st) o ↔ ji_evA (ji_kd M a) (fun n => vp_in x n ∧ ji_Ev C 214 63 M lv (.int (ji_gI M a x.toNatClampNeg) :: st) o) := ev_iald rfl
theorem s214_63 : ji_Ev C 214 63 M (l0 :: some (.int x) :: l) st o ↔ ji_Ev C 214 64 M (l0 :: some (.int x) :: l) (.int x :: st) o := ev_go (S := (64, M, (l0 :: some (.int x) :: l), (.int x :: st))) rfl rfl rfl
theorem s214_64 : ji_Ev C 214 64 M lv (.int y :: .int x :: st) o ↔ if x = y then ji_Ev C 214 67 M lv st o else ji_Ev C 214 133 M lv st o := ev_brc (c := .ne) rfl (by decide) rfl
theorem s214_67 : ji_Ev C 214 67 M (some (.ref a) :: l) st o ↔ ji_Ev C 214 68 M (some (.ref a) :: l) (.ref a :: st) o := ev_go (S := (68, M, (some (.ref a) :: l), (.ref a :: st))) rfl rfl rfl
theorem s214_68 : ji_Ev C 214 68 M lv (.ref a :: st) o ↔ ji_kd M a = some (0, 9) ∧ ji_Ev C 214 71 M lv (ji_rv (ji_gR M a 63) :: st) o := ev_getR (k := 214) rfl fd_9_201 rfl
theorem s214_71 : ji_Ev C 214 71 M (l0 :: l1 :: l2 :: l3 :: l4 :: l5 :: some (.int x) :: l) st o ↔ ji_Ev C 214 73 M (l0 :: l1 :: l2 :: l3 :: l4 :: l5 :: some (.int x) :: l) (.int x :: st) o := ev_go (S := (73, M, (l0 :: l1 :: l2 :: l3 :: l4 :: l5 :: some (.int x) :: l), (.int x :: st))) rfl rfl rfl
theorem s214_73 : ji_Ev C 214 73 M lv (.int x :: .ref a :: st) o ↔ ji_evA (ji_kd M a) (fun n => vp_in x n ∧ ji_Ev C 214 74 M lv (.int (ji_gI M a x.toNatClampNeg) :: st) o) := ev_iald rfl
theorem s214_74 : ji_Ev C 214 74 M (l0 :: l1 :: some (.int x) :: l) st o ↔ ji_Ev C 214 75 M (l0 :: l1 :: some (.int x) :: l) (.int x :: st) o := ev_go (S := (75, M, (l0 :: l1 :: some (.int x) :: l), (.int x :: st))) rfl rfl rfl
theorem s214_75 : ji_Ev C 214 75 M lv (.int y :: .int x :: st) o ↔ if y < x then ji_Ev C 214 78 M lv st o else ji_Ev C 214 81 M lv st o := ev_brc (c := .le) rfl (by decide) rfl
theorem s214_78 : ji_Ev C 214 78 M lv st o ↔ ji_Ev C 214 133 M lv st o := ev_gt rfl (by decide) rfl
theorem s214_81 : ji_Ev C 214 81 M (some (.ref a) :: l) st o ↔ ji_Ev C 214 82 M (some (.ref a) :: l) (.ref a :: st) o := ev_go (S := (82, M, (some (.ref a) :: l), (.ref a :: st))) rfl rfl rfl
theorem s214_82 : ji_Ev C 214 82 M lv (.ref a :: st) o ↔ ji_kd M a = some (0, 9) ∧ ji_Ev C 214 85 M lv (ji_rv (ji_gR M a 61) :: st) o := ev_getR (k := 214) rfl fd_9_195 rfl
theorem s214_85 : ji_Ev C 214 85 M (l0 :: l1 :: l2 :: l3 :: l4 :: l5 :: some (.int x) :: l) st o ↔ ji_Ev C 214 87 M (l0 :: l1 :: l2 :: l3 :: l4 :: l5 :: some (.int x) :: l) (.int x :: st) o := ev_go (S := (87, M, (l0 :: l1 :: l2 :: l3 :: l4 :: l5 :: some (.int x) :: l), (.int x :: st))) rfl rfl rfl
theorem s214_87 : ji_Ev C 214 87 M lv (.int x :: .ref a :: st) o ↔ ji_evA (ji_kd M a) (fun n => vp_in x n ∧ ji_Ev C 214 88 M lv (.int (ji_gI M a x.toNatClampNeg) :: st) o) := ev_iald rfl
theorem s214_88 : ji_Ev C 214 88 M (l0 :: l1 :: l2 :: l3 :: some (.int x) :: l) st o ↔ ji_Ev C 214 90 M (l0 :: l1 :: l2 :: l3 :: some (.int x) :: l) (.int x :: st) o := ev_go (S := (90, M, (l0 :: l1 :: l2 :: l3 :: some (.int x) :: l), (.int x :: st))) rfl rfl rfl
theorem s214_90 : ji_Ev C 214 90 M lv (.int y :: .int x :: st) o ↔ if y < x then ji_Ev C 214 93 M lv st o else ji_Ev C 214 103 M lv st o := ev_brc (c := .le) rfl (by decide) rfl
theorem s214_93 : ji_Ev C 214 93 M (some (.ref a) :: l) st o ↔ ji_Ev C 214 94 M (some (.ref a) :: l) (.ref a :: st) o := ev_go (S := (94, M, (some (.ref a) :: l), (.ref a :: st))) rfl rfl rfl
theorem s214_94 : ji_Ev C 214 94 M lv (.ref a :: st) o ↔ ji_kd M a = some (0, 9) ∧ ji_Ev C 214 97 M lv (ji_rv (ji_gR M a 61) :: st) o := ev_getR (k := 214) rfl fd_9_195 rfl
theorem s214_97 : ji_Ev C 214 97 M (l0 :: l1 :: l2 :: l3 :: l4 :: l5 :: some (.int x) :: l) st o ↔ ji_Ev C 214 99 M (l0 :: l1 :: l2 :: l3 :: l4 :: l5 :: some (.int x) :: l) (.int x :: st) o := ev_go (S := (99, M, (l0 :: l1 :: l2 :: l3 :: l4 :: l5 :: some (.int x) :: l), (.int x :: st))) rfl rfl rfl
theorem s214_99 : ji_Ev C 214 99 M lv (.int x :: .ref a :: st) o ↔ ji_evA (ji_kd M a) (fun n => vp_in x n ∧ ji_Ev C 214 100 M lv (.int (ji_gI M a x.toNatClampNeg) :: st) o) := ev_iald rfl
theorem s214_100 : ji_Ev C 214 100 M lv st o ↔ ji_Ev C 214 105 M lv st o := ev_gt rfl (by decide) rfl
theorem s214_103 : ji_Ev C 214 103 M (l0 :: l1 :: l2 :: l3 :: some (.int x) :: l) st o ↔ ji_Ev C 214 105 M (l0 :: l1 :: l2 :: l3 :: some (.int x) :: l) (.int x :: st) o := ev_go (S := (105, M, (l0 :: l1 :: l2 :: l3 :: some (.int x) :: l), (.int x :: st))) rfl rfl rfl
theorem s214_105 : ji_Ev C 214 105 M lv (.int x :: st) o ↔ 4 < lv.length ∧ ji_Ev C 214 107 M (ji_s1 lv 4 (.int x)) st o := ev_stI rfl rfl rfl
theorem s214_107 : ji_Ev C 214 107 M (some (.ref a) :: l) st o ↔ ji_Ev C 214 108 M (some (.ref a) :: l) (.ref a :: st) o := ev_go (S := (108, M, (some (.ref a) :: l), (.ref a :: st))) rfl rfl rfl
theorem s214_108 : ji_Ev C 214 108 M lv (.ref a :: st) o ↔ ji_kd M a = some (0, 9) ∧ ji_Ev C 214 111 M lv (ji_rv (ji_gR M a 62) :: st) o := ev_getR (k := 214) rfl fd_9_198 rfl
theorem s214_111 : ji_Ev C 214 111 M (l0 :: l1 :: l2 :: l3 :: l4 :: l5 :: some (.int x) :: l) st o ↔ ji_Ev C 214 113 M (l0 :: l1 :: l2 :: l3 :: l4 :: l5 :: some (.int x) :: l) (.int x :: st) o := ev_go (S := (113, M, (l0 :: l1 :: l2 :: l3 :: l4 :: l5 :: some (.int x) :: l), (.int x :: st))) rfl rfl rfl
theorem s214_113 : ji_Ev C 214 113 M lv (.int x :: .ref a :: st) o ↔ ji_evA (ji_kd M a) (fun n => vp_in x n ∧ ji_Ev C 214 114 M lv (.int (ji_gI M a x.toNatClampNeg) :: st) o) := ev_iald rfl
theorem s214_114 : ji_Ev C 214 114 M (l0 :: l1 :: l2 :: l3 :: l4 :: some (.int x) :: l) st o ↔ ji_Ev C 214 116 M (l0 :: l1 :: l2 :: l3 :: l4 :: some (.int x) :: l) (.int x :: st) o := ev_go (S := (116, M, (l0 :: l1 :: l2 :: l3 :: l4 :: some (.int x) :: l), (.int x :: st))) rfl rfl rfl
theorem s214_116 : ji_Ev C 214 116 M lv (.int y :: .int x :: st) o ↔ if x < y then ji_Ev C 214 119 M lv st o else ji_Ev C 214 129 M lv st o := ev_brc (c := .ge) rfl (by decide) rfl
theorem s214_119 : ji_Ev C 214 119 M (some (.ref a) :: l) st o ↔ ji_Ev C 214 120 M (some (.ref a) :: l) (.ref a :: st) o := ev_go (S := (120, M, (some (.ref a) :: l), (.ref a :: st))) rfl rfl rfl
theorem s214_120 : ji_Ev C 214 120 M lv (.ref a :: st) o ↔ ji_kd M a = some (0, 9) ∧ ji_Ev C 214 123 M lv (ji_rv (ji_gR M a 62) :: st) o := ev_getR (k := 214) rfl fd_9_198 rfl
theorem s214_123 : ji_Ev C 214 123 M (l0 :: l1 :: l2 :: l3 :: l4 :: l5 :: some (.int x) :: l) st o ↔ ji_Ev C 214 125 M (l0 :: l1 :: l2 :: l3 :: l4 :: l5 :: some (.int x) :: l) (.int x :: st) o := ev_go (S := (125, M, (l0 :: l1 :: l2 :: l3 :: l4 :: l5 :: some (.int x) :: l), (.int x :: st))) rfl rfl rfl
theorem s214_125 : ji_Ev C 214 125 M lv (.int x :: .ref a :: st) o ↔ ji_evA (ji_kd M a) (fun n => vp_in x n ∧ ji_Ev C 214 126 M lv (.int (ji_gI M a x.toNatClampNeg) :: st) o) := ev_iald rfl
theorem s214_126 : ji_Ev C 214 126 M lv st o ↔ ji_Ev C 214 131 M lv st o := ev_gt rfl (by decide) rfl
theorem s214_129 : ji_Ev C 214 129 M (l0 :: l1 :: l2 :: l3 :: l4 :: some (.int x) :: l) st o ↔ ji_Ev C 214 131 M (l0 :: l1 :: l2 :: l3 :: l4 :: some (.int x) :: l) (.int x :: st) o := ev_go (S := (131, M, (l0 :: l1 :: l2 :: l3 :: l4 :: some (.int x) :: l), (.int x :: st))) rfl rfl rfl
theorem s214_131 : ji_Ev C 214 131 M lv (.int x :: st) o ↔ 5 < lv.length ∧ ji_Ev C 214 133 M (ji_s1 lv 5 (.int x)) st o := ev_stI rfl rfl rfl
theorem s214_133 : ji_Ev C 214 133 M lv st o ↔ ji_evL (lv.getD 6 none) ji_isI (fun v => match v with | .int x => 6 < lv.length ∧ ji_Ev C 214 136 M (ji_s1 lv 6 (.int (x + Int32.ofInt 1))) st o | _ => False) := ev_iinc rfl
theorem s214_136 : ji_Ev C 214 136 M lv st o ↔ ji_Ev C 214 47 M lv st o := ev_gt rfl (by decide) rfl
theorem s214_139 : ji_Ev C 214 139 M (l0 :: l1 :: l2 :: l3 :: some (.int x) :: l) st o ↔ ji_Ev C 214 141 M (l0 :: l1 :: l2 :: l3 :: some (.int x) :: l) (.int x :: st) o := ev_go (S := (141, M, (l0 :: l1 :: l2 :: l3 :: some (.int x) :: l), (.int x :: st))) rfl rfl rfl
theorem s214_141 : ji_Ev C 214 141 M (l0 :: l1 :: l2 :: l3 :: l4 :: some (.int x) :: l) st o ↔ ji_Ev C 214 143 M (l0 :: l1 :: l2 :: l3 :: l4 :: some (.int x) :: l) (.int x :: st) o := ev_go (S := (143, M, (l0 :: l1 :: l2 :: l3 :: l4 :: some (.int x) :: l), (.int x :: st))) rfl rfl rfl
theorem s214_143 : ji_Ev C 214 143 M lv (.int y :: .int x :: st) o ↔ if y < x then ji_Ev C 214 146 M lv st o else ji_Ev C 214 149 M lv st o := ev_brc (c := .le) rfl (by decide) rfl
theorem s214_146 : ji_Ev C 214 146 M lv st o ↔ ji_Ev C 214 148 M lv (.int (-3) :: st) o := ev_go (S := (148, M, lv, (.int (-3) :: st))) rfl rfl rfl
theorem s214_148 : ji_Ev C 214 148 M lv [.int x] o ↔ o = (some (.int x), M) := ev_ireti rfl rfl
theorem s214_149 : ji_Ev C 214 149 M (l0 :: l1 :: l2 :: some (.int x) :: l) st o ↔ ji_Ev C 214 150 M (l0 :: l1 :: l2 :: some (.int x) :: l) (.int x :: st) o := ev_go (S := (150, M, (l0 :: l1 :: l2 :: some (.int x) :: l), (.int x :: st))) rfl rfl rfl
theorem s214_150 : ji_Ev C 214 150 M lv st o ↔ ji_Ev C 214 151 M lv (.int 2 :: st) o := ev_go (S := (151, M, lv, (.int 2 :: st))) rfl rfl rfl
theorem s214_151 : ji_Ev C 214 151 M lv (.int y :: .int x :: st) o ↔ ¬ y = 0 ∧ ji_Ev C 214 152 M lv (.int (x - x / y * y) :: st) o := ev_dvR rfl
theorem s214_152 : ji_Ev C 214 152 M lv (.int x :: st) o ↔ if x = 0 then ji_Ev C 214 155 M lv st o else ji_Ev C 214 160 M lv st o := ev_brz (c := .ne) rfl (by decide) rfl
theorem s214_155 : ji_Ev C 214 155 M (l0 :: l1 :: l2 :: l3 :: some (.int x) :: l) st o ↔ ji_Ev C 214 157 M (l0 :: l1 :: l2 :: l3 :: some (.int x) :: l) (.int x :: st) o := ev_go (S := (157, M, (l0 :: l1 :: l2 :: l3 :: some (.int x) :: l), (.int x :: st))) rfl rfl rfl
theorem s214_157 : ji_Ev C 214 157 M lv st o ↔ ji_Ev C 214 162 M lv st o := ev_gt rfl (by decide) rfl
theorem s214_160 : ji_Ev C 214 160 M (l0 :: l1 :: l2 :: l3 :: l4 :: some (.int x) :: l) st o ↔ ji_Ev C 214 162 M (l0 :: l1 :: l2 :: l3 :: l4 :: some (.int x) :: l) (.int x :: st) o := ev_go (S := (162, M, (l0 :: l1 :: l2 :: l3 :: l4 :: some (.int x) :: l), (.int x :: st))) rfl rfl rfl
theorem s214_162 : ji_Ev C 214 162 M lv (.int x :: st) o ↔ 6 < lv.length ∧ ji_Ev C 214 164 M (ji_s1 lv 6 (.int x)) st o := ev_stI rfl rfl rfl
theorem s214_164 : ji_Ev C 214 164 M (l0 :: l1 :: l2 :: some (.int x) :: l) st o ↔ ji_Ev C 214 165 M (l0 :: l1 :: l2 :: some (.int x) :: l) (.int x :: st) o := ev_go (S := (165, M, (l0 :: l1 :: l2 :: some (.int x) :: l), (.int x :: st))) rfl rfl rfl
theorem s214_165 : ji_Ev C 214 165 M lv st o ↔ ji_Ev C 214 166 M lv (.int 2 :: st) o := ev_go (S := (166, M, lv, (.int 2 :: st))) rfl rfl rfl
theorem s214_166 : ji_Ev C 214 166 M lv (.int y :: .int x :: st) o ↔ if x < y then ji_Ev C 214 169 M lv st o else ji_Ev C 214 172 M lv st o := ev_brc (c := .ge) rfl (by decide) rfl
theorem s214_169 : ji_Ev C 214 169 M (l0 :: l1 :: l2 :: l3 :: l4 :: l5 :: some (.int x) :: l) st o ↔ ji_Ev C 214 171 M (l0 :: l1 :: l2 :: l3 :: l4 :: l5 :: some (.int x) :: l) (.int x :: st) o := ev_go (S := (171, M, (l0 :: l1 :: l2 :: l3 :: l4 :: l5 :: some (.int x) :: l), (.int x :: st))) rfl rfl rfl
theorem s214_171 : ji_Ev C 214 171 M lv [.int x] o ↔ o = (some (.int x), M) := ev_ireti rfl rfl
theorem s214_172 : ji_Ev C 214 172 M lv st o ↔ ji_Ev C 214 173 M lv (.int 0 :: st) o := ev_go (S := (173, M, lv, (.int 0 :: st))) rfl rfl rfl
theorem s214_173 : ji_Ev C 214 173 M lv (.int x :: st) o ↔ 7 < lv.length ∧ ji_Ev C 214 175 M (ji_s1 lv 7 (.int x)) st o := ev_stI rfl rfl rfl
theorem s214_175 : ji_Ev C 214 175 M (l0 :: l1 :: l2 :: l3 :: l4 :: l5 :: l6 :: some (.int x) :: l) st o ↔ ji_Ev C 214 177 M (l0 :: l1 :: l2 :: l3 :: l4 :: l5 :: l6 :: some (.int x) :: l) (.int x :: st) o := ev_go (S := (177, M, (l0 :: l1 :: l2 :: l3 :: l4 :: l5 :: l6 :: some (.int x) :: l), (.int x :: st))) rfl rfl rfl
theorem s214_177 : ji_Ev C 214 177 M (some (.ref a) :: l) st o ↔ ji_Ev C 214 178 M (some (.ref a) :: l) (.ref a :: st) o := ev_go (S := (178, M, (some (.ref a) :: l), (.ref a :: st))) rfl rfl rfl
theorem s214_178 : ji_Ev C 214 178 M lv (.ref a :: st) o ↔ ji_kd M a = some (0, 9) ∧ ji_Ev C 214 181 M lv (.int (ji_gI M a 4) :: st) o := ev_getI (k := 214) rfl fd_9_22 rfl
theorem s214_181 : ji_Ev C 214 181 M lv (.int y :: .int x :: st) o ↔ if x < y then ji_Ev C 214 184 M lv st o else ji_Ev C 214 211 M lv st o := ev_brc (c := .ge) rfl (by decide) rfl
theorem s214_184 : ji_Ev C 214 184 M (l0 :: l1 :: l2 :: l3 :: l4 :: l5 :: some (.int x) :: l) st o ↔ ji_Ev C 214 186 M (l0 :: l1 :: l2 :: l3 :: l4 :: l5 :: some (.int x) :: l) (.int x :: st) o := ev_go (S := (186, M, (l0 :: l1 :: l2 :: l3 :: l4 :: l5 :: some (.int x) :: l), (.int x :: st))) rfl rfl rfl
theorem s214_186 : ji_Ev C 214 186 M (some (.ref a) :: l) st o ↔ ji_Ev C 214 187 M (some (.ref a) :: l) (.ref a :: st) o := ev_go (S := (187, M, (some (.ref a) :: l), (.ref a :: st))) rfl rfl rfl
theorem s214_187 : ji_Ev C 214 187 M lv (.ref a :: st) o ↔ ji_kd M a = some (0, 9) ∧ ji_Ev C 214 190 M lv (ji_rv (ji_gR M a 6) :: st) o := ev_getR (k := 214) rfl fd_9_29 rfl
theorem s214_190 : ji_Ev C 214 190 M (l0 :: l1 :: l2 :: l3 :: l4 :: l5 :: l6 :: some (.int x) :: l) st o ↔ ji_Ev C 214 192 M (l0 :: l1 :: l2 :: l3 :: l4 :: l5 :: l6 :: some (.int x) :: l) (.int x :: st) o := ev_go (S := (192, M, (l0 :: l1 :: l2 :: l3 :: l4 :: l5 :: l6 :: some (.int x) :: l), (.int x :: st))) rfl rfl rfl
theorem s214_192 : ji_Ev C 214 192 M lv (.int x :: .ref a :: st) o ↔ ji_evA (ji_kd M a) (fun n => vp_in x n ∧ ji_Ev C 214 193 M lv (.int (ji_gI M a x.toNatClampNeg) :: st) o) := ev_iald rfl
theorem s214_193 : ji_Ev C 214 193 M (l0 :: some (.int x) :: l) st o ↔ ji_Ev C 214 194 M (l0 :: some (.int x) :: l) (.int x :: st) o := ev_go (S := (194, M, (l0 :: some (.int x) :: l), (.int x :: st))) rfl rfl rfl
theorem s214_194 : ji_Ev C 214 194 M lv (.int y :: .int x :: st) o ↔ if x = y then ji_Ev C 214 197 M lv st o else ji_Ev C 214 201 M lv st o := ev_brc (c := .ne) rfl (by decide) rfl
theorem s214_197 : ji_Ev C 214 197 M lv st o ↔ ji_Ev C 214 198 M lv (.int 1 :: st) o := ev_go (S := (198, M, lv, (.int 1 :: st))) rfl rfl rfl
theorem s214_198 : ji_Ev C 214 198 M lv st o ↔ ji_Ev C 214 202 M lv st o := ev_gt rfl (by decide) rfl
theorem s214_201 : ji_Ev C 214 201 M lv st o ↔ ji_Ev C 214 202 M lv (.int 0 :: st) o := ev_go (S := (202, M, lv, (.int 0 :: st))) rfl rfl rfl
theorem s214_202 : ji_Ev C 214 202 M lv (.int y :: .int x :: st) o ↔ ji_Ev C 214 203 M lv (.int (x - y) :: st) o := ev_go (S := (203, M, lv, (.int (x - y) :: st))) rfl rfl rfl
theorem s214_203 : ji_Ev C 214 203 M lv (.int x :: st) o ↔ 6 < lv.length ∧ ji_Ev C 214 205 M (ji_s1 lv 6 (.int x)) st o := ev_stI rfl rfl rfl
theorem s214_205 : ji_Ev C 214 205 M lv st o ↔ ji_evL (lv.getD 7 none) ji_isI (fun v => match v with | .int x => 7 < lv.length ∧ ji_Ev C 214 208 M (ji_s1 lv 7 (.int (x + Int32.ofInt 1))) st o | _ => False) := ev_iinc rfl
theorem s214_208 : ji_Ev C 214 208 M lv st o ↔ ji_Ev C 214 175 M lv st o := ev_gt rfl (by decide) rfl
theorem s214_211 : ji_Ev C 214 211 M (l0 :: l1 :: l2 :: l3 :: l4 :: l5 :: some (.int x) :: l) st o ↔ ji_Ev C 214 213 M (l0 :: l1 :: l2 :: l3 :: l4 :: l5 :: some (.int x) :: l) (.int x :: st) o := ev_go (S := (213, M, (l0 :: l1 :: l2 :: l3 :: l4 :: l5 :: some (.int x) :: l), (.int x :: st))) rfl rfl rfl
theorem s214_213 : ji_Ev C 214 213 M lv (.int x :: st) o ↔ if x < 0 then ji_Ev C 214 216 M lv st o else ji_Ev C 214 220 M lv st o := ev_brz (c := .ge) rfl (by decide) rfl
theorem s214_216 : ji_Ev C 214 216 M lv st o ↔ ji_Ev C 214 217 M lv (.int 0 :: st) o := ev_go (S := (217, M, lv, (.int 0 :: st))) rfl rfl rfl
theorem s214_217 : ji_Ev C 214 217 M lv st o ↔ ji_Ev C 214 222 M lv st o := ev_gt rfl (by decide) rfl
theorem s214_220 : ji_Ev C 214 220 M (l0 :: l1 :: l2 :: l3 :: l4 :: l5 :: some (.int x) :: l) st o ↔ ji_Ev C 214 222 M (l0 :: l1 :: l2 :: l3 :: l4 :: l5 :: some (.int x) :: l) (.int x :: st) o := ev_go (S := (222, M, (l0 :: l1 :: l2 :: l3 :: l4 :: l5 :: some (.int x) :: l), (.int x :: st))) rfl rfl rfl
theorem s214_222 : ji_Ev C 214 222 M lv [.int x] o ↔ o = (some (.int x), M) := ev_ireti rfl rfl
theorem s215_0 : ji_Ev C 215 0 M (some (.ref a) :: l) st o ↔ ji_Ev C 215 1 M (some (.ref a) :: l) (.ref a :: st) o := ev_go (S := (1, M, (some (.ref a) :: l), (.ref a :: st))) rfl rfl rfl
theorem s215_1 : ji_Ev C 215 1 M (l0 :: some (.int x) :: l) st o ↔ ji_Ev C 215 2 M (l0 :: some (.int x) :: l) (.int x :: st) o := ev_go (S := (2, M, (l0 :: some (.int x) :: l), (.int x :: st))) rfl rfl rfl
theorem s215_2 : ji_Ev C 215 2 M lv st o ↔ ji_Ev C 215 3 M lv (.int 0 :: st) o := ev_go (S := (3, M, lv, (.int 0 :: st))) rfl rfl rfl
theorem s215_3 : ji_Ev C 215 3 M lv st o ↔ ji_Ev C 215 6 M lv (.int 999 :: st) o := ev_go (S := (6, M, lv, (.int 999 :: st))) rfl rfl rfl
theorem s215_6 : ji_Ev C 215 6 M lv (p2 :: p1 :: p0 :: .ref a :: st) o ↔ (ji_rcb M 9 (.ref a) = true ∧ ji_ok8 st) ∧ ji_evC (C 158 [.ref a, p0, p1, p2] M) (fun v M' => ji_Ev C 215 9 M' lv (v.toList ++ st) o) := ev_inv (k := 215) rfl cd_9_255 rfl
theorem s215_9 : ji_Ev C 215 9 M lv (.int x :: st) o ↔ if x = 0 then ji_Ev C 215 22 M lv st o else ji_Ev C 215 12 M lv st o := ev_brz (c := .eq) rfl (by decide) rfl
theorem s215_12 : ji_Ev C 215 12 M (some (.ref a) :: l) st o ↔ ji_Ev C 215 13 M (some (.ref a) :: l) (.ref a :: st) o := ev_go (S := (13, M, (some (.ref a) :: l), (.ref a :: st))) rfl rfl rfl
theorem s215_13 : ji_Ev C 215 13 M (l0 :: l1 :: some (.int x) :: l) st o ↔ ji_Ev C 215 14 M (l0 :: l1 :: some (.int x) :: l) (.int x :: st) o := ev_go (S := (14, M, (l0 :: l1 :: some (.int x) :: l), (.int x :: st))) rfl rfl rfl
theorem s215_14 : ji_Ev C 215 14 M lv st o ↔ ji_Ev C 215 15 M lv (.int 0 :: st) o := ev_go (S := (15, M, lv, (.int 0 :: st))) rfl rfl rfl
theorem s215_15 : ji_Ev C 215 15 M lv st o ↔ ji_Ev C 215 16 M lv (.int 3 :: st) o := ev_go (S := (16, M, lv, (.int 3 :: st))) rfl rfl rfl
theorem s215_16 : ji_Ev C 215 16 M lv (p2 :: p1 :: p0 :: .ref a :: st) o ↔ (ji_rcb M 9 (.ref a) = true ∧ ji_ok8 st) ∧ ji_evC (C 158 [.ref a, p0, p1, p2] M) (fun v M' => ji_Ev C 215 19 M' lv (v.toList ++ st) o) := ev_inv (k := 215) rfl cd_9_255 rfl
theorem s215_19 : ji_Ev C 215 19 M lv (.int x :: st) o ↔ if x = 0 then ji_Ev C 215 22 M lv st o else ji_Ev C 215 25 M lv st o := ev_brz (c := .ne) rfl (by decide) rfl
theorem s215_22 : ji_Ev C 215 22 M lv st o ↔ ji_Ev C 215 24 M lv (.int (-2) :: st) o := ev_go (S := (24, M, lv, (.int (-2) :: st))) rfl rfl rfl
theorem s215_24 : ji_Ev C 215 24 M lv [.int x] o ↔ o = (some (.int x), M) := ev_ireti rfl rfl
theorem s215_25 : ji_Ev C 215 25 M (some (.ref a) :: l) st o ↔ ji_Ev C 215 26 M (some (.ref a) :: l) (.ref a :: st) o := ev_go (S := (26, M, (some (.ref a) :: l), (.ref a :: st))) rfl rfl rfl
theorem s215_26 : ji_Ev C 215 26 M lv (.ref a :: st) o ↔ ji_kd M a = some (0, 9) ∧ ji_Ev C 215 29 M lv (.int (ji_gI M a 58) :: st) o := ev_getI (k := 215) rfl fd_9_186 rfl
theorem s215_29 : ji_Ev C 215 29 M lv st o ↔ ji_Ev C 215 31 M lv (.int 20 :: st) o := ev_go (S := (31, M, lv, (.int 20 :: st))) rfl rfl rfl
theorem s215_31 : ji_Ev C 215 31 M lv (.int y :: .int x :: st) o ↔ if x = y then ji_Ev C 215 34 M lv st o else ji_Ev C 215 37 M lv st o := ev_brc (c := .ne) rfl (by decide) rfl
theorem s215_34 : ji_Ev C 215 34 M lv st o ↔ ji_Ev C 215 36 M lv (.int (-4) :: st) o := ev_go (S := (36, M, lv, (.int (-4) :: st))) rfl rfl rfl
theorem s215_36 : ji_Ev C 215 36 M lv [.int x] o ↔ o = (some (.int x), M) := ev_ireti rfl rfl
theorem s215_37 : ji_Ev C 215 37 M (some (.ref a) :: l) st o ↔ ji_Ev C 215 38 M (some (.ref a) :: l) (.ref a :: st) o := ev_go (S := (38, M, (some (.ref a) :: l), (.ref a :: st))) rfl rfl rfl
theorem s215_38 : ji_Ev C 215 38 M lv (.ref a :: st) o ↔ ji_kd M a = some (0, 9) ∧ ji_Ev C 215 41 M lv (ji_rv (ji_gR M a 64) :: st) o := ev_getR (k := 215) rfl fd_9_204 rfl
theorem s215_41 : ji_Ev C 215 41 M (some (.ref a) :: l) st o ↔ ji_Ev C 215 42 M (some (.ref a) :: l) (.ref a :: st) o := ev_go (S := (42, M, (some (.ref a) :: l), (.ref a :: st))) rfl rfl rfl
theorem s215_42 : ji_Ev C 215 42 M lv (.ref a :: st) o ↔ ji_kd M a = some (0, 9) ∧ ji_Ev C 215 45 M lv (.int (ji_gI M a 58) :: st) o := ev_getI (k := 215) rfl fd_9_186 rfl
theorem s215_45 : ji_Ev C 215 45 M (l0 :: some (.int x) :: l) st o ↔ ji_Ev C 215 46 M (l0 :: some (.int x) :: l) (.int x :: st) o := ev_go (S := (46, M, (l0 :: some (.int x) :: l), (.int x :: st))) rfl rfl rfl
theorem s215_46 : ji_Ev C 215 46 M lv (.int y :: .int x :: .ref a :: st) o ↔ ji_evA (ji_kd M a) (fun n => vp_in x n ∧ ji_Ev C 215 47 (ji_sI M a x.toNatClampNeg y) lv st o) := ev_iast rfl
theorem s215_47 : ji_Ev C 215 47 M (some (.ref a) :: l) st o ↔ ji_Ev C 215 48 M (some (.ref a) :: l) (.ref a :: st) o := ev_go (S := (48, M, (some (.ref a) :: l), (.ref a :: st))) rfl rfl rfl
theorem s215_48 : ji_Ev C 215 48 M lv (.ref a :: st) o ↔ ji_kd M a = some (0, 9) ∧ ji_Ev C 215 51 M lv (ji_rv (ji_gR M a 65) :: st) o := ev_getR (k := 215) rfl fd_9_207 rfl
theorem s215_51 : ji_Ev C 215 51 M (some (.ref a) :: l) st o ↔ ji_Ev C 215 52 M (some (.ref a) :: l) (.ref a :: st) o := ev_go (S := (52, M, (some (.ref a) :: l), (.ref a :: st))) rfl rfl rfl
theorem s215_52 : ji_Ev C 215 52 M lv (.ref a :: st) o ↔ ji_kd M a = some (0, 9) ∧ ji_Ev C 215 55 M lv (.int (ji_gI M a 58) :: st) o := ev_getI (k := 215) rfl fd_9_186 rfl
theorem s215_55 : ji_Ev C 215 55 M (l0 :: l1 :: some (.int x) :: l) st o ↔ ji_Ev C 215 56 M (l0 :: l1 :: some (.int x) :: l) (.int x :: st) o := ev_go (S := (56, M, (l0 :: l1 :: some (.int x) :: l), (.int x :: st))) rfl rfl rfl
theorem s215_56 : ji_Ev C 215 56 M lv (.int y :: .int x :: .ref a :: st) o ↔ ji_evA (ji_kd M a) (fun n => vp_in x n ∧ ji_Ev C 215 57 (ji_sI M a x.toNatClampNeg y) lv st o) := ev_iast rfl
theorem s215_57 : ji_Ev C 215 57 M (some (.ref a) :: l) st o ↔ ji_Ev C 215 58 M (some (.ref a) :: l) (.ref a :: st) o := ev_go (S := (58, M, (some (.ref a) :: l), (.ref a :: st))) rfl rfl rfl
theorem s215_58 : ji_Ev C 215 58 M lv (.int x :: st) o ↔ ji_Ev C 215 59 M lv (.int x :: .int x :: st) o := ev_go (S := (59, M, lv, (.int x :: .int x :: st))) rfl rfl rfl
theorem s215_58r : ji_Ev C 215 58 M lv (.ref a :: st) o ↔ ji_Ev C 215 59 M lv (.ref a :: .ref a :: st) o := ev_go (S := (59, M, lv, (.ref a :: .ref a :: st))) rfl rfl rfl
theorem s215_59 : ji_Ev C 215 59 M lv (.ref a :: st) o ↔ ji_kd M a = some (0, 9) ∧ ji_Ev C 215 62 M lv (.int (ji_gI M a 58) :: st) o := ev_getI (k := 215) rfl fd_9_186 rfl
theorem s215_62 : ji_Ev C 215 62 M lv st o ↔ ji_Ev C 215 63 M lv (.int 1 :: st) o := ev_go (S := (63, M, lv, (.int 1 :: st))) rfl rfl rfl
theorem s215_63 : ji_Ev C 215 63 M lv (.int y :: .int x :: st) o ↔ ji_Ev C 215 64 M lv (.int (x + y) :: st) o := ev_go (S := (64, M, lv, (.int (x + y) :: st))) rfl rfl rfl
theorem s215_64 : ji_Ev C 215 64 M lv (.int x :: .ref a :: st) o ↔ ji_kd M a = some (0, 9) ∧ ji_Ev C 215 67 (ji_sI M a 58 x) lv st o := ev_putI (k := 215) rfl fd_9_186 rfl (by decide)
theorem s215_67 : ji_Ev C 215 67 M (some (.ref a) :: l) st o ↔ ji_Ev C 215 68 M (some (.ref a) :: l) (.ref a :: st) o := ev_go (S := (68, M, (some (.ref a) :: l), (.ref a :: st))) rfl rfl rfl
theorem s215_68 : ji_Ev C 215 68 M lv (.ref a :: st) o ↔ ji_kd M a = some (0, 9) ∧ ji_Ev C 215 71 M lv (.int (ji_gI M a 58) :: st) o := ev_getI (k := 215) rfl fd_9_186 rfl
theorem s215_71 : ji_Ev C 215 71 M lv st o ↔ ji_Ev C 215 72 M lv (.int 1 :: st) o := ev_go (S := (72, M, lv, (.int 1 :: st))) rfl rfl rfl
theorem s215_72 : ji_Ev C 215 72 M lv (.int y :: .int x :: st) o ↔ ji_Ev C 215 73 M lv (.int (x - y) :: st) o := ev_go (S := (73, M, lv, (.int (x - y) :: st))) rfl rfl rfl
theorem s215_73 : ji_Ev C 215 73 M lv [.int x] o ↔ o = (some (.int x), M) := ev_ireti rfl rfl
theorem s216_0 : ji_Ev C 216 0 M (some (.ref a) :: l) st o ↔ ji_Ev C 216 1 M (some (.ref a) :: l) (.ref a :: st) o := ev_go (S := (1, M, (some (.ref a) :: l), (.ref a :: st))) rfl rfl rfl
theorem s216_1 : ji_Ev C 216 1 M (l0 :: some (.int x) :: l) st o ↔ ji_Ev C 216 2 M (l0 :: some (.int x) :: l) (.int x :: st) o := ev_go (S := (2, M, (l0 :: some (.int x) :: l), (.int x :: st))) rfl rfl rfl
theorem s216_2 : ji_Ev C 216 2 M lv st o ↔ ji_Ev C 216 3 M lv (.int 0 :: st) o := ev_go (S := (3, M, lv, (.int 0 :: st))) rfl rfl rfl
theorem s216_3 : ji_Ev C 216 3 M lv st o ↔ ji_Ev C 216 4 M lv (.int 3 :: st) o := ev_go (S := (4, M, lv, (.int 3 :: st))) rfl rfl rfl
theorem s216_4 : ji_Ev C 216 4 M lv (p2 :: p1 :: p0 :: .ref a :: st) o ↔ (ji_rcb M 9 (.ref a) = true ∧ ji_ok8 st) ∧ ji_evC (C 158 [.ref a, p0, p1, p2] M) (fun v M' => ji_Ev C 216 7 M' lv (v.toList ++ st) o) := ev_inv (k := 216) rfl cd_9_255 rfl
theorem s216_7 : ji_Ev C 216 7 M lv (.int x :: st) o ↔ if x = 0 then ji_Ev C 216 58 M lv st o else ji_Ev C 216 10 M lv st o := ev_brz (c := .eq) rfl (by decide) rfl
theorem s216_10 : ji_Ev C 216 10 M (some (.ref a) :: l) st o ↔ ji_Ev C 216 11 M (some (.ref a) :: l) (.ref a :: st) o := ev_go (S := (11, M, (some (.ref a) :: l), (.ref a :: st))) rfl rfl rfl
theorem s216_11 : ji_Ev C 216 11 M (l0 :: l1 :: some (.int x) :: l) st o ↔ ji_Ev C 216 12 M (l0 :: l1 :: some (.int x) :: l) (.int x :: st) o := ev_go (S := (12, M, (l0 :: l1 :: some (.int x) :: l), (.int x :: st))) rfl rfl rfl
theorem s216_12 : ji_Ev C 216 12 M lv st o ↔ ji_Ev C 216 13 M lv (.int 0 :: st) o := ev_go (S := (13, M, lv, (.int 0 :: st))) rfl rfl rfl
theorem s216_13 : ji_Ev C 216 13 M lv st o ↔ ji_Ev C 216 16 M lv (.int (999999) :: st) o := ev_go (S := (16, M, lv, (.int (999999) :: st))) rfl rfl rfl
theorem s216_16 : ji_Ev C 216 16 M lv (p2 :: p1 :: p0 :: .ref a :: st) o ↔ (ji_rcb M 9 (.ref a) = true ∧ ji_ok8 st) ∧ ji_evC (C 158 [.ref a, p0, p1, p2] M) (fun v M' => ji_Ev C 216 19 M' lv (v.toList ++ st) o) := ev_inv (k := 216) rfl cd_9_255 rfl
theorem s216_19 : ji_Ev C 216 19 M lv (.int x :: st) o ↔ if x = 0 then ji_Ev C 216 58 M lv st o else ji_Ev C 216 22 M lv st o := ev_brz (c := .eq) rfl (by decide) rfl
theorem s216_22 : ji_Ev C 216 22 M (l0 :: l1 :: some (.int x) :: l) st o ↔ ji_Ev C 216 23 M (l0 :: l1 :: some (.int x) :: l) (.int x :: st) o := ev_go (S := (23, M, (l0 :: l1 :: some (.int x) :: l), (.int x :: st))) rfl rfl rfl
theorem s216_23 : ji_Ev C 216 23 M lv st o ↔ ji_Ev C 216 26 M lv (.int 1000 :: st) o := ev_go (S := (26, M, lv, (.int 1000 :: st))) rfl rfl rfl
theorem s216_26 : ji_Ev C 216 26 M lv (.int y :: .int x :: st) o ↔ ¬ y = 0 ∧ ji_Ev C 216 27 M lv (.int (x / y) :: st) o := ev_dvI rfl
theorem s216_27 : ji_Ev C 216 27 M (l0 :: l1 :: some (.int x) :: l) st o ↔ ji_Ev C 216 28 M (l0 :: l1 :: some (.int x) :: l) (.int x :: st) o := ev_go (S := (28, M, (l0 :: l1 :: some (.int x) :: l), (.int x :: st))) rfl rfl rfl
theorem s216_28 : ji_Ev C 216 28 M lv st o ↔ ji_Ev C 216 31 M lv (.int 1000 :: st) o := ev_go (S := (31, M, lv, (.int 1000 :: st))) rfl rfl rfl
theorem s216_31 : ji_Ev C 216 31 M lv (.int y :: .int x :: st) o ↔ ¬ y = 0 ∧ ji_Ev C 216 32 M lv (.int (x - x / y * y) :: st) o := ev_dvR rfl
theorem s216_32 : ji_Ev C 216 32 M lv (.int y :: .int x :: st) o ↔ if x < y then ji_Ev C 216 35 M lv st o else ji_Ev C 216 58 M lv st o := ev_brc (c := .ge) rfl (by decide) rfl
theorem s216_35 : ji_Ev C 216 35 M (some (.ref a) :: l) st o ↔ ji_Ev C 216 36 M (some (.ref a) :: l) (.ref a :: st) o := ev_go (S := (36, M, (some (.ref a) :: l), (.ref a :: st))) rfl rfl rfl
theorem s216_36 : ji_Ev C 216 36 M (l0 :: l1 :: l2 :: some (.int x) :: l) st o ↔ ji_Ev C 216 37 M (l0 :: l1 :: l2 :: some (.int x) :: l) (.int x :: st) o := ev_go (S := (37, M, (l0 :: l1 :: l2 :: some (.int x) :: l), (.int x :: st))) rfl rfl rfl
theorem s216_37 : ji_Ev C 216 37 M lv st o ↔ ji_Ev C 216 38 M lv (.int 0 :: st) o := ev_go (S := (38, M, lv, (.int 0 :: st))) rfl rfl rfl
theorem s216_38 : ji_Ev C 216 38 M lv st o ↔ ji_Ev C 216 41 M lv (.int 9999 :: st) o := ev_go (S := (41, M, lv, (.int 9999 :: st))) rfl rfl rfl
theorem s216_41 : ji_Ev C 216 41 M lv (p2 :: p1 :: p0 :: .ref a :: st) o ↔ (ji_rcb M 9 (.ref a) = true ∧ ji_ok8 st) ∧ ji_evC (C 158 [.ref a, p0, p1, p2] M) (fun v M' => ji_Ev C 216 44 M' lv (v.toList ++ st) o) := ev_inv (k := 216) rfl cd_9_255 rfl
theorem s216_44 : ji_Ev C 216 44 M lv (.int x :: st) o ↔ if x = 0 then ji_Ev C 216 58 M lv st o else ji_Ev C 216 47 M lv st o := ev_brz (c := .eq) rfl (by decide) rfl
theorem s216_47 : ji_Ev C 216 47 M (l0 :: l1 :: l2 :: some (.int x) :: l) st o ↔ ji_Ev C 216 48 M (l0 :: l1 :: l2 :: some (.int x) :: l) (.int x :: st) o := ev_go (S := (48, M, (l0 :: l1 :: l2 :: some (.int x) :: l), (.int x :: st))) rfl rfl rfl
theorem s216_48 : ji_Ev C 216 48 M lv st o ↔ ji_Ev C 216 50 M lv (.int 100 :: st) o := ev_go (S := (50, M, lv, (.int 100 :: st))) rfl rfl rfl
theorem s216_50 : ji_Ev C 216 50 M lv (.int y :: .int x :: st) o ↔ ¬ y = 0 ∧ ji_Ev C 216 51 M lv (.int (x / y) :: st) o := ev_dvI rfl
theorem s216_51 : ji_Ev C 216 51 M (l0 :: l1 :: l2 :: some (.int x) :: l) st o ↔ ji_Ev C 216 52 M (l0 :: l1 :: l2 :: some (.int x) :: l) (.int x :: st) o := ev_go (S := (52, M, (l0 :: l1 :: l2 :: some (.int x) :: l), (.int x :: st))) rfl rfl rfl
theorem s216_52 : ji_Ev C 216 52 M lv st o ↔ ji_Ev C 216 54 M lv (.int 100 :: st) o := ev_go (S := (54, M, lv, (.int 100 :: st))) rfl rfl rfl
theorem s216_54 : ji_Ev C 216 54 M lv (.int y :: .int x :: st) o ↔ ¬ y = 0 ∧ ji_Ev C 216 55 M lv (.int (x - x / y * y) :: st) o := ev_dvR rfl
theorem s216_55 : ji_Ev C 216 55 M lv (.int y :: .int x :: st) o ↔ if y < x then ji_Ev C 216 58 M lv st o else ji_Ev C 216 61 M lv st o := ev_brc (c := .le) rfl (by decide) rfl
theorem s216_58 : ji_Ev C 216 58 M lv st o ↔ ji_Ev C 216 60 M lv (.int (-2) :: st) o := ev_go (S := (60, M, lv, (.int (-2) :: st))) rfl rfl rfl
theorem s216_60 : ji_Ev C 216 60 M lv [.int x] o ↔ o = (some (.int x), M) := ev_ireti rfl rfl
theorem s216_61 : ji_Ev C 216 61 M (some (.ref a) :: l) st o ↔ ji_Ev C 216 62 M (some (.ref a) :: l) (.ref a :: st) o := ev_go (S := (62, M, (some (.ref a) :: l), (.ref a :: st))) rfl rfl rfl
theorem s216_62 : ji_Ev C 216 62 M lv (.ref a :: st) o ↔ ji_kd M a = some (0, 9) ∧ ji_Ev C 216 65 M lv (.int (ji_gI M a 59) :: st) o := ev_getI (k := 216) rfl fd_9_189 rfl
theorem s216_65 : ji_Ev C 216 65 M lv st o ↔ ji_Ev C 216 67 M lv (.int 40 :: st) o := ev_go (S := (67, M, lv, (.int 40 :: st))) rfl rfl rfl
theorem s216_67 : ji_Ev C 216 67 M lv (.int y :: .int x :: st) o ↔ if x = y then ji_Ev C 216 70 M lv st o else ji_Ev C 216 73 M lv st o := ev_brc (c := .ne) rfl (by decide) rfl
theorem s216_70 : ji_Ev C 216 70 M lv st o ↔ ji_Ev C 216 72 M lv (.int (-4) :: st) o := ev_go (S := (72, M, lv, (.int (-4) :: st))) rfl rfl rfl
theorem s216_72 : ji_Ev C 216 72 M lv [.int x] o ↔ o = (some (.int x), M) := ev_ireti rfl rfl
theorem s216_73 : ji_Ev C 216 73 M (some (.ref a) :: l) st o ↔ ji_Ev C 216 74 M (some (.ref a) :: l) (.ref a :: st) o := ev_go (S := (74, M, (some (.ref a) :: l), (.ref a :: st))) rfl rfl rfl
theorem s216_74 : ji_Ev C 216 74 M lv (.ref a :: st) o ↔ ji_kd M a = some (0, 9) ∧ ji_Ev C 216 77 M lv (ji_rv (ji_gR M a 66) :: st) o := ev_getR (k := 216) rfl fd_9_210 rfl
theorem s216_77 : ji_Ev C 216 77 M (some (.ref a) :: l) st o ↔ ji_Ev C 216 78 M (some (.ref a) :: l) (.ref a :: st) o := ev_go (S := (78, M, (some (.ref a) :: l), (.ref a :: st))) rfl rfl rfl
theorem s216_78 : ji_Ev C 216 78 M lv (.ref a :: st) o ↔ ji_kd M a = some (0, 9) ∧ ji_Ev C 216 81 M lv (.int (ji_gI M a 59) :: st) o := ev_getI (k := 216) rfl fd_9_189 rfl
theorem s216_81 : ji_Ev C 216 81 M (l0 :: some (.int x) :: l) st o ↔ ji_Ev C 216 82 M (l0 :: some (.int x) :: l) (.int x :: st) o := ev_go (S := (82, M, (l0 :: some (.int x) :: l), (.int x :: st))) rfl rfl rfl
theorem s216_82 : ji_Ev C 216 82 M lv (.int y :: .int x :: .ref a :: st) o ↔ ji_evA (ji_kd M a) (fun n => vp_in x n ∧ ji_Ev C 216 83 (ji_sI M a x.toNatClampNeg y) lv st o) := ev_iast rfl
theorem s216_83 : ji_Ev C 216 83 M (some (.ref a) :: l) st o ↔ ji_Ev C 216 84 M (some (.ref a) :: l) (.ref a :: st) o := ev_go (S := (84, M, (some (.ref a) :: l), (.ref a :: st))) rfl rfl rfl
theorem s216_84 : ji_Ev C 216 84 M lv (.ref a :: st) o ↔ ji_kd M a = some (0, 9) ∧ ji_Ev C 216 87 M lv (ji_rv (ji_gR M a 67) :: st) o := ev_getR (k := 216) rfl fd_9_213 rfl
theorem s216_87 : ji_Ev C 216 87 M (some (.ref a) :: l) st o ↔ ji_Ev C 216 88 M (some (.ref a) :: l) (.ref a :: st) o := ev_go (S := (88, M, (some (.ref a) :: l), (.ref a :: st))) rfl rfl rfl
theorem s216_88 : ji_Ev C 216 88 M lv (.ref a :: st) o ↔ ji_kd M a = some (0, 9) ∧ ji_Ev C 216 91 M lv (.int (ji_gI M a 59) :: st) o := ev_getI (k := 216) rfl fd_9_189 rfl
theorem s216_91 : ji_Ev C 216 91 M (l0 :: l1 :: some (.int x) :: l) st o ↔ ji_Ev C 216 92 M (l0 :: l1 :: some (.int x) :: l) (.int x :: st) o := ev_go (S := (92, M, (l0 :: l1 :: some (.int x) :: l), (.int x :: st))) rfl rfl rfl
theorem s216_92 : ji_Ev C 216 92 M lv st o ↔ ji_Ev C 216 95 M lv (.int 1000 :: st) o := ev_go (S := (95, M, lv, (.int 1000 :: st))) rfl rfl rfl
theorem s216_95 : ji_Ev C 216 95 M lv (.int y :: .int x :: st) o ↔ ¬ y = 0 ∧ ji_Ev C 216 96 M lv (.int (x / y) :: st) o := ev_dvI rfl
theorem s216_96 : ji_Ev C 216 96 M lv (.int y :: .int x :: .ref a :: st) o ↔ ji_evA (ji_kd M a) (fun n => vp_in x n ∧ ji_Ev C 216 97 (ji_sI M a x.toNatClampNeg y) lv st o) := ev_iast rfl
theorem s216_97 : ji_Ev C 216 97 M (some (.ref a) :: l) st o ↔ ji_Ev C 216 98 M (some (.ref a) :: l) (.ref a :: st) o := ev_go (S := (98, M, (some (.ref a) :: l), (.ref a :: st))) rfl rfl rfl
theorem s216_98 : ji_Ev C 216 98 M lv (.ref a :: st) o ↔ ji_kd M a = some (0, 9) ∧ ji_Ev C 216 101 M lv (ji_rv (ji_gR M a 68) :: st) o := ev_getR (k := 216) rfl fd_9_216 rfl
theorem s216_101 : ji_Ev C 216 101 M (some (.ref a) :: l) st o ↔ ji_Ev C 216 102 M (some (.ref a) :: l) (.ref a :: st) o := ev_go (S := (102, M, (some (.ref a) :: l), (.ref a :: st))) rfl rfl rfl
theorem s216_102 : ji_Ev C 216 102 M lv (.ref a :: st) o ↔ ji_kd M a = some (0, 9) ∧ ji_Ev C 216 105 M lv (.int (ji_gI M a 59) :: st) o := ev_getI (k := 216) rfl fd_9_189 rfl
theorem s216_105 : ji_Ev C 216 105 M (l0 :: l1 :: some (.int x) :: l) st o ↔ ji_Ev C 216 106 M (l0 :: l1 :: some (.int x) :: l) (.int x :: st) o := ev_go (S := (106, M, (l0 :: l1 :: some (.int x) :: l), (.int x :: st))) rfl rfl rfl
theorem s216_106 : ji_Ev C 216 106 M lv st o ↔ ji_Ev C 216 109 M lv (.int 1000 :: st) o := ev_go (S := (109, M, lv, (.int 1000 :: st))) rfl rfl rfl
theorem s216_109 : ji_Ev C 216 109 M lv (.int y :: .int x :: st) o ↔ ¬ y = 0 ∧ ji_Ev C 216 110 M lv (.int (x - x / y * y) :: st) o := ev_dvR rfl
theorem s216_110 : ji_Ev C 216 110 M lv (.int y :: .int x :: .ref a :: st) o ↔ ji_evA (ji_kd M a) (fun n => vp_in x n ∧ ji_Ev C 216 111 (ji_sI M a x.toNatClampNeg y) lv st o) := ev_iast rfl
theorem s216_111 : ji_Ev C 216 111 M (some (.ref a) :: l) st o ↔ ji_Ev C 216 112 M (some (.ref a) :: l) (.ref a :: st) o := ev_go (S := (112, M, (some (.ref a) :: l), (.ref a :: st))) rfl rfl rfl
theorem s216_112 : ji_Ev C 216 112 M lv (.ref a :: st) o ↔ ji_kd M a = some (0, 9) ∧ ji_Ev C 216 115 M lv (ji_rv (ji_gR M a 69) :: st) o := ev_getR (k := 216) rfl fd_9_219 rfl
theorem s216_115 : ji_Ev C 216 115 M (some (.ref a) :: l) st o ↔ ji_Ev C 216 116 M (some (.ref a) :: l) (.ref a :: st) o := ev_go (S := (116, M, (some (.ref a) :: l), (.ref a :: st))) rfl rfl rfl
theorem s216_116 : ji_Ev C 216 116 M lv (.ref a :: st) o ↔ ji_kd M a = some (0, 9) ∧ ji_Ev C 216 119 M lv (.int (ji_gI M a 59) :: st) o := ev_getI (k := 216) rfl fd_9_189 rfl
theorem s216_119 : ji_Ev C 216 119 M (l0 :: l1 :: l2 :: some (.int x) :: l) st o ↔ ji_Ev C 216 120 M (l0 :: l1 :: l2 :: some (.int x) :: l) (.int x :: st) o := ev_go (S := (120, M, (l0 :: l1 :: l2 :: some (.int x) :: l), (.int x :: st))) rfl rfl rfl
theorem s216_120 : ji_Ev C 216 120 M lv st o ↔ ji_Ev C 216 122 M lv (.int 100 :: st) o := ev_go (S := (122, M, lv, (.int 100 :: st))) rfl rfl rfl
theorem s216_122 : ji_Ev C 216 122 M lv (.int y :: .int x :: st) o ↔ ¬ y = 0 ∧ ji_Ev C 216 123 M lv (.int (x / y) :: st) o := ev_dvI rfl
theorem s216_123 : ji_Ev C 216 123 M lv (.int y :: .int x :: .ref a :: st) o ↔ ji_evA (ji_kd M a) (fun n => vp_in x n ∧ ji_Ev C 216 124 (ji_sI M a x.toNatClampNeg y) lv st o) := ev_iast rfl
theorem s216_124 : ji_Ev C 216 124 M (some (.ref a) :: l) st o ↔ ji_Ev C 216 125 M (some (.ref a) :: l) (.ref a :: st) o := ev_go (S := (125, M, (some (.ref a) :: l), (.ref a :: st))) rfl rfl rfl
theorem s216_125 : ji_Ev C 216 125 M lv (.ref a :: st) o ↔ ji_kd M a = some (0, 9) ∧ ji_Ev C 216 128 M lv (ji_rv (ji_gR M a 70) :: st) o := ev_getR (k := 216) rfl fd_9_222 rfl
theorem s216_128 : ji_Ev C 216 128 M (some (.ref a) :: l) st o ↔ ji_Ev C 216 129 M (some (.ref a) :: l) (.ref a :: st) o := ev_go (S := (129, M, (some (.ref a) :: l), (.ref a :: st))) rfl rfl rfl
theorem s216_129 : ji_Ev C 216 129 M lv (.ref a :: st) o ↔ ji_kd M a = some (0, 9) ∧ ji_Ev C 216 132 M lv (.int (ji_gI M a 59) :: st) o := ev_getI (k := 216) rfl fd_9_189 rfl
theorem s216_132 : ji_Ev C 216 132 M (l0 :: l1 :: l2 :: some (.int x) :: l) st o ↔ ji_Ev C 216 133 M (l0 :: l1 :: l2 :: some (.int x) :: l) (.int x :: st) o := ev_go (S := (133, M, (l0 :: l1 :: l2 :: some (.int x) :: l), (.int x :: st))) rfl rfl rfl
theorem s216_133 : ji_Ev C 216 133 M lv st o ↔ ji_Ev C 216 135 M lv (.int 100 :: st) o := ev_go (S := (135, M, lv, (.int 100 :: st))) rfl rfl rfl
theorem s216_135 : ji_Ev C 216 135 M lv (.int y :: .int x :: st) o ↔ ¬ y = 0 ∧ ji_Ev C 216 136 M lv (.int (x - x / y * y) :: st) o := ev_dvR rfl
theorem s216_136 : ji_Ev C 216 136 M lv (.int y :: .int x :: .ref a :: st) o ↔ ji_evA (ji_kd M a) (fun n => vp_in x n ∧ ji_Ev C 216 137 (ji_sI M a x.toNatClampNeg y) lv st o) := ev_iast rfl
theorem s216_137 : ji_Ev C 216 137 M (some (.ref a) :: l) st o ↔ ji_Ev C 216 138 M (some (.ref a) :: l) (.ref a :: st) o := ev_go (S := (138, M, (some (.ref a) :: l), (.ref a :: st))) rfl rfl rfl
theorem s216_138 : ji_Ev C 216 138 M lv (.int x :: st) o ↔ ji_Ev C 216 139 M lv (.int x :: .int x :: st) o := ev_go (S := (139, M, lv, (.int x :: .int x :: st))) rfl rfl rfl
theorem s216_138r : ji_Ev C 216 138 M lv (.ref a :: st) o ↔ ji_Ev C 216 139 M lv (.ref a :: .ref a :: st) o := ev_go (S := (139, M, lv, (.ref a :: .ref a :: st))) rfl rfl rfl
theorem s216_139 : ji_Ev C 216 139 M lv (.ref a :: st) o ↔ ji_kd M a = some (0, 9) ∧ ji_Ev C 216 142 M lv (.int (ji_gI M a 59) :: st) o := ev_getI (k := 216) rfl fd_9_189 rfl
theorem s216_142 : ji_Ev C 216 142 M lv st o ↔ ji_Ev C 216 143 M lv (.int 1 :: st) o := ev_go (S := (143, M, lv, (.int 1 :: st))) rfl rfl rfl
theorem s216_143 : ji_Ev C 216 143 M lv (.int y :: .int x :: st) o ↔ ji_Ev C 216 144 M lv (.int (x + y) :: st) o := ev_go (S := (144, M, lv, (.int (x + y) :: st))) rfl rfl rfl
theorem s216_144 : ji_Ev C 216 144 M lv (.int x :: .ref a :: st) o ↔ ji_kd M a = some (0, 9) ∧ ji_Ev C 216 147 (ji_sI M a 59 x) lv st o := ev_putI (k := 216) rfl fd_9_189 rfl (by decide)
theorem s216_147 : ji_Ev C 216 147 M (some (.ref a) :: l) st o ↔ ji_Ev C 216 148 M (some (.ref a) :: l) (.ref a :: st) o := ev_go (S := (148, M, (some (.ref a) :: l), (.ref a :: st))) rfl rfl rfl
theorem s216_148 : ji_Ev C 216 148 M lv (.ref a :: st) o ↔ ji_kd M a = some (0, 9) ∧ ji_Ev C 216 151 M lv (.int (ji_gI M a 59) :: st) o := ev_getI (k := 216) rfl fd_9_189 rfl
theorem s216_151 : ji_Ev C 216 151 M lv [.int x] o ↔ o = (some (.int x), M) := ev_ireti rfl rfl
theorem s217_0 : ji_Ev C 217 0 M (some (.ref a) :: l) st o ↔ ji_Ev C 217 1 M (some (.ref a) :: l) (.ref a :: st) o := ev_go (S := (1, M, (some (.ref a) :: l), (.ref a :: st))) rfl rfl rfl
theorem s217_1 : ji_Ev C 217 1 M (l0 :: some (.int x) :: l) st o ↔ ji_Ev C 217 2 M (l0 :: some (.int x) :: l) (.int x :: st) o := ev_go (S := (2, M, (l0 :: some (.int x) :: l), (.int x :: st))) rfl rfl rfl
theorem s217_2 : ji_Ev C 217 2 M lv st o ↔ ji_Ev C 217 3 M lv (.int 0 :: st) o := ev_go (S := (3, M, lv, (.int 0 :: st))) rfl rfl rfl
theorem s217_3 : ji_Ev C 217 3 M (some (.ref a) :: l) st o ↔ ji_Ev C 217 4 M (some (.ref a) :: l) (.ref a :: st) o := ev_go (S := (4, M, (some (.ref a) :: l), (.ref a :: st))) rfl rfl rfl
theorem s217_4 : ji_Ev C 217 4 M lv (.ref a :: st) o ↔ ji_kd M a = some (0, 9) ∧ ji_Ev C 217 7 M lv (.int (ji_gI M a 58) :: st) o := ev_getI (k := 217) rfl fd_9_186 rfl
theorem s217_7 : ji_Ev C 217 7 M lv st o ↔ ji_Ev C 217 8 M lv (.int 1 :: st) o := ev_go (S := (8, M, lv, (.int 1 :: st))) rfl rfl rfl
theorem s217_8 : ji_Ev C 217 8 M lv (.int y :: .int x :: st) o ↔ ji_Ev C 217 9 M lv (.int (x - y) :: st) o := ev_go (S := (9, M, lv, (.int (x - y) :: st))) rfl rfl rfl
theorem s217_9 : ji_Ev C 217 9 M lv (p2 :: p1 :: p0 :: .ref a :: st) o ↔ (ji_rcb M 9 (.ref a) = true ∧ ji_ok8 st) ∧ ji_evC (C 158 [.ref a, p0, p1, p2] M) (fun v M' => ji_Ev C 217 12 M' lv (v.toList ++ st) o) := ev_inv (k := 217) rfl cd_9_255 rfl
theorem s217_12 : ji_Ev C 217 12 M lv (.int x :: st) o ↔ if x = 0 then ji_Ev C 217 15 M lv st o else ji_Ev C 217 18 M lv st o := ev_brz (c := .ne) rfl (by decide) rfl
theorem s217_15 : ji_Ev C 217 15 M lv st o ↔ ji_Ev C 217 17 M lv (.int (-2) :: st) o := ev_go (S := (17, M, lv, (.int (-2) :: st))) rfl rfl rfl
theorem s217_17 : ji_Ev C 217 17 M lv [.int x] o ↔ o = (some (.int x), M) := ev_ireti rfl rfl
theorem s217_18 : ji_Ev C 217 18 M lv st o ↔ ji_Ev C 217 19 M lv (.int (-1) :: st) o := ev_go (S := (19, M, lv, (.int (-1) :: st))) rfl rfl rfl
theorem s217_19 : ji_Ev C 217 19 M lv (.int x :: st) o ↔ 2 < lv.length ∧ ji_Ev C 217 20 M (ji_s1 lv 2 (.int x)) st o := ev_stI rfl rfl rfl
theorem s217_20 : ji_Ev C 217 20 M lv st o ↔ ji_Ev C 217 22 M lv (.int 100 :: st) o := ev_go (S := (22, M, lv, (.int 100 :: st))) rfl rfl rfl
theorem s217_22 : ji_Ev C 217 22 M lv (.int x :: st) o ↔ 3 < lv.length ∧ ji_Ev C 217 23 M (ji_s1 lv 3 (.int x)) st o := ev_stI rfl rfl rfl
theorem s217_23 : ji_Ev C 217 23 M lv st o ↔ ji_Ev C 217 24 M lv (.int 0 :: st) o := ev_go (S := (24, M, lv, (.int 0 :: st))) rfl rfl rfl
theorem s217_24 : ji_Ev C 217 24 M lv (.int x :: st) o ↔ 4 < lv.length ∧ ji_Ev C 217 26 M (ji_s1 lv 4 (.int x)) st o := ev_stI rfl rfl rfl
theorem s217_26 : ji_Ev C 217 26 M (l0 :: l1 :: l2 :: l3 :: some (.int x) :: l) st o ↔ ji_Ev C 217 28 M (l0 :: l1 :: l2 :: l3 :: some (.int x) :: l) (.int x :: st) o := ev_go (S := (28, M, (l0 :: l1 :: l2 :: l3 :: some (.int x) :: l), (.int x :: st))) rfl rfl rfl
theorem s217_28 : ji_Ev C 217 28 M (some (.ref a) :: l) st o ↔ ji_Ev C 217 29 M (some (.ref a) :: l) (.ref a :: st) o := ev_go (S := (29, M, (some (.ref a) :: l), (.ref a :: st))) rfl rfl rfl
theorem s217_29 : ji_Ev C 217 29 M lv (.ref a :: st) o ↔ ji_kd M a = some (0, 9) ∧ ji_Ev C 217 32 M lv (.int (ji_gI M a 59) :: st) o := ev_getI (k := 217) rfl fd_9_189 rfl
theorem s217_32 : ji_Ev C 217 32 M lv (.int y :: .int x :: st) o ↔ if x < y then ji_Ev C 217 35 M lv st o else ji_Ev C 217 135 M lv st o := ev_brc (c := .ge) rfl (by decide) rfl
theorem s217_35 : ji_Ev C 217 35 M (some (.ref a) :: l) st o ↔ ji_Ev C 217 36 M (some (.ref a) :: l) (.ref a :: st) o := ev_go (S := (36, M, (some (.ref a) :: l), (.ref a :: st))) rfl rfl rfl
theorem s217_36 : ji_Ev C 217 36 M lv (.ref a :: st) o ↔ ji_kd M a = some (0, 9) ∧ ji_Ev C 217 39 M lv (ji_rv (ji_gR M a 66) :: st) o := ev_getR (k := 217) rfl fd_9_210 rfl
theorem s217_39 : ji_Ev C 217 39 M (l0 :: l1 :: l2 :: l3 :: some (.int x) :: l) st o ↔ ji_Ev C 217 41 M (l0 :: l1 :: l2 :: l3 :: some (.int x) :: l) (.int x :: st) o := ev_go (S := (41, M, (l0 :: l1 :: l2 :: l3 :: some (.int x) :: l), (.int x :: st))) rfl rfl rfl
theorem s217_41 : ji_Ev C 217 41 M lv (.int x :: .ref a :: st) o ↔ ji_evA (ji_kd M a) (fun n => vp_in x n ∧ ji_Ev C 217 42 M lv (.int (ji_gI M a x.toNatClampNeg) :: st) o) := ev_iald rfl
theorem s217_42 : ji_Ev C 217 42 M (some (.ref a) :: l) st o ↔ ji_Ev C 217 43 M (some (.ref a) :: l) (.ref a :: st) o := ev_go (S := (43, M, (some (.ref a) :: l), (.ref a :: st))) rfl rfl rfl
theorem s217_43 : ji_Ev C 217 43 M lv (.ref a :: st) o ↔ ji_kd M a = some (0, 9) ∧ ji_Ev C 217 46 M lv (ji_rv (ji_gR M a 65) :: st) o := ev_getR (k := 217) rfl fd_9_207 rfl
theorem s217_46 : ji_Ev C 217 46 M (l0 :: some (.int x) :: l) st o ↔ ji_Ev C 217 47 M (l0 :: some (.int x) :: l) (.int x :: st) o := ev_go (S := (47, M, (l0 :: some (.int x) :: l), (.int x :: st))) rfl rfl rfl
theorem s217_47 : ji_Ev C 217 47 M lv (.int x :: .ref a :: st) o ↔ ji_evA (ji_kd M a) (fun n => vp_in x n ∧ ji_Ev C 217 48 M lv (.int (ji_gI M a x.toNatClampNeg) :: st) o) := ev_iald rfl
theorem s217_48 : ji_Ev C 217 48 M lv (.int y :: .int x :: st) o ↔ if x = y then ji_Ev C 217 51 M lv st o else ji_Ev C 217 129 M lv st o := ev_brc (c := .ne) rfl (by decide) rfl
theorem s217_51 : ji_Ev C 217 51 M (some (.ref a) :: l) st o ↔ ji_Ev C 217 52 M (some (.ref a) :: l) (.ref a :: st) o := ev_go (S := (52, M, (some (.ref a) :: l), (.ref a :: st))) rfl rfl rfl
theorem s217_52 : ji_Ev C 217 52 M (some (.ref a) :: l) st o ↔ ji_Ev C 217 53 M (some (.ref a) :: l) (.ref a :: st) o := ev_go (S := (53, M, (some (.ref a) :: l), (.ref a :: st))) rfl rfl rfl
theorem s217_53 : ji_Ev C 217 53 M lv (.ref a :: st) o ↔ ji_kd M a = some (0, 9) ∧ ji_Ev C 217 56 M lv (ji_rv (ji_gR M a 64) :: st) o := ev_getR (k := 217) rfl fd_9_204 rfl
theorem s217_56 : ji_Ev C 217 56 M (l0 :: some (.int x) :: l) st o ↔ ji_Ev C 217 57 M (l0 :: some (.int x) :: l) (.int x :: st) o := ev_go (S := (57, M, (l0 :: some (.int x) :: l), (.int x :: st))) rfl rfl rfl
theorem s217_57 : ji_Ev C 217 57 M lv (.int x :: .ref a :: st) o ↔ ji_evA (ji_kd M a) (fun n => vp_in x n ∧ ji_Ev C 217 58 M lv (.int (ji_gI M a x.toNatClampNeg) :: st) o) := ev_iald rfl
theorem s217_58 : ji_Ev C 217 58 M (some (.ref a) :: l) st o ↔ ji_Ev C 217 59 M (some (.ref a) :: l) (.ref a :: st) o := ev_go (S := (59, M, (some (.ref a) :: l), (.ref a :: st))) rfl rfl rfl
theorem s217_59 : ji_Ev C 217 59 M lv (.ref a :: st) o ↔ ji_kd M a = some (0, 9) ∧ ji_Ev C 217 62 M lv (ji_rv (ji_gR M a 67) :: st) o := ev_getR (k := 217) rfl fd_9_213 rfl
theorem s217_62 : ji_Ev C 217 62 M (l0 :: l1 :: l2 :: l3 :: some (.int x) :: l) st o ↔ ji_Ev C 217 64 M (l0 :: l1 :: l2 :: l3 :: some (.int x) :: l) (.int x :: st) o := ev_go (S := (64, M, (l0 :: l1 :: l2 :: l3 :: some (.int x) :: l), (.int x :: st))) rfl rfl rfl
theorem s217_64 : ji_Ev C 217 64 M lv (.int x :: .ref a :: st) o ↔ ji_evA (ji_kd M a) (fun n => vp_in x n ∧ ji_Ev C 217 65 M lv (.int (ji_gI M a x.toNatClampNeg) :: st) o) := ev_iald rfl
theorem s217_65 : ji_Ev C 217 65 M (some (.ref a) :: l) st o ↔ ji_Ev C 217 66 M (some (.ref a) :: l) (.ref a :: st) o := ev_go (S := (66, M, (some (.ref a) :: l), (.ref a :: st))) rfl rfl rfl
theorem s217_66 : ji_Ev C 217 66 M lv (.ref a :: st) o ↔ ji_kd M a = some (0, 9) ∧ ji_Ev C 217 69 M lv (ji_rv (ji_gR M a 68) :: st) o := ev_getR (k := 217) rfl fd_9_216 rfl
theorem s217_69 : ji_Ev C 217 69 M (l0 :: l1 :: l2 :: l3 :: some (.int x) :: l) st o ↔ ji_Ev C 217 71 M (l0 :: l1 :: l2 :: l3 :: some (.int x) :: l) (.int x :: st) o := ev_go (S := (71, M, (l0 :: l1 :: l2 :: l3 :: some (.int x) :: l), (.int x :: st))) rfl rfl rfl
theorem s217_71 : ji_Ev C 217 71 M lv (.int x :: .ref a :: st) o ↔ ji_evA (ji_kd M a) (fun n => vp_in x n ∧ ji_Ev C 217 72 M lv (.int (ji_gI M a x.toNatClampNeg) :: st) o) := ev_iald rfl
theorem s217_72 : ji_Ev C 217 72 M lv st o ↔ ji_Ev C 217 73 M lv (.int 1 :: st) o := ev_go (S := (73, M, lv, (.int 1 :: st))) rfl rfl rfl
theorem s217_73 : ji_Ev C 217 73 M lv (.int y :: .int x :: st) o ↔ ji_Ev C 217 74 M lv (.int (x - y) :: st) o := ev_go (S := (74, M, lv, (.int (x - y) :: st))) rfl rfl rfl
theorem s217_74 : ji_Ev C 217 74 M lv (p2 :: p1 :: p0 :: .ref a :: st) o ↔ (ji_rcb M 9 (.ref a) = true ∧ ji_ok8 st) ∧ ji_evC (C 158 [.ref a, p0, p1, p2] M) (fun v M' => ji_Ev C 217 77 M' lv (v.toList ++ st) o) := ev_inv (k := 217) rfl cd_9_255 rfl
theorem s217_77 : ji_Ev C 217 77 M lv (.int x :: st) o ↔ if x = 0 then ji_Ev C 217 80 M lv st o else ji_Ev C 217 83 M lv st o := ev_brz (c := .ne) rfl (by decide) rfl
theorem s217_80 : ji_Ev C 217 80 M lv st o ↔ ji_Ev C 217 129 M lv st o := ev_gt rfl (by decide) rfl
theorem s217_83 : ji_Ev C 217 83 M (some (.ref a) :: l) st o ↔ ji_Ev C 217 84 M (some (.ref a) :: l) (.ref a :: st) o := ev_go (S := (84, M, (some (.ref a) :: l), (.ref a :: st))) rfl rfl rfl
theorem s217_84 : ji_Ev C 217 84 M lv (.ref a :: st) o ↔ ji_kd M a = some (0, 9) ∧ ji_Ev C 217 87 M lv (ji_rv (ji_gR M a 69) :: st) o := ev_getR (k := 217) rfl fd_9_219 rfl
theorem s217_87 : ji_Ev C 217 87 M (l0 :: l1 :: l2 :: l3 :: some (.int x) :: l) st o ↔ ji_Ev C 217 89 M (l0 :: l1 :: l2 :: l3 :: some (.int x) :: l) (.int x :: st) o := ev_go (S := (89, M, (l0 :: l1 :: l2 :: l3 :: some (.int x) :: l), (.int x :: st))) rfl rfl rfl
theorem s217_89 : ji_Ev C 217 89 M lv (.int x :: .ref a :: st) o ↔ ji_evA (ji_kd M a) (fun n => vp_in x n ∧ ji_Ev C 217 90 M lv (.int (ji_gI M a x.toNatClampNeg) :: st) o) := ev_iald rfl
theorem s217_90 : ji_Ev C 217 90 M (l0 :: l1 :: some (.int x) :: l) st o ↔ ji_Ev C 217 91 M (l0 :: l1 :: some (.int x) :: l) (.int x :: st) o := ev_go (S := (91, M, (l0 :: l1 :: some (.int x) :: l), (.int x :: st))) rfl rfl rfl
theorem s217_91 : ji_Ev C 217 91 M lv (.int y :: .int x :: st) o ↔ if y < x then ji_Ev C 217 94 M lv st o else ji_Ev C 217 104 M lv st o := ev_brc (c := .le) rfl (by decide) rfl
theorem s217_94 : ji_Ev C 217 94 M (some (.ref a) :: l) st o ↔ ji_Ev C 217 95 M (some (.ref a) :: l) (.ref a :: st) o := ev_go (S := (95, M, (some (.ref a) :: l), (.ref a :: st))) rfl rfl rfl
theorem s217_95 : ji_Ev C 217 95 M lv (.ref a :: st) o ↔ ji_kd M a = some (0, 9) ∧ ji_Ev C 217 98 M lv (ji_rv (ji_gR M a 69) :: st) o := ev_getR (k := 217) rfl fd_9_219 rfl
theorem s217_98 : ji_Ev C 217 98 M (l0 :: l1 :: l2 :: l3 :: some (.int x) :: l) st o ↔ ji_Ev C 217 100 M (l0 :: l1 :: l2 :: l3 :: some (.int x) :: l) (.int x :: st) o := ev_go (S := (100, M, (l0 :: l1 :: l2 :: l3 :: some (.int x) :: l), (.int x :: st))) rfl rfl rfl
theorem s217_100 : ji_Ev C 217 100 M lv (.int x :: .ref a :: st) o ↔ ji_evA (ji_kd M a) (fun n => vp_in x n ∧ ji_Ev C 217 101 M lv (.int (ji_gI M a x.toNatClampNeg) :: st) o) := ev_iald rfl
theorem s217_101 : ji_Ev C 217 101 M lv st o ↔ ji_Ev C 217 105 M lv st o := ev_gt rfl (by decide) rfl
theorem s217_104 : ji_Ev C 217 104 M (l0 :: l1 :: some (.int x) :: l) st o ↔ ji_Ev C 217 105 M (l0 :: l1 :: some (.int x) :: l) (.int x :: st) o := ev_go (S := (105, M, (l0 :: l1 :: some (.int x) :: l), (.int x :: st))) rfl rfl rfl
theorem s217_105 : ji_Ev C 217 105 M lv (.int x :: st) o ↔ 2 < lv.length ∧ ji_Ev C 217 106 M (ji_s1 lv 2 (.int x)) st o := ev_stI rfl rfl rfl
theorem s217_106 : ji_Ev C 217 106 M (some (.ref a) :: l) st o ↔ ji_Ev C 217 107 M (some (.ref a) :: l) (.ref a :: st) o := ev_go (S := (107, M, (some (.ref a) :: l), (.ref a :: st))) rfl rfl rfl
theorem s217_107 : ji_Ev C 217 107 M lv (.ref a :: st) o ↔ ji_kd M a = some (0, 9) ∧ ji_Ev C 217 110 M lv (ji_rv (ji_gR M a 70) :: st) o := ev_getR (k := 217) rfl fd_9_222 rfl
theorem s217_110 : ji_Ev C 217 110 M (l0 :: l1 :: l2 :: l3 :: some (.int x) :: l) st o ↔ ji_Ev C 217 112 M (l0 :: l1 :: l2 :: l3 :: some (.int x) :: l) (.int x :: st) o := ev_go (S := (112, M, (l0 :: l1 :: l2 :: l3 :: some (.int x) :: l), (.int x :: st))) rfl rfl rfl
theorem s217_112 : ji_Ev C 217 112 M lv (.int x :: .ref a :: st) o ↔ ji_evA (ji_kd M a) (fun n => vp_in x n ∧ ji_Ev C 217 113 M lv (.int (ji_gI M a x.toNatClampNeg) :: st) o) := ev_iald rfl
theorem s217_113 : ji_Ev C 217 113 M (l0 :: l1 :: l2 :: some (.int x) :: l) st o ↔ ji_Ev C 217 114 M (l0 :: l1 :: l2 :: some (.int x) :: l) (.int x :: st) o := ev_go (S := (114, M, (l0 :: l1 :: l2 :: some (.int x) :: l), (.int x :: st))) rfl rfl rfl
theorem s217_114 : ji_Ev C 217 114 M lv (.int y :: .int x :: st) o ↔ if x < y then ji_Ev C 217 117 M lv st o else ji_Ev C 217 127 M lv st o := ev_brc (c := .ge) rfl (by decide) rfl
theorem s217_117 : ji_Ev C 217 117 M (some (.ref a) :: l) st o ↔ ji_Ev C 217 118 M (some (.ref a) :: l) (.ref a :: st) o := ev_go (S := (118, M, (some (.ref a) :: l), (.ref a :: st))) rfl rfl rfl
theorem s217_118 : ji_Ev C 217 118 M lv (.ref a :: st) o ↔ ji_kd M a = some (0, 9) ∧ ji_Ev C 217 121 M lv (ji_rv (ji_gR M a 70) :: st) o := ev_getR (k := 217) rfl fd_9_222 rfl
theorem s217_121 : ji_Ev C 217 121 M (l0 :: l1 :: l2 :: l3 :: some (.int x) :: l) st o ↔ ji_Ev C 217 123 M (l0 :: l1 :: l2 :: l3 :: some (.int x) :: l) (.int x :: st) o := ev_go (S := (123, M, (l0 :: l1 :: l2 :: l3 :: some (.int x) :: l), (.int x :: st))) rfl rfl rfl
theorem s217_123 : ji_Ev C 217 123 M lv (.int x :: .ref a :: st) o ↔ ji_evA (ji_kd M a) (fun n => vp_in x n ∧ ji_Ev C 217 124 M lv (.int (ji_gI M a x.toNatClampNeg) :: st) o) := ev_iald rfl
theorem s217_124 : ji_Ev C 217 124 M lv st o ↔ ji_Ev C 217 128 M lv st o := ev_gt rfl (by decide) rfl
theorem s217_127 : ji_Ev C 217 127 M (l0 :: l1 :: l2 :: some (.int x) :: l) st o ↔ ji_Ev C 217 128 M (l0 :: l1 :: l2 :: some (.int x) :: l) (.int x :: st) o := ev_go (S := (128, M, (l0 :: l1 :: l2 :: some (.int x) :: l), (.int x :: st))) rfl rfl rfl
theorem s217_128 : ji_Ev C 217 128 M lv (.int x :: st) o ↔ 3 < lv.length ∧ ji_Ev C 217 129 M (ji_s1 lv 3 (.int x)) st o := ev_stI rfl rfl rfl
theorem s217_129 : ji_Ev C 217 129 M lv st o ↔ ji_evL (lv.getD 4 none) ji_isI (fun v => match v with | .int x => 4 < lv.length ∧ ji_Ev C 217 132 M (ji_s1 lv 4 (.int (x + Int32.ofInt 1))) st o | _ => False) := ev_iinc rfl
theorem s217_132 : ji_Ev C 217 132 M lv st o ↔ ji_Ev C 217 26 M lv st o := ev_gt rfl (by decide) rfl
theorem s217_135 : ji_Ev C 217 135 M (l0 :: l1 :: some (.int x) :: l) st o ↔ ji_Ev C 217 136 M (l0 :: l1 :: some (.int x) :: l) (.int x :: st) o := ev_go (S := (136, M, (l0 :: l1 :: some (.int x) :: l), (.int x :: st))) rfl rfl rfl
theorem s217_136 : ji_Ev C 217 136 M lv (.int x :: st) o ↔ if x < 0 then ji_Ev C 217 144 M lv st o else ji_Ev C 217 139 M lv st o := ev_brz (c := .lt) rfl (by decide) rfl
theorem s217_139 : ji_Ev C 217 139 M (l0 :: l1 :: some (.int x) :: l) st o ↔ ji_Ev C 217 140 M (l0 :: l1 :: some (.int x) :: l) (.int x :: st) o := ev_go (S := (140, M, (l0 :: l1 :: some (.int x) :: l), (.int x :: st))) rfl rfl rfl
theorem s217_140 : ji_Ev C 217 140 M (l0 :: l1 :: l2 :: some (.int x) :: l) st o ↔ ji_Ev C 217 141 M (l0 :: l1 :: l2 :: some (.int x) :: l) (.int x :: st) o := ev_go (S := (141, M, (l0 :: l1 :: l2 :: some (.int x) :: l), (.int x :: st))) rfl rfl rfl
theorem s217_141 : ji_Ev C 217 141 M lv (.int y :: .int x :: st) o ↔ if y < x then ji_Ev C 217 144 M lv st o else ji_Ev C 217 148 M lv st o := ev_brc (c := .le) rfl (by decide) rfl
theorem s217_144 : ji_Ev C 217 144 M lv st o ↔ ji_Ev C 217 145 M lv (.int (-1) :: st) o := ev_go (S := (145, M, lv, (.int (-1) :: st))) rfl rfl rfl
theorem s217_145 : ji_Ev C 217 145 M lv st o ↔ ji_Ev C 217 154 M lv st o := ev_gt rfl (by decide) rfl
theorem s217_148 : ji_Ev C 217 148 M lv st o ↔ ji_Ev C 217 150 M lv (.int 100 :: st) o := ev_go (S := (150, M, lv, (.int 100 :: st))) rfl rfl rfl
theorem s217_150 : ji_Ev C 217 150 M (l0 :: l1 :: some (.int x) :: l) st o ↔ ji_Ev C 217 151 M (l0 :: l1 :: some (.int x) :: l) (.int x :: st) o := ev_go (S := (151, M, (l0 :: l1 :: some (.int x) :: l), (.int x :: st))) rfl rfl rfl
theorem s217_151 : ji_Ev C 217 151 M lv (.int y :: .int x :: st) o ↔ ji_Ev C 217 152 M lv (.int (x * y) :: st) o := ev_go (S := (152, M, lv, (.int (x * y) :: st))) rfl rfl rfl
theorem s217_152 : ji_Ev C 217 152 M (l0 :: l1 :: l2 :: some (.int x) :: l) st o ↔ ji_Ev C 217 153 M (l0 :: l1 :: l2 :: some (.int x) :: l) (.int x :: st) o := ev_go (S := (153, M, (l0 :: l1 :: l2 :: some (.int x) :: l), (.int x :: st))) rfl rfl rfl
theorem s217_153 : ji_Ev C 217 153 M lv (.int y :: .int x :: st) o ↔ ji_Ev C 217 154 M lv (.int (x + y) :: st) o := ev_go (S := (154, M, lv, (.int (x + y) :: st))) rfl rfl rfl
theorem s217_154 : ji_Ev C 217 154 M lv [.int x] o ↔ o = (some (.int x), M) := ev_ireti rfl rfl
theorem s218_0 : ji_Ev C 218 0 M (some (.ref a) :: l) st o ↔ ji_Ev C 218 1 M (some (.ref a) :: l) (.ref a :: st) o := ev_go (S := (1, M, (some (.ref a) :: l), (.ref a :: st))) rfl rfl rfl
theorem s218_1 : ji_Ev C 218 1 M (l0 :: some (.int x) :: l) st o ↔ ji_Ev C 218 2 M (l0 :: some (.int x) :: l) (.int x :: st) o := ev_go (S := (2, M, (l0 :: some (.int x) :: l), (.int x :: st))) rfl rfl rfl
theorem s218_2 : ji_Ev C 218 2 M lv st o ↔ ji_Ev C 218 3 M lv (.int 1 :: st) o := ev_go (S := (3, M, lv, (.int 1 :: st))) rfl rfl rfl
theorem s218_3 : ji_Ev C 218 3 M lv st o ↔ ji_Ev C 218 6 M lv (.int 999 :: st) o := ev_go (S := (6, M, lv, (.int 999 :: st))) rfl rfl rfl
theorem s218_6 : ji_Ev C 218 6 M lv (p2 :: p1 :: p0 :: .ref a :: st) o ↔ (ji_rcb M 9 (.ref a) = true ∧ ji_ok8 st) ∧ ji_evC (C 158 [.ref a, p0, p1, p2] M) (fun v M' => ji_Ev C 218 9 M' lv (v.toList ++ st) o) := ev_inv (k := 218) rfl cd_9_255 rfl
theorem s218_9 : ji_Ev C 218 9 M lv (.int x :: st) o ↔ if x = 0 then ji_Ev C 218 24 M lv st o else ji_Ev C 218 12 M lv st o := ev_brz (c := .eq) rfl (by decide) rfl
theorem s218_12 : ji_Ev C 218 12 M (some (.ref a) :: l) st o ↔ ji_Ev C 218 13 M (some (.ref a) :: l) (.ref a :: st) o := ev_go (S := (13, M, (some (.ref a) :: l), (.ref a :: st))) rfl rfl rfl
theorem s218_13 : ji_Ev C 218 13 M (l0 :: l1 :: some (.int x) :: l) st o ↔ ji_Ev C 218 14 M (l0 :: l1 :: some (.int x) :: l) (.int x :: st) o := ev_go (S := (14, M, (l0 :: l1 :: some (.int x) :: l), (.int x :: st))) rfl rfl rfl
theorem s218_14 : ji_Ev C 218 14 M lv st o ↔ ji_Ev C 218 15 M lv (.int 0 :: st) o := ev_go (S := (15, M, lv, (.int 0 :: st))) rfl rfl rfl
theorem s218_15 : ji_Ev C 218 15 M lv st o ↔ ji_Ev C 218 18 M lv (.int 999 :: st) o := ev_go (S := (18, M, lv, (.int 999 :: st))) rfl rfl rfl
theorem s218_18 : ji_Ev C 218 18 M lv (p2 :: p1 :: p0 :: .ref a :: st) o ↔ (ji_rcb M 9 (.ref a) = true ∧ ji_ok8 st) ∧ ji_evC (C 158 [.ref a, p0, p1, p2] M) (fun v M' => ji_Ev C 218 21 M' lv (v.toList ++ st) o) := ev_inv (k := 218) rfl cd_9_255 rfl
theorem s218_21 : ji_Ev C 218 21 M lv (.int x :: st) o ↔ if x = 0 then ji_Ev C 218 24 M lv st o else ji_Ev C 218 27 M lv st o := ev_brz (c := .ne) rfl (by decide) rfl
theorem s218_24 : ji_Ev C 218 24 M lv st o ↔ ji_Ev C 218 26 M lv (.int (-2) :: st) o := ev_go (S := (26, M, lv, (.int (-2) :: st))) rfl rfl rfl
theorem s218_26 : ji_Ev C 218 26 M lv [.int x] o ↔ o = (some (.int x), M) := ev_ireti rfl rfl
theorem s218_27 : ji_Ev C 218 27 M (some (.ref a) :: l) st o ↔ ji_Ev C 218 28 M (some (.ref a) :: l) (.ref a :: st) o := ev_go (S := (28, M, (some (.ref a) :: l), (.ref a :: st))) rfl rfl rfl
theorem s218_28 : ji_Ev C 218 28 M lv (.ref a :: st) o ↔ ji_kd M a = some (0, 9) ∧ ji_Ev C 218 31 M lv (.int (ji_gI M a 71) :: st) o := ev_getI (k := 218) rfl fd_9_225 rfl
theorem s218_31 : ji_Ev C 218 31 M lv st o ↔ ji_Ev C 218 33 M lv (.int 6 :: st) o := ev_go (S := (33, M, lv, (.int 6 :: st))) rfl rfl rfl
theorem s218_33 : ji_Ev C 218 33 M lv (.int y :: .int x :: st) o ↔ if x = y then ji_Ev C 218 36 M lv st o else ji_Ev C 218 39 M lv st o := ev_brc (c := .ne) rfl (by decide) rfl
theorem s218_36 : ji_Ev C 218 36 M lv st o ↔ ji_Ev C 218 38 M lv (.int (-4) :: st) o := ev_go (S := (38, M, lv, (.int (-4) :: st))) rfl rfl rfl
theorem s218_38 : ji_Ev C 218 38 M lv [.int x] o ↔ o = (some (.int x), M) := ev_ireti rfl rfl
theorem s218_39 : ji_Ev C 218 39 M (some (.ref a) :: l) st o ↔ ji_Ev C 218 40 M (some (.ref a) :: l) (.ref a :: st) o := ev_go (S := (40, M, (some (.ref a) :: l), (.ref a :: st))) rfl rfl rfl
theorem s218_40 : ji_Ev C 218 40 M lv (.ref a :: st) o ↔ ji_kd M a = some (0, 9) ∧ ji_Ev C 218 43 M lv (ji_rv (ji_gR M a 72) :: st) o := ev_getR (k := 218) rfl fd_9_228 rfl
theorem s218_43 : ji_Ev C 218 43 M (some (.ref a) :: l) st o ↔ ji_Ev C 218 44 M (some (.ref a) :: l) (.ref a :: st) o := ev_go (S := (44, M, (some (.ref a) :: l), (.ref a :: st))) rfl rfl rfl
theorem s218_44 : ji_Ev C 218 44 M lv (.ref a :: st) o ↔ ji_kd M a = some (0, 9) ∧ ji_Ev C 218 47 M lv (.int (ji_gI M a 71) :: st) o := ev_getI (k := 218) rfl fd_9_225 rfl
theorem s218_47 : ji_Ev C 218 47 M (l0 :: some (.int x) :: l) st o ↔ ji_Ev C 218 48 M (l0 :: some (.int x) :: l) (.int x :: st) o := ev_go (S := (48, M, (l0 :: some (.int x) :: l), (.int x :: st))) rfl rfl rfl
theorem s218_48 : ji_Ev C 218 48 M lv (.int y :: .int x :: .ref a :: st) o ↔ ji_evA (ji_kd M a) (fun n => vp_in x n ∧ ji_Ev C 218 49 (ji_sI M a x.toNatClampNeg y) lv st o) := ev_iast rfl
theorem s218_49 : ji_Ev C 218 49 M (some (.ref a) :: l) st o ↔ ji_Ev C 218 50 M (some (.ref a) :: l) (.ref a :: st) o := ev_go (S := (50, M, (some (.ref a) :: l), (.ref a :: st))) rfl rfl rfl
theorem s218_50 : ji_Ev C 218 50 M lv (.ref a :: st) o ↔ ji_kd M a = some (0, 9) ∧ ji_Ev C 218 53 M lv (ji_rv (ji_gR M a 73) :: st) o := ev_getR (k := 218) rfl fd_9_231 rfl
theorem s218_53 : ji_Ev C 218 53 M (some (.ref a) :: l) st o ↔ ji_Ev C 218 54 M (some (.ref a) :: l) (.ref a :: st) o := ev_go (S := (54, M, (some (.ref a) :: l), (.ref a :: st))) rfl rfl rfl
theorem s218_54 : ji_Ev C 218 54 M lv (.ref a :: st) o ↔ ji_kd M a = some (0, 9) ∧ ji_Ev C 218 57 M lv (.int (ji_gI M a 71) :: st) o := ev_getI (k := 218) rfl fd_9_225 rfl
theorem s218_57 : ji_Ev C 218 57 M (l0 :: l1 :: some (.int x) :: l) st o ↔ ji_Ev C 218 58 M (l0 :: l1 :: some (.int x) :: l) (.int x :: st) o := ev_go (S := (58, M, (l0 :: l1 :: some (.int x) :: l), (.int x :: st))) rfl rfl rfl
theorem s218_58 : ji_Ev C 218 58 M lv (.int y :: .int x :: .ref a :: st) o ↔ ji_evA (ji_kd M a) (fun n => vp_in x n ∧ ji_Ev C 218 59 (ji_sI M a x.toNatClampNeg y) lv st o) := ev_iast rfl
theorem s218_59 : ji_Ev C 218 59 M (some (.ref a) :: l) st o ↔ ji_Ev C 218 60 M (some (.ref a) :: l) (.ref a :: st) o := ev_go (S := (60, M, (some (.ref a) :: l), (.ref a :: st))) rfl rfl rfl
theorem s218_60 : ji_Ev C 218 60 M lv (.int x :: st) o ↔ ji_Ev C 218 61 M lv (.int x :: .int x :: st) o := ev_go (S := (61, M, lv, (.int x :: .int x :: st))) rfl rfl rfl
theorem s218_60r : ji_Ev C 218 60 M lv (.ref a :: st) o ↔ ji_Ev C 218 61 M lv (.ref a :: .ref a :: st) o := ev_go (S := (61, M, lv, (.ref a :: .ref a :: st))) rfl rfl rfl
theorem s218_61 : ji_Ev C 218 61 M lv (.ref a :: st) o ↔ ji_kd M a = some (0, 9) ∧ ji_Ev C 218 64 M lv (.int (ji_gI M a 71) :: st) o := ev_getI (k := 218) rfl fd_9_225 rfl
theorem s218_64 : ji_Ev C 218 64 M lv st o ↔ ji_Ev C 218 65 M lv (.int 1 :: st) o := ev_go (S := (65, M, lv, (.int 1 :: st))) rfl rfl rfl
theorem s218_65 : ji_Ev C 218 65 M lv (.int y :: .int x :: st) o ↔ ji_Ev C 218 66 M lv (.int (x + y) :: st) o := ev_go (S := (66, M, lv, (.int (x + y) :: st))) rfl rfl rfl
theorem s218_66 : ji_Ev C 218 66 M lv (.int x :: .ref a :: st) o ↔ ji_kd M a = some (0, 9) ∧ ji_Ev C 218 69 (ji_sI M a 71 x) lv st o := ev_putI (k := 218) rfl fd_9_225 rfl (by decide)
theorem s218_69 : ji_Ev C 218 69 M (some (.ref a) :: l) st o ↔ ji_Ev C 218 70 M (some (.ref a) :: l) (.ref a :: st) o := ev_go (S := (70, M, (some (.ref a) :: l), (.ref a :: st))) rfl rfl rfl
theorem s218_70 : ji_Ev C 218 70 M lv (.ref a :: st) o ↔ ji_kd M a = some (0, 9) ∧ ji_Ev C 218 73 M lv (.int (ji_gI M a 71) :: st) o := ev_getI (k := 218) rfl fd_9_225 rfl
theorem s218_73 : ji_Ev C 218 73 M lv st o ↔ ji_Ev C 218 74 M lv (.int 1 :: st) o := ev_go (S := (74, M, lv, (.int 1 :: st))) rfl rfl rfl
theorem s218_74 : ji_Ev C 218 74 M lv (.int y :: .int x :: st) o ↔ ji_Ev C 218 75 M lv (.int (x - y) :: st) o := ev_go (S := (75, M, lv, (.int (x - y) :: st))) rfl rfl rfl
theorem s218_75 : ji_Ev C 218 75 M lv [.int x] o ↔ o = (some (.int x), M) := ev_ireti rfl rfl
theorem s219_0 : ji_Ev C 219 0 M (some (.ref a) :: l) st o ↔ ji_Ev C 219 1 M (some (.ref a) :: l) (.ref a :: st) o := ev_go (S := (1, M, (some (.ref a) :: l), (.ref a :: st))) rfl rfl rfl
theorem s219_1 : ji_Ev C 219 1 M (l0 :: some (.int x) :: l) st o ↔ ji_Ev C 219 2 M (l0 :: some (.int x) :: l) (.int x :: st) o := ev_go (S := (2, M, (l0 :: some (.int x) :: l), (.int x :: st))) rfl rfl rfl
theorem s219_2 : ji_Ev C 219 2 M lv st o ↔ ji_Ev C 219 3 M lv (.int 1 :: st) o := ev_go (S := (3, M, lv, (.int 1 :: st))) rfl rfl rfl
theorem s219_3 : ji_Ev C 219 3 M lv st o ↔ ji_Ev C 219 4 M lv (.int 4 :: st) o := ev_go (S := (4, M, lv, (.int 4 :: st))) rfl rfl rfl
theorem s219_4 : ji_Ev C 219 4 M lv (p2 :: p1 :: p0 :: .ref a :: st) o ↔ (ji_rcb M 9 (.ref a) = true ∧ ji_ok8 st) ∧ ji_evC (C 158 [.ref a, p0, p1, p2] M) (fun v M' => ji_Ev C 219 7 M' lv (v.toList ++ st) o) := ev_inv (k := 219) rfl cd_9_255 rfl
theorem s219_7 : ji_Ev C 219 7 M lv (.int x :: st) o ↔ if x = 0 then ji_Ev C 219 22 M lv st o else ji_Ev C 219 10 M lv st o := ev_brz (c := .eq) rfl (by decide) rfl
theorem s219_10 : ji_Ev C 219 10 M (some (.ref a) :: l) st o ↔ ji_Ev C 219 11 M (some (.ref a) :: l) (.ref a :: st) o := ev_go (S := (11, M, (some (.ref a) :: l), (.ref a :: st))) rfl rfl rfl
theorem s219_11 : ji_Ev C 219 11 M (l0 :: l1 :: some (.int x) :: l) st o ↔ ji_Ev C 219 12 M (l0 :: l1 :: some (.int x) :: l) (.int x :: st) o := ev_go (S := (12, M, (l0 :: l1 :: some (.int x) :: l), (.int x :: st))) rfl rfl rfl
theorem s219_12 : ji_Ev C 219 12 M lv st o ↔ ji_Ev C 219 13 M lv (.int 0 :: st) o := ev_go (S := (13, M, lv, (.int 0 :: st))) rfl rfl rfl
theorem s219_13 : ji_Ev C 219 13 M lv st o ↔ ji_Ev C 219 16 M lv (.int 9999 :: st) o := ev_go (S := (16, M, lv, (.int 9999 :: st))) rfl rfl rfl
theorem s219_16 : ji_Ev C 219 16 M lv (p2 :: p1 :: p0 :: .ref a :: st) o ↔ (ji_rcb M 9 (.ref a) = true ∧ ji_ok8 st) ∧ ji_evC (C 158 [.ref a, p0, p1, p2] M) (fun v M' => ji_Ev C 219 19 M' lv (v.toList ++ st) o) := ev_inv (k := 219) rfl cd_9_255 rfl
theorem s219_19 : ji_Ev C 219 19 M lv (.int x :: st) o ↔ if x = 0 then ji_Ev C 219 22 M lv st o else ji_Ev C 219 25 M lv st o := ev_brz (c := .ne) rfl (by decide) rfl
theorem s219_22 : ji_Ev C 219 22 M lv st o ↔ ji_Ev C 219 24 M lv (.int (-2) :: st) o := ev_go (S := (24, M, lv, (.int (-2) :: st))) rfl rfl rfl
theorem s219_24 : ji_Ev C 219 24 M lv [.int x] o ↔ o = (some (.int x), M) := ev_ireti rfl rfl
theorem s219_25 : ji_Ev C 219 25 M (some (.ref a) :: l) st o ↔ ji_Ev C 219 26 M (some (.ref a) :: l) (.ref a :: st) o := ev_go (S := (26, M, (some (.ref a) :: l), (.ref a :: st))) rfl rfl rfl
theorem s219_26 : ji_Ev C 219 26 M (l0 :: l1 :: l2 :: some (.int x) :: l) st o ↔ ji_Ev C 219 27 M (l0 :: l1 :: l2 :: some (.int x) :: l) (.int x :: st) o := ev_go (S := (27, M, (l0 :: l1 :: l2 :: some (.int x) :: l), (.int x :: st))) rfl rfl rfl
theorem s219_27 : ji_Ev C 219 27 M lv st o ↔ ji_Ev C 219 29 M lv (.int (-2) :: st) o := ev_go (S := (29, M, lv, (.int (-2) :: st))) rfl rfl rfl
theorem s219_29 : ji_Ev C 219 29 M (some (.ref a) :: l) st o ↔ ji_Ev C 219 30 M (some (.ref a) :: l) (.ref a :: st) o := ev_go (S := (30, M, (some (.ref a) :: l), (.ref a :: st))) rfl rfl rfl
theorem s219_30 : ji_Ev C 219 30 M lv (.ref a :: st) o ↔ ji_kd M a = some (0, 9) ∧ ji_Ev C 219 33 M lv (.int (ji_gI M a 71) :: st) o := ev_getI (k := 219) rfl fd_9_225 rfl
theorem s219_33 : ji_Ev C 219 33 M lv st o ↔ ji_Ev C 219 34 M lv (.int 1 :: st) o := ev_go (S := (34, M, lv, (.int 1 :: st))) rfl rfl rfl
theorem s219_34 : ji_Ev C 219 34 M lv (.int y :: .int x :: st) o ↔ ji_Ev C 219 35 M lv (.int (x - y) :: st) o := ev_go (S := (35, M, lv, (.int (x - y) :: st))) rfl rfl rfl
theorem s219_35 : ji_Ev C 219 35 M lv (p2 :: p1 :: p0 :: .ref a :: st) o ↔ (ji_rcb M 9 (.ref a) = true ∧ ji_ok8 st) ∧ ji_evC (C 158 [.ref a, p0, p1, p2] M) (fun v M' => ji_Ev C 219 38 M' lv (v.toList ++ st) o) := ev_inv (k := 219) rfl cd_9_255 rfl
theorem s219_38 : ji_Ev C 219 38 M lv (.int x :: st) o ↔ if x = 0 then ji_Ev C 219 41 M lv st o else ji_Ev C 219 43 M lv st o := ev_brz (c := .ne) rfl (by decide) rfl
theorem s219_41 : ji_Ev C 219 41 M lv st o ↔ ji_Ev C 219 42 M lv (.int (-1) :: st) o := ev_go (S := (42, M, lv, (.int (-1) :: st))) rfl rfl rfl
theorem s219_42 : ji_Ev C 219 42 M lv [.int x] o ↔ o = (some (.int x), M) := ev_ireti rfl rfl
theorem s219_43 : ji_Ev C 219 43 M lv st o ↔ ji_Ev C 219 44 M lv (.int 1 :: st) o := ev_go (S := (44, M, lv, (.int 1 :: st))) rfl rfl rfl
theorem s219_44 : ji_Ev C 219 44 M lv (.int x :: st) o ↔ 4 < lv.length ∧ ji_Ev C 219 46 M (ji_s1 lv 4 (.int x)) st o := ev_stI rfl rfl rfl
theorem s219_46 : ji_Ev C 219 46 M lv st o ↔ ji_Ev C 219 47 M lv (.int 0 :: st) o := ev_go (S := (47, M, lv, (.int 0 :: st))) rfl rfl rfl
theorem s219_47 : ji_Ev C 219 47 M lv (.int x :: st) o ↔ 5 < lv.length ∧ ji_Ev C 219 49 M (ji_s1 lv 5 (.int x)) st o := ev_stI rfl rfl rfl
theorem s219_49 : ji_Ev C 219 49 M (l0 :: l1 :: l2 :: l3 :: l4 :: some (.int x) :: l) st o ↔ ji_Ev C 219 51 M (l0 :: l1 :: l2 :: l3 :: l4 :: some (.int x) :: l) (.int x :: st) o := ev_go (S := (51, M, (l0 :: l1 :: l2 :: l3 :: l4 :: some (.int x) :: l), (.int x :: st))) rfl rfl rfl
theorem s219_51 : ji_Ev C 219 51 M (some (.ref a) :: l) st o ↔ ji_Ev C 219 52 M (some (.ref a) :: l) (.ref a :: st) o := ev_go (S := (52, M, (some (.ref a) :: l), (.ref a :: st))) rfl rfl rfl
theorem s219_52 : ji_Ev C 219 52 M lv (.ref a :: st) o ↔ ji_kd M a = some (0, 9) ∧ ji_Ev C 219 55 M lv (.int (ji_gI M a 71) :: st) o := ev_getI (k := 219) rfl fd_9_225 rfl
theorem s219_55 : ji_Ev C 219 55 M lv (.int y :: .int x :: st) o ↔ if x < y then ji_Ev C 219 58 M lv st o else ji_Ev C 219 72 M lv st o := ev_brc (c := .ge) rfl (by decide) rfl
theorem s219_58 : ji_Ev C 219 58 M (l0 :: l1 :: l2 :: l3 :: some (.int x) :: l) st o ↔ ji_Ev C 219 60 M (l0 :: l1 :: l2 :: l3 :: some (.int x) :: l) (.int x :: st) o := ev_go (S := (60, M, (l0 :: l1 :: l2 :: l3 :: some (.int x) :: l), (.int x :: st))) rfl rfl rfl
theorem s219_60 : ji_Ev C 219 60 M (l0 :: some (.int x) :: l) st o ↔ ji_Ev C 219 61 M (l0 :: some (.int x) :: l) (.int x :: st) o := ev_go (S := (61, M, (l0 :: some (.int x) :: l), (.int x :: st))) rfl rfl rfl
theorem s219_61 : ji_Ev C 219 61 M lv st o ↔ ji_Ev C 219 62 M lv (.int 1 :: st) o := ev_go (S := (62, M, lv, (.int 1 :: st))) rfl rfl rfl
theorem s219_62 : ji_Ev C 219 62 M lv (.int y :: .int x :: st) o ↔ ji_Ev C 219 63 M lv (.int (x + y) :: st) o := ev_go (S := (63, M, lv, (.int (x + y) :: st))) rfl rfl rfl
theorem s219_63 : ji_Ev C 219 63 M lv (.int y :: .int x :: st) o ↔ ji_Ev C 219 64 M lv (.int (x * y) :: st) o := ev_go (S := (64, M, lv, (.int (x * y) :: st))) rfl rfl rfl
theorem s219_64 : ji_Ev C 219 64 M lv (.int x :: st) o ↔ 4 < lv.length ∧ ji_Ev C 219 66 M (ji_s1 lv 4 (.int x)) st o := ev_stI rfl rfl rfl
theorem s219_66 : ji_Ev C 219 66 M lv st o ↔ ji_evL (lv.getD 5 none) ji_isI (fun v => match v with | .int x => 5 < lv.length ∧ ji_Ev C 219 69 M (ji_s1 lv 5 (.int (x + Int32.ofInt 1))) st o | _ => False) := ev_iinc rfl
theorem s219_69 : ji_Ev C 219 69 M lv st o ↔ ji_Ev C 219 49 M lv st o := ev_gt rfl (by decide) rfl
theorem s219_72 : ji_Ev C 219 72 M lv st o ↔ ji_Ev C 219 73 M lv (.int (-1) :: st) o := ev_go (S := (73, M, lv, (.int (-1) :: st))) rfl rfl rfl
theorem s219_73 : ji_Ev C 219 73 M lv (.int x :: st) o ↔ 5 < lv.length ∧ ji_Ev C 219 75 M (ji_s1 lv 5 (.int x)) st o := ev_stI rfl rfl rfl
theorem s219_75 : ji_Ev C 219 75 M lv st o ↔ ji_Ev C 219 76 M lv (.int 0 :: st) o := ev_go (S := (76, M, lv, (.int 0 :: st))) rfl rfl rfl
theorem s219_76 : ji_Ev C 219 76 M lv (.int x :: st) o ↔ 6 < lv.length ∧ ji_Ev C 219 78 M (ji_s1 lv 6 (.int x)) st o := ev_stI rfl rfl rfl
theorem s219_78 : ji_Ev C 219 78 M lv st o ↔ ji_Ev C 219 79 M lv (.int 0 :: st) o := ev_go (S := (79, M, lv, (.int 0 :: st))) rfl rfl rfl
theorem s219_79 : ji_Ev C 219 79 M lv (.int x :: st) o ↔ 7 < lv.length ∧ ji_Ev C 219 81 M (ji_s1 lv 7 (.int x)) st o := ev_stI rfl rfl rfl
theorem s219_81 : ji_Ev C 219 81 M (l0 :: l1 :: l2 :: l3 :: l4 :: l5 :: l6 :: some (.int x) :: l) st o ↔ ji_Ev C 219 83 M (l0 :: l1 :: l2 :: l3 :: l4 :: l5 :: l6 :: some (.int x) :: l) (.int x :: st) o := ev_go (S := (83, M, (l0 :: l1 :: l2 :: l3 :: l4 :: l5 :: l6 :: some (.int x) :: l), (.int x :: st))) rfl rfl rfl
theorem s219_83 : ji_Ev C 219 83 M (l0 :: l1 :: l2 :: l3 :: some (.int x) :: l) st o ↔ ji_Ev C 219 85 M (l0 :: l1 :: l2 :: l3 :: some (.int x) :: l) (.int x :: st) o := ev_go (S := (85, M, (l0 :: l1 :: l2 :: l3 :: some (.int x) :: l), (.int x :: st))) rfl rfl rfl
theorem s219_85 : ji_Ev C 219 85 M lv (.int y :: .int x :: st) o ↔ if x < y then ji_Ev C 219 88 M lv st o else ji_Ev C 219 284 M lv st o := ev_brc (c := .ge) rfl (by decide) rfl
theorem s219_88 : ji_Ev C 219 88 M (l0 :: l1 :: l2 :: l3 :: l4 :: l5 :: l6 :: some (.int x) :: l) st o ↔ ji_Ev C 219 90 M (l0 :: l1 :: l2 :: l3 :: l4 :: l5 :: l6 :: some (.int x) :: l) (.int x :: st) o := ev_go (S := (90, M, (l0 :: l1 :: l2 :: l3 :: l4 :: l5 :: l6 :: some (.int x) :: l), (.int x :: st))) rfl rfl rfl
theorem s219_90 : ji_Ev C 219 90 M lv (.int x :: st) o ↔ 8 < lv.length ∧ ji_Ev C 219 92 M (ji_s1 lv 8 (.int x)) st o := ev_stI rfl rfl rfl
theorem s219_92 : ji_Ev C 219 92 M (some (.ref a) :: l) st o ↔ ji_Ev C 219 93 M (some (.ref a) :: l) (.ref a :: st) o := ev_go (S := (93, M, (some (.ref a) :: l), (.ref a :: st))) rfl rfl rfl
theorem s219_93 : ji_Ev C 219 93 M lv (.ref a :: st) o ↔ ji_kd M a = some (0, 9) ∧ ji_Ev C 219 96 M lv (.int (ji_gI M a 71) :: st) o := ev_getI (k := 219) rfl fd_9_225 rfl
theorem s219_96 : ji_Ev C 219 96 M lv st o ↔ ji_Ev C 219 97 M lv (.int 1 :: st) o := ev_go (S := (97, M, lv, (.int 1 :: st))) rfl rfl rfl
theorem s219_97 : ji_Ev C 219 97 M lv (.int y :: .int x :: st) o ↔ ji_Ev C 219 98 M lv (.int (x - y) :: st) o := ev_go (S := (98, M, lv, (.int (x - y) :: st))) rfl rfl rfl
theorem s219_98 : ji_Ev C 219 98 M lv (.int x :: st) o ↔ 9 < lv.length ∧ ji_Ev C 219 100 M (ji_s1 lv 9 (.int x)) st o := ev_stI rfl rfl rfl
theorem s219_100 : ji_Ev C 219 100 M (l0 :: l1 :: l2 :: l3 :: l4 :: l5 :: l6 :: l7 :: l8 :: some (.int x) :: l) st o ↔ ji_Ev C 219 102 M (l0 :: l1 :: l2 :: l3 :: l4 :: l5 :: l6 :: l7 :: l8 :: some (.int x) :: l) (.int x :: st) o := ev_go (S := (102, M, (l0 :: l1 :: l2 :: l3 :: l4 :: l5 :: l6 :: l7 :: l8 :: some (.int x) :: l), (.int x :: st))) rfl rfl rfl
theorem s219_102 : ji_Ev C 219 102 M lv (.int x :: st) o ↔ if x < 0 then ji_Ev C 219 132 M lv st o else ji_Ev C 219 105 M lv st o := ev_brz (c := .lt) rfl (by decide) rfl
theorem s219_105 : ji_Ev C 219 105 M (some (.ref a) :: l) st o ↔ ji_Ev C 219 106 M (some (.ref a) :: l) (.ref a :: st) o := ev_go (S := (106, M, (some (.ref a) :: l), (.ref a :: st))) rfl rfl rfl
theorem s219_106 : ji_Ev C 219 106 M lv (.ref a :: st) o ↔ ji_kd M a = some (0, 9) ∧ ji_Ev C 219 109 M lv (ji_rv (ji_gR M a 74) :: st) o := ev_getR (k := 219) rfl fd_9_234 rfl
theorem s219_109 : ji_Ev C 219 109 M (l0 :: l1 :: l2 :: l3 :: l4 :: l5 :: l6 :: l7 :: l8 :: some (.int x) :: l) st o ↔ ji_Ev C 219 111 M (l0 :: l1 :: l2 :: l3 :: l4 :: l5 :: l6 :: l7 :: l8 :: some (.int x) :: l) (.int x :: st) o := ev_go (S := (111, M, (l0 :: l1 :: l2 :: l3 :: l4 :: l5 :: l6 :: l7 :: l8 :: some (.int x) :: l), (.int x :: st))) rfl rfl rfl
theorem s219_111 : ji_Ev C 219 111 M (l0 :: l1 :: l2 :: l3 :: l4 :: l5 :: l6 :: l7 :: some (.int x) :: l) st o ↔ ji_Ev C 219 113 M (l0 :: l1 :: l2 :: l3 :: l4 :: l5 :: l6 :: l7 :: some (.int x) :: l) (.int x :: st) o := ev_go (S := (113, M, (l0 :: l1 :: l2 :: l3 :: l4 :: l5 :: l6 :: l7 :: some (.int x) :: l), (.int x :: st))) rfl rfl rfl
theorem s219_113 : ji_Ev C 219 113 M (l0 :: some (.int x) :: l) st o ↔ ji_Ev C 219 114 M (l0 :: some (.int x) :: l) (.int x :: st) o := ev_go (S := (114, M, (l0 :: some (.int x) :: l), (.int x :: st))) rfl rfl rfl
theorem s219_114 : ji_Ev C 219 114 M lv st o ↔ ji_Ev C 219 115 M lv (.int 1 :: st) o := ev_go (S := (115, M, lv, (.int 1 :: st))) rfl rfl rfl
theorem s219_115 : ji_Ev C 219 115 M lv (.int y :: .int x :: st) o ↔ ji_Ev C 219 116 M lv (.int (x + y) :: st) o := ev_go (S := (116, M, lv, (.int (x + y) :: st))) rfl rfl rfl
theorem s219_116 : ji_Ev C 219 116 M lv (.int y :: .int x :: st) o ↔ ¬ y = 0 ∧ ji_Ev C 219 117 M lv (.int (x - x / y * y) :: st) o := ev_dvR rfl
theorem s219_117 : ji_Ev C 219 117 M lv (.int y :: .int x :: .ref a :: st) o ↔ ji_evA (ji_kd M a) (fun n => vp_in x n ∧ ji_Ev C 219 118 (ji_sI M a x.toNatClampNeg y) lv st o) := ev_iast rfl
theorem s219_118 : ji_Ev C 219 118 M (l0 :: l1 :: l2 :: l3 :: l4 :: l5 :: l6 :: l7 :: some (.int x) :: l) st o ↔ ji_Ev C 219 120 M (l0 :: l1 :: l2 :: l3 :: l4 :: l5 :: l6 :: l7 :: some (.int x) :: l) (.int x :: st) o := ev_go (S := (120, M, (l0 :: l1 :: l2 :: l3 :: l4 :: l5 :: l6 :: l7 :: some (.int x) :: l), (.int x :: st))) rfl rfl rfl
theorem s219_120 : ji_Ev C 219 120 M (l0 :: some (.int x) :: l) st o ↔ ji_Ev C 219 121 M (l0 :: some (.int x) :: l) (.int x :: st) o := ev_go (S := (121, M, (l0 :: some (.int x) :: l), (.int x :: st))) rfl rfl rfl
theorem s219_121 : ji_Ev C 219 121 M lv st o ↔ ji_Ev C 219 122 M lv (.int 1 :: st) o := ev_go (S := (122, M, lv, (.int 1 :: st))) rfl rfl rfl
theorem s219_122 : ji_Ev C 219 122 M lv (.int y :: .int x :: st) o ↔ ji_Ev C 219 123 M lv (.int (x + y) :: st) o := ev_go (S := (123, M, lv, (.int (x + y) :: st))) rfl rfl rfl
theorem s219_123 : ji_Ev C 219 123 M lv (.int y :: .int x :: st) o ↔ ¬ y = 0 ∧ ji_Ev C 219 124 M lv (.int (x / y) :: st) o := ev_dvI rfl
theorem s219_124 : ji_Ev C 219 124 M lv (.int x :: st) o ↔ 8 < lv.length ∧ ji_Ev C 219 126 M (ji_s1 lv 8 (.int x)) st o := ev_stI rfl rfl rfl
theorem s219_126 : ji_Ev C 219 126 M lv st o ↔ ji_evL (lv.getD 9 none) ji_isI (fun v => match v with | .int x => 9 < lv.length ∧ ji_Ev C 219 129 M (ji_s1 lv 9 (.int (x + Int32.ofInt (-1)))) st o | _ => False) := ev_iinc rfl
theorem s219_129 : ji_Ev C 219 129 M lv st o ↔ ji_Ev C 219 100 M lv st o := ev_gt rfl (by decide) rfl
theorem s219_132 : ji_Ev C 219 132 M lv st o ↔ ji_Ev C 219 133 M lv (.int 0 :: st) o := ev_go (S := (133, M, lv, (.int 0 :: st))) rfl rfl rfl
theorem s219_133 : ji_Ev C 219 133 M lv (.int x :: st) o ↔ 9 < lv.length ∧ ji_Ev C 219 135 M (ji_s1 lv 9 (.int x)) st o := ev_stI rfl rfl rfl
theorem s219_135 : ji_Ev C 219 135 M lv st o ↔ ji_Ev C 219 136 M lv (.int 0 :: st) o := ev_go (S := (136, M, lv, (.int 0 :: st))) rfl rfl rfl
theorem s219_136 : ji_Ev C 219 136 M lv (.int x :: st) o ↔ 10 < lv.length ∧ ji_Ev C 219 138 M (ji_s1 lv 10 (.int x)) st o := ev_stI rfl rfl rfl
theorem s219_138 : ji_Ev C 219 138 M lv st o ↔ ji_Ev C 219 139 M lv (.int 0 :: st) o := ev_go (S := (139, M, lv, (.int 0 :: st))) rfl rfl rfl
theorem s219_139 : ji_Ev C 219 139 M lv (.int x :: st) o ↔ 11 < lv.length ∧ ji_Ev C 219 141 M (ji_s1 lv 11 (.int x)) st o := ev_stI rfl rfl rfl
theorem s219_141 : ji_Ev C 219 141 M (l0 :: l1 :: l2 :: l3 :: l4 :: l5 :: l6 :: l7 :: l8 :: l9 :: l10 :: some (.int x) :: l) st o ↔ ji_Ev C 219 143 M (l0 :: l1 :: l2 :: l3 :: l4 :: l5 :: l6 :: l7 :: l8 :: l9 :: l10 :: some (.int x) :: l) (.int x :: st) o := ev_go (S := (143, M, (l0 :: l1 :: l2 :: l3 :: l4 :: l5 :: l6 :: l7 :: l8 :: l9 :: l10 :: some (.int x) :: l), (.int x :: st))) rfl rfl rfl
theorem s219_143 : ji_Ev C 219 143 M (some (.ref a) :: l) st o ↔ ji_Ev C 219 144 M (some (.ref a) :: l) (.ref a :: st) o := ev_go (S := (144, M, (some (.ref a) :: l), (.ref a :: st))) rfl rfl rfl
theorem s219_144 : ji_Ev C 219 144 M lv (.ref a :: st) o ↔ ji_kd M a = some (0, 9) ∧ ji_Ev C 219 147 M lv (.int (ji_gI M a 71) :: st) o := ev_getI (k := 219) rfl fd_9_225 rfl
theorem s219_147 : ji_Ev C 219 147 M lv (.int y :: .int x :: st) o ↔ if x < y then ji_Ev C 219 150 M lv st o else ji_Ev C 219 205 M lv st o := ev_brc (c := .ge) rfl (by decide) rfl
theorem s219_150 : ji_Ev C 219 150 M (l0 :: l1 :: l2 :: l3 :: l4 :: l5 :: l6 :: l7 :: l8 :: some (.int x) :: l) st o ↔ ji_Ev C 219 152 M (l0 :: l1 :: l2 :: l3 :: l4 :: l5 :: l6 :: l7 :: l8 :: some (.int x) :: l) (.int x :: st) o := ev_go (S := (152, M, (l0 :: l1 :: l2 :: l3 :: l4 :: l5 :: l6 :: l7 :: l8 :: some (.int x) :: l), (.int x :: st))) rfl rfl rfl
theorem s219_152 : ji_Ev C 219 152 M (some (.ref a) :: l) st o ↔ ji_Ev C 219 153 M (some (.ref a) :: l) (.ref a :: st) o := ev_go (S := (153, M, (some (.ref a) :: l), (.ref a :: st))) rfl rfl rfl
theorem s219_153 : ji_Ev C 219 153 M lv (.ref a :: st) o ↔ ji_kd M a = some (0, 9) ∧ ji_Ev C 219 156 M lv (ji_rv (ji_gR M a 73) :: st) o := ev_getR (k := 219) rfl fd_9_231 rfl
theorem s219_156 : ji_Ev C 219 156 M (l0 :: l1 :: l2 :: l3 :: l4 :: l5 :: l6 :: l7 :: l8 :: l9 :: l10 :: some (.int x) :: l) st o ↔ ji_Ev C 219 158 M (l0 :: l1 :: l2 :: l3 :: l4 :: l5 :: l6 :: l7 :: l8 :: l9 :: l10 :: some (.int x) :: l) (.int x :: st) o := ev_go (S := (158, M, (l0 :: l1 :: l2 :: l3 :: l4 :: l5 :: l6 :: l7 :: l8 :: l9 :: l10 :: some (.int x) :: l), (.int x :: st))) rfl rfl rfl
theorem s219_158 : ji_Ev C 219 158 M lv (.int x :: .ref a :: st) o ↔ ji_evA (ji_kd M a) (fun n => vp_in x n ∧ ji_Ev C 219 159 M lv (.int (ji_gI M a x.toNatClampNeg) :: st) o) := ev_iald rfl
theorem s219_159 : ji_Ev C 219 159 M (l0 :: some (.int x) :: l) st o ↔ ji_Ev C 219 160 M (l0 :: some (.int x) :: l) (.int x :: st) o := ev_go (S := (160, M, (l0 :: some (.int x) :: l), (.int x :: st))) rfl rfl rfl
theorem s219_160 : ji_Ev C 219 160 M (some (.ref a) :: l) st o ↔ ji_Ev C 219 161 M (some (.ref a) :: l) (.ref a :: st) o := ev_go (S := (161, M, (some (.ref a) :: l), (.ref a :: st))) rfl rfl rfl
theorem s219_161 : ji_Ev C 219 161 M lv (.ref a :: st) o ↔ ji_kd M a = some (0, 9) ∧ ji_Ev C 219 164 M lv (ji_rv (ji_gR M a 74) :: st) o := ev_getR (k := 219) rfl fd_9_234 rfl
theorem s219_164 : ji_Ev C 219 164 M (l0 :: l1 :: l2 :: l3 :: l4 :: l5 :: l6 :: l7 :: l8 :: l9 :: l10 :: some (.int x) :: l) st o ↔ ji_Ev C 219 166 M (l0 :: l1 :: l2 :: l3 :: l4 :: l5 :: l6 :: l7 :: l8 :: l9 :: l10 :: some (.int x) :: l) (.int x :: st) o := ev_go (S := (166, M, (l0 :: l1 :: l2 :: l3 :: l4 :: l5 :: l6 :: l7 :: l8 :: l9 :: l10 :: some (.int x) :: l), (.int x :: st))) rfl rfl rfl
theorem s219_166 : ji_Ev C 219 166 M lv (.int x :: .ref a :: st) o ↔ ji_evA (ji_kd M a) (fun n => vp_in x n ∧ ji_Ev C 219 167 M lv (.int (ji_gI M a x.toNatClampNeg) :: st) o) := ev_iald rfl
theorem s219_167 : ji_Ev C 219 167 M lv (.int y :: .int x :: st) o ↔ ji_Ev C 219 168 M lv (.int (x - y) :: st) o := ev_go (S := (168, M, lv, (.int (x - y) :: st))) rfl rfl rfl
theorem s219_168 : ji_Ev C 219 168 M lv (.int y :: .int x :: st) o ↔ ji_Ev C 219 169 M lv (.int (x * y) :: st) o := ev_go (S := (169, M, lv, (.int (x * y) :: st))) rfl rfl rfl
theorem s219_169 : ji_Ev C 219 169 M lv (.int y :: .int x :: st) o ↔ ji_Ev C 219 170 M lv (.int (x + y) :: st) o := ev_go (S := (170, M, lv, (.int (x + y) :: st))) rfl rfl rfl
theorem s219_170 : ji_Ev C 219 170 M lv (.int x :: st) o ↔ 9 < lv.length ∧ ji_Ev C 219 172 M (ji_s1 lv 9 (.int x)) st o := ev_stI rfl rfl rfl
theorem s219_172 : ji_Ev C 219 172 M (l0 :: l1 :: l2 :: l3 :: l4 :: l5 :: l6 :: l7 :: l8 :: l9 :: some (.int x) :: l) st o ↔ ji_Ev C 219 174 M (l0 :: l1 :: l2 :: l3 :: l4 :: l5 :: l6 :: l7 :: l8 :: l9 :: some (.int x) :: l) (.int x :: st) o := ev_go (S := (174, M, (l0 :: l1 :: l2 :: l3 :: l4 :: l5 :: l6 :: l7 :: l8 :: l9 :: some (.int x) :: l), (.int x :: st))) rfl rfl rfl
theorem s219_174 : ji_Ev C 219 174 M (some (.ref a) :: l) st o ↔ ji_Ev C 219 175 M (some (.ref a) :: l) (.ref a :: st) o := ev_go (S := (175, M, (some (.ref a) :: l), (.ref a :: st))) rfl rfl rfl
theorem s219_175 : ji_Ev C 219 175 M lv (.ref a :: st) o ↔ ji_kd M a = some (0, 9) ∧ ji_Ev C 219 178 M lv (ji_rv (ji_gR M a 74) :: st) o := ev_getR (k := 219) rfl fd_9_234 rfl
theorem s219_178 : ji_Ev C 219 178 M (l0 :: l1 :: l2 :: l3 :: l4 :: l5 :: l6 :: l7 :: l8 :: l9 :: l10 :: some (.int x) :: l) st o ↔ ji_Ev C 219 180 M (l0 :: l1 :: l2 :: l3 :: l4 :: l5 :: l6 :: l7 :: l8 :: l9 :: l10 :: some (.int x) :: l) (.int x :: st) o := ev_go (S := (180, M, (l0 :: l1 :: l2 :: l3 :: l4 :: l5 :: l6 :: l7 :: l8 :: l9 :: l10 :: some (.int x) :: l), (.int x :: st))) rfl rfl rfl
theorem s219_180 : ji_Ev C 219 180 M lv (.int x :: .ref a :: st) o ↔ ji_evA (ji_kd M a) (fun n => vp_in x n ∧ ji_Ev C 219 181 M lv (.int (ji_gI M a x.toNatClampNeg) :: st) o) := ev_iald rfl
theorem s219_181 : ji_Ev C 219 181 M (l0 :: some (.int x) :: l) st o ↔ ji_Ev C 219 182 M (l0 :: some (.int x) :: l) (.int x :: st) o := ev_go (S := (182, M, (l0 :: some (.int x) :: l), (.int x :: st))) rfl rfl rfl
theorem s219_182 : ji_Ev C 219 182 M lv (.int y :: .int x :: st) o ↔ if x < y then ji_Ev C 219 185 M lv st o else ji_Ev C 219 195 M lv st o := ev_brc (c := .ge) rfl (by decide) rfl
theorem s219_185 : ji_Ev C 219 185 M (some (.ref a) :: l) st o ↔ ji_Ev C 219 186 M (some (.ref a) :: l) (.ref a :: st) o := ev_go (S := (186, M, (some (.ref a) :: l), (.ref a :: st))) rfl rfl rfl
theorem s219_186 : ji_Ev C 219 186 M lv (.ref a :: st) o ↔ ji_kd M a = some (0, 9) ∧ ji_Ev C 219 189 M lv (ji_rv (ji_gR M a 72) :: st) o := ev_getR (k := 219) rfl fd_9_228 rfl
theorem s219_189 : ji_Ev C 219 189 M (l0 :: l1 :: l2 :: l3 :: l4 :: l5 :: l6 :: l7 :: l8 :: l9 :: l10 :: some (.int x) :: l) st o ↔ ji_Ev C 219 191 M (l0 :: l1 :: l2 :: l3 :: l4 :: l5 :: l6 :: l7 :: l8 :: l9 :: l10 :: some (.int x) :: l) (.int x :: st) o := ev_go (S := (191, M, (l0 :: l1 :: l2 :: l3 :: l4 :: l5 :: l6 :: l7 :: l8 :: l9 :: l10 :: some (.int x) :: l), (.int x :: st))) rfl rfl rfl
theorem s219_191 : ji_Ev C 219 191 M lv (.int x :: .ref a :: st) o ↔ ji_evA (ji_kd M a) (fun n => vp_in x n ∧ ji_Ev C 219 192 M lv (.int (ji_gI M a x.toNatClampNeg) :: st) o) := ev_iald rfl
theorem s219_192 : ji_Ev C 219 192 M lv st o ↔ ji_Ev C 219 196 M lv st o := ev_gt rfl (by decide) rfl
theorem s219_195 : ji_Ev C 219 195 M lv st o ↔ ji_Ev C 219 196 M lv (.int 0 :: st) o := ev_go (S := (196, M, lv, (.int 0 :: st))) rfl rfl rfl
theorem s219_196 : ji_Ev C 219 196 M lv (.int y :: .int x :: st) o ↔ ji_Ev C 219 197 M lv (.int (x + y) :: st) o := ev_go (S := (197, M, lv, (.int (x + y) :: st))) rfl rfl rfl
theorem s219_197 : ji_Ev C 219 197 M lv (.int x :: st) o ↔ 10 < lv.length ∧ ji_Ev C 219 199 M (ji_s1 lv 10 (.int x)) st o := ev_stI rfl rfl rfl
theorem s219_199 : ji_Ev C 219 199 M lv st o ↔ ji_evL (lv.getD 11 none) ji_isI (fun v => match v with | .int x => 11 < lv.length ∧ ji_Ev C 219 202 M (ji_s1 lv 11 (.int (x + Int32.ofInt 1))) st o | _ => False) := ev_iinc rfl
theorem s219_202 : ji_Ev C 219 202 M lv st o ↔ ji_Ev C 219 141 M lv st o := ev_gt rfl (by decide) rfl
theorem s219_205 : ji_Ev C 219 205 M (l0 :: l1 :: l2 :: l3 :: l4 :: l5 :: l6 :: l7 :: l8 :: some (.int x) :: l) st o ↔ ji_Ev C 219 207 M (l0 :: l1 :: l2 :: l3 :: l4 :: l5 :: l6 :: l7 :: l8 :: some (.int x) :: l) (.int x :: st) o := ev_go (S := (207, M, (l0 :: l1 :: l2 :: l3 :: l4 :: l5 :: l6 :: l7 :: l8 :: some (.int x) :: l), (.int x :: st))) rfl rfl rfl
theorem s219_207 : ji_Ev C 219 207 M (l0 :: l1 :: l2 :: l3 :: l4 :: some (.int x) :: l) st o ↔ ji_Ev C 219 209 M (l0 :: l1 :: l2 :: l3 :: l4 :: some (.int x) :: l) (.int x :: st) o := ev_go (S := (209, M, (l0 :: l1 :: l2 :: l3 :: l4 :: some (.int x) :: l), (.int x :: st))) rfl rfl rfl
theorem s219_209 : ji_Ev C 219 209 M lv (.int y :: .int x :: st) o ↔ if x < y then ji_Ev C 219 278 M lv st o else ji_Ev C 219 212 M lv st o := ev_brc (c := .lt) rfl (by decide) rfl
theorem s219_212 : ji_Ev C 219 212 M (l0 :: l1 :: l2 :: l3 :: l4 :: l5 :: l6 :: l7 :: l8 :: some (.int x) :: l) st o ↔ ji_Ev C 219 214 M (l0 :: l1 :: l2 :: l3 :: l4 :: l5 :: l6 :: l7 :: l8 :: some (.int x) :: l) (.int x :: st) o := ev_go (S := (214, M, (l0 :: l1 :: l2 :: l3 :: l4 :: l5 :: l6 :: l7 :: l8 :: some (.int x) :: l), (.int x :: st))) rfl rfl rfl
theorem s219_214 : ji_Ev C 219 214 M (l0 :: l1 :: l2 :: l3 :: l4 :: some (.int x) :: l) st o ↔ ji_Ev C 219 216 M (l0 :: l1 :: l2 :: l3 :: l4 :: some (.int x) :: l) (.int x :: st) o := ev_go (S := (216, M, (l0 :: l1 :: l2 :: l3 :: l4 :: some (.int x) :: l), (.int x :: st))) rfl rfl rfl
theorem s219_216 : ji_Ev C 219 216 M lv (.int y :: .int x :: st) o ↔ if x = y then ji_Ev C 219 219 M lv st o else ji_Ev C 219 226 M lv st o := ev_brc (c := .ne) rfl (by decide) rfl
theorem s219_219 : ji_Ev C 219 219 M (l0 :: l1 :: l2 :: l3 :: l4 :: l5 :: l6 :: l7 :: l8 :: l9 :: some (.int x) :: l) st o ↔ ji_Ev C 219 221 M (l0 :: l1 :: l2 :: l3 :: l4 :: l5 :: l6 :: l7 :: l8 :: l9 :: some (.int x) :: l) (.int x :: st) o := ev_go (S := (221, M, (l0 :: l1 :: l2 :: l3 :: l4 :: l5 :: l6 :: l7 :: l8 :: l9 :: some (.int x) :: l), (.int x :: st))) rfl rfl rfl
theorem s219_221 : ji_Ev C 219 221 M (l0 :: l1 :: l2 :: l3 :: l4 :: l5 :: some (.int x) :: l) st o ↔ ji_Ev C 219 223 M (l0 :: l1 :: l2 :: l3 :: l4 :: l5 :: some (.int x) :: l) (.int x :: st) o := ev_go (S := (223, M, (l0 :: l1 :: l2 :: l3 :: l4 :: l5 :: some (.int x) :: l), (.int x :: st))) rfl rfl rfl
theorem s219_223 : ji_Ev C 219 223 M lv (.int y :: .int x :: st) o ↔ if x < y then ji_Ev C 219 226 M lv st o else ji_Ev C 219 278 M lv st o := ev_brc (c := .ge) rfl (by decide) rfl
theorem s219_226 : ji_Ev C 219 226 M (some (.ref a) :: l) st o ↔ ji_Ev C 219 227 M (some (.ref a) :: l) (.ref a :: st) o := ev_go (S := (227, M, (some (.ref a) :: l), (.ref a :: st))) rfl rfl rfl
theorem s219_227 : ji_Ev C 219 227 M (l0 :: some (.int x) :: l) st o ↔ ji_Ev C 219 228 M (l0 :: some (.int x) :: l) (.int x :: st) o := ev_go (S := (228, M, (l0 :: some (.int x) :: l), (.int x :: st))) rfl rfl rfl
theorem s219_228 : ji_Ev C 219 228 M (l0 :: l1 :: some (.int x) :: l) st o ↔ ji_Ev C 219 229 M (l0 :: l1 :: some (.int x) :: l) (.int x :: st) o := ev_go (S := (229, M, (l0 :: l1 :: some (.int x) :: l), (.int x :: st))) rfl rfl rfl
theorem s219_229 : ji_Ev C 219 229 M lv (p1 :: p0 :: .ref a :: st) o ↔ (ji_rcb M 9 (.ref a) = true ∧ ji_ok8 st) ∧ ji_evC (C 220 [.ref a, p0, p1] M) (fun v M' => ji_Ev C 219 232 M' lv (v.toList ++ st) o) := ev_inv (k := 219) rfl cd_9_415 rfl
theorem s219_232 : ji_Ev C 219 232 M lv (.int x :: st) o ↔ if x = 0 then ji_Ev C 219 235 M lv st o else ji_Ev C 219 238 M lv st o := ev_brz (c := .ne) rfl (by decide) rfl
theorem s219_235 : ji_Ev C 219 235 M lv st o ↔ ji_Ev C 219 278 M lv st o := ev_gt rfl (by decide) rfl
theorem s219_238 : ji_Ev C 219 238 M (l0 :: l1 :: l2 :: l3 :: l4 :: l5 :: l6 :: l7 :: l8 :: some (.int x) :: l) st o ↔ ji_Ev C 219 240 M (l0 :: l1 :: l2 :: l3 :: l4 :: l5 :: l6 :: l7 :: l8 :: some (.int x) :: l) (.int x :: st) o := ev_go (S := (240, M, (l0 :: l1 :: l2 :: l3 :: l4 :: l5 :: l6 :: l7 :: l8 :: some (.int x) :: l), (.int x :: st))) rfl rfl rfl
theorem s219_240 : ji_Ev C 219 240 M lv (.int x :: st) o ↔ 5 < lv.length ∧ ji_Ev C 219 242 M (ji_s1 lv 5 (.int x)) st o := ev_stI rfl rfl rfl
theorem s219_242 : ji_Ev C 219 242 M (l0 :: l1 :: l2 :: l3 :: l4 :: l5 :: l6 :: l7 :: l8 :: l9 :: some (.int x) :: l) st o ↔ ji_Ev C 219 244 M (l0 :: l1 :: l2 :: l3 :: l4 :: l5 :: l6 :: l7 :: l8 :: l9 :: some (.int x) :: l) (.int x :: st) o := ev_go (S := (244, M, (l0 :: l1 :: l2 :: l3 :: l4 :: l5 :: l6 :: l7 :: l8 :: l9 :: some (.int x) :: l), (.int x :: st))) rfl rfl rfl
theorem s219_244 : ji_Ev C 219 244 M lv (.int x :: st) o ↔ 6 < lv.length ∧ ji_Ev C 219 246 M (ji_s1 lv 6 (.int x)) st o := ev_stI rfl rfl rfl
theorem s219_246 : ji_Ev C 219 246 M lv st o ↔ ji_Ev C 219 247 M lv (.int 0 :: st) o := ev_go (S := (247, M, lv, (.int 0 :: st))) rfl rfl rfl
theorem s219_247 : ji_Ev C 219 247 M lv (.int x :: st) o ↔ 11 < lv.length ∧ ji_Ev C 219 249 M (ji_s1 lv 11 (.int x)) st o := ev_stI rfl rfl rfl
theorem s219_249 : ji_Ev C 219 249 M (l0 :: l1 :: l2 :: l3 :: l4 :: l5 :: l6 :: l7 :: l8 :: l9 :: l10 :: some (.int x) :: l) st o ↔ ji_Ev C 219 251 M (l0 :: l1 :: l2 :: l3 :: l4 :: l5 :: l6 :: l7 :: l8 :: l9 :: l10 :: some (.int x) :: l) (.int x :: st) o := ev_go (S := (251, M, (l0 :: l1 :: l2 :: l3 :: l4 :: l5 :: l6 :: l7 :: l8 :: l9 :: l10 :: some (.int x) :: l), (.int x :: st))) rfl rfl rfl
theorem s219_251 : ji_Ev C 219 251 M (some (.ref a) :: l) st o ↔ ji_Ev C 219 252 M (some (.ref a) :: l) (.ref a :: st) o := ev_go (S := (252, M, (some (.ref a) :: l), (.ref a :: st))) rfl rfl rfl
theorem s219_252 : ji_Ev C 219 252 M lv (.ref a :: st) o ↔ ji_kd M a = some (0, 9) ∧ ji_Ev C 219 255 M lv (.int (ji_gI M a 71) :: st) o := ev_getI (k := 219) rfl fd_9_225 rfl
theorem s219_255 : ji_Ev C 219 255 M lv (.int y :: .int x :: st) o ↔ if x < y then ji_Ev C 219 258 M lv st o else ji_Ev C 219 278 M lv st o := ev_brc (c := .ge) rfl (by decide) rfl
theorem s219_258 : ji_Ev C 219 258 M (some (.ref a) :: l) st o ↔ ji_Ev C 219 259 M (some (.ref a) :: l) (.ref a :: st) o := ev_go (S := (259, M, (some (.ref a) :: l), (.ref a :: st))) rfl rfl rfl
theorem s219_259 : ji_Ev C 219 259 M lv (.ref a :: st) o ↔ ji_kd M a = some (0, 9) ∧ ji_Ev C 219 262 M lv (ji_rv (ji_gR M a 75) :: st) o := ev_getR (k := 219) rfl fd_9_237 rfl
theorem s219_262 : ji_Ev C 219 262 M (l0 :: l1 :: l2 :: l3 :: l4 :: l5 :: l6 :: l7 :: l8 :: l9 :: l10 :: some (.int x) :: l) st o ↔ ji_Ev C 219 264 M (l0 :: l1 :: l2 :: l3 :: l4 :: l5 :: l6 :: l7 :: l8 :: l9 :: l10 :: some (.int x) :: l) (.int x :: st) o := ev_go (S := (264, M, (l0 :: l1 :: l2 :: l3 :: l4 :: l5 :: l6 :: l7 :: l8 :: l9 :: l10 :: some (.int x) :: l), (.int x :: st))) rfl rfl rfl
theorem s219_264 : ji_Ev C 219 264 M (some (.ref a) :: l) st o ↔ ji_Ev C 219 265 M (some (.ref a) :: l) (.ref a :: st) o := ev_go (S := (265, M, (some (.ref a) :: l), (.ref a :: st))) rfl rfl rfl
theorem s219_265 : ji_Ev C 219 265 M lv (.ref a :: st) o ↔ ji_kd M a = some (0, 9) ∧ ji_Ev C 219 268 M lv (ji_rv (ji_gR M a 74) :: st) o := ev_getR (k := 219) rfl fd_9_234 rfl
theorem s219_268 : ji_Ev C 219 268 M (l0 :: l1 :: l2 :: l3 :: l4 :: l5 :: l6 :: l7 :: l8 :: l9 :: l10 :: some (.int x) :: l) st o ↔ ji_Ev C 219 270 M (l0 :: l1 :: l2 :: l3 :: l4 :: l5 :: l6 :: l7 :: l8 :: l9 :: l10 :: some (.int x) :: l) (.int x :: st) o := ev_go (S := (270, M, (l0 :: l1 :: l2 :: l3 :: l4 :: l5 :: l6 :: l7 :: l8 :: l9 :: l10 :: some (.int x) :: l), (.int x :: st))) rfl rfl rfl
theorem s219_270 : ji_Ev C 219 270 M lv (.int x :: .ref a :: st) o ↔ ji_evA (ji_kd M a) (fun n => vp_in x n ∧ ji_Ev C 219 271 M lv (.int (ji_gI M a x.toNatClampNeg) :: st) o) := ev_iald rfl
theorem s219_271 : ji_Ev C 219 271 M lv (.int y :: .int x :: .ref a :: st) o ↔ ji_evA (ji_kd M a) (fun n => vp_in x n ∧ ji_Ev C 219 272 (ji_sI M a x.toNatClampNeg y) lv st o) := ev_iast rfl
theorem s219_272 : ji_Ev C 219 272 M lv st o ↔ ji_evL (lv.getD 11 none) ji_isI (fun v => match v with | .int x => 11 < lv.length ∧ ji_Ev C 219 275 M (ji_s1 lv 11 (.int (x + Int32.ofInt 1))) st o | _ => False) := ev_iinc rfl
theorem s219_275 : ji_Ev C 219 275 M lv st o ↔ ji_Ev C 219 249 M lv st o := ev_gt rfl (by decide) rfl
theorem s219_278 : ji_Ev C 219 278 M lv st o ↔ ji_evL (lv.getD 7 none) ji_isI (fun v => match v with | .int x => 7 < lv.length ∧ ji_Ev C 219 281 M (ji_s1 lv 7 (.int (x + Int32.ofInt 1))) st o | _ => False) := ev_iinc rfl
theorem s219_281 : ji_Ev C 219 281 M lv st o ↔ ji_Ev C 219 81 M lv st o := ev_gt rfl (by decide) rfl
theorem s219_284 : ji_Ev C 219 284 M (l0 :: l1 :: l2 :: some (.int x) :: l) st o ↔ ji_Ev C 219 285 M (l0 :: l1 :: l2 :: some (.int x) :: l) (.int x :: st) o := ev_go (S := (285, M, (l0 :: l1 :: l2 :: some (.int x) :: l), (.int x :: st))) rfl rfl rfl
theorem s219_285 : ji_Ev C 219 285 M lv st o ↔ ji_Ev C 219 286 M lv (.int (-1) :: st) o := ev_go (S := (286, M, lv, (.int (-1) :: st))) rfl rfl rfl
theorem s219_286 : ji_Ev C 219 286 M lv (.int y :: .int x :: st) o ↔ if x = y then ji_Ev C 219 289 M lv st o else ji_Ev C 219 294 M lv st o := ev_brc (c := .ne) rfl (by decide) rfl
theorem s219_289 : ji_Ev C 219 289 M (l0 :: l1 :: l2 :: l3 :: l4 :: some (.int x) :: l) st o ↔ ji_Ev C 219 291 M (l0 :: l1 :: l2 :: l3 :: l4 :: some (.int x) :: l) (.int x :: st) o := ev_go (S := (291, M, (l0 :: l1 :: l2 :: l3 :: l4 :: some (.int x) :: l), (.int x :: st))) rfl rfl rfl
theorem s219_291 : ji_Ev C 219 291 M lv st o ↔ ji_Ev C 219 325 M lv st o := ev_gt rfl (by decide) rfl
theorem s219_294 : ji_Ev C 219 294 M (l0 :: l1 :: l2 :: some (.int x) :: l) st o ↔ ji_Ev C 219 295 M (l0 :: l1 :: l2 :: some (.int x) :: l) (.int x :: st) o := ev_go (S := (295, M, (l0 :: l1 :: l2 :: some (.int x) :: l), (.int x :: st))) rfl rfl rfl
theorem s219_295 : ji_Ev C 219 295 M lv st o ↔ ji_Ev C 219 297 M lv (.int (-2) :: st) o := ev_go (S := (297, M, lv, (.int (-2) :: st))) rfl rfl rfl
theorem s219_297 : ji_Ev C 219 297 M lv (.int y :: .int x :: st) o ↔ if x = y then ji_Ev C 219 300 M lv st o else ji_Ev C 219 305 M lv st o := ev_brc (c := .ne) rfl (by decide) rfl
theorem s219_300 : ji_Ev C 219 300 M (l0 :: l1 :: l2 :: l3 :: l4 :: l5 :: some (.int x) :: l) st o ↔ ji_Ev C 219 302 M (l0 :: l1 :: l2 :: l3 :: l4 :: l5 :: some (.int x) :: l) (.int x :: st) o := ev_go (S := (302, M, (l0 :: l1 :: l2 :: l3 :: l4 :: l5 :: some (.int x) :: l), (.int x :: st))) rfl rfl rfl
theorem s219_302 : ji_Ev C 219 302 M lv st o ↔ ji_Ev C 219 325 M lv st o := ev_gt rfl (by decide) rfl
theorem s219_305 : ji_Ev C 219 305 M (some (.ref a) :: l) st o ↔ ji_Ev C 219 306 M (some (.ref a) :: l) (.ref a :: st) o := ev_go (S := (306, M, (some (.ref a) :: l), (.ref a :: st))) rfl rfl rfl
theorem s219_306 : ji_Ev C 219 306 M lv (.ref a :: st) o ↔ ji_kd M a = some (0, 9) ∧ ji_Ev C 219 309 M lv (ji_rv (ji_gR M a 75) :: st) o := ev_getR (k := 219) rfl fd_9_237 rfl
theorem s219_309 : ji_Ev C 219 309 M (l0 :: l1 :: l2 :: some (.int x) :: l) st o ↔ ji_Ev C 219 310 M (l0 :: l1 :: l2 :: some (.int x) :: l) (.int x :: st) o := ev_go (S := (310, M, (l0 :: l1 :: l2 :: some (.int x) :: l), (.int x :: st))) rfl rfl rfl
theorem s219_310 : ji_Ev C 219 310 M lv (.int x :: .ref a :: st) o ↔ ji_evA (ji_kd M a) (fun n => vp_in x n ∧ ji_Ev C 219 311 M lv (.int (ji_gI M a x.toNatClampNeg) :: st) o) := ev_iald rfl
theorem s219_311 : ji_Ev C 219 311 M (l0 :: some (.int x) :: l) st o ↔ ji_Ev C 219 312 M (l0 :: some (.int x) :: l) (.int x :: st) o := ev_go (S := (312, M, (l0 :: some (.int x) :: l), (.int x :: st))) rfl rfl rfl
theorem s219_312 : ji_Ev C 219 312 M lv (.int y :: .int x :: st) o ↔ if x = y then ji_Ev C 219 315 M lv st o else ji_Ev C 219 319 M lv st o := ev_brc (c := .ne) rfl (by decide) rfl
theorem s219_315 : ji_Ev C 219 315 M lv st o ↔ ji_Ev C 219 316 M lv (.int (-1) :: st) o := ev_go (S := (316, M, lv, (.int (-1) :: st))) rfl rfl rfl
theorem s219_316 : ji_Ev C 219 316 M lv st o ↔ ji_Ev C 219 325 M lv st o := ev_gt rfl (by decide) rfl
theorem s219_319 : ji_Ev C 219 319 M (some (.ref a) :: l) st o ↔ ji_Ev C 219 320 M (some (.ref a) :: l) (.ref a :: st) o := ev_go (S := (320, M, (some (.ref a) :: l), (.ref a :: st))) rfl rfl rfl
theorem s219_320 : ji_Ev C 219 320 M lv (.ref a :: st) o ↔ ji_kd M a = some (0, 9) ∧ ji_Ev C 219 323 M lv (ji_rv (ji_gR M a 75) :: st) o := ev_getR (k := 219) rfl fd_9_237 rfl
theorem s219_323 : ji_Ev C 219 323 M (l0 :: l1 :: l2 :: some (.int x) :: l) st o ↔ ji_Ev C 219 324 M (l0 :: l1 :: l2 :: some (.int x) :: l) (.int x :: st) o := ev_go (S := (324, M, (l0 :: l1 :: l2 :: some (.int x) :: l), (.int x :: st))) rfl rfl rfl
theorem s219_324 : ji_Ev C 219 324 M lv (.int x :: .ref a :: st) o ↔ ji_evA (ji_kd M a) (fun n => vp_in x n ∧ ji_Ev C 219 325 M lv (.int (ji_gI M a x.toNatClampNeg) :: st) o) := ev_iald rfl
theorem s219_325 : ji_Ev C 219 325 M lv [.int x] o ↔ o = (some (.int x), M) := ev_ireti rfl rfl
theorem s220_0 : ji_Ev C 220 0 M lv st o ↔ ji_Ev C 220 1 M lv (.int 0 :: st) o := ev_go (S := (1, M, lv, (.int 0 :: st))) rfl rfl rfl
theorem s220_1 : ji_Ev C 220 1 M lv (.int x :: st) o ↔ 3 < lv.length ∧ ji_Ev C 220 2 M (ji_s1 lv 3 (.int x)) st o := ev_stI rfl rfl rfl
theorem s220_2 : ji_Ev C 220 2 M (l0 :: l1 :: l2 :: some (.int x) :: l) st o ↔ ji_Ev C 220 3 M (l0 :: l1 :: l2 :: some (.int x) :: l) (.int x :: st) o := ev_go (S := (3, M, (l0 :: l1 :: l2 :: some (.int x) :: l), (.int x :: st))) rfl rfl rfl
theorem s220_3 : ji_Ev C 220 3 M (l0 :: some (.int x) :: l) st o ↔ ji_Ev C 220 4 M (l0 :: some (.int x) :: l) (.int x :: st) o := ev_go (S := (4, M, (l0 :: some (.int x) :: l), (.int x :: st))) rfl rfl rfl
theorem s220_4 : ji_Ev C 220 4 M lv (.int y :: .int x :: st) o ↔ if x < y then ji_Ev C 220 7 M lv st o else ji_Ev C 220 20 M lv st o := ev_brc (c := .ge) rfl (by decide) rfl
theorem s220_7 : ji_Ev C 220 7 M (some (.ref a) :: l) st o ↔ ji_Ev C 220 8 M (some (.ref a) :: l) (.ref a :: st) o := ev_go (S := (8, M, (some (.ref a) :: l), (.ref a :: st))) rfl rfl rfl
theorem s220_8 : ji_Ev C 220 8 M lv (.ref a :: st) o ↔ ji_kd M a = some (0, 9) ∧ ji_Ev C 220 11 M lv (ji_rv (ji_gR M a 76) :: st) o := ev_getR (k := 220) rfl fd_9_240 rfl
theorem s220_11 : ji_Ev C 220 11 M (l0 :: l1 :: l2 :: some (.int x) :: l) st o ↔ ji_Ev C 220 12 M (l0 :: l1 :: l2 :: some (.int x) :: l) (.int x :: st) o := ev_go (S := (12, M, (l0 :: l1 :: l2 :: some (.int x) :: l), (.int x :: st))) rfl rfl rfl
theorem s220_12 : ji_Ev C 220 12 M lv st o ↔ ji_Ev C 220 13 M lv (.int 0 :: st) o := ev_go (S := (13, M, lv, (.int 0 :: st))) rfl rfl rfl
theorem s220_13 : ji_Ev C 220 13 M lv (.int y :: .int x :: .ref a :: st) o ↔ ji_evA (ji_kd M a) (fun n => vp_in x n ∧ ji_Ev C 220 14 (ji_sI M a x.toNatClampNeg y) lv st o) := ev_iast rfl
theorem s220_14 : ji_Ev C 220 14 M lv st o ↔ ji_evL (lv.getD 3 none) ji_isI (fun v => match v with | .int x => 3 < lv.length ∧ ji_Ev C 220 17 M (ji_s1 lv 3 (.int (x + Int32.ofInt 1))) st o | _ => False) := ev_iinc rfl
theorem s220_17 : ji_Ev C 220 17 M lv st o ↔ ji_Ev C 220 2 M lv st o := ev_gt rfl (by decide) rfl
theorem s220_20 : ji_Ev C 220 20 M lv st o ↔ ji_Ev C 220 21 M lv (.int 0 :: st) o := ev_go (S := (21, M, lv, (.int 0 :: st))) rfl rfl rfl
theorem s220_21 : ji_Ev C 220 21 M lv (.int x :: st) o ↔ 3 < lv.length ∧ ji_Ev C 220 22 M (ji_s1 lv 3 (.int x)) st o := ev_stI rfl rfl rfl
theorem s220_22 : ji_Ev C 220 22 M (l0 :: l1 :: l2 :: some (.int x) :: l) st o ↔ ji_Ev C 220 23 M (l0 :: l1 :: l2 :: some (.int x) :: l) (.int x :: st) o := ev_go (S := (23, M, (l0 :: l1 :: l2 :: some (.int x) :: l), (.int x :: st))) rfl rfl rfl
theorem s220_23 : ji_Ev C 220 23 M (some (.ref a) :: l) st o ↔ ji_Ev C 220 24 M (some (.ref a) :: l) (.ref a :: st) o := ev_go (S := (24, M, (some (.ref a) :: l), (.ref a :: st))) rfl rfl rfl
theorem s220_24 : ji_Ev C 220 24 M lv (.ref a :: st) o ↔ ji_kd M a = some (0, 9) ∧ ji_Ev C 220 27 M lv (.int (ji_gI M a 71) :: st) o := ev_getI (k := 220) rfl fd_9_225 rfl
theorem s220_27 : ji_Ev C 220 27 M lv (.int y :: .int x :: st) o ↔ if x < y then ji_Ev C 220 30 M lv st o else ji_Ev C 220 66 M lv st o := ev_brc (c := .ge) rfl (by decide) rfl
theorem s220_30 : ji_Ev C 220 30 M (some (.ref a) :: l) st o ↔ ji_Ev C 220 31 M (some (.ref a) :: l) (.ref a :: st) o := ev_go (S := (31, M, (some (.ref a) :: l), (.ref a :: st))) rfl rfl rfl
theorem s220_31 : ji_Ev C 220 31 M lv (.ref a :: st) o ↔ ji_kd M a = some (0, 9) ∧ ji_Ev C 220 34 M lv (ji_rv (ji_gR M a 74) :: st) o := ev_getR (k := 220) rfl fd_9_234 rfl
theorem s220_34 : ji_Ev C 220 34 M (l0 :: l1 :: l2 :: some (.int x) :: l) st o ↔ ji_Ev C 220 35 M (l0 :: l1 :: l2 :: some (.int x) :: l) (.int x :: st) o := ev_go (S := (35, M, (l0 :: l1 :: l2 :: some (.int x) :: l), (.int x :: st))) rfl rfl rfl
theorem s220_35 : ji_Ev C 220 35 M lv (.int x :: .ref a :: st) o ↔ ji_evA (ji_kd M a) (fun n => vp_in x n ∧ ji_Ev C 220 36 M lv (.int (ji_gI M a x.toNatClampNeg) :: st) o) := ev_iald rfl
theorem s220_36 : ji_Ev C 220 36 M (l0 :: some (.int x) :: l) st o ↔ ji_Ev C 220 37 M (l0 :: some (.int x) :: l) (.int x :: st) o := ev_go (S := (37, M, (l0 :: some (.int x) :: l), (.int x :: st))) rfl rfl rfl
theorem s220_37 : ji_Ev C 220 37 M lv (.int y :: .int x :: st) o ↔ if x < y then ji_Ev C 220 40 M lv st o else ji_Ev C 220 60 M lv st o := ev_brc (c := .ge) rfl (by decide) rfl
theorem s220_40 : ji_Ev C 220 40 M (some (.ref a) :: l) st o ↔ ji_Ev C 220 41 M (some (.ref a) :: l) (.ref a :: st) o := ev_go (S := (41, M, (some (.ref a) :: l), (.ref a :: st))) rfl rfl rfl
theorem s220_41 : ji_Ev C 220 41 M lv (.ref a :: st) o ↔ ji_kd M a = some (0, 9) ∧ ji_Ev C 220 44 M lv (ji_rv (ji_gR M a 76) :: st) o := ev_getR (k := 220) rfl fd_9_240 rfl
theorem s220_44 : ji_Ev C 220 44 M (some (.ref a) :: l) st o ↔ ji_Ev C 220 45 M (some (.ref a) :: l) (.ref a :: st) o := ev_go (S := (45, M, (some (.ref a) :: l), (.ref a :: st))) rfl rfl rfl
theorem s220_45 : ji_Ev C 220 45 M lv (.ref a :: st) o ↔ ji_kd M a = some (0, 9) ∧ ji_Ev C 220 48 M lv (ji_rv (ji_gR M a 74) :: st) o := ev_getR (k := 220) rfl fd_9_234 rfl
theorem s220_48 : ji_Ev C 220 48 M (l0 :: l1 :: l2 :: some (.int x) :: l) st o ↔ ji_Ev C 220 49 M (l0 :: l1 :: l2 :: some (.int x) :: l) (.int x :: st) o := ev_go (S := (49, M, (l0 :: l1 :: l2 :: some (.int x) :: l), (.int x :: st))) rfl rfl rfl
theorem s220_49 : ji_Ev C 220 49 M lv (.int x :: .ref a :: st) o ↔ ji_evA (ji_kd M a) (fun n => vp_in x n ∧ ji_Ev C 220 50 M lv (.int (ji_gI M a x.toNatClampNeg) :: st) o) := ev_iald rfl
theorem s220_50 : ji_Ev C 220 50 M lv (.int x :: .ref a :: st) o ↔ ji_Ev C 220 51 M lv (.int x :: .ref a :: .int x :: .ref a :: st) o := ev_go (S := (51, M, lv, (.int x :: .ref a :: .int x :: .ref a :: st))) rfl rfl rfl
theorem s220_51 : ji_Ev C 220 51 M lv (.int x :: .ref a :: st) o ↔ ji_evA (ji_kd M a) (fun n => vp_in x n ∧ ji_Ev C 220 52 M lv (.int (ji_gI M a x.toNatClampNeg) :: st) o) := ev_iald rfl
theorem s220_52 : ji_Ev C 220 52 M (some (.ref a) :: l) st o ↔ ji_Ev C 220 53 M (some (.ref a) :: l) (.ref a :: st) o := ev_go (S := (53, M, (some (.ref a) :: l), (.ref a :: st))) rfl rfl rfl
theorem s220_53 : ji_Ev C 220 53 M lv (.ref a :: st) o ↔ ji_kd M a = some (0, 9) ∧ ji_Ev C 220 56 M lv (ji_rv (ji_gR M a 72) :: st) o := ev_getR (k := 220) rfl fd_9_228 rfl
theorem s220_56 : ji_Ev C 220 56 M (l0 :: l1 :: l2 :: some (.int x) :: l) st o ↔ ji_Ev C 220 57 M (l0 :: l1 :: l2 :: some (.int x) :: l) (.int x :: st) o := ev_go (S := (57, M, (l0 :: l1 :: l2 :: some (.int x) :: l), (.int x :: st))) rfl rfl rfl
theorem s220_57 : ji_Ev C 220 57 M lv (.int x :: .ref a :: st) o ↔ ji_evA (ji_kd M a) (fun n => vp_in x n ∧ ji_Ev C 220 58 M lv (.int (ji_gI M a x.toNatClampNeg) :: st) o) := ev_iald rfl
theorem s220_58 : ji_Ev C 220 58 M lv (.int y :: .int x :: st) o ↔ ji_Ev C 220 59 M lv (.int (x + y) :: st) o := ev_go (S := (59, M, lv, (.int (x + y) :: st))) rfl rfl rfl
theorem s220_59 : ji_Ev C 220 59 M lv (.int y :: .int x :: .ref a :: st) o ↔ ji_evA (ji_kd M a) (fun n => vp_in x n ∧ ji_Ev C 220 60 (ji_sI M a x.toNatClampNeg y) lv st o) := ev_iast rfl
theorem s220_60 : ji_Ev C 220 60 M lv st o ↔ ji_evL (lv.getD 3 none) ji_isI (fun v => match v with | .int x => 3 < lv.length ∧ ji_Ev C 220 63 M (ji_s1 lv 3 (.int (x + Int32.ofInt 1))) st o | _ => False) := ev_iinc rfl
theorem s220_63 : ji_Ev C 220 63 M lv st o ↔ ji_Ev C 220 22 M lv st o := ev_gt rfl (by decide) rfl
theorem s220_66 : ji_Ev C 220 66 M lv st o ↔ ji_Ev C 220 67 M lv (.int 0 :: st) o := ev_go (S := (67, M, lv, (.int 0 :: st))) rfl rfl rfl
theorem s220_67 : ji_Ev C 220 67 M lv (.int x :: st) o ↔ 3 < lv.length ∧ ji_Ev C 220 68 M (ji_s1 lv 3 (.int x)) st o := ev_stI rfl rfl rfl
theorem s220_68 : ji_Ev C 220 68 M lv st o ↔ ji_Ev C 220 69 M lv (.int 0 :: st) o := ev_go (S := (69, M, lv, (.int 0 :: st))) rfl rfl rfl
theorem s220_69 : ji_Ev C 220 69 M lv (.int x :: st) o ↔ 4 < lv.length ∧ ji_Ev C 220 71 M (ji_s1 lv 4 (.int x)) st o := ev_stI rfl rfl rfl
theorem s220_71 : ji_Ev C 220 71 M (l0 :: l1 :: l2 :: l3 :: some (.int x) :: l) st o ↔ ji_Ev C 220 73 M (l0 :: l1 :: l2 :: l3 :: some (.int x) :: l) (.int x :: st) o := ev_go (S := (73, M, (l0 :: l1 :: l2 :: l3 :: some (.int x) :: l), (.int x :: st))) rfl rfl rfl
theorem s220_73 : ji_Ev C 220 73 M (l0 :: some (.int x) :: l) st o ↔ ji_Ev C 220 74 M (l0 :: some (.int x) :: l) (.int x :: st) o := ev_go (S := (74, M, (l0 :: some (.int x) :: l), (.int x :: st))) rfl rfl rfl
theorem s220_74 : ji_Ev C 220 74 M lv (.int y :: .int x :: st) o ↔ if x < y then ji_Ev C 220 77 M lv st o else ji_Ev C 220 101 M lv st o := ev_brc (c := .ge) rfl (by decide) rfl
theorem s220_77 : ji_Ev C 220 77 M (l0 :: l1 :: l2 :: some (.int x) :: l) st o ↔ ji_Ev C 220 78 M (l0 :: l1 :: l2 :: some (.int x) :: l) (.int x :: st) o := ev_go (S := (78, M, (l0 :: l1 :: l2 :: some (.int x) :: l), (.int x :: st))) rfl rfl rfl
theorem s220_78 : ji_Ev C 220 78 M (l0 :: l1 :: some (.int x) :: l) st o ↔ ji_Ev C 220 79 M (l0 :: l1 :: some (.int x) :: l) (.int x :: st) o := ev_go (S := (79, M, (l0 :: l1 :: some (.int x) :: l), (.int x :: st))) rfl rfl rfl
theorem s220_79 : ji_Ev C 220 79 M (some (.ref a) :: l) st o ↔ ji_Ev C 220 80 M (some (.ref a) :: l) (.ref a :: st) o := ev_go (S := (80, M, (some (.ref a) :: l), (.ref a :: st))) rfl rfl rfl
theorem s220_80 : ji_Ev C 220 80 M lv (.ref a :: st) o ↔ ji_kd M a = some (0, 9) ∧ ji_Ev C 220 83 M lv (ji_rv (ji_gR M a 76) :: st) o := ev_getR (k := 220) rfl fd_9_240 rfl
theorem s220_83 : ji_Ev C 220 83 M (l0 :: l1 :: l2 :: l3 :: some (.int x) :: l) st o ↔ ji_Ev C 220 85 M (l0 :: l1 :: l2 :: l3 :: some (.int x) :: l) (.int x :: st) o := ev_go (S := (85, M, (l0 :: l1 :: l2 :: l3 :: some (.int x) :: l), (.int x :: st))) rfl rfl rfl
theorem s220_85 : ji_Ev C 220 85 M lv (.int x :: .ref a :: st) o ↔ ji_evA (ji_kd M a) (fun n => vp_in x n ∧ ji_Ev C 220 86 M lv (.int (ji_gI M a x.toNatClampNeg) :: st) o) := ev_iald rfl
theorem s220_86 : ji_Ev C 220 86 M lv (.int y :: .int x :: st) o ↔ ji_Ev C 220 87 M lv (.int (x - y) :: st) o := ev_go (S := (87, M, lv, (.int (x - y) :: st))) rfl rfl rfl
theorem s220_87 : ji_Ev C 220 87 M lv (.int y :: .int x :: st) o ↔ ji_Ev C 220 88 M lv (.int (x + y) :: st) o := ev_go (S := (88, M, lv, (.int (x + y) :: st))) rfl rfl rfl
theorem s220_88 : ji_Ev C 220 88 M lv (.int x :: st) o ↔ 3 < lv.length ∧ ji_Ev C 220 89 M (ji_s1 lv 3 (.int x)) st o := ev_stI rfl rfl rfl
theorem s220_89 : ji_Ev C 220 89 M (l0 :: l1 :: l2 :: some (.int x) :: l) st o ↔ ji_Ev C 220 90 M (l0 :: l1 :: l2 :: some (.int x) :: l) (.int x :: st) o := ev_go (S := (90, M, (l0 :: l1 :: l2 :: some (.int x) :: l), (.int x :: st))) rfl rfl rfl
theorem s220_90 : ji_Ev C 220 90 M lv (.int x :: st) o ↔ if x < 0 then ji_Ev C 220 93 M lv st o else ji_Ev C 220 95 M lv st o := ev_brz (c := .ge) rfl (by decide) rfl
theorem s220_93 : ji_Ev C 220 93 M lv st o ↔ ji_Ev C 220 94 M lv (.int 0 :: st) o := ev_go (S := (94, M, lv, (.int 0 :: st))) rfl rfl rfl
theorem s220_94 : ji_Ev C 220 94 M lv [.int x] o ↔ narrow .boolean (.int x) = .int x ∧ o = (some (.int x), M) := ev_iretb rfl rfl
theorem s220_95 : ji_Ev C 220 95 M lv st o ↔ ji_evL (lv.getD 4 none) ji_isI (fun v => match v with | .int x => 4 < lv.length ∧ ji_Ev C 220 98 M (ji_s1 lv 4 (.int (x + Int32.ofInt 1))) st o | _ => False) := ev_iinc rfl
theorem s220_98 : ji_Ev C 220 98 M lv st o ↔ ji_Ev C 220 71 M lv st o := ev_gt rfl (by decide) rfl
theorem s220_101 : ji_Ev C 220 101 M lv st o ↔ ji_Ev C 220 102 M lv (.int 1 :: st) o := ev_go (S := (102, M, lv, (.int 1 :: st))) rfl rfl rfl
theorem s220_102 : ji_Ev C 220 102 M lv [.int x] o ↔ narrow .boolean (.int x) = .int x ∧ o = (some (.int x), M) := ev_iretb rfl rfl
theorem s221_0 : ji_Ev C 221 0 M (l0 :: some (.int x) :: l) st o ↔ ji_Ev C 221 1 M (l0 :: some (.int x) :: l) (.int x :: st) o := ev_go (S := (1, M, (l0 :: some (.int x) :: l), (.int x :: st))) rfl rfl rfl
theorem s221_1 : ji_Ev C 221 1 M lv (.int x :: st) o ↔ if x = 0 then ji_Ev C 221 76 M lv st o else if x = 1 then ji_Ev C 221 81 M lv st o else if x = 2 then ji_Ev C 221 86 M lv st o else if x = 3 then ji_Ev C 221 91 M lv st o else if x = 4 then ji_Ev C 221 96 M lv st o else if x = 5 then ji_Ev C 221 101 M lv st o else if x = 6 then ji_Ev C 221 106 M lv st o else if x = 7 then ji_Ev C 221 111 M lv st o else if x = 8 then ji_Ev C 221 116 M lv st o else if x = 9 then ji_Ev C 221 121 M lv st o else if x = 10 then ji_Ev C 221 126 M lv st o else if x = 11 then ji_Ev C 221 131 M lv st o else if x = 12 then ji_Ev C 221 136 M lv st o else if x = 13 then ji_Ev C 221 141 M lv st o else if x = 14 then ji_Ev C 221 148 M lv st o else ji_Ev C 221 155 M lv st o := by
  refine (ev_swT rfl (by decide)).trans ?_
  show ji_Ev C 221 ((1 : Int) + (if x = 0 then 75 else if x = 1 then 80 else if x = 2 then 85 else if x = 3 then 90 else if x = 4 then 95 else if x = 5 then 100 else if x = 6 then 105 else if x = 7 then 110 else if x = 8 then 115 else if x = 9 then 120 else if x = 10 then 125 else if x = 11 then 130 else if x = 12 then 135 else if x = 13 then 140 else if x = 14 then 147 else 154)).toNat M lv st o ↔ _
  by_cases h0 : x = 0
  · rw [if_pos h0, if_pos h0]; exact Iff.rfl
  rw [if_neg h0, if_neg h0]
  by_cases h1 : x = 1
  · rw [if_pos h1, if_pos h1]; exact Iff.rfl
  rw [if_neg h1, if_neg h1]
  by_cases h2 : x = 2
  · rw [if_pos h2, if_pos h2]; exact Iff.rfl
  rw [if_neg h2, if_neg h2]
  by_cases h3 : x = 3
  · rw [if_pos h3, if_pos h3]; exact Iff.rfl
  rw [if_neg h3, if_neg h3]
  by_cases h4 : x = 4
  · rw [if_pos h4, if_pos h4]; exact Iff.rfl
  rw [if_neg h4, if_neg h4]
  by_cases h5 : x = 5
  · rw [if_pos h5, if_pos h5]; exact Iff.rfl
  rw [if_neg h5, if_neg h5]
  by_cases h6 : x = 6
  · rw [if_pos h6, if_pos h6]; exact Iff.rfl
  rw [if_neg h6, if_neg h6]
  by_cases h7 : x = 7
  · rw [if_pos h7, if_pos h7]; exact Iff.rfl
  rw [if_neg h7, if_neg h7]
  by_cases h8 : x = 8
  · rw [if_pos h8, if_pos h8]; exact Iff.rfl
  rw [if_neg h8, if_neg h8]
  by_cases h9 : x = 9
  · rw [if_pos h9, if_pos h9]; exact Iff.rfl
  rw [if_neg h9, if_neg h9]
  by_cases h10 : x = 10
  · rw [if_pos h10, if_pos h10]; exact Iff.rfl
  rw [if_neg h10, if_neg h10]
  by_cases h11 : x = 11
  · rw [if_pos h11, if_pos h11]; exact Iff.rfl
  rw [if_neg h11, if_neg h11]
  by_cases h12 : x = 12
  · rw [if_pos h12, if_pos h12]; exact Iff.rfl
  rw [if_neg h12, if_neg h12]
  by_cases h13 : x = 13
  · rw [if_pos h13, if_pos h13]; exact Iff.rfl
  rw [if_neg h13, if_neg h13]
  by_cases h14 : x = 14
  · rw [if_pos h14, if_pos h14]; exact Iff.rfl
  rw [if_neg h14, if_neg h14]
  exact Iff.rfl
theorem s221_76 : ji_Ev C 221 76 M (some (.ref a) :: l) st o ↔ ji_Ev C 221 77 M (some (.ref a) :: l) (.ref a :: st) o := ev_go (S := (77, M, (some (.ref a) :: l), (.ref a :: st))) rfl rfl rfl
theorem s221_77 : ji_Ev C 221 77 M lv (.ref a :: st) o ↔ ji_kd M a = some (0, 9) ∧ ji_Ev C 221 80 M lv (.int (ji_gI M a 0) :: st) o := ev_getI (k := 221) rfl fd_9_7 rfl
theorem s221_80 : ji_Ev C 221 80 M lv [.int x] o ↔ o = (some (.int x), M) := ev_ireti rfl rfl
theorem s221_81 : ji_Ev C 221 81 M (some (.ref a) :: l) st o ↔ ji_Ev C 221 82 M (some (.ref a) :: l) (.ref a :: st) o := ev_go (S := (82, M, (some (.ref a) :: l), (.ref a :: st))) rfl rfl rfl
theorem s221_82 : ji_Ev C 221 82 M lv (.ref a :: st) o ↔ ji_kd M a = some (0, 9) ∧ ji_Ev C 221 85 M lv (.int (ji_gI M a 4) :: st) o := ev_getI (k := 221) rfl fd_9_22 rfl
theorem s221_85 : ji_Ev C 221 85 M lv [.int x] o ↔ o = (some (.int x), M) := ev_ireti rfl rfl
theorem s221_86 : ji_Ev C 221 86 M (some (.ref a) :: l) st o ↔ ji_Ev C 221 87 M (some (.ref a) :: l) (.ref a :: st) o := ev_go (S := (87, M, (some (.ref a) :: l), (.ref a :: st))) rfl rfl rfl
theorem s221_87 : ji_Ev C 221 87 M lv (.ref a :: st) o ↔ ji_kd M a = some (0, 9) ∧ ji_Ev C 221 90 M lv (.int (ji_gI M a 15) :: st) o := ev_getI (k := 221) rfl fd_9_57 rfl
theorem s221_90 : ji_Ev C 221 90 M lv [.int x] o ↔ o = (some (.int x), M) := ev_ireti rfl rfl
theorem s221_91 : ji_Ev C 221 91 M (some (.ref a) :: l) st o ↔ ji_Ev C 221 92 M (some (.ref a) :: l) (.ref a :: st) o := ev_go (S := (92, M, (some (.ref a) :: l), (.ref a :: st))) rfl rfl rfl
theorem s221_92 : ji_Ev C 221 92 M lv (.ref a :: st) o ↔ ji_kd M a = some (0, 9) ∧ ji_Ev C 221 95 M lv (.int (ji_gI M a 17) :: st) o := ev_getI (k := 221) rfl fd_9_63 rfl
theorem s221_95 : ji_Ev C 221 95 M lv [.int x] o ↔ o = (some (.int x), M) := ev_ireti rfl rfl
theorem s221_96 : ji_Ev C 221 96 M (some (.ref a) :: l) st o ↔ ji_Ev C 221 97 M (some (.ref a) :: l) (.ref a :: st) o := ev_go (S := (97, M, (some (.ref a) :: l), (.ref a :: st))) rfl rfl rfl
theorem s221_97 : ji_Ev C 221 97 M lv (.ref a :: st) o ↔ ji_kd M a = some (0, 9) ∧ ji_Ev C 221 100 M lv (.int (ji_gI M a 16) :: st) o := ev_getI (k := 221) rfl fd_9_60 rfl
theorem s221_100 : ji_Ev C 221 100 M lv [.int x] o ↔ o = (some (.int x), M) := ev_ireti rfl rfl
theorem s221_101 : ji_Ev C 221 101 M (some (.ref a) :: l) st o ↔ ji_Ev C 221 102 M (some (.ref a) :: l) (.ref a :: st) o := ev_go (S := (102, M, (some (.ref a) :: l), (.ref a :: st))) rfl rfl rfl
theorem s221_102 : ji_Ev C 221 102 M lv (.ref a :: st) o ↔ ji_kd M a = some (0, 9) ∧ ji_Ev C 221 105 M lv (.int (ji_gI M a 33) :: st) o := ev_getI (k := 221) rfl fd_9_111 rfl
theorem s221_105 : ji_Ev C 221 105 M lv [.int x] o ↔ o = (some (.int x), M) := ev_ireti rfl rfl
theorem s221_106 : ji_Ev C 221 106 M (some (.ref a) :: l) st o ↔ ji_Ev C 221 107 M (some (.ref a) :: l) (.ref a :: st) o := ev_go (S := (107, M, (some (.ref a) :: l), (.ref a :: st))) rfl rfl rfl
theorem s221_107 : ji_Ev C 221 107 M lv (.ref a :: st) o ↔ ji_kd M a = some (0, 9) ∧ ji_Ev C 221 110 M lv (.int (ji_gI M a 46) :: st) o := ev_getI (k := 221) rfl fd_9_150 rfl
theorem s221_110 : ji_Ev C 221 110 M lv [.int x] o ↔ o = (some (.int x), M) := ev_ireti rfl rfl
theorem s221_111 : ji_Ev C 221 111 M (some (.ref a) :: l) st o ↔ ji_Ev C 221 112 M (some (.ref a) :: l) (.ref a :: st) o := ev_go (S := (112, M, (some (.ref a) :: l), (.ref a :: st))) rfl rfl rfl
theorem s221_112 : ji_Ev C 221 112 M lv (.ref a :: st) o ↔ ji_kd M a = some (0, 9) ∧ ji_Ev C 221 115 M lv (.int (ji_gI M a 50) :: st) o := ev_getI (k := 221) rfl fd_9_162 rfl
theorem s221_115 : ji_Ev C 221 115 M lv [.int x] o ↔ o = (some (.int x), M) := ev_ireti rfl rfl
theorem s221_116 : ji_Ev C 221 116 M (some (.ref a) :: l) st o ↔ ji_Ev C 221 117 M (some (.ref a) :: l) (.ref a :: st) o := ev_go (S := (117, M, (some (.ref a) :: l), (.ref a :: st))) rfl rfl rfl
theorem s221_117 : ji_Ev C 221 117 M lv (.ref a :: st) o ↔ ji_kd M a = some (0, 9) ∧ ji_Ev C 221 120 M lv (.int (ji_gI M a 51) :: st) o := ev_getI (k := 221) rfl fd_9_165 rfl
theorem s221_120 : ji_Ev C 221 120 M lv [.int x] o ↔ o = (some (.int x), M) := ev_ireti rfl rfl
theorem s221_121 : ji_Ev C 221 121 M (some (.ref a) :: l) st o ↔ ji_Ev C 221 122 M (some (.ref a) :: l) (.ref a :: st) o := ev_go (S := (122, M, (some (.ref a) :: l), (.ref a :: st))) rfl rfl rfl
theorem s221_122 : ji_Ev C 221 122 M lv (.ref a :: st) o ↔ ji_kd M a = some (0, 9) ∧ ji_Ev C 221 125 M lv (.int (ji_gI M a 57) :: st) o := ev_getI (k := 221) rfl fd_9_183 rfl
theorem s221_125 : ji_Ev C 221 125 M lv [.int x] o ↔ o = (some (.int x), M) := ev_ireti rfl rfl
theorem s221_126 : ji_Ev C 221 126 M (some (.ref a) :: l) st o ↔ ji_Ev C 221 127 M (some (.ref a) :: l) (.ref a :: st) o := ev_go (S := (127, M, (some (.ref a) :: l), (.ref a :: st))) rfl rfl rfl
theorem s221_127 : ji_Ev C 221 127 M lv (.ref a :: st) o ↔ ji_kd M a = some (0, 9) ∧ ji_Ev C 221 130 M lv (.int (ji_gI M a 58) :: st) o := ev_getI (k := 221) rfl fd_9_186 rfl
theorem s221_130 : ji_Ev C 221 130 M lv [.int x] o ↔ o = (some (.int x), M) := ev_ireti rfl rfl
theorem s221_131 : ji_Ev C 221 131 M (some (.ref a) :: l) st o ↔ ji_Ev C 221 132 M (some (.ref a) :: l) (.ref a :: st) o := ev_go (S := (132, M, (some (.ref a) :: l), (.ref a :: st))) rfl rfl rfl
theorem s221_132 : ji_Ev C 221 132 M lv (.ref a :: st) o ↔ ji_kd M a = some (0, 9) ∧ ji_Ev C 221 135 M lv (.int (ji_gI M a 59) :: st) o := ev_getI (k := 221) rfl fd_9_189 rfl
theorem s221_135 : ji_Ev C 221 135 M lv [.int x] o ↔ o = (some (.int x), M) := ev_ireti rfl rfl
theorem s221_136 : ji_Ev C 221 136 M (some (.ref a) :: l) st o ↔ ji_Ev C 221 137 M (some (.ref a) :: l) (.ref a :: st) o := ev_go (S := (137, M, (some (.ref a) :: l), (.ref a :: st))) rfl rfl rfl
theorem s221_137 : ji_Ev C 221 137 M lv (.ref a :: st) o ↔ ji_kd M a = some (0, 9) ∧ ji_Ev C 221 140 M lv (.int (ji_gI M a 71) :: st) o := ev_getI (k := 221) rfl fd_9_225 rfl
theorem s221_140 : ji_Ev C 221 140 M lv [.int x] o ↔ o = (some (.int x), M) := ev_ireti rfl rfl
theorem s221_141 : ji_Ev C 221 141 M (some (.ref a) :: l) st o ↔ ji_Ev C 221 142 M (some (.ref a) :: l) (.ref a :: st) o := ev_go (S := (142, M, (some (.ref a) :: l), (.ref a :: st))) rfl rfl rfl
theorem s221_142 : ji_Ev C 221 142 M lv st o ↔ ji_Ev C 221 143 M lv (.int 1 :: st) o := ev_go (S := (143, M, lv, (.int 1 :: st))) rfl rfl rfl
theorem s221_143 : ji_Ev C 221 143 M lv st o ↔ ji_Ev C 221 144 M lv (.int (-1) :: st) o := ev_go (S := (144, M, lv, (.int (-1) :: st))) rfl rfl rfl
theorem s221_144 : ji_Ev C 221 144 M lv (p1 :: p0 :: .ref a :: st) o ↔ (ji_rcb M 9 (.ref a) = true ∧ ji_ok8 st) ∧ ji_evC (C 189 [.ref a, p0, p1] M) (fun v M' => ji_Ev C 221 147 M' lv (v.toList ++ st) o) := ev_inv (k := 221) rfl cd_9_286 rfl
theorem s221_147 : ji_Ev C 221 147 M lv [.int x] o ↔ o = (some (.int x), M) := ev_ireti rfl rfl
theorem s221_148 : ji_Ev C 221 148 M (some (.ref a) :: l) st o ↔ ji_Ev C 221 149 M (some (.ref a) :: l) (.ref a :: st) o := ev_go (S := (149, M, (some (.ref a) :: l), (.ref a :: st))) rfl rfl rfl
theorem s221_149 : ji_Ev C 221 149 M lv st o ↔ ji_Ev C 221 150 M lv (.int 0 :: st) o := ev_go (S := (150, M, lv, (.int 0 :: st))) rfl rfl rfl
theorem s221_150 : ji_Ev C 221 150 M lv st o ↔ ji_Ev C 221 151 M lv (.int (-1) :: st) o := ev_go (S := (151, M, lv, (.int (-1) :: st))) rfl rfl rfl
theorem s221_151 : ji_Ev C 221 151 M lv (p1 :: p0 :: .ref a :: st) o ↔ (ji_rcb M 9 (.ref a) = true ∧ ji_ok8 st) ∧ ji_evC (C 189 [.ref a, p0, p1] M) (fun v M' => ji_Ev C 221 154 M' lv (v.toList ++ st) o) := ev_inv (k := 221) rfl cd_9_286 rfl
theorem s221_154 : ji_Ev C 221 154 M lv [.int x] o ↔ o = (some (.int x), M) := ev_ireti rfl rfl
theorem s221_155 : ji_Ev C 221 155 M lv st o ↔ ji_Ev C 221 157 M lv (.int (-2) :: st) o := ev_go (S := (157, M, lv, (.int (-2) :: st))) rfl rfl rfl
theorem s221_157 : ji_Ev C 221 157 M lv [.int x] o ↔ o = (some (.int x), M) := ev_ireti rfl rfl
theorem s222_0 : ji_Ev C 222 0 M (some (.ref a) :: l) st o ↔ ji_Ev C 222 1 M (some (.ref a) :: l) (.ref a :: st) o := ev_go (S := (1, M, (some (.ref a) :: l), (.ref a :: st))) rfl rfl rfl
theorem s222_1 : ji_Ev C 222 1 M (l0 :: some (.int x) :: l) st o ↔ ji_Ev C 222 2 M (l0 :: some (.int x) :: l) (.int x :: st) o := ev_go (S := (2, M, (l0 :: some (.int x) :: l), (.int x :: st))) rfl rfl rfl
theorem s222_2 : ji_Ev C 222 2 M lv (p0 :: .ref a :: st) o ↔ (ji_rcb M 9 (.ref a) = true ∧ ji_ok8 st) ∧ ji_evC (C 223 [.ref a, p0] M) (fun v M' => ji_Ev C 222 5 M' lv (v.toList ++ st) o) := ev_inv (k := 222) rfl cd_9_418 rfl
theorem s222_5 : ji_Ev C 222 5 M lv (.int x :: st) o ↔ if x = 0 then ji_Ev C 222 28 M lv st o else ji_Ev C 222 8 M lv st o := ev_brz (c := .eq) rfl (by decide) rfl
theorem s222_8 : ji_Ev C 222 8 M (some (.ref a) :: l) st o ↔ ji_Ev C 222 9 M (some (.ref a) :: l) (.ref a :: st) o := ev_go (S := (9, M, (some (.ref a) :: l), (.ref a :: st))) rfl rfl rfl
theorem s222_9 : ji_Ev C 222 9 M (l0 :: l1 :: some (.int x) :: l) st o ↔ ji_Ev C 222 10 M (l0 :: l1 :: some (.int x) :: l) (.int x :: st) o := ev_go (S := (10, M, (l0 :: l1 :: some (.int x) :: l), (.int x :: st))) rfl rfl rfl
theorem s222_10 : ji_Ev C 222 10 M lv st o ↔ ji_Ev C 222 11 M lv (.int (-1) :: st) o := ev_go (S := (11, M, lv, (.int (-1) :: st))) rfl rfl rfl
theorem s222_11 : ji_Ev C 222 11 M lv st o ↔ ji_Ev C 222 12 M lv (.int 2 :: st) o := ev_go (S := (12, M, lv, (.int 2 :: st))) rfl rfl rfl
theorem s222_12 : ji_Ev C 222 12 M lv (p2 :: p1 :: p0 :: .ref a :: st) o ↔ (ji_rcb M 9 (.ref a) = true ∧ ji_ok8 st) ∧ ji_evC (C 158 [.ref a, p0, p1, p2] M) (fun v M' => ji_Ev C 222 15 M' lv (v.toList ++ st) o) := ev_inv (k := 222) rfl cd_9_255 rfl
theorem s222_15 : ji_Ev C 222 15 M lv (.int x :: st) o ↔ if x = 0 then ji_Ev C 222 28 M lv st o else ji_Ev C 222 18 M lv st o := ev_brz (c := .eq) rfl (by decide) rfl
theorem s222_18 : ji_Ev C 222 18 M (l0 :: l1 :: some (.int x) :: l) st o ↔ ji_Ev C 222 19 M (l0 :: l1 :: some (.int x) :: l) (.int x :: st) o := ev_go (S := (19, M, (l0 :: l1 :: some (.int x) :: l), (.int x :: st))) rfl rfl rfl
theorem s222_19 : ji_Ev C 222 19 M lv (.int x :: st) o ↔ if x < 0 then ji_Ev C 222 31 M lv st o else ji_Ev C 222 22 M lv st o := ev_brz (c := .lt) rfl (by decide) rfl
theorem s222_22 : ji_Ev C 222 22 M (l0 :: l1 :: l2 :: some (.int x) :: l) st o ↔ ji_Ev C 222 23 M (l0 :: l1 :: l2 :: some (.int x) :: l) (.int x :: st) o := ev_go (S := (23, M, (l0 :: l1 :: l2 :: some (.int x) :: l), (.int x :: st))) rfl rfl rfl
theorem s222_23 : ji_Ev C 222 23 M lv st o ↔ ji_Ev C 222 25 M lv (.int 40 :: st) o := ev_go (S := (25, M, lv, (.int 40 :: st))) rfl rfl rfl
theorem s222_25 : ji_Ev C 222 25 M lv (.int y :: .int x :: st) o ↔ if y < x then ji_Ev C 222 28 M lv st o else ji_Ev C 222 31 M lv st o := ev_brc (c := .le) rfl (by decide) rfl
theorem s222_28 : ji_Ev C 222 28 M lv st o ↔ ji_Ev C 222 30 M lv (.int (-2) :: st) o := ev_go (S := (30, M, lv, (.int (-2) :: st))) rfl rfl rfl
theorem s222_30 : ji_Ev C 222 30 M lv [.int x] o ↔ o = (some (.int x), M) := ev_ireti rfl rfl
theorem s222_31 : ji_Ev C 222 31 M (l0 :: l1 :: some (.int x) :: l) st o ↔ ji_Ev C 222 32 M (l0 :: l1 :: some (.int x) :: l) (.int x :: st) o := ev_go (S := (32, M, (l0 :: l1 :: some (.int x) :: l), (.int x :: st))) rfl rfl rfl
theorem s222_32 : ji_Ev C 222 32 M lv (.int x :: st) o ↔ if x < 0 then ji_Ev C 222 42 M lv st o else ji_Ev C 222 35 M lv st o := ev_brz (c := .lt) rfl (by decide) rfl
theorem s222_35 : ji_Ev C 222 35 M (l0 :: l1 :: l2 :: some (.int x) :: l) st o ↔ ji_Ev C 222 36 M (l0 :: l1 :: l2 :: some (.int x) :: l) (.int x :: st) o := ev_go (S := (36, M, (l0 :: l1 :: l2 :: some (.int x) :: l), (.int x :: st))) rfl rfl rfl
theorem s222_36 : ji_Ev C 222 36 M lv (.int x :: st) o ↔ if x < 0 then ji_Ev C 222 39 M lv st o else ji_Ev C 222 42 M lv st o := ev_brz (c := .ge) rfl (by decide) rfl
theorem s222_39 : ji_Ev C 222 39 M lv st o ↔ ji_Ev C 222 41 M lv (.int (-14) :: st) o := ev_go (S := (41, M, lv, (.int (-14) :: st))) rfl rfl rfl
theorem s222_41 : ji_Ev C 222 41 M lv [.int x] o ↔ o = (some (.int x), M) := ev_ireti rfl rfl
theorem s222_42 : ji_Ev C 222 42 M (some (.ref a) :: l) st o ↔ ji_Ev C 222 43 M (some (.ref a) :: l) (.ref a :: st) o := ev_go (S := (43, M, (some (.ref a) :: l), (.ref a :: st))) rfl rfl rfl
theorem s222_43 : ji_Ev C 222 43 M lv (.ref a :: st) o ↔ ji_kd M a = some (0, 9) ∧ ji_Ev C 222 46 M lv (ji_rv (ji_gR M a 77) :: st) o := ev_getR (k := 222) rfl fd_9_243 rfl
theorem s222_46 : ji_Ev C 222 46 M (l0 :: some (.int x) :: l) st o ↔ ji_Ev C 222 47 M (l0 :: some (.int x) :: l) (.int x :: st) o := ev_go (S := (47, M, (l0 :: some (.int x) :: l), (.int x :: st))) rfl rfl rfl
theorem s222_47 : ji_Ev C 222 47 M (l0 :: l1 :: some (.int x) :: l) st o ↔ ji_Ev C 222 48 M (l0 :: l1 :: some (.int x) :: l) (.int x :: st) o := ev_go (S := (48, M, (l0 :: l1 :: some (.int x) :: l), (.int x :: st))) rfl rfl rfl
theorem s222_48 : ji_Ev C 222 48 M lv (.int y :: .int x :: .ref a :: st) o ↔ ji_evA (ji_kd M a) (fun n => vp_in x n ∧ ji_Ev C 222 49 (ji_sI M a x.toNatClampNeg y) lv st o) := ev_iast rfl
theorem s222_49 : ji_Ev C 222 49 M (some (.ref a) :: l) st o ↔ ji_Ev C 222 50 M (some (.ref a) :: l) (.ref a :: st) o := ev_go (S := (50, M, (some (.ref a) :: l), (.ref a :: st))) rfl rfl rfl
theorem s222_50 : ji_Ev C 222 50 M lv (.ref a :: st) o ↔ ji_kd M a = some (0, 9) ∧ ji_Ev C 222 53 M lv (ji_rv (ji_gR M a 78) :: st) o := ev_getR (k := 222) rfl fd_9_246 rfl
theorem s222_53 : ji_Ev C 222 53 M (l0 :: some (.int x) :: l) st o ↔ ji_Ev C 222 54 M (l0 :: some (.int x) :: l) (.int x :: st) o := ev_go (S := (54, M, (l0 :: some (.int x) :: l), (.int x :: st))) rfl rfl rfl
theorem s222_54 : ji_Ev C 222 54 M (l0 :: l1 :: some (.int x) :: l) st o ↔ ji_Ev C 222 55 M (l0 :: l1 :: some (.int x) :: l) (.int x :: st) o := ev_go (S := (55, M, (l0 :: l1 :: some (.int x) :: l), (.int x :: st))) rfl rfl rfl
theorem s222_55 : ji_Ev C 222 55 M lv (.int x :: st) o ↔ if x < 0 then ji_Ev C 222 58 M lv st o else ji_Ev C 222 62 M lv st o := ev_brz (c := .ge) rfl (by decide) rfl
theorem s222_58 : ji_Ev C 222 58 M lv st o ↔ ji_Ev C 222 59 M lv (.int 0 :: st) o := ev_go (S := (59, M, lv, (.int 0 :: st))) rfl rfl rfl
theorem s222_59 : ji_Ev C 222 59 M lv st o ↔ ji_Ev C 222 63 M lv st o := ev_gt rfl (by decide) rfl
theorem s222_62 : ji_Ev C 222 62 M (l0 :: l1 :: l2 :: some (.int x) :: l) st o ↔ ji_Ev C 222 63 M (l0 :: l1 :: l2 :: some (.int x) :: l) (.int x :: st) o := ev_go (S := (63, M, (l0 :: l1 :: l2 :: some (.int x) :: l), (.int x :: st))) rfl rfl rfl
theorem s222_63 : ji_Ev C 222 63 M lv (.int y :: .int x :: .ref a :: st) o ↔ ji_evA (ji_kd M a) (fun n => vp_in x n ∧ ji_Ev C 222 64 (ji_sI M a x.toNatClampNeg y) lv st o) := ev_iast rfl
theorem s222_64 : ji_Ev C 222 64 M lv st o ↔ ji_Ev C 222 65 M lv (.int 0 :: st) o := ev_go (S := (65, M, lv, (.int 0 :: st))) rfl rfl rfl
theorem s222_65 : ji_Ev C 222 65 M lv (.int x :: st) o ↔ 4 < lv.length ∧ ji_Ev C 222 67 M (ji_s1 lv 4 (.int x)) st o := ev_stI rfl rfl rfl
theorem s222_67 : ji_Ev C 222 67 M (l0 :: l1 :: l2 :: l3 :: some (.int x) :: l) st o ↔ ji_Ev C 222 69 M (l0 :: l1 :: l2 :: l3 :: some (.int x) :: l) (.int x :: st) o := ev_go (S := (69, M, (l0 :: l1 :: l2 :: l3 :: some (.int x) :: l), (.int x :: st))) rfl rfl rfl
theorem s222_69 : ji_Ev C 222 69 M lv st o ↔ ji_Ev C 222 71 M lv (.int 40 :: st) o := ev_go (S := (71, M, lv, (.int 40 :: st))) rfl rfl rfl
theorem s222_71 : ji_Ev C 222 71 M lv (.int y :: .int x :: st) o ↔ if x < y then ji_Ev C 222 74 M lv st o else ji_Ev C 222 93 M lv st o := ev_brc (c := .ge) rfl (by decide) rfl
theorem s222_74 : ji_Ev C 222 74 M (some (.ref a) :: l) st o ↔ ji_Ev C 222 75 M (some (.ref a) :: l) (.ref a :: st) o := ev_go (S := (75, M, (some (.ref a) :: l), (.ref a :: st))) rfl rfl rfl
theorem s222_75 : ji_Ev C 222 75 M lv (.ref a :: st) o ↔ ji_kd M a = some (0, 9) ∧ ji_Ev C 222 78 M lv (ji_rv (ji_gR M a 79) :: st) o := ev_getR (k := 222) rfl fd_9_249 rfl
theorem s222_78 : ji_Ev C 222 78 M lv st o ↔ ji_Ev C 222 80 M lv (.int 40 :: st) o := ev_go (S := (80, M, lv, (.int 40 :: st))) rfl rfl rfl
theorem s222_80 : ji_Ev C 222 80 M (l0 :: some (.int x) :: l) st o ↔ ji_Ev C 222 81 M (l0 :: some (.int x) :: l) (.int x :: st) o := ev_go (S := (81, M, (l0 :: some (.int x) :: l), (.int x :: st))) rfl rfl rfl
theorem s222_81 : ji_Ev C 222 81 M lv (.int y :: .int x :: st) o ↔ ji_Ev C 222 82 M lv (.int (x * y) :: st) o := ev_go (S := (82, M, lv, (.int (x * y) :: st))) rfl rfl rfl
theorem s222_82 : ji_Ev C 222 82 M (l0 :: l1 :: l2 :: l3 :: some (.int x) :: l) st o ↔ ji_Ev C 222 84 M (l0 :: l1 :: l2 :: l3 :: some (.int x) :: l) (.int x :: st) o := ev_go (S := (84, M, (l0 :: l1 :: l2 :: l3 :: some (.int x) :: l), (.int x :: st))) rfl rfl rfl
theorem s222_84 : ji_Ev C 222 84 M lv (.int y :: .int x :: st) o ↔ ji_Ev C 222 85 M lv (.int (x + y) :: st) o := ev_go (S := (85, M, lv, (.int (x + y) :: st))) rfl rfl rfl
theorem s222_85 : ji_Ev C 222 85 M lv st o ↔ ji_Ev C 222 86 M lv (.int 0 :: st) o := ev_go (S := (86, M, lv, (.int 0 :: st))) rfl rfl rfl
theorem s222_86 : ji_Ev C 222 86 M lv (.int y :: .int x :: .ref a :: st) o ↔ ji_evA (ji_kd M a) (fun n => vp_in x n ∧ ji_Ev C 222 87 (ji_sI M a x.toNatClampNeg y) lv st o) := ev_iast rfl
theorem s222_87 : ji_Ev C 222 87 M lv st o ↔ ji_evL (lv.getD 4 none) ji_isI (fun v => match v with | .int x => 4 < lv.length ∧ ji_Ev C 222 90 M (ji_s1 lv 4 (.int (x + Int32.ofInt 1))) st o | _ => False) := ev_iinc rfl
theorem s222_90 : ji_Ev C 222 90 M lv st o ↔ ji_Ev C 222 67 M lv st o := ev_gt rfl (by decide) rfl
theorem s222_93 : ji_Ev C 222 93 M lv st o ↔ ji_Ev C 222 94 M lv (.int 1 :: st) o := ev_go (S := (94, M, lv, (.int 1 :: st))) rfl rfl rfl
theorem s222_94 : ji_Ev C 222 94 M lv [.int x] o ↔ o = (some (.int x), M) := ev_ireti rfl rfl
theorem s223_0 : ji_Ev C 223 0 M (some (.ref a) :: l) st o ↔ ji_Ev C 223 1 M (some (.ref a) :: l) (.ref a :: st) o := ev_go (S := (1, M, (some (.ref a) :: l), (.ref a :: st))) rfl rfl rfl
theorem s223_1 : ji_Ev C 223 1 M (l0 :: some (.int x) :: l) st o ↔ ji_Ev C 223 2 M (l0 :: some (.int x) :: l) (.int x :: st) o := ev_go (S := (2, M, (l0 :: some (.int x) :: l), (.int x :: st))) rfl rfl rfl
theorem s223_2 : ji_Ev C 223 2 M lv st o ↔ ji_Ev C 223 3 M lv (.int 0 :: st) o := ev_go (S := (3, M, lv, (.int 0 :: st))) rfl rfl rfl
theorem s223_3 : ji_Ev C 223 3 M lv st o ↔ ji_Ev C 223 4 M lv (.int 3 :: st) o := ev_go (S := (4, M, lv, (.int 3 :: st))) rfl rfl rfl
theorem s223_4 : ji_Ev C 223 4 M lv (p2 :: p1 :: p0 :: .ref a :: st) o ↔ (ji_rcb M 9 (.ref a) = true ∧ ji_ok8 st) ∧ ji_evC (C 158 [.ref a, p0, p1, p2] M) (fun v M' => ji_Ev C 223 7 M' lv (v.toList ++ st) o) := ev_inv (k := 223) rfl cd_9_255 rfl
theorem s223_7 : ji_Ev C 223 7 M lv [.int x] o ↔ narrow .boolean (.int x) = .int x ∧ o = (some (.int x), M) := ev_iretb rfl rfl
theorem s224_0 : ji_Ev C 224 0 M (some (.ref a) :: l) st o ↔ ji_Ev C 224 1 M (some (.ref a) :: l) (.ref a :: st) o := ev_go (S := (1, M, (some (.ref a) :: l), (.ref a :: st))) rfl rfl rfl
theorem s224_1 : ji_Ev C 224 1 M (l0 :: some (.int x) :: l) st o ↔ ji_Ev C 224 2 M (l0 :: some (.int x) :: l) (.int x :: st) o := ev_go (S := (2, M, (l0 :: some (.int x) :: l), (.int x :: st))) rfl rfl rfl
theorem s224_2 : ji_Ev C 224 2 M lv (p0 :: .ref a :: st) o ↔ (ji_rcb M 9 (.ref a) = true ∧ ji_ok8 st) ∧ ji_evC (C 223 [.ref a, p0] M) (fun v M' => ji_Ev C 224 5 M' lv (v.toList ++ st) o) := ev_inv (k := 224) rfl cd_9_418 rfl
theorem s224_5 : ji_Ev C 224 5 M lv (.int x :: st) o ↔ if x = 0 then ji_Ev C 224 8 M lv st o else ji_Ev C 224 11 M lv st o := ev_brz (c := .ne) rfl (by decide) rfl
theorem s224_8 : ji_Ev C 224 8 M lv st o ↔ ji_Ev C 224 10 M lv (.int (-2) :: st) o := ev_go (S := (10, M, lv, (.int (-2) :: st))) rfl rfl rfl
theorem s224_10 : ji_Ev C 224 10 M lv [.int x] o ↔ o = (some (.int x), M) := ev_ireti rfl rfl
theorem s224_11 : ji_Ev C 224 11 M (some (.ref a) :: l) st o ↔ ji_Ev C 224 12 M (some (.ref a) :: l) (.ref a :: st) o := ev_go (S := (12, M, (some (.ref a) :: l), (.ref a :: st))) rfl rfl rfl
theorem s224_12 : ji_Ev C 224 12 M lv (.ref a :: st) o ↔ ji_kd M a = some (0, 9) ∧ ji_Ev C 224 15 M lv (ji_rv (ji_gR M a 77) :: st) o := ev_getR (k := 224) rfl fd_9_243 rfl
theorem s224_15 : ji_Ev C 224 15 M (l0 :: some (.int x) :: l) st o ↔ ji_Ev C 224 16 M (l0 :: some (.int x) :: l) (.int x :: st) o := ev_go (S := (16, M, (l0 :: some (.int x) :: l), (.int x :: st))) rfl rfl rfl
theorem s224_16 : ji_Ev C 224 16 M lv (.int x :: .ref a :: st) o ↔ ji_evA (ji_kd M a) (fun n => vp_in x n ∧ ji_Ev C 224 17 M lv (.int (ji_gI M a x.toNatClampNeg) :: st) o) := ev_iald rfl
theorem s224_17 : ji_Ev C 224 17 M lv (.int x :: st) o ↔ if x < 0 then ji_Ev C 224 20 M lv st o else ji_Ev C 224 23 M lv st o := ev_brz (c := .ge) rfl (by decide) rfl
theorem s224_20 : ji_Ev C 224 20 M lv st o ↔ ji_Ev C 224 22 M lv (.int (-11) :: st) o := ev_go (S := (22, M, lv, (.int (-11) :: st))) rfl rfl rfl
theorem s224_22 : ji_Ev C 224 22 M lv [.int x] o ↔ o = (some (.int x), M) := ev_ireti rfl rfl
theorem s224_23 : ji_Ev C 224 23 M (some (.ref a) :: l) st o ↔ ji_Ev C 224 24 M (some (.ref a) :: l) (.ref a :: st) o := ev_go (S := (24, M, (some (.ref a) :: l), (.ref a :: st))) rfl rfl rfl
theorem s224_24 : ji_Ev C 224 24 M (l0 :: l1 :: some (.int x) :: l) st o ↔ ji_Ev C 224 25 M (l0 :: l1 :: some (.int x) :: l) (.int x :: st) o := ev_go (S := (25, M, (l0 :: l1 :: some (.int x) :: l), (.int x :: st))) rfl rfl rfl
theorem s224_25 : ji_Ev C 224 25 M lv st o ↔ ji_Ev C 224 26 M lv (.int 0 :: st) o := ev_go (S := (26, M, lv, (.int 0 :: st))) rfl rfl rfl
theorem s224_26 : ji_Ev C 224 26 M (some (.ref a) :: l) st o ↔ ji_Ev C 224 27 M (some (.ref a) :: l) (.ref a :: st) o := ev_go (S := (27, M, (some (.ref a) :: l), (.ref a :: st))) rfl rfl rfl
theorem s224_27 : ji_Ev C 224 27 M lv (.ref a :: st) o ↔ ji_kd M a = some (0, 9) ∧ ji_Ev C 224 30 M lv (ji_rv (ji_gR M a 78) :: st) o := ev_getR (k := 224) rfl fd_9_246 rfl
theorem s224_30 : ji_Ev C 224 30 M (l0 :: some (.int x) :: l) st o ↔ ji_Ev C 224 31 M (l0 :: some (.int x) :: l) (.int x :: st) o := ev_go (S := (31, M, (l0 :: some (.int x) :: l), (.int x :: st))) rfl rfl rfl
theorem s224_31 : ji_Ev C 224 31 M lv (.int x :: .ref a :: st) o ↔ ji_evA (ji_kd M a) (fun n => vp_in x n ∧ ji_Ev C 224 32 M lv (.int (ji_gI M a x.toNatClampNeg) :: st) o) := ev_iald rfl
theorem s224_32 : ji_Ev C 224 32 M lv st o ↔ ji_Ev C 224 33 M lv (.int 1 :: st) o := ev_go (S := (33, M, lv, (.int 1 :: st))) rfl rfl rfl
theorem s224_33 : ji_Ev C 224 33 M lv (.int y :: .int x :: st) o ↔ ji_Ev C 224 34 M lv (.int (x - y) :: st) o := ev_go (S := (34, M, lv, (.int (x - y) :: st))) rfl rfl rfl
theorem s224_34 : ji_Ev C 224 34 M lv (p2 :: p1 :: p0 :: .ref a :: st) o ↔ (ji_rcb M 9 (.ref a) = true ∧ ji_ok8 st) ∧ ji_evC (C 158 [.ref a, p0, p1, p2] M) (fun v M' => ji_Ev C 224 37 M' lv (v.toList ++ st) o) := ev_inv (k := 224) rfl cd_9_255 rfl
theorem s224_37 : ji_Ev C 224 37 M lv (.int x :: st) o ↔ if x = 0 then ji_Ev C 224 40 M lv st o else ji_Ev C 224 43 M lv st o := ev_brz (c := .ne) rfl (by decide) rfl
theorem s224_40 : ji_Ev C 224 40 M lv st o ↔ ji_Ev C 224 42 M lv (.int (-12) :: st) o := ev_go (S := (42, M, lv, (.int (-12) :: st))) rfl rfl rfl
theorem s224_42 : ji_Ev C 224 42 M lv [.int x] o ↔ o = (some (.int x), M) := ev_ireti rfl rfl
theorem s224_43 : ji_Ev C 224 43 M (some (.ref a) :: l) st o ↔ ji_Ev C 224 44 M (some (.ref a) :: l) (.ref a :: st) o := ev_go (S := (44, M, (some (.ref a) :: l), (.ref a :: st))) rfl rfl rfl
theorem s224_44 : ji_Ev C 224 44 M lv (.ref a :: st) o ↔ ji_kd M a = some (0, 9) ∧ ji_Ev C 224 47 M lv (ji_rv (ji_gR M a 79) :: st) o := ev_getR (k := 224) rfl fd_9_249 rfl
theorem s224_47 : ji_Ev C 224 47 M lv st o ↔ ji_Ev C 224 49 M lv (.int 40 :: st) o := ev_go (S := (49, M, lv, (.int 40 :: st))) rfl rfl rfl
theorem s224_49 : ji_Ev C 224 49 M (l0 :: some (.int x) :: l) st o ↔ ji_Ev C 224 50 M (l0 :: some (.int x) :: l) (.int x :: st) o := ev_go (S := (50, M, (l0 :: some (.int x) :: l), (.int x :: st))) rfl rfl rfl
theorem s224_50 : ji_Ev C 224 50 M lv (.int y :: .int x :: st) o ↔ ji_Ev C 224 51 M lv (.int (x * y) :: st) o := ev_go (S := (51, M, lv, (.int (x * y) :: st))) rfl rfl rfl
theorem s224_51 : ji_Ev C 224 51 M (l0 :: l1 :: some (.int x) :: l) st o ↔ ji_Ev C 224 52 M (l0 :: l1 :: some (.int x) :: l) (.int x :: st) o := ev_go (S := (52, M, (l0 :: l1 :: some (.int x) :: l), (.int x :: st))) rfl rfl rfl
theorem s224_52 : ji_Ev C 224 52 M lv (.int y :: .int x :: st) o ↔ ji_Ev C 224 53 M lv (.int (x + y) :: st) o := ev_go (S := (53, M, lv, (.int (x + y) :: st))) rfl rfl rfl
theorem s224_53 : ji_Ev C 224 53 M (some (.ref a) :: l) st o ↔ ji_Ev C 224 54 M (some (.ref a) :: l) (.ref a :: st) o := ev_go (S := (54, M, (some (.ref a) :: l), (.ref a :: st))) rfl rfl rfl
theorem s224_54 : ji_Ev C 224 54 M lv (.ref a :: st) o ↔ ji_kd M a = some (0, 9) ∧ ji_Ev C 224 57 M lv (ji_rv (ji_gR M a 77) :: st) o := ev_getR (k := 224) rfl fd_9_243 rfl
theorem s224_57 : ji_Ev C 224 57 M (l0 :: some (.int x) :: l) st o ↔ ji_Ev C 224 58 M (l0 :: some (.int x) :: l) (.int x :: st) o := ev_go (S := (58, M, (l0 :: some (.int x) :: l), (.int x :: st))) rfl rfl rfl
theorem s224_58 : ji_Ev C 224 58 M lv (.int x :: .ref a :: st) o ↔ ji_evA (ji_kd M a) (fun n => vp_in x n ∧ ji_Ev C 224 59 M lv (.int (ji_gI M a x.toNatClampNeg) :: st) o) := ev_iald rfl
theorem s224_59 : ji_Ev C 224 59 M lv (.int x :: st) o ↔ if x = 0 then ji_Ev C 224 62 M lv st o else ji_Ev C 224 67 M lv st o := ev_brz (c := .ne) rfl (by decide) rfl
theorem s224_62 : ji_Ev C 224 62 M (l0 :: l1 :: l2 :: some (.int x) :: l) st o ↔ ji_Ev C 224 63 M (l0 :: l1 :: l2 :: some (.int x) :: l) (.int x :: st) o := ev_go (S := (63, M, (l0 :: l1 :: l2 :: some (.int x) :: l), (.int x :: st))) rfl rfl rfl
theorem s224_63 : ji_Ev C 224 63 M lv (.int x :: st) o ↔ ji_Ev C 224 64 M lv (.int x.toInt8.toInt32 :: st) o := ev_go (S := (64, M, lv, (.int x.toInt8.toInt32 :: st))) rfl rfl rfl
theorem s224_64 : ji_Ev C 224 64 M lv st o ↔ ji_Ev C 224 83 M lv st o := ev_gt rfl (by decide) rfl
theorem s224_67 : ji_Ev C 224 67 M (some (.ref a) :: l) st o ↔ ji_Ev C 224 68 M (some (.ref a) :: l) (.ref a :: st) o := ev_go (S := (68, M, (some (.ref a) :: l), (.ref a :: st))) rfl rfl rfl
theorem s224_68 : ji_Ev C 224 68 M lv (.ref a :: st) o ↔ ji_kd M a = some (0, 9) ∧ ji_Ev C 224 71 M lv (ji_rv (ji_gR M a 77) :: st) o := ev_getR (k := 224) rfl fd_9_243 rfl
theorem s224_71 : ji_Ev C 224 71 M (l0 :: some (.int x) :: l) st o ↔ ji_Ev C 224 72 M (l0 :: some (.int x) :: l) (.int x :: st) o := ev_go (S := (72, M, (l0 :: some (.int x) :: l), (.int x :: st))) rfl rfl rfl
theorem s224_72 : ji_Ev C 224 72 M lv (.int x :: .ref a :: st) o ↔ ji_evA (ji_kd M a) (fun n => vp_in x n ∧ ji_Ev C 224 73 M lv (.int (ji_gI M a x.toNatClampNeg) :: st) o) := ev_iald rfl
theorem s224_73 : ji_Ev C 224 73 M lv st o ↔ ji_Ev C 224 74 M lv (.int 1 :: st) o := ev_go (S := (74, M, lv, (.int 1 :: st))) rfl rfl rfl
theorem s224_74 : ji_Ev C 224 74 M lv (.int y :: .int x :: st) o ↔ if x = y then ji_Ev C 224 77 M lv st o else ji_Ev C 224 82 M lv st o := ev_brc (c := .ne) rfl (by decide) rfl
theorem s224_77 : ji_Ev C 224 77 M (l0 :: l1 :: l2 :: some (.int x) :: l) st o ↔ ji_Ev C 224 78 M (l0 :: l1 :: l2 :: some (.int x) :: l) (.int x :: st) o := ev_go (S := (78, M, (l0 :: l1 :: l2 :: some (.int x) :: l), (.int x :: st))) rfl rfl rfl
theorem s224_78 : ji_Ev C 224 78 M lv (.int x :: st) o ↔ ji_Ev C 224 79 M lv (.int x.toInt16.toInt32 :: st) o := ev_go (S := (79, M, lv, (.int x.toInt16.toInt32 :: st))) rfl rfl rfl
theorem s224_79 : ji_Ev C 224 79 M lv st o ↔ ji_Ev C 224 83 M lv st o := ev_gt rfl (by decide) rfl
theorem s224_82 : ji_Ev C 224 82 M (l0 :: l1 :: l2 :: some (.int x) :: l) st o ↔ ji_Ev C 224 83 M (l0 :: l1 :: l2 :: some (.int x) :: l) (.int x :: st) o := ev_go (S := (83, M, (l0 :: l1 :: l2 :: some (.int x) :: l), (.int x :: st))) rfl rfl rfl
theorem s224_83 : ji_Ev C 224 83 M lv (.int y :: .int x :: .ref a :: st) o ↔ ji_evA (ji_kd M a) (fun n => vp_in x n ∧ ji_Ev C 224 84 (ji_sI M a x.toNatClampNeg y) lv st o) := ev_iast rfl
theorem s224_84 : ji_Ev C 224 84 M lv st o ↔ ji_Ev C 224 85 M lv (.int 1 :: st) o := ev_go (S := (85, M, lv, (.int 1 :: st))) rfl rfl rfl
theorem s224_85 : ji_Ev C 224 85 M lv [.int x] o ↔ o = (some (.int x), M) := ev_ireti rfl rfl
theorem s225_0 : ji_Ev C 225 0 M (some (.ref a) :: l) st o ↔ ji_Ev C 225 1 M (some (.ref a) :: l) (.ref a :: st) o := ev_go (S := (1, M, (some (.ref a) :: l), (.ref a :: st))) rfl rfl rfl
theorem s225_1 : ji_Ev C 225 1 M (l0 :: some (.int x) :: l) st o ↔ ji_Ev C 225 2 M (l0 :: some (.int x) :: l) (.int x :: st) o := ev_go (S := (2, M, (l0 :: some (.int x) :: l), (.int x :: st))) rfl rfl rfl
theorem s225_2 : ji_Ev C 225 2 M lv (p0 :: .ref a :: st) o ↔ (ji_rcb M 9 (.ref a) = true ∧ ji_ok8 st) ∧ ji_evC (C 223 [.ref a, p0] M) (fun v M' => ji_Ev C 225 5 M' lv (v.toList ++ st) o) := ev_inv (k := 225) rfl cd_9_418 rfl
theorem s225_5 : ji_Ev C 225 5 M lv (.int x :: st) o ↔ if x = 0 then ji_Ev C 225 16 M lv st o else ji_Ev C 225 8 M lv st o := ev_brz (c := .eq) rfl (by decide) rfl
theorem s225_8 : ji_Ev C 225 8 M (some (.ref a) :: l) st o ↔ ji_Ev C 225 9 M (some (.ref a) :: l) (.ref a :: st) o := ev_go (S := (9, M, (some (.ref a) :: l), (.ref a :: st))) rfl rfl rfl
theorem s225_9 : ji_Ev C 225 9 M (l0 :: l1 :: l2 :: some (.int x) :: l) st o ↔ ji_Ev C 225 10 M (l0 :: l1 :: l2 :: some (.int x) :: l) (.int x :: st) o := ev_go (S := (10, M, (l0 :: l1 :: l2 :: some (.int x) :: l), (.int x :: st))) rfl rfl rfl
theorem s225_10 : ji_Ev C 225 10 M lv (p0 :: .ref a :: st) o ↔ (ji_rcb M 9 (.ref a) = true ∧ ji_ok8 st) ∧ ji_evC (C 223 [.ref a, p0] M) (fun v M' => ji_Ev C 225 13 M' lv (v.toList ++ st) o) := ev_inv (k := 225) rfl cd_9_418 rfl
theorem s225_13 : ji_Ev C 225 13 M lv (.int x :: st) o ↔ if x = 0 then ji_Ev C 225 16 M lv st o else ji_Ev C 225 19 M lv st o := ev_brz (c := .ne) rfl (by decide) rfl
theorem s225_16 : ji_Ev C 225 16 M lv st o ↔ ji_Ev C 225 18 M lv (.int (-2) :: st) o := ev_go (S := (18, M, lv, (.int (-2) :: st))) rfl rfl rfl
theorem s225_18 : ji_Ev C 225 18 M lv [.int x] o ↔ o = (some (.int x), M) := ev_ireti rfl rfl
theorem s225_19 : ji_Ev C 225 19 M (some (.ref a) :: l) st o ↔ ji_Ev C 225 20 M (some (.ref a) :: l) (.ref a :: st) o := ev_go (S := (20, M, (some (.ref a) :: l), (.ref a :: st))) rfl rfl rfl
theorem s225_20 : ji_Ev C 225 20 M lv (.ref a :: st) o ↔ ji_kd M a = some (0, 9) ∧ ji_Ev C 225 23 M lv (ji_rv (ji_gR M a 77) :: st) o := ev_getR (k := 225) rfl fd_9_243 rfl
theorem s225_23 : ji_Ev C 225 23 M (l0 :: some (.int x) :: l) st o ↔ ji_Ev C 225 24 M (l0 :: some (.int x) :: l) (.int x :: st) o := ev_go (S := (24, M, (l0 :: some (.int x) :: l), (.int x :: st))) rfl rfl rfl
theorem s225_24 : ji_Ev C 225 24 M lv (.int x :: .ref a :: st) o ↔ ji_evA (ji_kd M a) (fun n => vp_in x n ∧ ji_Ev C 225 25 M lv (.int (ji_gI M a x.toNatClampNeg) :: st) o) := ev_iald rfl
theorem s225_25 : ji_Ev C 225 25 M lv (.int x :: st) o ↔ if x < 0 then ji_Ev C 225 37 M lv st o else ji_Ev C 225 28 M lv st o := ev_brz (c := .lt) rfl (by decide) rfl
theorem s225_28 : ji_Ev C 225 28 M (some (.ref a) :: l) st o ↔ ji_Ev C 225 29 M (some (.ref a) :: l) (.ref a :: st) o := ev_go (S := (29, M, (some (.ref a) :: l), (.ref a :: st))) rfl rfl rfl
theorem s225_29 : ji_Ev C 225 29 M lv (.ref a :: st) o ↔ ji_kd M a = some (0, 9) ∧ ji_Ev C 225 32 M lv (ji_rv (ji_gR M a 77) :: st) o := ev_getR (k := 225) rfl fd_9_243 rfl
theorem s225_32 : ji_Ev C 225 32 M (l0 :: l1 :: l2 :: some (.int x) :: l) st o ↔ ji_Ev C 225 33 M (l0 :: l1 :: l2 :: some (.int x) :: l) (.int x :: st) o := ev_go (S := (33, M, (l0 :: l1 :: l2 :: some (.int x) :: l), (.int x :: st))) rfl rfl rfl
theorem s225_33 : ji_Ev C 225 33 M lv (.int x :: .ref a :: st) o ↔ ji_evA (ji_kd M a) (fun n => vp_in x n ∧ ji_Ev C 225 34 M lv (.int (ji_gI M a x.toNatClampNeg) :: st) o) := ev_iald rfl
theorem s225_34 : ji_Ev C 225 34 M lv (.int x :: st) o ↔ if x < 0 then ji_Ev C 225 37 M lv st o else ji_Ev C 225 40 M lv st o := ev_brz (c := .ge) rfl (by decide) rfl
theorem s225_37 : ji_Ev C 225 37 M lv st o ↔ ji_Ev C 225 39 M lv (.int (-11) :: st) o := ev_go (S := (39, M, lv, (.int (-11) :: st))) rfl rfl rfl
theorem s225_39 : ji_Ev C 225 39 M lv [.int x] o ↔ o = (some (.int x), M) := ev_ireti rfl rfl
theorem s225_40 : ji_Ev C 225 40 M (some (.ref a) :: l) st o ↔ ji_Ev C 225 41 M (some (.ref a) :: l) (.ref a :: st) o := ev_go (S := (41, M, (some (.ref a) :: l), (.ref a :: st))) rfl rfl rfl
theorem s225_41 : ji_Ev C 225 41 M lv (.ref a :: st) o ↔ ji_kd M a = some (0, 9) ∧ ji_Ev C 225 44 M lv (ji_rv (ji_gR M a 77) :: st) o := ev_getR (k := 225) rfl fd_9_243 rfl
theorem s225_44 : ji_Ev C 225 44 M (l0 :: some (.int x) :: l) st o ↔ ji_Ev C 225 45 M (l0 :: some (.int x) :: l) (.int x :: st) o := ev_go (S := (45, M, (l0 :: some (.int x) :: l), (.int x :: st))) rfl rfl rfl
theorem s225_45 : ji_Ev C 225 45 M lv (.int x :: .ref a :: st) o ↔ ji_evA (ji_kd M a) (fun n => vp_in x n ∧ ji_Ev C 225 46 M lv (.int (ji_gI M a x.toNatClampNeg) :: st) o) := ev_iald rfl
theorem s225_46 : ji_Ev C 225 46 M (some (.ref a) :: l) st o ↔ ji_Ev C 225 47 M (some (.ref a) :: l) (.ref a :: st) o := ev_go (S := (47, M, (some (.ref a) :: l), (.ref a :: st))) rfl rfl rfl
theorem s225_47 : ji_Ev C 225 47 M lv (.ref a :: st) o ↔ ji_kd M a = some (0, 9) ∧ ji_Ev C 225 50 M lv (ji_rv (ji_gR M a 77) :: st) o := ev_getR (k := 225) rfl fd_9_243 rfl
theorem s225_50 : ji_Ev C 225 50 M (l0 :: l1 :: l2 :: some (.int x) :: l) st o ↔ ji_Ev C 225 51 M (l0 :: l1 :: l2 :: some (.int x) :: l) (.int x :: st) o := ev_go (S := (51, M, (l0 :: l1 :: l2 :: some (.int x) :: l), (.int x :: st))) rfl rfl rfl
theorem s225_51 : ji_Ev C 225 51 M lv (.int x :: .ref a :: st) o ↔ ji_evA (ji_kd M a) (fun n => vp_in x n ∧ ji_Ev C 225 52 M lv (.int (ji_gI M a x.toNatClampNeg) :: st) o) := ev_iald rfl
theorem s225_52 : ji_Ev C 225 52 M lv (.int y :: .int x :: st) o ↔ if x = y then ji_Ev C 225 58 M lv st o else ji_Ev C 225 55 M lv st o := ev_brc (c := .eq) rfl (by decide) rfl
theorem s225_55 : ji_Ev C 225 55 M lv st o ↔ ji_Ev C 225 57 M lv (.int (-13) :: st) o := ev_go (S := (57, M, lv, (.int (-13) :: st))) rfl rfl rfl
theorem s225_57 : ji_Ev C 225 57 M lv [.int x] o ↔ o = (some (.int x), M) := ev_ireti rfl rfl
theorem s225_58 : ji_Ev C 225 58 M (l0 :: l1 :: l2 :: l3 :: l4 :: some (.int x) :: l) st o ↔ ji_Ev C 225 60 M (l0 :: l1 :: l2 :: l3 :: l4 :: some (.int x) :: l) (.int x :: st) o := ev_go (S := (60, M, (l0 :: l1 :: l2 :: l3 :: l4 :: some (.int x) :: l), (.int x :: st))) rfl rfl rfl
theorem s225_60 : ji_Ev C 225 60 M lv (.int x :: st) o ↔ if x < 0 then ji_Ev C 225 99 M lv st o else ji_Ev C 225 63 M lv st o := ev_brz (c := .lt) rfl (by decide) rfl
theorem s225_63 : ji_Ev C 225 63 M (l0 :: l1 :: some (.int x) :: l) st o ↔ ji_Ev C 225 64 M (l0 :: l1 :: some (.int x) :: l) (.int x :: st) o := ev_go (S := (64, M, (l0 :: l1 :: some (.int x) :: l), (.int x :: st))) rfl rfl rfl
theorem s225_64 : ji_Ev C 225 64 M lv (.int x :: st) o ↔ if x < 0 then ji_Ev C 225 99 M lv st o else ji_Ev C 225 67 M lv st o := ev_brz (c := .lt) rfl (by decide) rfl
theorem s225_67 : ji_Ev C 225 67 M (l0 :: l1 :: l2 :: l3 :: some (.int x) :: l) st o ↔ ji_Ev C 225 69 M (l0 :: l1 :: l2 :: l3 :: some (.int x) :: l) (.int x :: st) o := ev_go (S := (69, M, (l0 :: l1 :: l2 :: l3 :: some (.int x) :: l), (.int x :: st))) rfl rfl rfl
theorem s225_69 : ji_Ev C 225 69 M lv (.int x :: st) o ↔ if x < 0 then ji_Ev C 225 99 M lv st o else ji_Ev C 225 72 M lv st o := ev_brz (c := .lt) rfl (by decide) rfl
theorem s225_72 : ji_Ev C 225 72 M (l0 :: l1 :: some (.int x) :: l) st o ↔ ji_Ev C 225 73 M (l0 :: l1 :: some (.int x) :: l) (.int x :: st) o := ev_go (S := (73, M, (l0 :: l1 :: some (.int x) :: l), (.int x :: st))) rfl rfl rfl
theorem s225_73 : ji_Ev C 225 73 M (some (.ref a) :: l) st o ↔ ji_Ev C 225 74 M (some (.ref a) :: l) (.ref a :: st) o := ev_go (S := (74, M, (some (.ref a) :: l), (.ref a :: st))) rfl rfl rfl
theorem s225_74 : ji_Ev C 225 74 M lv (.ref a :: st) o ↔ ji_kd M a = some (0, 9) ∧ ji_Ev C 225 77 M lv (ji_rv (ji_gR M a 78) :: st) o := ev_getR (k := 225) rfl fd_9_246 rfl
theorem s225_77 : ji_Ev C 225 77 M (l0 :: some (.int x) :: l) st o ↔ ji_Ev C 225 78 M (l0 :: some (.int x) :: l) (.int x :: st) o := ev_go (S := (78, M, (l0 :: some (.int x) :: l), (.int x :: st))) rfl rfl rfl
theorem s225_78 : ji_Ev C 225 78 M lv (.int x :: .ref a :: st) o ↔ ji_evA (ji_kd M a) (fun n => vp_in x n ∧ ji_Ev C 225 79 M lv (.int (ji_gI M a x.toNatClampNeg) :: st) o) := ev_iald rfl
theorem s225_79 : ji_Ev C 225 79 M (l0 :: l1 :: l2 :: l3 :: l4 :: some (.int x) :: l) st o ↔ ji_Ev C 225 81 M (l0 :: l1 :: l2 :: l3 :: l4 :: some (.int x) :: l) (.int x :: st) o := ev_go (S := (81, M, (l0 :: l1 :: l2 :: l3 :: l4 :: some (.int x) :: l), (.int x :: st))) rfl rfl rfl
theorem s225_81 : ji_Ev C 225 81 M lv (.int y :: .int x :: st) o ↔ ji_Ev C 225 82 M lv (.int (x - y) :: st) o := ev_go (S := (82, M, lv, (.int (x - y) :: st))) rfl rfl rfl
theorem s225_82 : ji_Ev C 225 82 M lv (.int y :: .int x :: st) o ↔ if y < x then ji_Ev C 225 99 M lv st o else ji_Ev C 225 85 M lv st o := ev_brc (c := .gt) rfl (by decide) rfl
theorem s225_85 : ji_Ev C 225 85 M (l0 :: l1 :: l2 :: l3 :: some (.int x) :: l) st o ↔ ji_Ev C 225 87 M (l0 :: l1 :: l2 :: l3 :: some (.int x) :: l) (.int x :: st) o := ev_go (S := (87, M, (l0 :: l1 :: l2 :: l3 :: some (.int x) :: l), (.int x :: st))) rfl rfl rfl
theorem s225_87 : ji_Ev C 225 87 M (some (.ref a) :: l) st o ↔ ji_Ev C 225 88 M (some (.ref a) :: l) (.ref a :: st) o := ev_go (S := (88, M, (some (.ref a) :: l), (.ref a :: st))) rfl rfl rfl
theorem s225_88 : ji_Ev C 225 88 M lv (.ref a :: st) o ↔ ji_kd M a = some (0, 9) ∧ ji_Ev C 225 91 M lv (ji_rv (ji_gR M a 78) :: st) o := ev_getR (k := 225) rfl fd_9_246 rfl
theorem s225_91 : ji_Ev C 225 91 M (l0 :: l1 :: l2 :: some (.int x) :: l) st o ↔ ji_Ev C 225 92 M (l0 :: l1 :: l2 :: some (.int x) :: l) (.int x :: st) o := ev_go (S := (92, M, (l0 :: l1 :: l2 :: some (.int x) :: l), (.int x :: st))) rfl rfl rfl
theorem s225_92 : ji_Ev C 225 92 M lv (.int x :: .ref a :: st) o ↔ ji_evA (ji_kd M a) (fun n => vp_in x n ∧ ji_Ev C 225 93 M lv (.int (ji_gI M a x.toNatClampNeg) :: st) o) := ev_iald rfl
theorem s225_93 : ji_Ev C 225 93 M (l0 :: l1 :: l2 :: l3 :: l4 :: some (.int x) :: l) st o ↔ ji_Ev C 225 95 M (l0 :: l1 :: l2 :: l3 :: l4 :: some (.int x) :: l) (.int x :: st) o := ev_go (S := (95, M, (l0 :: l1 :: l2 :: l3 :: l4 :: some (.int x) :: l), (.int x :: st))) rfl rfl rfl
theorem s225_95 : ji_Ev C 225 95 M lv (.int y :: .int x :: st) o ↔ ji_Ev C 225 96 M lv (.int (x - y) :: st) o := ev_go (S := (96, M, lv, (.int (x - y) :: st))) rfl rfl rfl
theorem s225_96 : ji_Ev C 225 96 M lv (.int y :: .int x :: st) o ↔ if y < x then ji_Ev C 225 99 M lv st o else ji_Ev C 225 102 M lv st o := ev_brc (c := .le) rfl (by decide) rfl
theorem s225_99 : ji_Ev C 225 99 M lv st o ↔ ji_Ev C 225 101 M lv (.int (-12) :: st) o := ev_go (S := (101, M, lv, (.int (-12) :: st))) rfl rfl rfl
theorem s225_101 : ji_Ev C 225 101 M lv [.int x] o ↔ o = (some (.int x), M) := ev_ireti rfl rfl
theorem s225_102 : ji_Ev C 225 102 M lv st o ↔ ji_Ev C 225 103 M lv (.int 0 :: st) o := ev_go (S := (103, M, lv, (.int 0 :: st))) rfl rfl rfl
theorem s225_103 : ji_Ev C 225 103 M lv (.int x :: st) o ↔ 6 < lv.length ∧ ji_Ev C 225 105 M (ji_s1 lv 6 (.int x)) st o := ev_stI rfl rfl rfl
theorem s225_105 : ji_Ev C 225 105 M (l0 :: l1 :: l2 :: l3 :: l4 :: l5 :: some (.int x) :: l) st o ↔ ji_Ev C 225 107 M (l0 :: l1 :: l2 :: l3 :: l4 :: l5 :: some (.int x) :: l) (.int x :: st) o := ev_go (S := (107, M, (l0 :: l1 :: l2 :: l3 :: l4 :: l5 :: some (.int x) :: l), (.int x :: st))) rfl rfl rfl
theorem s225_107 : ji_Ev C 225 107 M (l0 :: l1 :: l2 :: l3 :: l4 :: some (.int x) :: l) st o ↔ ji_Ev C 225 109 M (l0 :: l1 :: l2 :: l3 :: l4 :: some (.int x) :: l) (.int x :: st) o := ev_go (S := (109, M, (l0 :: l1 :: l2 :: l3 :: l4 :: some (.int x) :: l), (.int x :: st))) rfl rfl rfl
theorem s225_109 : ji_Ev C 225 109 M lv (.int y :: .int x :: st) o ↔ if x < y then ji_Ev C 225 112 M lv st o else ji_Ev C 225 139 M lv st o := ev_brc (c := .ge) rfl (by decide) rfl
theorem s225_112 : ji_Ev C 225 112 M (some (.ref a) :: l) st o ↔ ji_Ev C 225 113 M (some (.ref a) :: l) (.ref a :: st) o := ev_go (S := (113, M, (some (.ref a) :: l), (.ref a :: st))) rfl rfl rfl
theorem s225_113 : ji_Ev C 225 113 M lv (.ref a :: st) o ↔ ji_kd M a = some (0, 9) ∧ ji_Ev C 225 116 M lv (ji_rv (ji_gR M a 80) :: st) o := ev_getR (k := 225) rfl fd_9_252 rfl
theorem s225_116 : ji_Ev C 225 116 M (l0 :: l1 :: l2 :: l3 :: l4 :: l5 :: some (.int x) :: l) st o ↔ ji_Ev C 225 118 M (l0 :: l1 :: l2 :: l3 :: l4 :: l5 :: some (.int x) :: l) (.int x :: st) o := ev_go (S := (118, M, (l0 :: l1 :: l2 :: l3 :: l4 :: l5 :: some (.int x) :: l), (.int x :: st))) rfl rfl rfl
theorem s225_118 : ji_Ev C 225 118 M (some (.ref a) :: l) st o ↔ ji_Ev C 225 119 M (some (.ref a) :: l) (.ref a :: st) o := ev_go (S := (119, M, (some (.ref a) :: l), (.ref a :: st))) rfl rfl rfl
theorem s225_119 : ji_Ev C 225 119 M lv (.ref a :: st) o ↔ ji_kd M a = some (0, 9) ∧ ji_Ev C 225 122 M lv (ji_rv (ji_gR M a 79) :: st) o := ev_getR (k := 225) rfl fd_9_249 rfl
theorem s225_122 : ji_Ev C 225 122 M lv st o ↔ ji_Ev C 225 124 M lv (.int 40 :: st) o := ev_go (S := (124, M, lv, (.int 40 :: st))) rfl rfl rfl
theorem s225_124 : ji_Ev C 225 124 M (l0 :: some (.int x) :: l) st o ↔ ji_Ev C 225 125 M (l0 :: some (.int x) :: l) (.int x :: st) o := ev_go (S := (125, M, (l0 :: some (.int x) :: l), (.int x :: st))) rfl rfl rfl
theorem s225_125 : ji_Ev C 225 125 M lv (.int y :: .int x :: st) o ↔ ji_Ev C 225 126 M lv (.int (x * y) :: st) o := ev_go (S := (126, M, lv, (.int (x * y) :: st))) rfl rfl rfl
theorem s225_126 : ji_Ev C 225 126 M (l0 :: l1 :: some (.int x) :: l) st o ↔ ji_Ev C 225 127 M (l0 :: l1 :: some (.int x) :: l) (.int x :: st) o := ev_go (S := (127, M, (l0 :: l1 :: some (.int x) :: l), (.int x :: st))) rfl rfl rfl
theorem s225_127 : ji_Ev C 225 127 M lv (.int y :: .int x :: st) o ↔ ji_Ev C 225 128 M lv (.int (x + y) :: st) o := ev_go (S := (128, M, lv, (.int (x + y) :: st))) rfl rfl rfl
theorem s225_128 : ji_Ev C 225 128 M (l0 :: l1 :: l2 :: l3 :: l4 :: l5 :: some (.int x) :: l) st o ↔ ji_Ev C 225 130 M (l0 :: l1 :: l2 :: l3 :: l4 :: l5 :: some (.int x) :: l) (.int x :: st) o := ev_go (S := (130, M, (l0 :: l1 :: l2 :: l3 :: l4 :: l5 :: some (.int x) :: l), (.int x :: st))) rfl rfl rfl
theorem s225_130 : ji_Ev C 225 130 M lv (.int y :: .int x :: st) o ↔ ji_Ev C 225 131 M lv (.int (x + y) :: st) o := ev_go (S := (131, M, lv, (.int (x + y) :: st))) rfl rfl rfl
theorem s225_131 : ji_Ev C 225 131 M lv (.int x :: .ref a :: st) o ↔ ji_evA (ji_kd M a) (fun n => vp_in x n ∧ ji_Ev C 225 132 M lv (.int (ji_gI M a x.toNatClampNeg) :: st) o) := ev_iald rfl
theorem s225_132 : ji_Ev C 225 132 M lv (.int y :: .int x :: .ref a :: st) o ↔ ji_evA (ji_kd M a) (fun n => vp_in x n ∧ ji_Ev C 225 133 (ji_sI M a x.toNatClampNeg y) lv st o) := ev_iast rfl
theorem s225_133 : ji_Ev C 225 133 M lv st o ↔ ji_evL (lv.getD 6 none) ji_isI (fun v => match v with | .int x => 6 < lv.length ∧ ji_Ev C 225 136 M (ji_s1 lv 6 (.int (x + Int32.ofInt 1))) st o | _ => False) := ev_iinc rfl
theorem s225_136 : ji_Ev C 225 136 M lv st o ↔ ji_Ev C 225 105 M lv st o := ev_gt rfl (by decide) rfl
theorem s225_139 : ji_Ev C 225 139 M lv st o ↔ ji_Ev C 225 140 M lv (.int 0 :: st) o := ev_go (S := (140, M, lv, (.int 0 :: st))) rfl rfl rfl
theorem s225_140 : ji_Ev C 225 140 M lv (.int x :: st) o ↔ 6 < lv.length ∧ ji_Ev C 225 142 M (ji_s1 lv 6 (.int x)) st o := ev_stI rfl rfl rfl
theorem s225_142 : ji_Ev C 225 142 M (l0 :: l1 :: l2 :: l3 :: l4 :: l5 :: some (.int x) :: l) st o ↔ ji_Ev C 225 144 M (l0 :: l1 :: l2 :: l3 :: l4 :: l5 :: some (.int x) :: l) (.int x :: st) o := ev_go (S := (144, M, (l0 :: l1 :: l2 :: l3 :: l4 :: l5 :: some (.int x) :: l), (.int x :: st))) rfl rfl rfl
theorem s225_144 : ji_Ev C 225 144 M (l0 :: l1 :: l2 :: l3 :: l4 :: some (.int x) :: l) st o ↔ ji_Ev C 225 146 M (l0 :: l1 :: l2 :: l3 :: l4 :: some (.int x) :: l) (.int x :: st) o := ev_go (S := (146, M, (l0 :: l1 :: l2 :: l3 :: l4 :: some (.int x) :: l), (.int x :: st))) rfl rfl rfl
theorem s225_146 : ji_Ev C 225 146 M lv (.int y :: .int x :: st) o ↔ if x < y then ji_Ev C 225 149 M lv st o else ji_Ev C 225 177 M lv st o := ev_brc (c := .ge) rfl (by decide) rfl
theorem s225_149 : ji_Ev C 225 149 M (some (.ref a) :: l) st o ↔ ji_Ev C 225 150 M (some (.ref a) :: l) (.ref a :: st) o := ev_go (S := (150, M, (some (.ref a) :: l), (.ref a :: st))) rfl rfl rfl
theorem s225_150 : ji_Ev C 225 150 M lv (.ref a :: st) o ↔ ji_kd M a = some (0, 9) ∧ ji_Ev C 225 153 M lv (ji_rv (ji_gR M a 79) :: st) o := ev_getR (k := 225) rfl fd_9_249 rfl
theorem s225_153 : ji_Ev C 225 153 M lv st o ↔ ji_Ev C 225 155 M lv (.int 40 :: st) o := ev_go (S := (155, M, lv, (.int 40 :: st))) rfl rfl rfl
theorem s225_155 : ji_Ev C 225 155 M (l0 :: l1 :: l2 :: some (.int x) :: l) st o ↔ ji_Ev C 225 156 M (l0 :: l1 :: l2 :: some (.int x) :: l) (.int x :: st) o := ev_go (S := (156, M, (l0 :: l1 :: l2 :: some (.int x) :: l), (.int x :: st))) rfl rfl rfl
theorem s225_156 : ji_Ev C 225 156 M lv (.int y :: .int x :: st) o ↔ ji_Ev C 225 157 M lv (.int (x * y) :: st) o := ev_go (S := (157, M, lv, (.int (x * y) :: st))) rfl rfl rfl
theorem s225_157 : ji_Ev C 225 157 M (l0 :: l1 :: l2 :: l3 :: some (.int x) :: l) st o ↔ ji_Ev C 225 159 M (l0 :: l1 :: l2 :: l3 :: some (.int x) :: l) (.int x :: st) o := ev_go (S := (159, M, (l0 :: l1 :: l2 :: l3 :: some (.int x) :: l), (.int x :: st))) rfl rfl rfl
theorem s225_159 : ji_Ev C 225 159 M lv (.int y :: .int x :: st) o ↔ ji_Ev C 225 160 M lv (.int (x + y) :: st) o := ev_go (S := (160, M, lv, (.int (x + y) :: st))) rfl rfl rfl
theorem s225_160 : ji_Ev C 225 160 M (l0 :: l1 :: l2 :: l3 :: l4 :: l5 :: some (.int x) :: l) st o ↔ ji_Ev C 225 162 M (l0 :: l1 :: l2 :: l3 :: l4 :: l5 :: some (.int x) :: l) (.int x :: st) o := ev_go (S := (162, M, (l0 :: l1 :: l2 :: l3 :: l4 :: l5 :: some (.int x) :: l), (.int x :: st))) rfl rfl rfl
theorem s225_162 : ji_Ev C 225 162 M lv (.int y :: .int x :: st) o ↔ ji_Ev C 225 163 M lv (.int (x + y) :: st) o := ev_go (S := (163, M, lv, (.int (x + y) :: st))) rfl rfl rfl
theorem s225_163 : ji_Ev C 225 163 M (some (.ref a) :: l) st o ↔ ji_Ev C 225 164 M (some (.ref a) :: l) (.ref a :: st) o := ev_go (S := (164, M, (some (.ref a) :: l), (.ref a :: st))) rfl rfl rfl
theorem s225_164 : ji_Ev C 225 164 M lv (.ref a :: st) o ↔ ji_kd M a = some (0, 9) ∧ ji_Ev C 225 167 M lv (ji_rv (ji_gR M a 80) :: st) o := ev_getR (k := 225) rfl fd_9_252 rfl
theorem s225_167 : ji_Ev C 225 167 M (l0 :: l1 :: l2 :: l3 :: l4 :: l5 :: some (.int x) :: l) st o ↔ ji_Ev C 225 169 M (l0 :: l1 :: l2 :: l3 :: l4 :: l5 :: some (.int x) :: l) (.int x :: st) o := ev_go (S := (169, M, (l0 :: l1 :: l2 :: l3 :: l4 :: l5 :: some (.int x) :: l), (.int x :: st))) rfl rfl rfl
theorem s225_169 : ji_Ev C 225 169 M lv (.int x :: .ref a :: st) o ↔ ji_evA (ji_kd M a) (fun n => vp_in x n ∧ ji_Ev C 225 170 M lv (.int (ji_gI M a x.toNatClampNeg) :: st) o) := ev_iald rfl
theorem s225_170 : ji_Ev C 225 170 M lv (.int y :: .int x :: .ref a :: st) o ↔ ji_evA (ji_kd M a) (fun n => vp_in x n ∧ ji_Ev C 225 171 (ji_sI M a x.toNatClampNeg y) lv st o) := ev_iast rfl
theorem s225_171 : ji_Ev C 225 171 M lv st o ↔ ji_evL (lv.getD 6 none) ji_isI (fun v => match v with | .int x => 6 < lv.length ∧ ji_Ev C 225 174 M (ji_s1 lv 6 (.int (x + Int32.ofInt 1))) st o | _ => False) := ev_iinc rfl
theorem s225_174 : ji_Ev C 225 174 M lv st o ↔ ji_Ev C 225 142 M lv st o := ev_gt rfl (by decide) rfl
theorem s225_177 : ji_Ev C 225 177 M (l0 :: l1 :: l2 :: l3 :: l4 :: some (.int x) :: l) st o ↔ ji_Ev C 225 179 M (l0 :: l1 :: l2 :: l3 :: l4 :: some (.int x) :: l) (.int x :: st) o := ev_go (S := (179, M, (l0 :: l1 :: l2 :: l3 :: l4 :: some (.int x) :: l), (.int x :: st))) rfl rfl rfl
theorem s225_179 : ji_Ev C 225 179 M lv [.int x] o ↔ o = (some (.int x), M) := ev_ireti rfl rfl
theorem s226_0 : ji_Ev C 226 0 M (some (.ref a) :: l) st o ↔ ji_Ev C 226 1 M (some (.ref a) :: l) (.ref a :: st) o := ev_go (S := (1, M, (some (.ref a) :: l), (.ref a :: st))) rfl rfl rfl
theorem s226_1 : ji_Ev C 226 1 M (l0 :: some (.int x) :: l) st o ↔ ji_Ev C 226 2 M (l0 :: some (.int x) :: l) (.int x :: st) o := ev_go (S := (2, M, (l0 :: some (.int x) :: l), (.int x :: st))) rfl rfl rfl
theorem s226_2 : ji_Ev C 226 2 M lv (p0 :: .ref a :: st) o ↔ (ji_rcb M 9 (.ref a) = true ∧ ji_ok8 st) ∧ ji_evC (C 223 [.ref a, p0] M) (fun v M' => ji_Ev C 226 5 M' lv (v.toList ++ st) o) := ev_inv (k := 226) rfl cd_9_418 rfl
theorem s226_5 : ji_Ev C 226 5 M lv (.int x :: st) o ↔ if x = 0 then ji_Ev C 226 30 M lv st o else ji_Ev C 226 8 M lv st o := ev_brz (c := .eq) rfl (by decide) rfl
theorem s226_8 : ji_Ev C 226 8 M (some (.ref a) :: l) st o ↔ ji_Ev C 226 9 M (some (.ref a) :: l) (.ref a :: st) o := ev_go (S := (9, M, (some (.ref a) :: l), (.ref a :: st))) rfl rfl rfl
theorem s226_9 : ji_Ev C 226 9 M (l0 :: l1 :: some (.int x) :: l) st o ↔ ji_Ev C 226 10 M (l0 :: l1 :: some (.int x) :: l) (.int x :: st) o := ev_go (S := (10, M, (l0 :: l1 :: some (.int x) :: l), (.int x :: st))) rfl rfl rfl
theorem s226_10 : ji_Ev C 226 10 M lv st o ↔ ji_Ev C 226 11 M lv (.int 0 :: st) o := ev_go (S := (11, M, lv, (.int 0 :: st))) rfl rfl rfl
theorem s226_11 : ji_Ev C 226 11 M lv st o ↔ ji_Ev C 226 12 M lv (.int 2 :: st) o := ev_go (S := (12, M, lv, (.int 2 :: st))) rfl rfl rfl
theorem s226_12 : ji_Ev C 226 12 M lv (p2 :: p1 :: p0 :: .ref a :: st) o ↔ (ji_rcb M 9 (.ref a) = true ∧ ji_ok8 st) ∧ ji_evC (C 158 [.ref a, p0, p1, p2] M) (fun v M' => ji_Ev C 226 15 M' lv (v.toList ++ st) o) := ev_inv (k := 226) rfl cd_9_255 rfl
theorem s226_15 : ji_Ev C 226 15 M lv (.int x :: st) o ↔ if x = 0 then ji_Ev C 226 30 M lv st o else ji_Ev C 226 18 M lv st o := ev_brz (c := .eq) rfl (by decide) rfl
theorem s226_18 : ji_Ev C 226 18 M (some (.ref a) :: l) st o ↔ ji_Ev C 226 19 M (some (.ref a) :: l) (.ref a :: st) o := ev_go (S := (19, M, (some (.ref a) :: l), (.ref a :: st))) rfl rfl rfl
theorem s226_19 : ji_Ev C 226 19 M (l0 :: l1 :: l2 :: l3 :: some (.int x) :: l) st o ↔ ji_Ev C 226 21 M (l0 :: l1 :: l2 :: l3 :: some (.int x) :: l) (.int x :: st) o := ev_go (S := (21, M, (l0 :: l1 :: l2 :: l3 :: some (.int x) :: l), (.int x :: st))) rfl rfl rfl
theorem s226_21 : ji_Ev C 226 21 M lv st o ↔ ji_Ev C 226 22 M lv (.int 0 :: st) o := ev_go (S := (22, M, lv, (.int 0 :: st))) rfl rfl rfl
theorem s226_22 : ji_Ev C 226 22 M lv st o ↔ ji_Ev C 226 24 M lv (.int 20 :: st) o := ev_go (S := (24, M, lv, (.int 20 :: st))) rfl rfl rfl
theorem s226_24 : ji_Ev C 226 24 M lv (p2 :: p1 :: p0 :: .ref a :: st) o ↔ (ji_rcb M 9 (.ref a) = true ∧ ji_ok8 st) ∧ ji_evC (C 158 [.ref a, p0, p1, p2] M) (fun v M' => ji_Ev C 226 27 M' lv (v.toList ++ st) o) := ev_inv (k := 226) rfl cd_9_255 rfl
theorem s226_27 : ji_Ev C 226 27 M lv (.int x :: st) o ↔ if x = 0 then ji_Ev C 226 30 M lv st o else ji_Ev C 226 33 M lv st o := ev_brz (c := .ne) rfl (by decide) rfl
theorem s226_30 : ji_Ev C 226 30 M lv st o ↔ ji_Ev C 226 32 M lv (.int (-2) :: st) o := ev_go (S := (32, M, lv, (.int (-2) :: st))) rfl rfl rfl
theorem s226_32 : ji_Ev C 226 32 M lv [.int x] o ↔ o = (some (.int x), M) := ev_ireti rfl rfl
theorem s226_33 : ji_Ev C 226 33 M (some (.ref a) :: l) st o ↔ ji_Ev C 226 34 M (some (.ref a) :: l) (.ref a :: st) o := ev_go (S := (34, M, (some (.ref a) :: l), (.ref a :: st))) rfl rfl rfl
theorem s226_34 : ji_Ev C 226 34 M lv (.ref a :: st) o ↔ ji_kd M a = some (0, 9) ∧ ji_Ev C 226 37 M lv (ji_rv (ji_gR M a 77) :: st) o := ev_getR (k := 226) rfl fd_9_243 rfl
theorem s226_37 : ji_Ev C 226 37 M (l0 :: some (.int x) :: l) st o ↔ ji_Ev C 226 38 M (l0 :: some (.int x) :: l) (.int x :: st) o := ev_go (S := (38, M, (l0 :: some (.int x) :: l), (.int x :: st))) rfl rfl rfl
theorem s226_38 : ji_Ev C 226 38 M lv (.int x :: .ref a :: st) o ↔ ji_evA (ji_kd M a) (fun n => vp_in x n ∧ ji_Ev C 226 39 M lv (.int (ji_gI M a x.toNatClampNeg) :: st) o) := ev_iald rfl
theorem s226_39 : ji_Ev C 226 39 M lv (.int x :: st) o ↔ if x < 0 then ji_Ev C 226 55 M lv st o else ji_Ev C 226 42 M lv st o := ev_brz (c := .lt) rfl (by decide) rfl
theorem s226_42 : ji_Ev C 226 42 M (some (.ref a) :: l) st o ↔ ji_Ev C 226 43 M (some (.ref a) :: l) (.ref a :: st) o := ev_go (S := (43, M, (some (.ref a) :: l), (.ref a :: st))) rfl rfl rfl
theorem s226_43 : ji_Ev C 226 43 M lv (.ref a :: st) o ↔ ji_kd M a = some (0, 9) ∧ ji_Ev C 226 46 M lv (ji_rv (ji_gR M a 77) :: st) o := ev_getR (k := 226) rfl fd_9_243 rfl
theorem s226_46 : ji_Ev C 226 46 M (l0 :: some (.int x) :: l) st o ↔ ji_Ev C 226 47 M (l0 :: some (.int x) :: l) (.int x :: st) o := ev_go (S := (47, M, (l0 :: some (.int x) :: l), (.int x :: st))) rfl rfl rfl
theorem s226_47 : ji_Ev C 226 47 M lv (.int x :: .ref a :: st) o ↔ ji_evA (ji_kd M a) (fun n => vp_in x n ∧ ji_Ev C 226 48 M lv (.int (ji_gI M a x.toNatClampNeg) :: st) o) := ev_iald rfl
theorem s226_48 : ji_Ev C 226 48 M (l0 :: l1 :: some (.int x) :: l) st o ↔ ji_Ev C 226 49 M (l0 :: l1 :: some (.int x) :: l) (.int x :: st) o := ev_go (S := (49, M, (l0 :: l1 :: some (.int x) :: l), (.int x :: st))) rfl rfl rfl
theorem s226_49 : ji_Ev C 226 49 M lv (.int y :: .int x :: st) o ↔ if x = y then ji_Ev C 226 55 M lv st o else ji_Ev C 226 52 M lv st o := ev_brc (c := .eq) rfl (by decide) rfl
theorem s226_52 : ji_Ev C 226 52 M lv st o ↔ ji_Ev C 226 54 M lv (.int (-13) :: st) o := ev_go (S := (54, M, lv, (.int (-13) :: st))) rfl rfl rfl
theorem s226_54 : ji_Ev C 226 54 M lv [.int x] o ↔ o = (some (.int x), M) := ev_ireti rfl rfl
theorem s226_55 : ji_Ev C 226 55 M (some (.ref a) :: l) st o ↔ ji_Ev C 226 56 M (some (.ref a) :: l) (.ref a :: st) o := ev_go (S := (56, M, (some (.ref a) :: l), (.ref a :: st))) rfl rfl rfl
theorem s226_56 : ji_Ev C 226 56 M lv (.ref a :: st) o ↔ ji_kd M a = some (0, 9) ∧ ji_Ev C 226 59 M lv (ji_rv (ji_gR M a 77) :: st) o := ev_getR (k := 226) rfl fd_9_243 rfl
theorem s226_59 : ji_Ev C 226 59 M (l0 :: some (.int x) :: l) st o ↔ ji_Ev C 226 60 M (l0 :: some (.int x) :: l) (.int x :: st) o := ev_go (S := (60, M, (l0 :: some (.int x) :: l), (.int x :: st))) rfl rfl rfl
theorem s226_60 : ji_Ev C 226 60 M lv (.int x :: .ref a :: st) o ↔ ji_evA (ji_kd M a) (fun n => vp_in x n ∧ ji_Ev C 226 61 M lv (.int (ji_gI M a x.toNatClampNeg) :: st) o) := ev_iald rfl
theorem s226_61 : ji_Ev C 226 61 M lv (.int x :: st) o ↔ if x < 0 then ji_Ev C 226 64 M lv st o else ji_Ev C 226 67 M lv st o := ev_brz (c := .ge) rfl (by decide) rfl
theorem s226_64 : ji_Ev C 226 64 M lv st o ↔ ji_Ev C 226 66 M lv (.int (-11) :: st) o := ev_go (S := (66, M, lv, (.int (-11) :: st))) rfl rfl rfl
theorem s226_66 : ji_Ev C 226 66 M lv [.int x] o ↔ o = (some (.int x), M) := ev_ireti rfl rfl
theorem s226_67 : ji_Ev C 226 67 M lv st o ↔ ji_Ev C 226 68 M lv (.int 0 :: st) o := ev_go (S := (68, M, lv, (.int 0 :: st))) rfl rfl rfl
theorem s226_68 : ji_Ev C 226 68 M lv (.int x :: st) o ↔ 5 < lv.length ∧ ji_Ev C 226 70 M (ji_s1 lv 5 (.int x)) st o := ev_stI rfl rfl rfl
theorem s226_70 : ji_Ev C 226 70 M lv st o ↔ ji_Ev C 226 71 M lv (.int 0 :: st) o := ev_go (S := (71, M, lv, (.int 0 :: st))) rfl rfl rfl
theorem s226_71 : ji_Ev C 226 71 M lv (.int x :: st) o ↔ 6 < lv.length ∧ ji_Ev C 226 73 M (ji_s1 lv 6 (.int x)) st o := ev_stI rfl rfl rfl
theorem s226_73 : ji_Ev C 226 73 M (l0 :: l1 :: l2 :: l3 :: l4 :: l5 :: some (.int x) :: l) st o ↔ ji_Ev C 226 75 M (l0 :: l1 :: l2 :: l3 :: l4 :: l5 :: some (.int x) :: l) (.int x :: st) o := ev_go (S := (75, M, (l0 :: l1 :: l2 :: l3 :: l4 :: l5 :: some (.int x) :: l), (.int x :: st))) rfl rfl rfl
theorem s226_75 : ji_Ev C 226 75 M (l0 :: l1 :: l2 :: l3 :: some (.int x) :: l) st o ↔ ji_Ev C 226 77 M (l0 :: l1 :: l2 :: l3 :: some (.int x) :: l) (.int x :: st) o := ev_go (S := (77, M, (l0 :: l1 :: l2 :: l3 :: some (.int x) :: l), (.int x :: st))) rfl rfl rfl
theorem s226_77 : ji_Ev C 226 77 M lv (.int y :: .int x :: st) o ↔ if x < y then ji_Ev C 226 80 M lv st o else ji_Ev C 226 161 M lv st o := ev_brc (c := .ge) rfl (by decide) rfl
theorem s226_80 : ji_Ev C 226 80 M (l0 :: l1 :: l2 :: some (.int x) :: l) st o ↔ ji_Ev C 226 81 M (l0 :: l1 :: l2 :: some (.int x) :: l) (.int x :: st) o := ev_go (S := (81, M, (l0 :: l1 :: l2 :: some (.int x) :: l), (.int x :: st))) rfl rfl rfl
theorem s226_81 : ji_Ev C 226 81 M lv (.int x :: st) o ↔ if x < 0 then ji_Ev C 226 101 M lv st o else ji_Ev C 226 84 M lv st o := ev_brz (c := .lt) rfl (by decide) rfl
theorem s226_84 : ji_Ev C 226 84 M (l0 :: l1 :: l2 :: some (.int x) :: l) st o ↔ ji_Ev C 226 85 M (l0 :: l1 :: l2 :: some (.int x) :: l) (.int x :: st) o := ev_go (S := (85, M, (l0 :: l1 :: l2 :: some (.int x) :: l), (.int x :: st))) rfl rfl rfl
theorem s226_85 : ji_Ev C 226 85 M (some (.ref a) :: l) st o ↔ ji_Ev C 226 86 M (some (.ref a) :: l) (.ref a :: st) o := ev_go (S := (86, M, (some (.ref a) :: l), (.ref a :: st))) rfl rfl rfl
theorem s226_86 : ji_Ev C 226 86 M lv (.ref a :: st) o ↔ ji_kd M a = some (0, 9) ∧ ji_Ev C 226 89 M lv (ji_rv (ji_gR M a 78) :: st) o := ev_getR (k := 226) rfl fd_9_246 rfl
theorem s226_89 : ji_Ev C 226 89 M (l0 :: some (.int x) :: l) st o ↔ ji_Ev C 226 90 M (l0 :: some (.int x) :: l) (.int x :: st) o := ev_go (S := (90, M, (l0 :: some (.int x) :: l), (.int x :: st))) rfl rfl rfl
theorem s226_90 : ji_Ev C 226 90 M lv (.int x :: .ref a :: st) o ↔ ji_evA (ji_kd M a) (fun n => vp_in x n ∧ ji_Ev C 226 91 M lv (.int (ji_gI M a x.toNatClampNeg) :: st) o) := ev_iald rfl
theorem s226_91 : ji_Ev C 226 91 M lv st o ↔ ji_Ev C 226 92 M lv (.int 2 :: st) o := ev_go (S := (92, M, lv, (.int 2 :: st))) rfl rfl rfl
theorem s226_92 : ji_Ev C 226 92 M (l0 :: l1 :: l2 :: l3 :: l4 :: l5 :: some (.int x) :: l) st o ↔ ji_Ev C 226 94 M (l0 :: l1 :: l2 :: l3 :: l4 :: l5 :: some (.int x) :: l) (.int x :: st) o := ev_go (S := (94, M, (l0 :: l1 :: l2 :: l3 :: l4 :: l5 :: some (.int x) :: l), (.int x :: st))) rfl rfl rfl
theorem s226_94 : ji_Ev C 226 94 M lv (.int y :: .int x :: st) o ↔ ji_Ev C 226 95 M lv (.int (x * y) :: st) o := ev_go (S := (95, M, lv, (.int (x * y) :: st))) rfl rfl rfl
theorem s226_95 : ji_Ev C 226 95 M lv (.int y :: .int x :: st) o ↔ ji_Ev C 226 96 M lv (.int (x - y) :: st) o := ev_go (S := (96, M, lv, (.int (x - y) :: st))) rfl rfl rfl
theorem s226_96 : ji_Ev C 226 96 M lv st o ↔ ji_Ev C 226 97 M lv (.int 2 :: st) o := ev_go (S := (97, M, lv, (.int 2 :: st))) rfl rfl rfl
theorem s226_97 : ji_Ev C 226 97 M lv (.int y :: .int x :: st) o ↔ ji_Ev C 226 98 M lv (.int (x - y) :: st) o := ev_go (S := (98, M, lv, (.int (x - y) :: st))) rfl rfl rfl
theorem s226_98 : ji_Ev C 226 98 M lv (.int y :: .int x :: st) o ↔ if y < x then ji_Ev C 226 101 M lv st o else ji_Ev C 226 104 M lv st o := ev_brc (c := .le) rfl (by decide) rfl
theorem s226_101 : ji_Ev C 226 101 M lv st o ↔ ji_Ev C 226 103 M lv (.int (-12) :: st) o := ev_go (S := (103, M, lv, (.int (-12) :: st))) rfl rfl rfl
theorem s226_103 : ji_Ev C 226 103 M lv [.int x] o ↔ o = (some (.int x), M) := ev_ireti rfl rfl
theorem s226_104 : ji_Ev C 226 104 M (l0 :: l1 :: l2 :: l3 :: l4 :: some (.int x) :: l) st o ↔ ji_Ev C 226 106 M (l0 :: l1 :: l2 :: l3 :: l4 :: some (.int x) :: l) (.int x :: st) o := ev_go (S := (106, M, (l0 :: l1 :: l2 :: l3 :: l4 :: some (.int x) :: l), (.int x :: st))) rfl rfl rfl
theorem s226_106 : ji_Ev C 226 106 M (some (.ref a) :: l) st o ↔ ji_Ev C 226 107 M (some (.ref a) :: l) (.ref a :: st) o := ev_go (S := (107, M, (some (.ref a) :: l), (.ref a :: st))) rfl rfl rfl
theorem s226_107 : ji_Ev C 226 107 M (some (.ref a) :: l) st o ↔ ji_Ev C 226 108 M (some (.ref a) :: l) (.ref a :: st) o := ev_go (S := (108, M, (some (.ref a) :: l), (.ref a :: st))) rfl rfl rfl
theorem s226_108 : ji_Ev C 226 108 M lv (.ref a :: st) o ↔ ji_kd M a = some (0, 9) ∧ ji_Ev C 226 111 M lv (ji_rv (ji_gR M a 79) :: st) o := ev_getR (k := 226) rfl fd_9_249 rfl
theorem s226_111 : ji_Ev C 226 111 M lv st o ↔ ji_Ev C 226 113 M lv (.int 40 :: st) o := ev_go (S := (113, M, lv, (.int 40 :: st))) rfl rfl rfl
theorem s226_113 : ji_Ev C 226 113 M (l0 :: some (.int x) :: l) st o ↔ ji_Ev C 226 114 M (l0 :: some (.int x) :: l) (.int x :: st) o := ev_go (S := (114, M, (l0 :: some (.int x) :: l), (.int x :: st))) rfl rfl rfl
theorem s226_114 : ji_Ev C 226 114 M lv (.int y :: .int x :: st) o ↔ ji_Ev C 226 115 M lv (.int (x * y) :: st) o := ev_go (S := (115, M, lv, (.int (x * y) :: st))) rfl rfl rfl
theorem s226_115 : ji_Ev C 226 115 M (l0 :: l1 :: l2 :: some (.int x) :: l) st o ↔ ji_Ev C 226 116 M (l0 :: l1 :: l2 :: some (.int x) :: l) (.int x :: st) o := ev_go (S := (116, M, (l0 :: l1 :: l2 :: some (.int x) :: l), (.int x :: st))) rfl rfl rfl
theorem s226_116 : ji_Ev C 226 116 M lv (.int y :: .int x :: st) o ↔ ji_Ev C 226 117 M lv (.int (x + y) :: st) o := ev_go (S := (117, M, lv, (.int (x + y) :: st))) rfl rfl rfl
theorem s226_117 : ji_Ev C 226 117 M lv st o ↔ ji_Ev C 226 118 M lv (.int 2 :: st) o := ev_go (S := (118, M, lv, (.int 2 :: st))) rfl rfl rfl
theorem s226_118 : ji_Ev C 226 118 M (l0 :: l1 :: l2 :: l3 :: l4 :: l5 :: some (.int x) :: l) st o ↔ ji_Ev C 226 120 M (l0 :: l1 :: l2 :: l3 :: l4 :: l5 :: some (.int x) :: l) (.int x :: st) o := ev_go (S := (120, M, (l0 :: l1 :: l2 :: l3 :: l4 :: l5 :: some (.int x) :: l), (.int x :: st))) rfl rfl rfl
theorem s226_120 : ji_Ev C 226 120 M lv (.int y :: .int x :: st) o ↔ ji_Ev C 226 121 M lv (.int (x * y) :: st) o := ev_go (S := (121, M, lv, (.int (x * y) :: st))) rfl rfl rfl
theorem s226_121 : ji_Ev C 226 121 M lv (.int y :: .int x :: st) o ↔ ji_Ev C 226 122 M lv (.int (x + y) :: st) o := ev_go (S := (122, M, lv, (.int (x + y) :: st))) rfl rfl rfl
theorem s226_122 : ji_Ev C 226 122 M lv (.int x :: .ref a :: st) o ↔ ji_evA (ji_kd M a) (fun n => vp_in x n ∧ ji_Ev C 226 123 M lv (.int (ji_gI M a x.toNatClampNeg) :: st) o) := ev_iald rfl
theorem s226_123 : ji_Ev C 226 123 M (some (.ref a) :: l) st o ↔ ji_Ev C 226 124 M (some (.ref a) :: l) (.ref a :: st) o := ev_go (S := (124, M, (some (.ref a) :: l), (.ref a :: st))) rfl rfl rfl
theorem s226_124 : ji_Ev C 226 124 M lv (.ref a :: st) o ↔ ji_kd M a = some (0, 9) ∧ ji_Ev C 226 127 M lv (ji_rv (ji_gR M a 79) :: st) o := ev_getR (k := 226) rfl fd_9_249 rfl
theorem s226_127 : ji_Ev C 226 127 M lv st o ↔ ji_Ev C 226 129 M lv (.int 40 :: st) o := ev_go (S := (129, M, lv, (.int 40 :: st))) rfl rfl rfl
theorem s226_129 : ji_Ev C 226 129 M (l0 :: some (.int x) :: l) st o ↔ ji_Ev C 226 130 M (l0 :: some (.int x) :: l) (.int x :: st) o := ev_go (S := (130, M, (l0 :: some (.int x) :: l), (.int x :: st))) rfl rfl rfl
theorem s226_130 : ji_Ev C 226 130 M lv (.int y :: .int x :: st) o ↔ ji_Ev C 226 131 M lv (.int (x * y) :: st) o := ev_go (S := (131, M, lv, (.int (x * y) :: st))) rfl rfl rfl
theorem s226_131 : ji_Ev C 226 131 M (l0 :: l1 :: l2 :: some (.int x) :: l) st o ↔ ji_Ev C 226 132 M (l0 :: l1 :: l2 :: some (.int x) :: l) (.int x :: st) o := ev_go (S := (132, M, (l0 :: l1 :: l2 :: some (.int x) :: l), (.int x :: st))) rfl rfl rfl
theorem s226_132 : ji_Ev C 226 132 M lv (.int y :: .int x :: st) o ↔ ji_Ev C 226 133 M lv (.int (x + y) :: st) o := ev_go (S := (133, M, lv, (.int (x + y) :: st))) rfl rfl rfl
theorem s226_133 : ji_Ev C 226 133 M lv st o ↔ ji_Ev C 226 134 M lv (.int 2 :: st) o := ev_go (S := (134, M, lv, (.int 2 :: st))) rfl rfl rfl
theorem s226_134 : ji_Ev C 226 134 M (l0 :: l1 :: l2 :: l3 :: l4 :: l5 :: some (.int x) :: l) st o ↔ ji_Ev C 226 136 M (l0 :: l1 :: l2 :: l3 :: l4 :: l5 :: some (.int x) :: l) (.int x :: st) o := ev_go (S := (136, M, (l0 :: l1 :: l2 :: l3 :: l4 :: l5 :: some (.int x) :: l), (.int x :: st))) rfl rfl rfl
theorem s226_136 : ji_Ev C 226 136 M lv (.int y :: .int x :: st) o ↔ ji_Ev C 226 137 M lv (.int (x * y) :: st) o := ev_go (S := (137, M, lv, (.int (x * y) :: st))) rfl rfl rfl
theorem s226_137 : ji_Ev C 226 137 M lv (.int y :: .int x :: st) o ↔ ji_Ev C 226 138 M lv (.int (x + y) :: st) o := ev_go (S := (138, M, lv, (.int (x + y) :: st))) rfl rfl rfl
theorem s226_138 : ji_Ev C 226 138 M lv st o ↔ ji_Ev C 226 139 M lv (.int 1 :: st) o := ev_go (S := (139, M, lv, (.int 1 :: st))) rfl rfl rfl
theorem s226_139 : ji_Ev C 226 139 M lv (.int y :: .int x :: st) o ↔ ji_Ev C 226 140 M lv (.int (x + y) :: st) o := ev_go (S := (140, M, lv, (.int (x + y) :: st))) rfl rfl rfl
theorem s226_140 : ji_Ev C 226 140 M lv (.int x :: .ref a :: st) o ↔ ji_evA (ji_kd M a) (fun n => vp_in x n ∧ ji_Ev C 226 141 M lv (.int (ji_gI M a x.toNatClampNeg) :: st) o) := ev_iald rfl
theorem s226_141 : ji_Ev C 226 141 M lv (p1 :: p0 :: .ref a :: st) o ↔ (ji_rcb M 9 (.ref a) = true ∧ ji_ok8 st) ∧ ji_evC (C 164 [.ref a, p0, p1] M) (fun v M' => ji_Ev C 226 144 M' lv (v.toList ++ st) o) := ev_inv (k := 226) rfl cd_9_421 rfl
theorem s226_144 : ji_Ev C 226 144 M lv (.int x :: st) o ↔ if x < 0 then ji_Ev C 226 151 M lv st o else ji_Ev C 226 147 M lv st o := ev_brz (c := .lt) rfl (by decide) rfl
theorem s226_147 : ji_Ev C 226 147 M lv st o ↔ ji_Ev C 226 148 M lv (.int 1 :: st) o := ev_go (S := (148, M, lv, (.int 1 :: st))) rfl rfl rfl
theorem s226_148 : ji_Ev C 226 148 M lv st o ↔ ji_Ev C 226 152 M lv st o := ev_gt rfl (by decide) rfl
theorem s226_151 : ji_Ev C 226 151 M lv st o ↔ ji_Ev C 226 152 M lv (.int 0 :: st) o := ev_go (S := (152, M, lv, (.int 0 :: st))) rfl rfl rfl
theorem s226_152 : ji_Ev C 226 152 M lv (.int y :: .int x :: st) o ↔ ji_Ev C 226 153 M lv (.int (x + y) :: st) o := ev_go (S := (153, M, lv, (.int (x + y) :: st))) rfl rfl rfl
theorem s226_153 : ji_Ev C 226 153 M lv (.int x :: st) o ↔ 5 < lv.length ∧ ji_Ev C 226 155 M (ji_s1 lv 5 (.int x)) st o := ev_stI rfl rfl rfl
theorem s226_155 : ji_Ev C 226 155 M lv st o ↔ ji_evL (lv.getD 6 none) ji_isI (fun v => match v with | .int x => 6 < lv.length ∧ ji_Ev C 226 158 M (ji_s1 lv 6 (.int (x + Int32.ofInt 1))) st o | _ => False) := ev_iinc rfl
theorem s226_158 : ji_Ev C 226 158 M lv st o ↔ ji_Ev C 226 73 M lv st o := ev_gt rfl (by decide) rfl
theorem s226_161 : ji_Ev C 226 161 M (l0 :: l1 :: l2 :: l3 :: l4 :: some (.int x) :: l) st o ↔ ji_Ev C 226 163 M (l0 :: l1 :: l2 :: l3 :: l4 :: some (.int x) :: l) (.int x :: st) o := ev_go (S := (163, M, (l0 :: l1 :: l2 :: l3 :: l4 :: some (.int x) :: l), (.int x :: st))) rfl rfl rfl
theorem s226_163 : ji_Ev C 226 163 M lv [.int x] o ↔ o = (some (.int x), M) := ev_ireti rfl rfl
theorem s227_0 : ji_Ev C 227 0 M (some (.ref a) :: l) st o ↔ ji_Ev C 227 1 M (some (.ref a) :: l) (.ref a :: st) o := ev_go (S := (1, M, (some (.ref a) :: l), (.ref a :: st))) rfl rfl rfl
theorem s227_1 : ji_Ev C 227 1 M (l0 :: l1 :: some (.int x) :: l) st o ↔ ji_Ev C 227 2 M (l0 :: l1 :: some (.int x) :: l) (.int x :: st) o := ev_go (S := (2, M, (l0 :: l1 :: some (.int x) :: l), (.int x :: st))) rfl rfl rfl
theorem s227_2 : ji_Ev C 227 2 M lv st o ↔ ji_Ev C 227 3 M lv (.int 0 :: st) o := ev_go (S := (3, M, lv, (.int 0 :: st))) rfl rfl rfl
theorem s227_3 : ji_Ev C 227 3 M lv st o ↔ ji_Ev C 227 4 M lv (.int 5 :: st) o := ev_go (S := (4, M, lv, (.int 5 :: st))) rfl rfl rfl
theorem s227_4 : ji_Ev C 227 4 M lv (p2 :: p1 :: p0 :: .ref a :: st) o ↔ (ji_rcb M 9 (.ref a) = true ∧ ji_ok8 st) ∧ ji_evC (C 158 [.ref a, p0, p1, p2] M) (fun v M' => ji_Ev C 227 7 M' lv (v.toList ++ st) o) := ev_inv (k := 227) rfl cd_9_255 rfl
theorem s227_7 : ji_Ev C 227 7 M lv (.int x :: st) o ↔ if x = 0 then ji_Ev C 227 10 M lv st o else ji_Ev C 227 13 M lv st o := ev_brz (c := .ne) rfl (by decide) rfl
theorem s227_10 : ji_Ev C 227 10 M lv st o ↔ ji_Ev C 227 12 M lv (.int (-2) :: st) o := ev_go (S := (12, M, lv, (.int (-2) :: st))) rfl rfl rfl
theorem s227_12 : ji_Ev C 227 12 M lv [.int x] o ↔ o = (some (.int x), M) := ev_ireti rfl rfl
theorem s227_13 : ji_Ev C 227 13 M (some (.ref a) :: l) st o ↔ ji_Ev C 227 14 M (some (.ref a) :: l) (.ref a :: st) o := ev_go (S := (14, M, (some (.ref a) :: l), (.ref a :: st))) rfl rfl rfl
theorem s227_14 : ji_Ev C 227 14 M (l0 :: some (.int x) :: l) st o ↔ ji_Ev C 227 15 M (l0 :: some (.int x) :: l) (.int x :: st) o := ev_go (S := (15, M, (l0 :: some (.int x) :: l), (.int x :: st))) rfl rfl rfl
theorem s227_15 : ji_Ev C 227 15 M lv (p0 :: .ref a :: st) o ↔ (ji_rcb M 9 (.ref a) = true ∧ ji_ok8 st) ∧ ji_evC (C 166 [.ref a, p0] M) (fun v M' => ji_Ev C 227 18 M' lv (v.toList ++ st) o) := ev_inv (k := 227) rfl cd_9_275 rfl
theorem s227_18 : ji_Ev C 227 18 M lv (.int x :: st) o ↔ if x = 0 then ji_Ev C 227 21 M lv st o else ji_Ev C 227 24 M lv st o := ev_brz (c := .ne) rfl (by decide) rfl
theorem s227_21 : ji_Ev C 227 21 M lv st o ↔ ji_Ev C 227 23 M lv (.int (-11) :: st) o := ev_go (S := (23, M, lv, (.int (-11) :: st))) rfl rfl rfl
theorem s227_23 : ji_Ev C 227 23 M lv [.int x] o ↔ o = (some (.int x), M) := ev_ireti rfl rfl
theorem s227_24 : ji_Ev C 227 24 M (l0 :: l1 :: some (.int x) :: l) st o ↔ ji_Ev C 227 25 M (l0 :: l1 :: some (.int x) :: l) (.int x :: st) o := ev_go (S := (25, M, (l0 :: l1 :: some (.int x) :: l), (.int x :: st))) rfl rfl rfl
theorem s227_25 : ji_Ev C 227 25 M lv (.int x :: st) o ↔ if x = 0 then ji_Ev C 227 68 M lv st o else ji_Ev C 227 28 M lv st o := ev_brz (c := .eq) rfl (by decide) rfl
theorem s227_28 : ji_Ev C 227 28 M (some (.ref a) :: l) st o ↔ ji_Ev C 227 29 M (some (.ref a) :: l) (.ref a :: st) o := ev_go (S := (29, M, (some (.ref a) :: l), (.ref a :: st))) rfl rfl rfl
theorem s227_29 : ji_Ev C 227 29 M lv (.ref a :: st) o ↔ ji_kd M a = some (0, 9) ∧ ji_Ev C 227 32 M lv (ji_rv (ji_gR M a 12) :: st) o := ev_getR (k := 227) rfl fd_9_48 rfl
theorem s227_32 : ji_Ev C 227 32 M (l0 :: some (.int x) :: l) st o ↔ ji_Ev C 227 33 M (l0 :: some (.int x) :: l) (.int x :: st) o := ev_go (S := (33, M, (l0 :: some (.int x) :: l), (.int x :: st))) rfl rfl rfl
theorem s227_33 : ji_Ev C 227 33 M lv (.int x :: .ref a :: st) o ↔ ji_evA (ji_kd M a) (fun n => vp_in x n ∧ ji_Ev C 227 34 M lv (.int (ji_gI M a x.toNatClampNeg) :: st) o) := ev_iald rfl
theorem s227_34 : ji_Ev C 227 34 M (l0 :: l1 :: some (.int x) :: l) st o ↔ ji_Ev C 227 35 M (l0 :: l1 :: some (.int x) :: l) (.int x :: st) o := ev_go (S := (35, M, (l0 :: l1 :: some (.int x) :: l), (.int x :: st))) rfl rfl rfl
theorem s227_35 : ji_Ev C 227 35 M lv (.int y :: .int x :: st) o ↔ if x = y then ji_Ev C 227 68 M lv st o else ji_Ev C 227 38 M lv st o := ev_brc (c := .eq) rfl (by decide) rfl
theorem s227_38 : ji_Ev C 227 38 M (l0 :: l1 :: some (.int x) :: l) st o ↔ ji_Ev C 227 39 M (l0 :: l1 :: some (.int x) :: l) (.int x :: st) o := ev_go (S := (39, M, (l0 :: l1 :: some (.int x) :: l), (.int x :: st))) rfl rfl rfl
theorem s227_39 : ji_Ev C 227 39 M lv st o ↔ ji_Ev C 227 40 M lv (.int 1 :: st) o := ev_go (S := (40, M, lv, (.int 1 :: st))) rfl rfl rfl
theorem s227_40 : ji_Ev C 227 40 M lv (.int y :: .int x :: st) o ↔ if x = y then ji_Ev C 227 43 M lv st o else ji_Ev C 227 53 M lv st o := ev_brc (c := .ne) rfl (by decide) rfl
theorem s227_43 : ji_Ev C 227 43 M (some (.ref a) :: l) st o ↔ ji_Ev C 227 44 M (some (.ref a) :: l) (.ref a :: st) o := ev_go (S := (44, M, (some (.ref a) :: l), (.ref a :: st))) rfl rfl rfl
theorem s227_44 : ji_Ev C 227 44 M lv (.ref a :: st) o ↔ ji_kd M a = some (0, 9) ∧ ji_Ev C 227 47 M lv (ji_rv (ji_gR M a 12) :: st) o := ev_getR (k := 227) rfl fd_9_48 rfl
theorem s227_47 : ji_Ev C 227 47 M (l0 :: some (.int x) :: l) st o ↔ ji_Ev C 227 48 M (l0 :: some (.int x) :: l) (.int x :: st) o := ev_go (S := (48, M, (l0 :: some (.int x) :: l), (.int x :: st))) rfl rfl rfl
theorem s227_48 : ji_Ev C 227 48 M lv (.int x :: .ref a :: st) o ↔ ji_evA (ji_kd M a) (fun n => vp_in x n ∧ ji_Ev C 227 49 M lv (.int (ji_gI M a x.toNatClampNeg) :: st) o) := ev_iald rfl
theorem s227_49 : ji_Ev C 227 49 M lv st o ↔ ji_Ev C 227 50 M lv (.int 4 :: st) o := ev_go (S := (50, M, lv, (.int 4 :: st))) rfl rfl rfl
theorem s227_50 : ji_Ev C 227 50 M lv (.int y :: .int x :: st) o ↔ if x = y then ji_Ev C 227 68 M lv st o else ji_Ev C 227 53 M lv st o := ev_brc (c := .eq) rfl (by decide) rfl
theorem s227_53 : ji_Ev C 227 53 M (l0 :: l1 :: some (.int x) :: l) st o ↔ ji_Ev C 227 54 M (l0 :: l1 :: some (.int x) :: l) (.int x :: st) o := ev_go (S := (54, M, (l0 :: l1 :: some (.int x) :: l), (.int x :: st))) rfl rfl rfl
theorem s227_54 : ji_Ev C 227 54 M lv st o ↔ ji_Ev C 227 55 M lv (.int 3 :: st) o := ev_go (S := (55, M, lv, (.int 3 :: st))) rfl rfl rfl
theorem s227_55 : ji_Ev C 227 55 M lv (.int y :: .int x :: st) o ↔ if x = y then ji_Ev C 227 58 M lv st o else ji_Ev C 227 72 M lv st o := ev_brc (c := .ne) rfl (by decide) rfl
theorem s227_58 : ji_Ev C 227 58 M (some (.ref a) :: l) st o ↔ ji_Ev C 227 59 M (some (.ref a) :: l) (.ref a :: st) o := ev_go (S := (59, M, (some (.ref a) :: l), (.ref a :: st))) rfl rfl rfl
theorem s227_59 : ji_Ev C 227 59 M lv (.ref a :: st) o ↔ ji_kd M a = some (0, 9) ∧ ji_Ev C 227 62 M lv (ji_rv (ji_gR M a 12) :: st) o := ev_getR (k := 227) rfl fd_9_48 rfl
theorem s227_62 : ji_Ev C 227 62 M (l0 :: some (.int x) :: l) st o ↔ ji_Ev C 227 63 M (l0 :: some (.int x) :: l) (.int x :: st) o := ev_go (S := (63, M, (l0 :: some (.int x) :: l), (.int x :: st))) rfl rfl rfl
theorem s227_63 : ji_Ev C 227 63 M lv (.int x :: .ref a :: st) o ↔ ji_evA (ji_kd M a) (fun n => vp_in x n ∧ ji_Ev C 227 64 M lv (.int (ji_gI M a x.toNatClampNeg) :: st) o) := ev_iald rfl
theorem s227_64 : ji_Ev C 227 64 M lv st o ↔ ji_Ev C 227 65 M lv (.int 5 :: st) o := ev_go (S := (65, M, lv, (.int 5 :: st))) rfl rfl rfl
theorem s227_65 : ji_Ev C 227 65 M lv (.int y :: .int x :: st) o ↔ if x = y then ji_Ev C 227 68 M lv st o else ji_Ev C 227 72 M lv st o := ev_brc (c := .ne) rfl (by decide) rfl
theorem s227_68 : ji_Ev C 227 68 M lv st o ↔ ji_Ev C 227 69 M lv (.int 1 :: st) o := ev_go (S := (69, M, lv, (.int 1 :: st))) rfl rfl rfl
theorem s227_69 : ji_Ev C 227 69 M lv st o ↔ ji_Ev C 227 73 M lv st o := ev_gt rfl (by decide) rfl
theorem s227_72 : ji_Ev C 227 72 M lv st o ↔ ji_Ev C 227 73 M lv (.int 0 :: st) o := ev_go (S := (73, M, lv, (.int 0 :: st))) rfl rfl rfl
theorem s227_73 : ji_Ev C 227 73 M lv (.int x :: st) o ↔ 3 < lv.length ∧ ji_Ev C 227 74 M (ji_s1 lv 3 (.int x)) st o := ev_stI rfl rfl rfl
theorem s227_74 : ji_Ev C 227 74 M (l0 :: l1 :: l2 :: some (.int x) :: l) st o ↔ ji_Ev C 227 75 M (l0 :: l1 :: l2 :: some (.int x) :: l) (.int x :: st) o := ev_go (S := (75, M, (l0 :: l1 :: l2 :: some (.int x) :: l), (.int x :: st))) rfl rfl rfl
theorem s227_75 : ji_Ev C 227 75 M lv (.int x :: st) o ↔ if x = 0 then ji_Ev C 227 87 M lv st o else ji_Ev C 227 78 M lv st o := ev_brz (c := .eq) rfl (by decide) rfl
theorem s227_78 : ji_Ev C 227 78 M (some (.ref a) :: l) st o ↔ ji_Ev C 227 79 M (some (.ref a) :: l) (.ref a :: st) o := ev_go (S := (79, M, (some (.ref a) :: l), (.ref a :: st))) rfl rfl rfl
theorem s227_79 : ji_Ev C 227 79 M lv (.ref a :: st) o ↔ ji_kd M a = some (0, 9) ∧ ji_Ev C 227 82 M lv (ji_rv (ji_gR M a 8) :: st) o := ev_getR (k := 227) rfl fd_9_36 rfl
theorem s227_82 : ji_Ev C 227 82 M (l0 :: some (.int x) :: l) st o ↔ ji_Ev C 227 83 M (l0 :: some (.int x) :: l) (.int x :: st) o := ev_go (S := (83, M, (l0 :: some (.int x) :: l), (.int x :: st))) rfl rfl rfl
theorem s227_83 : ji_Ev C 227 83 M lv (.int x :: .ref a :: st) o ↔ ji_evA (ji_kd M a) (fun n => vp_in x n ∧ ji_Ev C 227 84 M lv (.int (ji_gI M a x.toNatClampNeg) :: st) o) := ev_iald rfl
theorem s227_84 : ji_Ev C 227 84 M lv st o ↔ ji_Ev C 227 89 M lv st o := ev_gt rfl (by decide) rfl
theorem s227_87 : ji_Ev C 227 87 M lv st o ↔ ji_Ev C 227 89 M lv (.int (-13) :: st) o := ev_go (S := (89, M, lv, (.int (-13) :: st))) rfl rfl rfl
theorem s227_89 : ji_Ev C 227 89 M lv [.int x] o ↔ o = (some (.int x), M) := ev_ireti rfl rfl
end JIR
