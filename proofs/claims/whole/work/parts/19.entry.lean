/-! ===== the entries of the methods ===== -/
theorem ji_ms_len : ji_ms.length = 228 := by decide +kernel
theorem en_of {d k n : Nat} {a : List Value} {M : ji_M} {lv : ji_L} {o : Option Value × ji_M} (hk : Nat.ble (k + 1) 228 = true) (hm : (ji_m k).2.2.1 = n) (hl : Nat.ble (ji_ag a).length n = true) (he : ji_en n a = lv) (h : ji_Ev (ji_CL d) k 0 M lv [] o) : ji_CL (d + 1) k a M = some o := by
  subst hm he
  exact ji_CL_step (by rw [ji_ms_len]; exact Nat.le_of_ble_eq_true hk) (Nat.le_of_ble_eq_true hl) h
section JIN
variable {d a b a1 a2 : Nat} {M : ji_M} {o : Option Value × ji_M} {x0 x1 x2 x3 x4 x5 : Int32} {u0 u1 : Int64}
theorem en_9 (h : ji_Ev (ji_CL d) 9 0 M [some (.ref a), none] [] o) : ji_CL (d + 1) 9 [.ref a] M = some o := en_of rfl rfl rfl rfl h
theorem en_10 (h : ji_Ev (ji_CL d) 10 0 M [some (.retAddr a)] [] o) : ji_CL (d + 1) 10 [.retAddr a] M = some o := en_of rfl rfl rfl rfl h
theorem en_11 (h : ji_Ev (ji_CL d) 11 0 M [some (.retAddr a)] [] o) : ji_CL (d + 1) 11 [.retAddr a] M = some o := en_of rfl rfl rfl rfl h
theorem en_12 (h : ji_Ev (ji_CL d) 12 0 M [some (.retAddr a), some (.int x0)] [] o) : ji_CL (d + 1) 12 [.retAddr a, .int x0] M = some o := en_of rfl rfl rfl rfl h
theorem en_13 (h : ji_Ev (ji_CL d) 13 0 M [some (.retAddr a)] [] o) : ji_CL (d + 1) 13 [.retAddr a] M = some o := en_of rfl rfl rfl rfl h
theorem en_14 (h : ji_Ev (ji_CL d) 14 0 M [some (.retAddr b), some (.int x0)] [] o) : ji_CL (d + 1) 14 [.retAddr b, .int x0] M = some o := en_of rfl rfl rfl rfl h
theorem en_15 (h : ji_Ev (ji_CL d) 15 0 M [some (.int x0), some (.int x1)] [] o) : ji_CL (d + 1) 15 [.int x0, .int x1] M = some o := en_of rfl rfl rfl rfl h
theorem en_17 (h : ji_Ev (ji_CL d) 17 0 M [some (.ref a), some (.int x0)] [] o) : ji_CL (d + 1) 17 [.ref a, .int x0] M = some o := en_of rfl rfl rfl rfl h
theorem en_18 (h : ji_Ev (ji_CL d) 18 0 M [some (.ref a), none] [] o) : ji_CL (d + 1) 18 [.ref a] M = some o := en_of rfl rfl rfl rfl h
theorem en_19 (h : ji_Ev (ji_CL d) 19 0 M [some (.ref a), some (.ref b), some (.ref a1), none] [] o) : ji_CL (d + 1) 19 [.ref a, .ref b, .ref a1] M = some o := en_of rfl rfl rfl rfl h
theorem en_20 (h : ji_Ev (ji_CL d) 20 0 M [some (.ref a), none] [] o) : ji_CL (d + 1) 20 [.ref a] M = some o := en_of rfl rfl rfl rfl h
theorem en_21 (h : ji_Ev (ji_CL d) 21 0 M [some (.ref a), some (.int x0)] [] o) : ji_CL (d + 1) 21 [.ref a, .int x0] M = some o := en_of rfl rfl rfl rfl h
theorem en_22 (h : ji_Ev (ji_CL d) 22 0 M [some (.int x0)] [] o) : ji_CL (d + 1) 22 [.int x0] M = some o := en_of rfl rfl rfl rfl h
theorem en_23 (h : ji_Ev (ji_CL d) 23 0 M [some (.ref a), none] [] o) : ji_CL (d + 1) 23 [.ref a] M = some o := en_of rfl rfl rfl rfl h
theorem en_24 (h : ji_Ev (ji_CL d) 24 0 M [some (.ref a), some (.int x0), none, none, none] [] o) : ji_CL (d + 1) 24 [.ref a, .int x0] M = some o := en_of rfl rfl rfl rfl h
theorem en_25 (h : ji_Ev (ji_CL d) 25 0 M [some (.int x0)] [] o) : ji_CL (d + 1) 25 [.int x0] M = some o := en_of rfl rfl rfl rfl h
theorem en_26 (h : ji_Ev (ji_CL d) 26 0 M [some (.ref a)] [] o) : ji_CL (d + 1) 26 [.ref a] M = some o := en_of rfl rfl rfl rfl h
theorem en_27 (h : ji_Ev (ji_CL d) 27 0 M [some (.retAddr a), some (.int x0)] [] o) : ji_CL (d + 1) 27 [.retAddr a, .int x0] M = some o := en_of rfl rfl rfl rfl h
theorem en_28 (h : ji_Ev (ji_CL d) 28 0 M [some (.retAddr a), some (.int x0), some (.int x1)] [] o) : ji_CL (d + 1) 28 [.retAddr a, .int x0, .int x1] M = some o := en_of rfl rfl rfl rfl h
theorem en_29 (h : ji_Ev (ji_CL d) 29 0 M [some (.retAddr b), some (.int x0), some (.int x1), some (.int x2)] [] o) : ji_CL (d + 1) 29 [.retAddr b, .int x0, .int x1, .int x2] M = some o := en_of rfl rfl rfl rfl h
theorem en_30 (h : ji_Ev (ji_CL d) 30 0 M [some (.int x0)] [] o) : ji_CL (d + 1) 30 [.int x0] M = some o := en_of rfl rfl rfl rfl h
theorem en_31 (h : ji_Ev (ji_CL d) 31 0 M [some (.retAddr b), some (.int x0), some (.int x1), some (.int x2), none, none] [] o) : ji_CL (d + 1) 31 [.retAddr b, .int x0, .int x1, .int x2] M = some o := en_of rfl rfl rfl rfl h
theorem en_32 (h : ji_Ev (ji_CL d) 32 0 M [some (.ref a), some (.int x0)] [] o) : ji_CL (d + 1) 32 [.ref a, .int x0] M = some o := en_of rfl rfl rfl rfl h
theorem en_33 (h : ji_Ev (ji_CL d) 33 0 M [some (.ref a)] [] o) : ji_CL (d + 1) 33 [.ref a] M = some o := en_of rfl rfl rfl rfl h
theorem en_34 (h : ji_Ev (ji_CL d) 34 0 M [some (.ref a), none] [] o) : ji_CL (d + 1) 34 [.ref a] M = some o := en_of rfl rfl rfl rfl h
theorem en_35 (h : ji_Ev (ji_CL d) 35 0 M [some (.ref a), none] [] o) : ji_CL (d + 1) 35 [.ref a] M = some o := en_of rfl rfl rfl rfl h
theorem en_36 (h : ji_Ev (ji_CL d) 36 0 M [some (.ref a), none, none] [] o) : ji_CL (d + 1) 36 [.ref a] M = some o := en_of rfl rfl rfl rfl h
theorem en_37 (h : ji_Ev (ji_CL d) 37 0 M [some (.ref a)] [] o) : ji_CL (d + 1) 37 [.ref a] M = some o := en_of rfl rfl rfl rfl h
theorem en_38 (h : ji_Ev (ji_CL d) 38 0 M [some (.ref a), some (.int x0)] [] o) : ji_CL (d + 1) 38 [.ref a, .int x0] M = some o := en_of rfl rfl rfl rfl h
theorem en_39 (h : ji_Ev (ji_CL d) 39 0 M [some (.ref a), none, none] [] o) : ji_CL (d + 1) 39 [.ref a] M = some o := en_of rfl rfl rfl rfl h
theorem en_40 (h : ji_Ev (ji_CL d) 40 0 M [some (.ref a), none] [] o) : ji_CL (d + 1) 40 [.ref a] M = some o := en_of rfl rfl rfl rfl h
theorem en_41 (h : ji_Ev (ji_CL d) 41 0 M [some (.ref a), none, none] [] o) : ji_CL (d + 1) 41 [.ref a] M = some o := en_of rfl rfl rfl rfl h
theorem en_42 (h : ji_Ev (ji_CL d) 42 0 M [some (.ref a), some (.int x0), some (.int x1), none] [] o) : ji_CL (d + 1) 42 [.ref a, .int x0, .int x1] M = some o := en_of rfl rfl rfl rfl h
theorem en_43 (h : ji_Ev (ji_CL d) 43 0 M [some (.int x0), some (.int x1), some (.int x2)] [] o) : ji_CL (d + 1) 43 [.int x0, .int x1, .int x2] M = some o := en_of rfl rfl rfl rfl h
theorem en_44 (h : ji_Ev (ji_CL d) 44 0 M [some (.ref a), some (.int x0), some (.int x1), none] [] o) : ji_CL (d + 1) 44 [.ref a, .int x0, .int x1] M = some o := en_of rfl rfl rfl rfl h
theorem en_45 (h : ji_Ev (ji_CL d) 45 0 M [some (.ref a), some (.int x0)] [] o) : ji_CL (d + 1) 45 [.ref a, .int x0] M = some o := en_of rfl rfl rfl rfl h
theorem en_46 (h : ji_Ev (ji_CL d) 46 0 M [some (.ref a), some (.int x0), none] [] o) : ji_CL (d + 1) 46 [.ref a, .int x0] M = some o := en_of rfl rfl rfl rfl h
theorem en_47 (h : ji_Ev (ji_CL d) 47 0 M [some (.ref a)] [] o) : ji_CL (d + 1) 47 [.ref a] M = some o := en_of rfl rfl rfl rfl h
theorem en_48 (h : ji_Ev (ji_CL d) 48 0 M [some (.ref a), some (.int x0), some (.int x1), none, none, none, none] [] o) : ji_CL (d + 1) 48 [.ref a, .int x0, .int x1] M = some o := en_of rfl rfl rfl rfl h
theorem en_49 (h : ji_Ev (ji_CL d) 49 0 M [some (.ref a), some (.int x0), some (.int x1), none] [] o) : ji_CL (d + 1) 49 [.ref a, .int x0, .int x1] M = some o := en_of rfl rfl rfl rfl h
theorem en_50 (h : ji_Ev (ji_CL d) 50 0 M [some (.ref a), some (.int x0)] [] o) : ji_CL (d + 1) 50 [.ref a, .int x0] M = some o := en_of rfl rfl rfl rfl h
theorem en_51 (h : ji_Ev (ji_CL d) 51 0 M [some (.int x0)] [] o) : ji_CL (d + 1) 51 [.int x0] M = some o := en_of rfl rfl rfl rfl h
theorem en_52 (h : ji_Ev (ji_CL d) 52 0 M [some (.ref a), some (.int x0), some (.int x1), none, none, none, none, none, none] [] o) : ji_CL (d + 1) 52 [.ref a, .int x0, .int x1] M = some o := en_of rfl rfl rfl rfl h
theorem en_53 (h : ji_Ev (ji_CL d) 53 0 M [some (.int x0), some (.int x1), none] [] o) : ji_CL (d + 1) 53 [.int x0, .int x1] M = some o := en_of rfl rfl rfl rfl h
theorem en_54 (h : ji_Ev (ji_CL d) 54 0 M [some (.int x0), some (.int x1)] [] o) : ji_CL (d + 1) 54 [.int x0, .int x1] M = some o := en_of rfl rfl rfl rfl h
theorem en_55 (h : ji_Ev (ji_CL d) 55 0 M [some (.int x0)] [] o) : ji_CL (d + 1) 55 [.int x0] M = some o := en_of rfl rfl rfl rfl h
theorem en_56 (h : ji_Ev (ji_CL d) 56 0 M [some (.int x0), some (.int x1)] [] o) : ji_CL (d + 1) 56 [.int x0, .int x1] M = some o := en_of rfl rfl rfl rfl h
theorem en_57 (h : ji_Ev (ji_CL d) 57 0 M [some (.ref a), some (.int x0), some (.int x1), some (.int x2)] [] o) : ji_CL (d + 1) 57 [.ref a, .int x0, .int x1, .int x2] M = some o := en_of rfl rfl rfl rfl h
theorem en_58 (h : ji_Ev (ji_CL d) 58 0 M [some (.ref a), some (.int x0), some (.int x1), some (.int x2)] [] o) : ji_CL (d + 1) 58 [.ref a, .int x0, .int x1, .int x2] M = some o := en_of rfl rfl rfl rfl h
theorem en_59 (h : ji_Ev (ji_CL d) 59 0 M [some (.ref a), some (.int x0), some (.int x1)] [] o) : ji_CL (d + 1) 59 [.ref a, .int x0, .int x1] M = some o := en_of rfl rfl rfl rfl h
theorem en_60 (h : ji_Ev (ji_CL d) 60 0 M [some (.int x0)] [] o) : ji_CL (d + 1) 60 [.int x0] M = some o := en_of rfl rfl rfl rfl h
theorem en_61 (h : ji_Ev (ji_CL d) 61 0 M [some (.ref a)] [] o) : ji_CL (d + 1) 61 [.ref a] M = some o := en_of rfl rfl rfl rfl h
theorem en_62 (h : ji_Ev (ji_CL d) 62 0 M [some (.ref a), some (.int x0), some (.int x1), none] [] o) : ji_CL (d + 1) 62 [.ref a, .int x0, .int x1] M = some o := en_of rfl rfl rfl rfl h
theorem en_63 (h : ji_Ev (ji_CL d) 63 0 M [some (.ref a), some (.int x0), some (.int x1), some (.int x2), some (.int x3)] [] o) : ji_CL (d + 1) 63 [.ref a, .int x0, .int x1, .int x2, .int x3] M = some o := en_of rfl rfl rfl rfl h
theorem en_64 (h : ji_Ev (ji_CL d) 64 0 M [some (.ref a), some (.int x0), some (.int x1)] [] o) : ji_CL (d + 1) 64 [.ref a, .int x0, .int x1] M = some o := en_of rfl rfl rfl rfl h
theorem en_65 (h : ji_Ev (ji_CL d) 65 0 M [some (.ref a), some (.int x0)] [] o) : ji_CL (d + 1) 65 [.ref a, .int x0] M = some o := en_of rfl rfl rfl rfl h
theorem en_66 (h : ji_Ev (ji_CL d) 66 0 M [some (.ref a), some (.int x0)] [] o) : ji_CL (d + 1) 66 [.ref a, .int x0] M = some o := en_of rfl rfl rfl rfl h
theorem en_67 (h : ji_Ev (ji_CL d) 67 0 M [some (.ref a), some (.int x0)] [] o) : ji_CL (d + 1) 67 [.ref a, .int x0] M = some o := en_of rfl rfl rfl rfl h
theorem en_68 (h : ji_Ev (ji_CL d) 68 0 M [some (.int x0), some (.int x1)] [] o) : ji_CL (d + 1) 68 [.int x0, .int x1] M = some o := en_of rfl rfl rfl rfl h
theorem en_69 (h : ji_Ev (ji_CL d) 69 0 M [some (.ref a), some (.int x0)] [] o) : ji_CL (d + 1) 69 [.ref a, .int x0] M = some o := en_of rfl rfl rfl rfl h
theorem en_70 (h : ji_Ev (ji_CL d) 70 0 M [some (.ref a), some (.int x0), some (.int x1), none] [] o) : ji_CL (d + 1) 70 [.ref a, .int x0, .int x1] M = some o := en_of rfl rfl rfl rfl h
theorem en_71 (h : ji_Ev (ji_CL d) 71 0 M [some (.int x0)] [] o) : ji_CL (d + 1) 71 [.int x0] M = some o := en_of rfl rfl rfl rfl h
theorem en_72 (h : ji_Ev (ji_CL d) 72 0 M [some (.int x0), some (.int x1)] [] o) : ji_CL (d + 1) 72 [.int x0, .int x1] M = some o := en_of rfl rfl rfl rfl h
theorem en_73 (h : ji_Ev (ji_CL d) 73 0 M [some (.ref a), some (.int x0)] [] o) : ji_CL (d + 1) 73 [.ref a, .int x0] M = some o := en_of rfl rfl rfl rfl h
theorem en_74 (h : ji_Ev (ji_CL d) 74 0 M [some (.ref a), some (.ref b), some (.int x0), some (.int x1), none, none, none, none, none] [] o) : ji_CL (d + 1) 74 [.ref a, .ref b, .int x0, .int x1] M = some o := en_of rfl rfl rfl rfl h
theorem en_75 (h : ji_Ev (ji_CL d) 75 0 M [some (.ref a), some (.int x0)] [] o) : ji_CL (d + 1) 75 [.ref a, .int x0] M = some o := en_of rfl rfl rfl rfl h
theorem en_76 (h : ji_Ev (ji_CL d) 76 0 M [some (.ref a), some (.int x0)] [] o) : ji_CL (d + 1) 76 [.ref a, .int x0] M = some o := en_of rfl rfl rfl rfl h
theorem en_77 (h : ji_Ev (ji_CL d) 77 0 M [some (.ref a), some (.int x0), some (.int x1)] [] o) : ji_CL (d + 1) 77 [.ref a, .int x0, .int x1] M = some o := en_of rfl rfl rfl rfl h
theorem en_78 (h : ji_Ev (ji_CL d) 78 0 M [some (.ref a)] [] o) : ji_CL (d + 1) 78 [.ref a] M = some o := en_of rfl rfl rfl rfl h
theorem en_79 (h : ji_Ev (ji_CL d) 79 0 M [some (.int x0), some (.int x1), some (.int x2)] [] o) : ji_CL (d + 1) 79 [.int x0, .int x1, .int x2] M = some o := en_of rfl rfl rfl rfl h
theorem en_80 (h : ji_Ev (ji_CL d) 80 0 M [some (.ref a), some (.int x0), some (.int x1), some (.int x2), none] [] o) : ji_CL (d + 1) 80 [.ref a, .int x0, .int x1, .int x2] M = some o := en_of rfl rfl rfl rfl h
theorem en_81 (h : ji_Ev (ji_CL d) 81 0 M [some (.ref a), some (.int x0), some (.int x1), none] [] o) : ji_CL (d + 1) 81 [.ref a, .int x0, .int x1] M = some o := en_of rfl rfl rfl rfl h
theorem en_82 (h : ji_Ev (ji_CL d) 82 0 M [some (.ref a), some (.int x0), some (.int x1), none, none, none] [] o) : ji_CL (d + 1) 82 [.ref a, .int x0, .int x1] M = some o := en_of rfl rfl rfl rfl h
theorem en_83 (h : ji_Ev (ji_CL d) 83 0 M [some (.int x0), some (.int x1), none, none] [] o) : ji_CL (d + 1) 83 [.int x0, .int x1] M = some o := en_of rfl rfl rfl rfl h
theorem en_84 (h : ji_Ev (ji_CL d) 84 0 M [some (.ref a), some (.int x0)] [] o) : ji_CL (d + 1) 84 [.ref a, .int x0] M = some o := en_of rfl rfl rfl rfl h
theorem en_85 (h : ji_Ev (ji_CL d) 85 0 M [some (.ref a), some (.int x0)] [] o) : ji_CL (d + 1) 85 [.ref a, .int x0] M = some o := en_of rfl rfl rfl rfl h
theorem en_86 (h : ji_Ev (ji_CL d) 86 0 M [some (.ref a), some (.ref b), some (.int x0), none, none] [] o) : ji_CL (d + 1) 86 [.ref a, .ref b, .int x0] M = some o := en_of rfl rfl rfl rfl h
theorem en_87 (h : ji_Ev (ji_CL d) 87 0 M [some (.ref a), some (.ref b), some (.int x0), some (.int x1), none, none, none] [] o) : ji_CL (d + 1) 87 [.ref a, .ref b, .int x0, .int x1] M = some o := en_of rfl rfl rfl rfl h
theorem en_88 (h : ji_Ev (ji_CL d) 88 0 M [some (.ref a), some (.int x0)] [] o) : ji_CL (d + 1) 88 [.ref a, .int x0] M = some o := en_of rfl rfl rfl rfl h
theorem en_89 (h : ji_Ev (ji_CL d) 89 0 M [some (.ref a), some (.ref b), none, none, none] [] o) : ji_CL (d + 1) 89 [.ref a, .ref b] M = some o := en_of rfl rfl rfl rfl h
theorem en_90 (h : ji_Ev (ji_CL d) 90 0 M [some (.int x0), some (.int x1)] [] o) : ji_CL (d + 1) 90 [.int x0, .int x1] M = some o := en_of rfl rfl rfl rfl h
theorem en_91 (h : ji_Ev (ji_CL d) 91 0 M [some (.ref a), some (.ref b), some (.int x0)] [] o) : ji_CL (d + 1) 91 [.ref a, .ref b, .int x0] M = some o := en_of rfl rfl rfl rfl h
theorem en_92 (h : ji_Ev (ji_CL d) 92 0 M [some (.ref a), some (.int x0), some (.long u0), none] [] o) : ji_CL (d + 1) 92 [.ref a, .int x0, .long u0] M = some o := en_of rfl rfl rfl rfl h
theorem en_93 (h : ji_Ev (ji_CL d) 93 0 M [some (.ref a), some (.int x0), some (.long u0), none, none] [] o) : ji_CL (d + 1) 93 [.ref a, .int x0, .long u0] M = some o := en_of rfl rfl rfl rfl h
theorem en_94 (h : ji_Ev (ji_CL d) 94 0 M [some (.ref a)] [] o) : ji_CL (d + 1) 94 [.ref a] M = some o := en_of rfl rfl rfl rfl h
theorem en_95 (h : ji_Ev (ji_CL d) 95 0 M [some (.ref a), some (.int x0)] [] o) : ji_CL (d + 1) 95 [.ref a, .int x0] M = some o := en_of rfl rfl rfl rfl h
theorem en_96 (h : ji_Ev (ji_CL d) 96 0 M [some (.ref a), some (.int x0), none] [] o) : ji_CL (d + 1) 96 [.ref a, .int x0] M = some o := en_of rfl rfl rfl rfl h
theorem en_97 (h : ji_Ev (ji_CL d) 97 0 M [some (.ref a), some (.int x0), some (.int x1)] [] o) : ji_CL (d + 1) 97 [.ref a, .int x0, .int x1] M = some o := en_of rfl rfl rfl rfl h
theorem en_98 (h : ji_Ev (ji_CL d) 98 0 M [some (.ref a), some (.int x0), some (.int x1), some (.int x2)] [] o) : ji_CL (d + 1) 98 [.ref a, .int x0, .int x1, .int x2] M = some o := en_of rfl rfl rfl rfl h
theorem en_99 (h : ji_Ev (ji_CL d) 99 0 M [some (.ref a), some (.int x0), some (.int x1), some (.int x2)] [] o) : ji_CL (d + 1) 99 [.ref a, .int x0, .int x1, .int x2] M = some o := en_of rfl rfl rfl rfl h
theorem en_100 (h : ji_Ev (ji_CL d) 100 0 M [some (.ref a), some (.int x0), some (.int x1), some (.int x2), none] [] o) : ji_CL (d + 1) 100 [.ref a, .int x0, .int x1, .int x2] M = some o := en_of rfl rfl rfl rfl h
theorem en_101 (h : ji_Ev (ji_CL d) 101 0 M [some (.int x0)] [] o) : ji_CL (d + 1) 101 [.int x0] M = some o := en_of rfl rfl rfl rfl h
theorem en_102 (h : ji_Ev (ji_CL d) 102 0 M [some (.int x0), some (.int x1)] [] o) : ji_CL (d + 1) 102 [.int x0, .int x1] M = some o := en_of rfl rfl rfl rfl h
theorem en_103 (h : ji_Ev (ji_CL d) 103 0 M [some (.ref a), some (.ref b), some (.ref a1), some (.int x0), some (.int x1)] [] o) : ji_CL (d + 1) 103 [.ref a, .ref b, .ref a1, .int x0, .int x1] M = some o := en_of rfl rfl rfl rfl h
theorem en_104 (h : ji_Ev (ji_CL d) 104 0 M [some (.ref a), some (.ref b)] [] o) : ji_CL (d + 1) 104 [.ref a, .ref b] M = some o := en_of rfl rfl rfl rfl h
theorem en_105 (h : ji_Ev (ji_CL d) 105 0 M [some (.ref a), some (.ref b)] [] o) : ji_CL (d + 1) 105 [.ref a, .ref b] M = some o := en_of rfl rfl rfl rfl h
theorem en_106 (h : ji_Ev (ji_CL d) 106 0 M [some (.ref b), some (.int x0), some (.int x1), none, none, none] [] o) : ji_CL (d + 1) 106 [.ref b, .int x0, .int x1] M = some o := en_of rfl rfl rfl rfl h
theorem en_107 (h : ji_Ev (ji_CL d) 107 0 M [some (.ref a), some (.long u0), none] [] o) : ji_CL (d + 1) 107 [.ref a, .long u0] M = some o := en_of rfl rfl rfl rfl h
theorem en_108 (h : ji_Ev (ji_CL d) 108 0 M [some (.ref a), some (.int x0)] [] o) : ji_CL (d + 1) 108 [.ref a, .int x0] M = some o := en_of rfl rfl rfl rfl h
theorem en_109 (h : ji_Ev (ji_CL d) 109 0 M [some (.ref a)] [] o) : ji_CL (d + 1) 109 [.ref a] M = some o := en_of rfl rfl rfl rfl h
theorem en_110 (h : ji_Ev (ji_CL d) 110 0 M [some (.ref a), some (.int x0)] [] o) : ji_CL (d + 1) 110 [.ref a, .int x0] M = some o := en_of rfl rfl rfl rfl h
theorem en_111 (h : ji_Ev (ji_CL d) 111 0 M [some (.ref a), some (.int x0), some (.int x1)] [] o) : ji_CL (d + 1) 111 [.ref a, .int x0, .int x1] M = some o := en_of rfl rfl rfl rfl h
theorem en_112 (h : ji_Ev (ji_CL d) 112 0 M [some (.ref a), some (.int x0), none, none] [] o) : ji_CL (d + 1) 112 [.ref a, .int x0] M = some o := en_of rfl rfl rfl rfl h
theorem en_113 (h : ji_Ev (ji_CL d) 113 0 M [some (.ref a), some (.int x0), none] [] o) : ji_CL (d + 1) 113 [.ref a, .int x0] M = some o := en_of rfl rfl rfl rfl h
theorem en_114 (h : ji_Ev (ji_CL d) 114 0 M [some (.ref a), some (.int x0)] [] o) : ji_CL (d + 1) 114 [.ref a, .int x0] M = some o := en_of rfl rfl rfl rfl h
theorem en_115 (h : ji_Ev (ji_CL d) 115 0 M [some (.ref a), some (.int x0), some (.int x1)] [] o) : ji_CL (d + 1) 115 [.ref a, .int x0, .int x1] M = some o := en_of rfl rfl rfl rfl h
theorem en_116 (h : ji_Ev (ji_CL d) 116 0 M [some (.ref a), some (.int x0), some (.int x1)] [] o) : ji_CL (d + 1) 116 [.ref a, .int x0, .int x1] M = some o := en_of rfl rfl rfl rfl h
theorem en_117 (h : ji_Ev (ji_CL d) 117 0 M [some (.int x0), some (.int x1), none, none, none, none, none] [] o) : ji_CL (d + 1) 117 [.int x0, .int x1] M = some o := en_of rfl rfl rfl rfl h
theorem en_118 (h : ji_Ev (ji_CL d) 118 0 M [some (.ref a), some (.int x0)] [] o) : ji_CL (d + 1) 118 [.ref a, .int x0] M = some o := en_of rfl rfl rfl rfl h
theorem en_119 (h : ji_Ev (ji_CL d) 119 0 M [some (.ref a), some (.ref b), some (.ref a1), none, none, none] [] o) : ji_CL (d + 1) 119 [.ref a, .ref b, .ref a1] M = some o := en_of rfl rfl rfl rfl h
theorem en_120 (h : ji_Ev (ji_CL d) 120 0 M [some (.ref b), some (.int x0), none, none] [] o) : ji_CL (d + 1) 120 [.ref b, .int x0] M = some o := en_of rfl rfl rfl rfl h
theorem en_121 (h : ji_Ev (ji_CL d) 121 0 M [some (.ref a), some (.int x0), some (.int x1), none, none] [] o) : ji_CL (d + 1) 121 [.ref a, .int x0, .int x1] M = some o := en_of rfl rfl rfl rfl h
theorem en_122 (h : ji_Ev (ji_CL d) 122 0 M [some (.ref a), some (.int x0), some (.int x1), some (.int x2)] [] o) : ji_CL (d + 1) 122 [.ref a, .int x0, .int x1, .int x2] M = some o := en_of rfl rfl rfl rfl h
theorem en_123 (h : ji_Ev (ji_CL d) 123 0 M [some (.ref a), some (.int x0), some (.int x1), some (.int x2)] [] o) : ji_CL (d + 1) 123 [.ref a, .int x0, .int x1, .int x2] M = some o := en_of rfl rfl rfl rfl h
theorem en_124 (h : ji_Ev (ji_CL d) 124 0 M [some (.ref a)] [] o) : ji_CL (d + 1) 124 [.ref a] M = some o := en_of rfl rfl rfl rfl h
theorem en_125 (h : ji_Ev (ji_CL d) 125 0 M [some (.ref a), some (.int x0), none, none, none] [] o) : ji_CL (d + 1) 125 [.ref a, .int x0] M = some o := en_of rfl rfl rfl rfl h
theorem en_126 (h : ji_Ev (ji_CL d) 126 0 M [some (.ref a), some (.int x0), some (.int x1), none] [] o) : ji_CL (d + 1) 126 [.ref a, .int x0, .int x1] M = some o := en_of rfl rfl rfl rfl h
theorem en_127 (h : ji_Ev (ji_CL d) 127 0 M [some (.ref a), some (.int x0), some (.int x1), some (.int x2)] [] o) : ji_CL (d + 1) 127 [.ref a, .int x0, .int x1, .int x2] M = some o := en_of rfl rfl rfl rfl h
theorem en_128 (h : ji_Ev (ji_CL d) 128 0 M [some (.ref a), some (.int x0), some (.int x1), some (.int x2), none, none, none] [] o) : ji_CL (d + 1) 128 [.ref a, .int x0, .int x1, .int x2] M = some o := en_of rfl rfl rfl rfl h
theorem en_129 (h : ji_Ev (ji_CL d) 129 0 M [some (.ref a), some (.int x0), none, none] [] o) : ji_CL (d + 1) 129 [.ref a, .int x0] M = some o := en_of rfl rfl rfl rfl h
theorem en_130 (h : ji_Ev (ji_CL d) 130 0 M [some (.ref a), some (.int x0), some (.int x1)] [] o) : ji_CL (d + 1) 130 [.ref a, .int x0, .int x1] M = some o := en_of rfl rfl rfl rfl h
theorem en_131 (h : ji_Ev (ji_CL d) 131 0 M [some (.ref a), some (.int x0), some (.int x1), some (.int x2), none, none] [] o) : ji_CL (d + 1) 131 [.ref a, .int x0, .int x1, .int x2] M = some o := en_of rfl rfl rfl rfl h
theorem en_132 (h : ji_Ev (ji_CL d) 132 0 M [some (.ref a), some (.int x0), none, none, none, none] [] o) : ji_CL (d + 1) 132 [.ref a, .int x0] M = some o := en_of rfl rfl rfl rfl h
theorem en_133 (h : ji_Ev (ji_CL d) 133 0 M [some (.ref a), some (.int x0), some (.int x1), none, none] [] o) : ji_CL (d + 1) 133 [.ref a, .int x0, .int x1] M = some o := en_of rfl rfl rfl rfl h
theorem en_134 (h : ji_Ev (ji_CL d) 134 0 M [some (.ref a), some (.int x0), some (.int x1)] [] o) : ji_CL (d + 1) 134 [.ref a, .int x0, .int x1] M = some o := en_of rfl rfl rfl rfl h
theorem en_135 (h : ji_Ev (ji_CL d) 135 0 M [some (.ref a), some (.int x0), some (.int x1), some (.int x2)] [] o) : ji_CL (d + 1) 135 [.ref a, .int x0, .int x1, .int x2] M = some o := en_of rfl rfl rfl rfl h
theorem en_136 (h : ji_Ev (ji_CL d) 136 0 M [some (.ref a), some (.ref b), some (.int x0), some (.int x1)] [] o) : ji_CL (d + 1) 136 [.ref a, .ref b, .int x0, .int x1] M = some o := en_of rfl rfl rfl rfl h
theorem en_137 (h : ji_Ev (ji_CL d) 137 0 M [some (.ref b), some (.int x0), some (.int x1), some (.int x2), none, none, none] [] o) : ji_CL (d + 1) 137 [.ref b, .int x0, .int x1, .int x2] M = some o := en_of rfl rfl rfl rfl h
theorem en_138 (h : ji_Ev (ji_CL d) 138 0 M [some (.ref a), some (.int x0), some (.int x1)] [] o) : ji_CL (d + 1) 138 [.ref a, .int x0, .int x1] M = some o := en_of rfl rfl rfl rfl h
theorem en_139 (h : ji_Ev (ji_CL d) 139 0 M [some (.ref a), some (.int x0), some (.int x1), none, none] [] o) : ji_CL (d + 1) 139 [.ref a, .int x0, .int x1] M = some o := en_of rfl rfl rfl rfl h
theorem en_140 (h : ji_Ev (ji_CL d) 140 0 M [some (.ref a), some (.int x0)] [] o) : ji_CL (d + 1) 140 [.ref a, .int x0] M = some o := en_of rfl rfl rfl rfl h
theorem en_141 (h : ji_Ev (ji_CL d) 141 0 M [some (.ref a), some (.int x0)] [] o) : ji_CL (d + 1) 141 [.ref a, .int x0] M = some o := en_of rfl rfl rfl rfl h
theorem en_142 (h : ji_Ev (ji_CL d) 142 0 M [some (.ref a), some (.int x0), some (.int x1), some (.int x2)] [] o) : ji_CL (d + 1) 142 [.ref a, .int x0, .int x1, .int x2] M = some o := en_of rfl rfl rfl rfl h
theorem en_143 (h : ji_Ev (ji_CL d) 143 0 M [some (.int x0)] [] o) : ji_CL (d + 1) 143 [.int x0] M = some o := en_of rfl rfl rfl rfl h
theorem en_144 (h : ji_Ev (ji_CL d) 144 0 M [some (.ref a), some (.int x0), some (.int x1), some (.int x2)] [] o) : ji_CL (d + 1) 144 [.ref a, .int x0, .int x1, .int x2] M = some o := en_of rfl rfl rfl rfl h
theorem en_145 (h : ji_Ev (ji_CL d) 145 0 M [some (.ref a), some (.int x0), some (.int x1), some (.int x2)] [] o) : ji_CL (d + 1) 145 [.ref a, .int x0, .int x1, .int x2] M = some o := en_of rfl rfl rfl rfl h
theorem en_146 (h : ji_Ev (ji_CL d) 146 0 M [some (.ref a), some (.int x0)] [] o) : ji_CL (d + 1) 146 [.ref a, .int x0] M = some o := en_of rfl rfl rfl rfl h
theorem en_147 (h : ji_Ev (ji_CL d) 147 0 M [some (.ref a), some (.int x0)] [] o) : ji_CL (d + 1) 147 [.ref a, .int x0] M = some o := en_of rfl rfl rfl rfl h
theorem en_148 (h : ji_Ev (ji_CL d) 148 0 M [some (.ref a), some (.int x0), some (.int x1)] [] o) : ji_CL (d + 1) 148 [.ref a, .int x0, .int x1] M = some o := en_of rfl rfl rfl rfl h
theorem en_149 (h : ji_Ev (ji_CL d) 149 0 M [some (.ref a), some (.int x0), some (.int x1), some (.int x2), none] [] o) : ji_CL (d + 1) 149 [.ref a, .int x0, .int x1, .int x2] M = some o := en_of rfl rfl rfl rfl h
theorem en_150 (h : ji_Ev (ji_CL d) 150 0 M [some (.ref a), some (.int x0), some (.int x1), some (.int x2), some (.int x3), some (.int x4)] [] o) : ji_CL (d + 1) 150 [.ref a, .int x0, .int x1, .int x2, .int x3, .int x4] M = some o := en_of rfl rfl rfl rfl h
theorem en_151 (h : ji_Ev (ji_CL d) 151 0 M [some (.ref a), some (.int x0), some (.int x1), some (.int x2)] [] o) : ji_CL (d + 1) 151 [.ref a, .int x0, .int x1, .int x2] M = some o := en_of rfl rfl rfl rfl h
theorem en_152 (h : ji_Ev (ji_CL d) 152 0 M [some (.ref a), some (.int x0), some (.int x1), some (.int x2), some (.int x3), some (.int x4)] [] o) : ji_CL (d + 1) 152 [.ref a, .int x0, .int x1, .int x2, .int x3, .int x4] M = some o := en_of rfl rfl rfl rfl h
theorem en_153 (h : ji_Ev (ji_CL d) 153 0 M [some (.ref a), some (.int x0), some (.int x1), some (.int x2), some (.int x3), none, none, none] [] o) : ji_CL (d + 1) 153 [.ref a, .int x0, .int x1, .int x2, .int x3] M = some o := en_of rfl rfl rfl rfl h
theorem en_154 (h : ji_Ev (ji_CL d) 154 0 M [some (.ref a), some (.int x0), some (.int x1)] [] o) : ji_CL (d + 1) 154 [.ref a, .int x0, .int x1] M = some o := en_of rfl rfl rfl rfl h
theorem en_155 (h : ji_Ev (ji_CL d) 155 0 M [some (.ref a), some (.int x0), some (.int x1)] [] o) : ji_CL (d + 1) 155 [.ref a, .int x0, .int x1] M = some o := en_of rfl rfl rfl rfl h
theorem en_157 (h : ji_Ev (ji_CL d) 157 0 M [some (.ref a), some (.int x0), some (.int x1), none, none] [] o) : ji_CL (d + 1) 157 [.ref a, .int x0, .int x1] M = some o := en_of rfl rfl rfl rfl h
theorem en_158 (h : ji_Ev (ji_CL d) 158 0 M [some (.ref a), some (.int x0), some (.int x1), some (.int x2)] [] o) : ji_CL (d + 1) 158 [.ref a, .int x0, .int x1, .int x2] M = some o := en_of rfl rfl rfl rfl h
theorem en_159 (h : ji_Ev (ji_CL d) 159 0 M [some (.ref a), some (.int x0), none] [] o) : ji_CL (d + 1) 159 [.ref a, .int x0] M = some o := en_of rfl rfl rfl rfl h
theorem en_160 (h : ji_Ev (ji_CL d) 160 0 M [some (.ref a), none, none, none] [] o) : ji_CL (d + 1) 160 [.ref a] M = some o := en_of rfl rfl rfl rfl h
theorem en_161 (h : ji_Ev (ji_CL d) 161 0 M [some (.ref a), some (.int x0)] [] o) : ji_CL (d + 1) 161 [.ref a, .int x0] M = some o := en_of rfl rfl rfl rfl h
theorem en_162 (h : ji_Ev (ji_CL d) 162 0 M [some (.ref a), some (.int x0)] [] o) : ji_CL (d + 1) 162 [.ref a, .int x0] M = some o := en_of rfl rfl rfl rfl h
theorem en_163 (h : ji_Ev (ji_CL d) 163 0 M [some (.ref a), some (.int x0)] [] o) : ji_CL (d + 1) 163 [.ref a, .int x0] M = some o := en_of rfl rfl rfl rfl h
theorem en_164 (h : ji_Ev (ji_CL d) 164 0 M [some (.ref a), some (.int x0), some (.int x1)] [] o) : ji_CL (d + 1) 164 [.ref a, .int x0, .int x1] M = some o := en_of rfl rfl rfl rfl h
theorem en_165 (h : ji_Ev (ji_CL d) 165 0 M [some (.ref a), some (.int x0), some (.int x1)] [] o) : ji_CL (d + 1) 165 [.ref a, .int x0, .int x1] M = some o := en_of rfl rfl rfl rfl h
theorem en_166 (h : ji_Ev (ji_CL d) 166 0 M [some (.ref a), some (.int x0)] [] o) : ji_CL (d + 1) 166 [.ref a, .int x0] M = some o := en_of rfl rfl rfl rfl h
theorem en_167 (h : ji_Ev (ji_CL d) 167 0 M [some (.ref a), some (.int x0), some (.int x1)] [] o) : ji_CL (d + 1) 167 [.ref a, .int x0, .int x1] M = some o := en_of rfl rfl rfl rfl h
theorem en_168 (h : ji_Ev (ji_CL d) 168 0 M [some (.ref a), some (.int x0), some (.int x1), none] [] o) : ji_CL (d + 1) 168 [.ref a, .int x0, .int x1] M = some o := en_of rfl rfl rfl rfl h
theorem en_169 (h : ji_Ev (ji_CL d) 169 0 M [some (.ref a), some (.int x0), some (.int x1)] [] o) : ji_CL (d + 1) 169 [.ref a, .int x0, .int x1] M = some o := en_of rfl rfl rfl rfl h
theorem en_170 (h : ji_Ev (ji_CL d) 170 0 M [some (.ref a), some (.int x0)] [] o) : ji_CL (d + 1) 170 [.ref a, .int x0] M = some o := en_of rfl rfl rfl rfl h
theorem en_171 (h : ji_Ev (ji_CL d) 171 0 M [some (.ref a), some (.int x0), some (.int x1), some (.int x2)] [] o) : ji_CL (d + 1) 171 [.ref a, .int x0, .int x1, .int x2] M = some o := en_of rfl rfl rfl rfl h
theorem en_172 (h : ji_Ev (ji_CL d) 172 0 M [some (.ref a), some (.int x0), none] [] o) : ji_CL (d + 1) 172 [.ref a, .int x0] M = some o := en_of rfl rfl rfl rfl h
theorem en_173 (h : ji_Ev (ji_CL d) 173 0 M [some (.ref a), none, none, none, none] [] o) : ji_CL (d + 1) 173 [.ref a] M = some o := en_of rfl rfl rfl rfl h
theorem en_174 (h : ji_Ev (ji_CL d) 174 0 M [some (.ref a), some (.int x0)] [] o) : ji_CL (d + 1) 174 [.ref a, .int x0] M = some o := en_of rfl rfl rfl rfl h
theorem en_175 (h : ji_Ev (ji_CL d) 175 0 M [some (.ref a), some (.int x0)] [] o) : ji_CL (d + 1) 175 [.ref a, .int x0] M = some o := en_of rfl rfl rfl rfl h
theorem en_176 (h : ji_Ev (ji_CL d) 176 0 M [some (.ref a), some (.long u0), none] [] o) : ji_CL (d + 1) 176 [.ref a, .long u0] M = some o := en_of rfl rfl rfl rfl h
theorem en_177 (h : ji_Ev (ji_CL d) 177 0 M [some (.ref a), some (.int x0)] [] o) : ji_CL (d + 1) 177 [.ref a, .int x0] M = some o := en_of rfl rfl rfl rfl h
theorem en_178 (h : ji_Ev (ji_CL d) 178 0 M [some (.ref a), some (.int x0)] [] o) : ji_CL (d + 1) 178 [.ref a, .int x0] M = some o := en_of rfl rfl rfl rfl h
theorem en_179 (h : ji_Ev (ji_CL d) 179 0 M [some (.ref a), none, none, none] [] o) : ji_CL (d + 1) 179 [.ref a] M = some o := en_of rfl rfl rfl rfl h
theorem en_180 (h : ji_Ev (ji_CL d) 180 0 M [some (.ref a), some (.int x0)] [] o) : ji_CL (d + 1) 180 [.ref a, .int x0] M = some o := en_of rfl rfl rfl rfl h
theorem en_181 (h : ji_Ev (ji_CL d) 181 0 M [some (.ref a), some (.int x0)] [] o) : ji_CL (d + 1) 181 [.ref a, .int x0] M = some o := en_of rfl rfl rfl rfl h
theorem en_182 (h : ji_Ev (ji_CL d) 182 0 M [some (.ref a), some (.int x0)] [] o) : ji_CL (d + 1) 182 [.ref a, .int x0] M = some o := en_of rfl rfl rfl rfl h
theorem en_183 (h : ji_Ev (ji_CL d) 183 0 M [some (.ref a), some (.int x0)] [] o) : ji_CL (d + 1) 183 [.ref a, .int x0] M = some o := en_of rfl rfl rfl rfl h
theorem en_184 (h : ji_Ev (ji_CL d) 184 0 M [some (.ref a), some (.int x0), none, none] [] o) : ji_CL (d + 1) 184 [.ref a, .int x0] M = some o := en_of rfl rfl rfl rfl h
theorem en_185 (h : ji_Ev (ji_CL d) 185 0 M [some (.ref a)] [] o) : ji_CL (d + 1) 185 [.ref a] M = some o := en_of rfl rfl rfl rfl h
theorem en_186 (h : ji_Ev (ji_CL d) 186 0 M [some (.ref a), some (.int x0)] [] o) : ji_CL (d + 1) 186 [.ref a, .int x0] M = some o := en_of rfl rfl rfl rfl h
theorem en_187 (h : ji_Ev (ji_CL d) 187 0 M [some (.ref a), some (.int x0), some (.int x1), some (.int x2), none, none] [] o) : ji_CL (d + 1) 187 [.ref a, .int x0, .int x1, .int x2] M = some o := en_of rfl rfl rfl rfl h
theorem en_188 (h : ji_Ev (ji_CL d) 188 0 M [some (.ref a), some (.int x0), some (.int x1)] [] o) : ji_CL (d + 1) 188 [.ref a, .int x0, .int x1] M = some o := en_of rfl rfl rfl rfl h
theorem en_189 (h : ji_Ev (ji_CL d) 189 0 M [some (.ref a), some (.int x0), some (.int x1), none, none] [] o) : ji_CL (d + 1) 189 [.ref a, .int x0, .int x1] M = some o := en_of rfl rfl rfl rfl h
theorem en_190 (h : ji_Ev (ji_CL d) 190 0 M [some (.ref a), some (.int x0)] [] o) : ji_CL (d + 1) 190 [.ref a, .int x0] M = some o := en_of rfl rfl rfl rfl h
theorem en_191 (h : ji_Ev (ji_CL d) 191 0 M [some (.ref a), some (.int x0), none] [] o) : ji_CL (d + 1) 191 [.ref a, .int x0] M = some o := en_of rfl rfl rfl rfl h
theorem en_192 (h : ji_Ev (ji_CL d) 192 0 M [some (.ref a), some (.int x0), none, none, none] [] o) : ji_CL (d + 1) 192 [.ref a, .int x0] M = some o := en_of rfl rfl rfl rfl h
theorem en_193 (h : ji_Ev (ji_CL d) 193 0 M [some (.ref a), some (.int x0)] [] o) : ji_CL (d + 1) 193 [.ref a, .int x0] M = some o := en_of rfl rfl rfl rfl h
theorem en_194 (h : ji_Ev (ji_CL d) 194 0 M [some (.ref a), none, none, none] [] o) : ji_CL (d + 1) 194 [.ref a] M = some o := en_of rfl rfl rfl rfl h
theorem en_195 (h : ji_Ev (ji_CL d) 195 0 M [some (.ref a), some (.int x0), none] [] o) : ji_CL (d + 1) 195 [.ref a, .int x0] M = some o := en_of rfl rfl rfl rfl h
theorem en_196 (h : ji_Ev (ji_CL d) 196 0 M [some (.ref a), some (.int x0), some (.long u0), none, none] [] o) : ji_CL (d + 1) 196 [.ref a, .int x0, .long u0] M = some o := en_of rfl rfl rfl rfl h
theorem en_197 (h : ji_Ev (ji_CL d) 197 0 M [some (.ref a), none] [] o) : ji_CL (d + 1) 197 [.ref a] M = some o := en_of rfl rfl rfl rfl h
theorem en_198 (h : ji_Ev (ji_CL d) 198 0 M [some (.ref a), some (.int x0), none] [] o) : ji_CL (d + 1) 198 [.ref a, .int x0] M = some o := en_of rfl rfl rfl rfl h
theorem en_199 (h : ji_Ev (ji_CL d) 199 0 M [some (.ref a), some (.int x0), some (.int x1)] [] o) : ji_CL (d + 1) 199 [.ref a, .int x0, .int x1] M = some o := en_of rfl rfl rfl rfl h
theorem en_200 (h : ji_Ev (ji_CL d) 200 0 M [some (.ref a), some (.int x0), some (.int x1), some (.int x2)] [] o) : ji_CL (d + 1) 200 [.ref a, .int x0, .int x1, .int x2] M = some o := en_of rfl rfl rfl rfl h
theorem en_201 (h : ji_Ev (ji_CL d) 201 0 M [some (.ref a), some (.int x0), some (.int x1), some (.int x2)] [] o) : ji_CL (d + 1) 201 [.ref a, .int x0, .int x1, .int x2] M = some o := en_of rfl rfl rfl rfl h
theorem en_202 (h : ji_Ev (ji_CL d) 202 0 M [some (.ref a), some (.int x0), some (.int x1), some (.int x2), none, none, none, none, none, none, none, none] [] o) : ji_CL (d + 1) 202 [.ref a, .int x0, .int x1, .int x2] M = some o := en_of rfl rfl rfl rfl h
theorem en_203 (h : ji_Ev (ji_CL d) 203 0 M [some (.ref a), some (.int x0), some (.int x1), none, none, none, none, none] [] o) : ji_CL (d + 1) 203 [.ref a, .int x0, .int x1] M = some o := en_of rfl rfl rfl rfl h
theorem en_204 (h : ji_Ev (ji_CL d) 204 0 M [some (.ref a), some (.int x0), some (.int x1), none, none, none, none, none, none] [] o) : ji_CL (d + 1) 204 [.ref a, .int x0, .int x1] M = some o := en_of rfl rfl rfl rfl h
theorem en_205 (h : ji_Ev (ji_CL d) 205 0 M [some (.ref a), some (.int x0), some (.int x1)] [] o) : ji_CL (d + 1) 205 [.ref a, .int x0, .int x1] M = some o := en_of rfl rfl rfl rfl h
theorem en_206 (h : ji_Ev (ji_CL d) 206 0 M [some (.ref a), some (.int x0), none, none, none] [] o) : ji_CL (d + 1) 206 [.ref a, .int x0] M = some o := en_of rfl rfl rfl rfl h
theorem en_207 (h : ji_Ev (ji_CL d) 207 0 M [some (.ref a), some (.int x0), none, none] [] o) : ji_CL (d + 1) 207 [.ref a, .int x0] M = some o := en_of rfl rfl rfl rfl h
theorem en_208 (h : ji_Ev (ji_CL d) 208 0 M [some (.ref a), some (.int x0), some (.int x1), none, none] [] o) : ji_CL (d + 1) 208 [.ref a, .int x0, .int x1] M = some o := en_of rfl rfl rfl rfl h
theorem en_209 (h : ji_Ev (ji_CL d) 209 0 M [some (.ref a), some (.int x0), some (.int x1)] [] o) : ji_CL (d + 1) 209 [.ref a, .int x0, .int x1] M = some o := en_of rfl rfl rfl rfl h
theorem en_210 (h : ji_Ev (ji_CL d) 210 0 M [some (.ref a), some (.int x0), some (.int x1), none, none] [] o) : ji_CL (d + 1) 210 [.ref a, .int x0, .int x1] M = some o := en_of rfl rfl rfl rfl h
theorem en_211 (h : ji_Ev (ji_CL d) 211 0 M [some (.ref a), some (.int x0), none] [] o) : ji_CL (d + 1) 211 [.ref a, .int x0] M = some o := en_of rfl rfl rfl rfl h
theorem en_212 (h : ji_Ev (ji_CL d) 212 0 M [some (.ref a), none, none, none, none, none, none, none, none, none] [] o) : ji_CL (d + 1) 212 [.ref a] M = some o := en_of rfl rfl rfl rfl h
theorem en_213 (h : ji_Ev (ji_CL d) 213 0 M [some (.ref a), some (.int x0), some (.int x1), some (.int x2)] [] o) : ji_CL (d + 1) 213 [.ref a, .int x0, .int x1, .int x2] M = some o := en_of rfl rfl rfl rfl h
theorem en_214 (h : ji_Ev (ji_CL d) 214 0 M [some (.ref a), some (.int x0), some (.int x1), some (.int x2), none, none, none, none] [] o) : ji_CL (d + 1) 214 [.ref a, .int x0, .int x1, .int x2] M = some o := en_of rfl rfl rfl rfl h
theorem en_215 (h : ji_Ev (ji_CL d) 215 0 M [some (.ref a), some (.int x0), some (.int x1)] [] o) : ji_CL (d + 1) 215 [.ref a, .int x0, .int x1] M = some o := en_of rfl rfl rfl rfl h
theorem en_216 (h : ji_Ev (ji_CL d) 216 0 M [some (.ref a), some (.int x0), some (.int x1), some (.int x2)] [] o) : ji_CL (d + 1) 216 [.ref a, .int x0, .int x1, .int x2] M = some o := en_of rfl rfl rfl rfl h
theorem en_217 (h : ji_Ev (ji_CL d) 217 0 M [some (.ref a), some (.int x0), none, none, none] [] o) : ji_CL (d + 1) 217 [.ref a, .int x0] M = some o := en_of rfl rfl rfl rfl h
theorem en_218 (h : ji_Ev (ji_CL d) 218 0 M [some (.ref a), some (.int x0), some (.int x1)] [] o) : ji_CL (d + 1) 218 [.ref a, .int x0, .int x1] M = some o := en_of rfl rfl rfl rfl h
theorem en_219 (h : ji_Ev (ji_CL d) 219 0 M [some (.ref a), some (.int x0), some (.int x1), some (.int x2), none, none, none, none, none, none, none, none] [] o) : ji_CL (d + 1) 219 [.ref a, .int x0, .int x1, .int x2] M = some o := en_of rfl rfl rfl rfl h
theorem en_220 (h : ji_Ev (ji_CL d) 220 0 M [some (.ref a), some (.int x0), some (.int x1), none, none] [] o) : ji_CL (d + 1) 220 [.ref a, .int x0, .int x1] M = some o := en_of rfl rfl rfl rfl h
theorem en_221 (h : ji_Ev (ji_CL d) 221 0 M [some (.ref a), some (.int x0)] [] o) : ji_CL (d + 1) 221 [.ref a, .int x0] M = some o := en_of rfl rfl rfl rfl h
theorem en_222 (h : ji_Ev (ji_CL d) 222 0 M [some (.ref a), some (.int x0), some (.int x1), some (.int x2), none] [] o) : ji_CL (d + 1) 222 [.ref a, .int x0, .int x1, .int x2] M = some o := en_of rfl rfl rfl rfl h
theorem en_223 (h : ji_Ev (ji_CL d) 223 0 M [some (.ref a), some (.int x0)] [] o) : ji_CL (d + 1) 223 [.ref a, .int x0] M = some o := en_of rfl rfl rfl rfl h
theorem en_224 (h : ji_Ev (ji_CL d) 224 0 M [some (.ref a), some (.int x0), some (.int x1), some (.int x2)] [] o) : ji_CL (d + 1) 224 [.ref a, .int x0, .int x1, .int x2] M = some o := en_of rfl rfl rfl rfl h
theorem en_225 (h : ji_Ev (ji_CL d) 225 0 M [some (.ref a), some (.int x0), some (.int x1), some (.int x2), some (.int x3), some (.int x4), none] [] o) : ji_CL (d + 1) 225 [.ref a, .int x0, .int x1, .int x2, .int x3, .int x4] M = some o := en_of rfl rfl rfl rfl h
theorem en_226 (h : ji_Ev (ji_CL d) 226 0 M [some (.ref a), some (.int x0), some (.int x1), some (.int x2), some (.int x3), none, none] [] o) : ji_CL (d + 1) 226 [.ref a, .int x0, .int x1, .int x2, .int x3] M = some o := en_of rfl rfl rfl rfl h
theorem en_227 (h : ji_Ev (ji_CL d) 227 0 M [some (.ref a), some (.int x0), some (.int x1), none] [] o) : ji_CL (d + 1) 227 [.ref a, .int x0, .int x1] M = some o := en_of rfl rfl rfl rfl h
end JIN
/-- a truth as an int -/
noncomputable def ji_b (p : Prop) : Int32 := @ite _ p (Classical.propDecidable p) 1 0
theorem ji_b_T {p : Prop} (h : p) : ji_b p = 1 := if_pos h
theorem ji_b_F {p : Prop} (h : ¬ p) : ji_b p = 0 := if_neg h
theorem ji_b_0 {p : Prop} : (ji_b p = 0) ↔ ¬ p := by
  by_cases h : p
  · rw [ji_b_T h]; exact ⟨fun q => absurd q (by decide), fun q => absurd h q⟩
  · rw [ji_b_F h]; exact ⟨fun _ => h, fun _ => rfl⟩
theorem ji_b_1 {p : Prop} : (ji_b p = 1) ↔ p := by
  by_cases h : p
  · rw [ji_b_T h]; exact ⟨fun _ => h, fun _ => rfl⟩
  · rw [ji_b_F h]; exact ⟨fun q => absurd q (by decide), fun q => absurd q h⟩
theorem ji_b_n {p : Prop} : (narrow .boolean (.int (ji_b p)) = .int (ji_b p)) ↔ True := by
  by_cases h : p
  · rw [ji_b_T h]; exact ⟨fun _ => trivial, fun _ => rfl⟩
  · rw [ji_b_F h]; exact ⟨fun _ => trivial, fun _ => rfl⟩
def ji_in (x lo hi : Int32) : Prop := ¬ x < lo ∧ ¬ hi < x
theorem ji_n0 : (narrow .boolean (.int 0) = .int 0) ↔ True := ⟨fun _ => trivial, fun _ => rfl⟩
theorem ji_n1 : (narrow .boolean (.int 1) = .int 1) ↔ True := ⟨fun _ => trivial, fun _ => rfl⟩
theorem ji_rcb_iff {M : ji_M} {rc a : Nat} : (ji_rcb M rc (.ref a) = true) ↔ ji_kd M a = some (0, rc) := by simp only [ji_rcb, decide_eq_true_eq]
theorem ji_cat (v : Value) : v.category ≤ 2 := by cases v <;> exact Nat.le_of_ble_eq_true rfl
theorem ji_ok8_0 : ji_ok8 [] ↔ True := ⟨fun _ => trivial, fun _ => by show (0 : Nat) ≤ 8; omega⟩
theorem ji_ok8_1 {v : Value} : ji_ok8 [v] ↔ True := ⟨fun _ => trivial, fun _ => by
  show ([v].map fun v => v.category).sum ≤ 8
  have := ji_cat v
  simp; omega⟩
theorem ji_ok8_2 {v w : Value} : ji_ok8 [v, w] ↔ True := ⟨fun _ => trivial, fun _ => by
  show ([v, w].map fun v => v.category).sum ≤ 8
  have := ji_cat v
  have := ji_cat w
  simp; omega⟩
theorem ji_ok8_3 {v w x : Value} : ji_ok8 [v, w, x] ↔ True := ⟨fun _ => trivial, fun _ => by
  show ([v, w, x].map fun v => v.category).sum ≤ 8
  have := ji_cat v
  have := ji_cat w
  have := ji_cat x
  simp; omega⟩
theorem ji_ok8_4 {v w x y : Value} : ji_ok8 [v, w, x, y] ↔ True := ⟨fun _ => trivial, fun _ => by
  show ([v, w, x, y].map fun v => v.category).sum ≤ 8
  have := ji_cat v
  have := ji_cat w
  have := ji_cat x
  have := ji_cat y
  simp; omega⟩
/-! the memory read after it was written -/
theorem kd_sI {M : ji_M} {i k a : Nat} {v : Int32} : ji_kd (ji_sI M i k v) a = ji_kd M a := rfl
theorem kd_sL {M : ji_M} {i k a : Nat} {v : Int64} : ji_kd (ji_sL M i k v) a = ji_kd M a := rfl
theorem kd_sR {M : ji_M} {i k a : Nat} {v : Option Nat} : ji_kd (ji_sR M i k v) a = ji_kd M a := rfl
theorem kd_cp {M : ji_M} {s i t j n a : Nat} : ji_kd (ji_cp M s i t j n) a = ji_kd M a := rfl
theorem gR_sI {M : ji_M} {i k a b : Nat} {v : Int32} : ji_gR (ji_sI M i k v) a b = ji_gR M a b := rfl
theorem gR_sL {M : ji_M} {i k a b : Nat} {v : Int64} : ji_gR (ji_sL M i k v) a b = ji_gR M a b := rfl
theorem gR_cp {M : ji_M} {s i t j n a b : Nat} : ji_gR (ji_cp M s i t j n) a b = ji_gR M a b := rfl
theorem gR_sR {M : ji_M} {i k a b : Nat} {v : Option Nat} : ji_gR (ji_sR M i k v) a b = if a = i ∧ b = k then v else ji_gR M a b := rfl
theorem gL_sI {M : ji_M} {i k a b : Nat} {v : Int32} : ji_gL (ji_sI M i k v) a b = ji_gL M a b := rfl
theorem gL_sR {M : ji_M} {i k a b : Nat} {v : Option Nat} : ji_gL (ji_sR M i k v) a b = ji_gL M a b := rfl
theorem gL_cp {M : ji_M} {s i t j n a b : Nat} : ji_gL (ji_cp M s i t j n) a b = ji_gL M a b := rfl
theorem gL_sL {M : ji_M} {i k a b : Nat} {v : Int64} : ji_gL (ji_sL M i k v) a b = if a = i ∧ b = k then v else ji_gL M a b := rfl
theorem gI_sL {M : ji_M} {i k a b : Nat} {v : Int64} : ji_gI (ji_sL M i k v) a b = ji_gI M a b := rfl
theorem gI_sR {M : ji_M} {i k a b : Nat} {v : Option Nat} : ji_gI (ji_sR M i k v) a b = ji_gI M a b := rfl
theorem gI_sI {M : ji_M} {i k a b : Nat} {v : Int32} : ji_gI (ji_sI M i k v) a b = if a = i ∧ b = k then v else ji_gI M a b := rfl
theorem gI_cp {M : ji_M} {s i t j n a b : Nat} : ji_gI (ji_cp M s i t j n) a b = if a = t ∧ j ≤ b ∧ b < j + n then ji_gI M s (i + (b - j)) else ji_gI M a b := rfl
theorem gI_ne {M : ji_M} {i k a b : Nat} {v : Int32} (h : a ≠ i) : ji_gI (ji_sI M i k v) a b = ji_gI M a b := if_neg (fun q => h q.1)
theorem ji_nlt {x : Int32} : (¬ x < 0) ↔ 0 ≤ x := by rw [Int32.not_lt]

theorem cz_m100 : ((-100 : Int32) = 0) = False := eq_false (by decide)
theorem cz_m19 : ((-19 : Int32) = 0) = False := eq_false (by decide)
theorem cz_m18 : ((-18 : Int32) = 0) = False := eq_false (by decide)
theorem cz_m17 : ((-17 : Int32) = 0) = False := eq_false (by decide)
theorem cz_m16 : ((-16 : Int32) = 0) = False := eq_false (by decide)
theorem cz_m15 : ((-15 : Int32) = 0) = False := eq_false (by decide)
theorem cz_m14 : ((-14 : Int32) = 0) = False := eq_false (by decide)
theorem cz_m13 : ((-13 : Int32) = 0) = False := eq_false (by decide)
theorem cz_m12 : ((-12 : Int32) = 0) = False := eq_false (by decide)
theorem cz_m11 : ((-11 : Int32) = 0) = False := eq_false (by decide)
theorem cz_m4 : ((-4 : Int32) = 0) = False := eq_false (by decide)
theorem cz_m3 : ((-3 : Int32) = 0) = False := eq_false (by decide)
theorem cz_m2 : ((-2 : Int32) = 0) = False := eq_false (by decide)
theorem cz_m1 : ((-1 : Int32) = 0) = False := eq_false (by decide)
theorem cz_1 : ((1 : Int32) = 0) = False := eq_false (by decide)
theorem cz_2 : ((2 : Int32) = 0) = False := eq_false (by decide)
theorem cz_3 : ((3 : Int32) = 0) = False := eq_false (by decide)
theorem cz_4 : ((4 : Int32) = 0) = False := eq_false (by decide)
theorem cz_5 : ((5 : Int32) = 0) = False := eq_false (by decide)
theorem cz_6 : ((6 : Int32) = 0) = False := eq_false (by decide)
theorem cz_7 : ((7 : Int32) = 0) = False := eq_false (by decide)
theorem cz_8 : ((8 : Int32) = 0) = False := eq_false (by decide)
theorem cz_9 : ((9 : Int32) = 0) = False := eq_false (by decide)
theorem cz_10 : ((10 : Int32) = 0) = False := eq_false (by decide)
theorem cz_11 : ((11 : Int32) = 0) = False := eq_false (by decide)
theorem cz_12 : ((12 : Int32) = 0) = False := eq_false (by decide)
theorem cz_13 : ((13 : Int32) = 0) = False := eq_false (by decide)
theorem cz_14 : ((14 : Int32) = 0) = False := eq_false (by decide)
theorem cz_15 : ((15 : Int32) = 0) = False := eq_false (by decide)
theorem cz_16 : ((16 : Int32) = 0) = False := eq_false (by decide)
theorem cz_20 : ((20 : Int32) = 0) = False := eq_false (by decide)
theorem cz_24 : ((24 : Int32) = 0) = False := eq_false (by decide)
theorem cz_30 : ((30 : Int32) = 0) = False := eq_false (by decide)
theorem cz_32 : ((32 : Int32) = 0) = False := eq_false (by decide)
theorem cz_33 : ((33 : Int32) = 0) = False := eq_false (by decide)
theorem cz_38 : ((38 : Int32) = 0) = False := eq_false (by decide)
theorem cz_40 : ((40 : Int32) = 0) = False := eq_false (by decide)
theorem cz_41 : ((41 : Int32) = 0) = False := eq_false (by decide)
theorem cz_42 : ((42 : Int32) = 0) = False := eq_false (by decide)
theorem cz_43 : ((43 : Int32) = 0) = False := eq_false (by decide)
theorem cz_45 : ((45 : Int32) = 0) = False := eq_false (by decide)
theorem cz_48 : ((48 : Int32) = 0) = False := eq_false (by decide)
theorem cz_57 : ((57 : Int32) = 0) = False := eq_false (by decide)
theorem cz_59 : ((59 : Int32) = 0) = False := eq_false (by decide)
theorem cz_60 : ((60 : Int32) = 0) = False := eq_false (by decide)
theorem cz_61 : ((61 : Int32) = 0) = False := eq_false (by decide)
theorem cz_63 : ((63 : Int32) = 0) = False := eq_false (by decide)
theorem cz_64 : ((64 : Int32) = 0) = False := eq_false (by decide)
theorem cz_72 : ((72 : Int32) = 0) = False := eq_false (by decide)
theorem cz_96 : ((96 : Int32) = 0) = False := eq_false (by decide)
theorem cz_97 : ((97 : Int32) = 0) = False := eq_false (by decide)
theorem cz_99 : ((99 : Int32) = 0) = False := eq_false (by decide)
theorem cz_100 : ((100 : Int32) = 0) = False := eq_false (by decide)
theorem cz_122 : ((122 : Int32) = 0) = False := eq_false (by decide)
theorem cz_124 : ((124 : Int32) = 0) = False := eq_false (by decide)
theorem cz_126 : ((126 : Int32) = 0) = False := eq_false (by decide)
theorem cz_160 : ((160 : Int32) = 0) = False := eq_false (by decide)
theorem cz_161 : ((161 : Int32) = 0) = False := eq_false (by decide)
theorem cz_168 : ((168 : Int32) = 0) = False := eq_false (by decide)
theorem cz_200 : ((200 : Int32) = 0) = False := eq_false (by decide)
theorem cz_255 : ((255 : Int32) = 0) = False := eq_false (by decide)
theorem cz_300 : ((300 : Int32) = 0) = False := eq_false (by decide)
theorem cz_960 : ((960 : Int32) = 0) = False := eq_false (by decide)
theorem cz_999 : ((999 : Int32) = 0) = False := eq_false (by decide)
theorem cz_1000 : ((1000 : Int32) = 0) = False := eq_false (by decide)
theorem cz_1001 : ((1001 : Int32) = 0) = False := eq_false (by decide)
theorem cz_1002 : ((1002 : Int32) = 0) = False := eq_false (by decide)
theorem cz_1003 : ((1003 : Int32) = 0) = False := eq_false (by decide)
theorem cz_1120 : ((1120 : Int32) = 0) = False := eq_false (by decide)
theorem cz_2000 : ((2000 : Int32) = 0) = False := eq_false (by decide)
theorem cz_2003 : ((2003 : Int32) = 0) = False := eq_false (by decide)
theorem cz_2004 : ((2004 : Int32) = 0) = False := eq_false (by decide)
theorem cz_2005 : ((2005 : Int32) = 0) = False := eq_false (by decide)
theorem cz_3999 : ((3999 : Int32) = 0) = False := eq_false (by decide)
theorem cz_9999 : ((9999 : Int32) = 0) = False := eq_false (by decide)
theorem cz_14640 : ((14640 : Int32) = 0) = False := eq_false (by decide)
