/-! ===== the start: the class's numbers ===== -/
def jx_LX : List (Nat × Nat × Int32) := [(1, 1, 0), (1, 2, 10), (1, 3, 200), (1, 4, 300), (1, 5, 0), (2, 3, 0), (4, 6, 1), (4, 7, 0), (5, 1, 0), (24, 3, 0), (48, 3, 0), (50, 3, 0), (52, 3, 0), (70, 3, 0), (72, 3, 0), (74, 3, 0), (76, 3, 0), (88, 0, -1), (88, 1, -1), (88, 2, -1), (88, 3, -1), (89, 0, 0), (89, 1, 0), (89, 2, 0), (89, 3, 0), (9, 0, -1), (9, 1, -4), (9, 2, -15), (9, 3, -2), (9, 4, 2), (9, 5, -18), (9, 6, -4), (16, 0, 3), (16, 1, 6), (16, 2, 7)]
theorem jx_xi0 : (ji_mx0.map fun q => ji_XI.map fun e => ji_gI q.2 e.1 e.2.1) = some (ji_XI.map fun e => e.2.2) := by decide +kernel
theorem jx_xi1 : (ji_mx0.map fun q => jx_LX.map fun e => ji_gI q.2 e.1 e.2.1) = some (jx_LX.map fun e => e.2.2) := by decide +kernel
