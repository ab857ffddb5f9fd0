/-! ===== the start: sheets, the model's numbers ===== -/
theorem jx_xz0 : (ji_mx0.map fun q => (List.range 160).map fun k => ji_gI q.2 (84 + k / 40) (k % 40)) = some (List.replicate 160 0) := by decide +kernel
def jx_LN : List (Nat × Nat × Int32) := [(0, 0, 0), (0, 1, 10), (0, 2, 200), (0, 3, 300), (0, 4, 0), (0, 15, 1), (0, 16, 0), (0, 17, 0), (0, 33, 0), (0, 46, 0), (0, 50, 0), (0, 51, 0), (0, 57, 0), (0, 58, 0), (0, 59, 0), (0, 71, 0), (52, 0, -1), (52, 1, -1), (52, 2, -1), (52, 3, -1), (53, 0, 0), (53, 1, 0), (53, 2, 0), (53, 3, 0)]
theorem jx_ni1 : (ji_mm0.map fun q => jx_LN.map fun e => ji_gI q.2 e.1 e.2.1) = some (jx_LN.map fun e => e.2.2) := by decide +kernel
theorem jx_nl0 : (ji_mm0.map fun q => ji_gL q.2 0 5) = some 0 := by decide +kernel
theorem jx_nz0 : (ji_mm0.map fun q => (List.range 160).map fun k => ji_gI q.2 54 k) = some (List.replicate 160 0) := by decide +kernel
