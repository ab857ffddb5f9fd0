/-! ===== the start: what the new objects hold ===== -/
theorem jx_xr0 : (ji_mx0.map fun q => ji_XR.map fun e => ji_gR q.2 e.1 e.2.1) = some (ji_XR.map fun e => some e.2.2) := by decide +kernel
theorem jx_nr0 : (ji_mm0.map fun q => ji_MR.map fun e => ji_gR q.2 e.1 e.2.1) = some (ji_MR.map fun e => some e.2.2) := by decide +kernel
