/-! ===== the words of the law's calls ===== -/
theorem jl_w42 : ∀ w ∈ [Cond.methodLink R_law 13 (ji_m 42).1, .instanceMethod (ji_m 42).1, .selects (ji_m 42).1.cls (ji_m 42).1 (ji_m 42).1, .initialized (ji_m 42).1.cls], w ∈ ji_tt := by
  intro w hw
  simp only [List.mem_cons, List.not_mem_nil, or_false] at hw
  rcases hw with rfl | rfl | rfl | rfl
  · exact ji_is1_in (p := 555) (by decide +kernel)
  · exact ji_is1_in (p := 556) (by decide +kernel)
  · exact ji_is1_in (p := 557) (by decide +kernel)
  · exact ji_is1_in (p := 69) (by decide +kernel)
theorem jl_w157 : ∀ w ∈ [Cond.methodLink R_law 17 (ji_m 157).1, .instanceMethod (ji_m 157).1, .selects (ji_m 157).1.cls (ji_m 157).1 (ji_m 157).1, .initialized (ji_m 157).1.cls], w ∈ ji_tt := by
  intro w hw
  simp only [List.mem_cons, List.not_mem_nil, or_false] at hw
  rcases hw with rfl | rfl | rfl | rfl
  · exact ji_is1_in (p := 1310) (by decide +kernel)
  · exact ji_is1_in (p := 1311) (by decide +kernel)
  · exact ji_is1_in (p := 1312) (by decide +kernel)
  · exact ji_is1_in (p := 84) (by decide +kernel)
theorem jl_w45 : ∀ w ∈ [Cond.methodLink R_law 18 (ji_m 45).1, .instanceMethod (ji_m 45).1, .selects (ji_m 45).1.cls (ji_m 45).1 (ji_m 45).1, .initialized (ji_m 45).1.cls], w ∈ ji_tt := by
  intro w hw
  simp only [List.mem_cons, List.not_mem_nil, or_false] at hw
  rcases hw with rfl | rfl | rfl | rfl
  · exact ji_is1_in (p := 568) (by decide +kernel)
  · exact ji_is1_in (p := 569) (by decide +kernel)
  · exact ji_is1_in (p := 570) (by decide +kernel)
  · exact ji_is1_in (p := 69) (by decide +kernel)
theorem jl_w159 : ∀ w ∈ [Cond.methodLink R_law 22 (ji_m 159).1, .instanceMethod (ji_m 159).1, .selects (ji_m 159).1.cls (ji_m 159).1 (ji_m 159).1, .initialized (ji_m 159).1.cls], w ∈ ji_tt := by
  intro w hw
  simp only [List.mem_cons, List.not_mem_nil, or_false] at hw
  rcases hw with rfl | rfl | rfl | rfl
  · exact ji_is1_in (p := 1320) (by decide +kernel)
  · exact ji_is1_in (p := 1321) (by decide +kernel)
  · exact ji_is1_in (p := 1322) (by decide +kernel)
  · exact ji_is1_in (p := 84) (by decide +kernel)
theorem jl_w59 : ∀ w ∈ [Cond.methodLink R_law 23 (ji_m 59).1, .instanceMethod (ji_m 59).1, .selects (ji_m 59).1.cls (ji_m 59).1 (ji_m 59).1, .initialized (ji_m 59).1.cls], w ∈ ji_tt := by
  intro w hw
  simp only [List.mem_cons, List.not_mem_nil, or_false] at hw
  rcases hw with rfl | rfl | rfl | rfl
  · exact ji_is1_in (p := 622) (by decide +kernel)
  · exact ji_is1_in (p := 623) (by decide +kernel)
  · exact ji_is1_in (p := 624) (by decide +kernel)
  · exact ji_is1_in (p := 69) (by decide +kernel)
theorem jl_w164 : ∀ w ∈ [Cond.methodLink R_law 27 (ji_m 164).1, .instanceMethod (ji_m 164).1, .selects (ji_m 164).1.cls (ji_m 164).1 (ji_m 164).1, .initialized (ji_m 164).1.cls], w ∈ ji_tt := by
  intro w hw
  simp only [List.mem_cons, List.not_mem_nil, or_false] at hw
  rcases hw with rfl | rfl | rfl | rfl
  · exact ji_is1_in (p := 1340) (by decide +kernel)
  · exact ji_is1_in (p := 1341) (by decide +kernel)
  · exact ji_is1_in (p := 1342) (by decide +kernel)
  · exact ji_is1_in (p := 84) (by decide +kernel)
theorem jl_w64 : ∀ w ∈ [Cond.methodLink R_law 28 (ji_m 64).1, .instanceMethod (ji_m 64).1, .selects (ji_m 64).1.cls (ji_m 64).1 (ji_m 64).1, .initialized (ji_m 64).1.cls], w ∈ ji_tt := by
  intro w hw
  simp only [List.mem_cons, List.not_mem_nil, or_false] at hw
  rcases hw with rfl | rfl | rfl | rfl
  · exact ji_is1_in (p := 644) (by decide +kernel)
  · exact ji_is1_in (p := 645) (by decide +kernel)
  · exact ji_is1_in (p := 646) (by decide +kernel)
  · exact ji_is1_in (p := 69) (by decide +kernel)
theorem jl_w165 : ∀ w ∈ [Cond.methodLink R_law 31 (ji_m 165).1, .instanceMethod (ji_m 165).1, .selects (ji_m 165).1.cls (ji_m 165).1 (ji_m 165).1, .initialized (ji_m 165).1.cls], w ∈ ji_tt := by
  intro w hw
  simp only [List.mem_cons, List.not_mem_nil, or_false] at hw
  rcases hw with rfl | rfl | rfl | rfl
  · exact ji_is1_in (p := 1344) (by decide +kernel)
  · exact ji_is1_in (p := 1345) (by decide +kernel)
  · exact ji_is1_in (p := 1346) (by decide +kernel)
  · exact ji_is1_in (p := 84) (by decide +kernel)
theorem jl_w70 : ∀ w ∈ [Cond.methodLink R_law 32 (ji_m 70).1, .instanceMethod (ji_m 70).1, .selects (ji_m 70).1.cls (ji_m 70).1 (ji_m 70).1, .initialized (ji_m 70).1.cls], w ∈ ji_tt := by
  intro w hw
  simp only [List.mem_cons, List.not_mem_nil, or_false] at hw
  rcases hw with rfl | rfl | rfl | rfl
  · exact ji_is1_in (p := 670) (by decide +kernel)
  · exact ji_is1_in (p := 671) (by decide +kernel)
  · exact ji_is1_in (p := 672) (by decide +kernel)
  · exact ji_is1_in (p := 69) (by decide +kernel)
theorem jl_w168 : ∀ w ∈ [Cond.methodLink R_law 35 (ji_m 168).1, .instanceMethod (ji_m 168).1, .selects (ji_m 168).1.cls (ji_m 168).1 (ji_m 168).1, .initialized (ji_m 168).1.cls], w ∈ ji_tt := by
  intro w hw
  simp only [List.mem_cons, List.not_mem_nil, or_false] at hw
  rcases hw with rfl | rfl | rfl | rfl
  · exact ji_is1_in (p := 1356) (by decide +kernel)
  · exact ji_is1_in (p := 1357) (by decide +kernel)
  · exact ji_is1_in (p := 1358) (by decide +kernel)
  · exact ji_is1_in (p := 84) (by decide +kernel)
theorem jl_w84 : ∀ w ∈ [Cond.methodLink R_law 36 (ji_m 84).1, .instanceMethod (ji_m 84).1, .selects (ji_m 84).1.cls (ji_m 84).1 (ji_m 84).1, .initialized (ji_m 84).1.cls], w ∈ ji_tt := by
  intro w hw
  simp only [List.mem_cons, List.not_mem_nil, or_false] at hw
  rcases hw with rfl | rfl | rfl | rfl
  · exact ji_is1_in (p := 729) (by decide +kernel)
  · exact ji_is1_in (p := 730) (by decide +kernel)
  · exact ji_is1_in (p := 731) (by decide +kernel)
  · exact ji_is1_in (p := 69) (by decide +kernel)
theorem jl_w191 : ∀ w ∈ [Cond.methodLink R_law 39 (ji_m 191).1, .instanceMethod (ji_m 191).1, .selects (ji_m 191).1.cls (ji_m 191).1 (ji_m 191).1, .initialized (ji_m 191).1.cls], w ∈ ji_tt := by
  intro w hw
  simp only [List.mem_cons, List.not_mem_nil, or_false] at hw
  rcases hw with rfl | rfl | rfl | rfl
  · exact ji_is1_in (p := 1463) (by decide +kernel)
  · exact ji_is1_in (p := 1464) (by decide +kernel)
  · exact ji_is1_in (p := 1465) (by decide +kernel)
  · exact ji_is1_in (p := 84) (by decide +kernel)
theorem jl_w85 : ∀ w ∈ [Cond.methodLink R_law 40 (ji_m 85).1, .instanceMethod (ji_m 85).1, .selects (ji_m 85).1.cls (ji_m 85).1 (ji_m 85).1, .initialized (ji_m 85).1.cls], w ∈ ji_tt := by
  intro w hw
  simp only [List.mem_cons, List.not_mem_nil, or_false] at hw
  rcases hw with rfl | rfl | rfl | rfl
  · exact ji_is1_in (p := 734) (by decide +kernel)
  · exact ji_is1_in (p := 735) (by decide +kernel)
  · exact ji_is1_in (p := 736) (by decide +kernel)
  · exact ji_is1_in (p := 69) (by decide +kernel)
theorem jl_w192 : ∀ w ∈ [Cond.methodLink R_law 43 (ji_m 192).1, .instanceMethod (ji_m 192).1, .selects (ji_m 192).1.cls (ji_m 192).1 (ji_m 192).1, .initialized (ji_m 192).1.cls], w ∈ ji_tt := by
  intro w hw
  simp only [List.mem_cons, List.not_mem_nil, or_false] at hw
  rcases hw with rfl | rfl | rfl | rfl
  · exact ji_is1_in (p := 1467) (by decide +kernel)
  · exact ji_is1_in (p := 1468) (by decide +kernel)
  · exact ji_is1_in (p := 1469) (by decide +kernel)
  · exact ji_is1_in (p := 84) (by decide +kernel)
theorem jl_w88 : ∀ w ∈ [Cond.methodLink R_law 44 (ji_m 88).1, .instanceMethod (ji_m 88).1, .selects (ji_m 88).1.cls (ji_m 88).1 (ji_m 88).1, .initialized (ji_m 88).1.cls], w ∈ ji_tt := by
  intro w hw
  simp only [List.mem_cons, List.not_mem_nil, or_false] at hw
  rcases hw with rfl | rfl | rfl | rfl
  · exact ji_is1_in (p := 749) (by decide +kernel)
  · exact ji_is1_in (p := 750) (by decide +kernel)
  · exact ji_is1_in (p := 751) (by decide +kernel)
  · exact ji_is1_in (p := 69) (by decide +kernel)
theorem jl_w193 : ∀ w ∈ [Cond.methodLink R_law 48 (ji_m 193).1, .instanceMethod (ji_m 193).1, .selects (ji_m 193).1.cls (ji_m 193).1 (ji_m 193).1, .initialized (ji_m 193).1.cls], w ∈ ji_tt := by
  intro w hw
  simp only [List.mem_cons, List.not_mem_nil, or_false] at hw
  rcases hw with rfl | rfl | rfl | rfl
  · exact ji_is1_in (p := 1471) (by decide +kernel)
  · exact ji_is1_in (p := 1472) (by decide +kernel)
  · exact ji_is1_in (p := 1473) (by decide +kernel)
  · exact ji_is1_in (p := 84) (by decide +kernel)
theorem jl_w92 : ∀ w ∈ [Cond.methodLink R_law 51 (ji_m 92).1, .instanceMethod (ji_m 92).1, .selects (ji_m 92).1.cls (ji_m 92).1 (ji_m 92).1, .initialized (ji_m 92).1.cls], w ∈ ji_tt := by
  intro w hw
  simp only [List.mem_cons, List.not_mem_nil, or_false] at hw
  rcases hw with rfl | rfl | rfl | rfl
  · exact ji_is1_in (p := 766) (by decide +kernel)
  · exact ji_is1_in (p := 767) (by decide +kernel)
  · exact ji_is1_in (p := 768) (by decide +kernel)
  · exact ji_is1_in (p := 69) (by decide +kernel)
theorem jl_w196 : ∀ w ∈ [Cond.methodLink R_law 55 (ji_m 196).1, .instanceMethod (ji_m 196).1, .selects (ji_m 196).1.cls (ji_m 196).1 (ji_m 196).1, .initialized (ji_m 196).1.cls], w ∈ ji_tt := by
  intro w hw
  simp only [List.mem_cons, List.not_mem_nil, or_false] at hw
  rcases hw with rfl | rfl | rfl | rfl
  · exact ji_is1_in (p := 1484) (by decide +kernel)
  · exact ji_is1_in (p := 1485) (by decide +kernel)
  · exact ji_is1_in (p := 1486) (by decide +kernel)
  · exact ji_is1_in (p := 84) (by decide +kernel)
theorem jl_w94 : ∀ w ∈ [Cond.methodLink R_law 56 (ji_m 94).1, .instanceMethod (ji_m 94).1, .selects (ji_m 94).1.cls (ji_m 94).1 (ji_m 94).1, .initialized (ji_m 94).1.cls], w ∈ ji_tt := by
  intro w hw
  simp only [List.mem_cons, List.not_mem_nil, or_false] at hw
  rcases hw with rfl | rfl | rfl | rfl
  · exact ji_is1_in (p := 776) (by decide +kernel)
  · exact ji_is1_in (p := 777) (by decide +kernel)
  · exact ji_is1_in (p := 778) (by decide +kernel)
  · exact ji_is1_in (p := 69) (by decide +kernel)
theorem jl_w197 : ∀ w ∈ [Cond.methodLink R_law 60 (ji_m 197).1, .instanceMethod (ji_m 197).1, .selects (ji_m 197).1.cls (ji_m 197).1 (ji_m 197).1, .initialized (ji_m 197).1.cls], w ∈ ji_tt := by
  intro w hw
  simp only [List.mem_cons, List.not_mem_nil, or_false] at hw
  rcases hw with rfl | rfl | rfl | rfl
  · exact ji_is1_in (p := 1488) (by decide +kernel)
  · exact ji_is1_in (p := 1489) (by decide +kernel)
  · exact ji_is1_in (p := 1490) (by decide +kernel)
  · exact ji_is1_in (p := 84) (by decide +kernel)
theorem jl_w95 : ∀ w ∈ [Cond.methodLink R_law 61 (ji_m 95).1, .instanceMethod (ji_m 95).1, .selects (ji_m 95).1.cls (ji_m 95).1 (ji_m 95).1, .initialized (ji_m 95).1.cls], w ∈ ji_tt := by
  intro w hw
  simp only [List.mem_cons, List.not_mem_nil, or_false] at hw
  rcases hw with rfl | rfl | rfl | rfl
  · exact ji_is1_in (p := 780) (by decide +kernel)
  · exact ji_is1_in (p := 781) (by decide +kernel)
  · exact ji_is1_in (p := 782) (by decide +kernel)
  · exact ji_is1_in (p := 69) (by decide +kernel)
theorem jl_w198 : ∀ w ∈ [Cond.methodLink R_law 64 (ji_m 198).1, .instanceMethod (ji_m 198).1, .selects (ji_m 198).1.cls (ji_m 198).1 (ji_m 198).1, .initialized (ji_m 198).1.cls], w ∈ ji_tt := by
  intro w hw
  simp only [List.mem_cons, List.not_mem_nil, or_false] at hw
  rcases hw with rfl | rfl | rfl | rfl
  · exact ji_is1_in (p := 1492) (by decide +kernel)
  · exact ji_is1_in (p := 1493) (by decide +kernel)
  · exact ji_is1_in (p := 1494) (by decide +kernel)
  · exact ji_is1_in (p := 84) (by decide +kernel)
theorem jl_w97 : ∀ w ∈ [Cond.methodLink R_law 65 (ji_m 97).1, .instanceMethod (ji_m 97).1, .selects (ji_m 97).1.cls (ji_m 97).1 (ji_m 97).1, .initialized (ji_m 97).1.cls], w ∈ ji_tt := by
  intro w hw
  simp only [List.mem_cons, List.not_mem_nil, or_false] at hw
  rcases hw with rfl | rfl | rfl | rfl
  · exact ji_is1_in (p := 789) (by decide +kernel)
  · exact ji_is1_in (p := 790) (by decide +kernel)
  · exact ji_is1_in (p := 791) (by decide +kernel)
  · exact ji_is1_in (p := 69) (by decide +kernel)
theorem jl_w199 : ∀ w ∈ [Cond.methodLink R_law 68 (ji_m 199).1, .instanceMethod (ji_m 199).1, .selects (ji_m 199).1.cls (ji_m 199).1 (ji_m 199).1, .initialized (ji_m 199).1.cls], w ∈ ji_tt := by
  intro w hw
  simp only [List.mem_cons, List.not_mem_nil, or_false] at hw
  rcases hw with rfl | rfl | rfl | rfl
  · exact ji_is1_in (p := 1496) (by decide +kernel)
  · exact ji_is1_in (p := 1497) (by decide +kernel)
  · exact ji_is1_in (p := 1498) (by decide +kernel)
  · exact ji_is1_in (p := 84) (by decide +kernel)
theorem jl_w98 : ∀ w ∈ [Cond.methodLink R_law 69 (ji_m 98).1, .instanceMethod (ji_m 98).1, .selects (ji_m 98).1.cls (ji_m 98).1 (ji_m 98).1, .initialized (ji_m 98).1.cls], w ∈ ji_tt := by
  intro w hw
  simp only [List.mem_cons, List.not_mem_nil, or_false] at hw
  rcases hw with rfl | rfl | rfl | rfl
  · exact ji_is1_in (p := 793) (by decide +kernel)
  · exact ji_is1_in (p := 794) (by decide +kernel)
  · exact ji_is1_in (p := 795) (by decide +kernel)
  · exact ji_is1_in (p := 69) (by decide +kernel)
theorem jl_w200 : ∀ w ∈ [Cond.methodLink R_law 73 (ji_m 200).1, .instanceMethod (ji_m 200).1, .selects (ji_m 200).1.cls (ji_m 200).1 (ji_m 200).1, .initialized (ji_m 200).1.cls], w ∈ ji_tt := by
  intro w hw
  simp only [List.mem_cons, List.not_mem_nil, or_false] at hw
  rcases hw with rfl | rfl | rfl | rfl
  · exact ji_is1_in (p := 1500) (by decide +kernel)
  · exact ji_is1_in (p := 1501) (by decide +kernel)
  · exact ji_is1_in (p := 1502) (by decide +kernel)
  · exact ji_is1_in (p := 84) (by decide +kernel)
theorem jl_w99 : ∀ w ∈ [Cond.methodLink R_law 74 (ji_m 99).1, .instanceMethod (ji_m 99).1, .selects (ji_m 99).1.cls (ji_m 99).1 (ji_m 99).1, .initialized (ji_m 99).1.cls], w ∈ ji_tt := by
  intro w hw
  simp only [List.mem_cons, List.not_mem_nil, or_false] at hw
  rcases hw with rfl | rfl | rfl | rfl
  · exact ji_is1_in (p := 798) (by decide +kernel)
  · exact ji_is1_in (p := 799) (by decide +kernel)
  · exact ji_is1_in (p := 800) (by decide +kernel)
  · exact ji_is1_in (p := 69) (by decide +kernel)
theorem jl_w201 : ∀ w ∈ [Cond.methodLink R_law 77 (ji_m 201).1, .instanceMethod (ji_m 201).1, .selects (ji_m 201).1.cls (ji_m 201).1 (ji_m 201).1, .initialized (ji_m 201).1.cls], w ∈ ji_tt := by
  intro w hw
  simp only [List.mem_cons, List.not_mem_nil, or_false] at hw
  rcases hw with rfl | rfl | rfl | rfl
  · exact ji_is1_in (p := 1504) (by decide +kernel)
  · exact ji_is1_in (p := 1505) (by decide +kernel)
  · exact ji_is1_in (p := 1506) (by decide +kernel)
  · exact ji_is1_in (p := 84) (by decide +kernel)
theorem jl_w100 : ∀ w ∈ [Cond.methodLink R_law 78 (ji_m 100).1, .instanceMethod (ji_m 100).1, .selects (ji_m 100).1.cls (ji_m 100).1 (ji_m 100).1, .initialized (ji_m 100).1.cls], w ∈ ji_tt := by
  intro w hw
  simp only [List.mem_cons, List.not_mem_nil, or_false] at hw
  rcases hw with rfl | rfl | rfl | rfl
  · exact ji_is1_in (p := 802) (by decide +kernel)
  · exact ji_is1_in (p := 803) (by decide +kernel)
  · exact ji_is1_in (p := 804) (by decide +kernel)
  · exact ji_is1_in (p := 69) (by decide +kernel)
theorem jl_w202 : ∀ w ∈ [Cond.methodLink R_law 81 (ji_m 202).1, .instanceMethod (ji_m 202).1, .selects (ji_m 202).1.cls (ji_m 202).1 (ji_m 202).1, .initialized (ji_m 202).1.cls], w ∈ ji_tt := by
  intro w hw
  simp only [List.mem_cons, List.not_mem_nil, or_false] at hw
  rcases hw with rfl | rfl | rfl | rfl
  · exact ji_is1_in (p := 1508) (by decide +kernel)
  · exact ji_is1_in (p := 1509) (by decide +kernel)
  · exact ji_is1_in (p := 1510) (by decide +kernel)
  · exact ji_is1_in (p := 84) (by decide +kernel)
theorem jl_w111 : ∀ w ∈ [Cond.methodLink R_law 82 (ji_m 111).1, .instanceMethod (ji_m 111).1, .selects (ji_m 111).1.cls (ji_m 111).1 (ji_m 111).1, .initialized (ji_m 111).1.cls], w ∈ ji_tt := by
  intro w hw
  simp only [List.mem_cons, List.not_mem_nil, or_false] at hw
  rcases hw with rfl | rfl | rfl | rfl
  · exact ji_is1_in (p := 861) (by decide +kernel)
  · exact ji_is1_in (p := 862) (by decide +kernel)
  · exact ji_is1_in (p := 863) (by decide +kernel)
  · exact ji_is1_in (p := 69) (by decide +kernel)
theorem jl_w205 : ∀ w ∈ [Cond.methodLink R_law 85 (ji_m 205).1, .instanceMethod (ji_m 205).1, .selects (ji_m 205).1.cls (ji_m 205).1 (ji_m 205).1, .initialized (ji_m 205).1.cls], w ∈ ji_tt := by
  intro w hw
  simp only [List.mem_cons, List.not_mem_nil, or_false] at hw
  rcases hw with rfl | rfl | rfl | rfl
  · exact ji_is1_in (p := 1523) (by decide +kernel)
  · exact ji_is1_in (p := 1524) (by decide +kernel)
  · exact ji_is1_in (p := 1525) (by decide +kernel)
  · exact ji_is1_in (p := 84) (by decide +kernel)
theorem jl_w112 : ∀ w ∈ [Cond.methodLink R_law 86 (ji_m 112).1, .instanceMethod (ji_m 112).1, .selects (ji_m 112).1.cls (ji_m 112).1 (ji_m 112).1, .initialized (ji_m 112).1.cls], w ∈ ji_tt := by
  intro w hw
  simp only [List.mem_cons, List.not_mem_nil, or_false] at hw
  rcases hw with rfl | rfl | rfl | rfl
  · exact ji_is1_in (p := 865) (by decide +kernel)
  · exact ji_is1_in (p := 866) (by decide +kernel)
  · exact ji_is1_in (p := 867) (by decide +kernel)
  · exact ji_is1_in (p := 69) (by decide +kernel)
theorem jl_w206 : ∀ w ∈ [Cond.methodLink R_law 89 (ji_m 206).1, .instanceMethod (ji_m 206).1, .selects (ji_m 206).1.cls (ji_m 206).1 (ji_m 206).1, .initialized (ji_m 206).1.cls], w ∈ ji_tt := by
  intro w hw
  simp only [List.mem_cons, List.not_mem_nil, or_false] at hw
  rcases hw with rfl | rfl | rfl | rfl
  · exact ji_is1_in (p := 1527) (by decide +kernel)
  · exact ji_is1_in (p := 1528) (by decide +kernel)
  · exact ji_is1_in (p := 1529) (by decide +kernel)
  · exact ji_is1_in (p := 84) (by decide +kernel)
theorem jl_w114 : ∀ w ∈ [Cond.methodLink R_law 90 (ji_m 114).1, .instanceMethod (ji_m 114).1, .selects (ji_m 114).1.cls (ji_m 114).1 (ji_m 114).1, .initialized (ji_m 114).1.cls], w ∈ ji_tt := by
  intro w hw
  simp only [List.mem_cons, List.not_mem_nil, or_false] at hw
  rcases hw with rfl | rfl | rfl | rfl
  · exact ji_is1_in (p := 874) (by decide +kernel)
  · exact ji_is1_in (p := 875) (by decide +kernel)
  · exact ji_is1_in (p := 876) (by decide +kernel)
  · exact ji_is1_in (p := 69) (by decide +kernel)
theorem jl_w207 : ∀ w ∈ [Cond.methodLink R_law 93 (ji_m 207).1, .instanceMethod (ji_m 207).1, .selects (ji_m 207).1.cls (ji_m 207).1 (ji_m 207).1, .initialized (ji_m 207).1.cls], w ∈ ji_tt := by
  intro w hw
  simp only [List.mem_cons, List.not_mem_nil, or_false] at hw
  rcases hw with rfl | rfl | rfl | rfl
  · exact ji_is1_in (p := 1531) (by decide +kernel)
  · exact ji_is1_in (p := 1532) (by decide +kernel)
  · exact ji_is1_in (p := 1533) (by decide +kernel)
  · exact ji_is1_in (p := 84) (by decide +kernel)
theorem jl_w115 : ∀ w ∈ [Cond.methodLink R_law 94 (ji_m 115).1, .instanceMethod (ji_m 115).1, .selects (ji_m 115).1.cls (ji_m 115).1 (ji_m 115).1, .initialized (ji_m 115).1.cls], w ∈ ji_tt := by
  intro w hw
  simp only [List.mem_cons, List.not_mem_nil, or_false] at hw
  rcases hw with rfl | rfl | rfl | rfl
  · exact ji_is1_in (p := 878) (by decide +kernel)
  · exact ji_is1_in (p := 879) (by decide +kernel)
  · exact ji_is1_in (p := 880) (by decide +kernel)
  · exact ji_is1_in (p := 69) (by decide +kernel)
theorem jl_w208 : ∀ w ∈ [Cond.methodLink R_law 97 (ji_m 208).1, .instanceMethod (ji_m 208).1, .selects (ji_m 208).1.cls (ji_m 208).1 (ji_m 208).1, .initialized (ji_m 208).1.cls], w ∈ ji_tt := by
  intro w hw
  simp only [List.mem_cons, List.not_mem_nil, or_false] at hw
  rcases hw with rfl | rfl | rfl | rfl
  · exact ji_is1_in (p := 1535) (by decide +kernel)
  · exact ji_is1_in (p := 1536) (by decide +kernel)
  · exact ji_is1_in (p := 1537) (by decide +kernel)
  · exact ji_is1_in (p := 84) (by decide +kernel)
theorem jl_w116 : ∀ w ∈ [Cond.methodLink R_law 98 (ji_m 116).1, .instanceMethod (ji_m 116).1, .selects (ji_m 116).1.cls (ji_m 116).1 (ji_m 116).1, .initialized (ji_m 116).1.cls], w ∈ ji_tt := by
  intro w hw
  simp only [List.mem_cons, List.not_mem_nil, or_false] at hw
  rcases hw with rfl | rfl | rfl | rfl
  · exact ji_is1_in (p := 882) (by decide +kernel)
  · exact ji_is1_in (p := 883) (by decide +kernel)
  · exact ji_is1_in (p := 884) (by decide +kernel)
  · exact ji_is1_in (p := 69) (by decide +kernel)
theorem jl_w209 : ∀ w ∈ [Cond.methodLink R_law 101 (ji_m 209).1, .instanceMethod (ji_m 209).1, .selects (ji_m 209).1.cls (ji_m 209).1 (ji_m 209).1, .initialized (ji_m 209).1.cls], w ∈ ji_tt := by
  intro w hw
  simp only [List.mem_cons, List.not_mem_nil, or_false] at hw
  rcases hw with rfl | rfl | rfl | rfl
  · exact ji_is1_in (p := 1539) (by decide +kernel)
  · exact ji_is1_in (p := 1540) (by decide +kernel)
  · exact ji_is1_in (p := 1541) (by decide +kernel)
  · exact ji_is1_in (p := 84) (by decide +kernel)
theorem jl_w118 : ∀ w ∈ [Cond.methodLink R_law 102 (ji_m 118).1, .instanceMethod (ji_m 118).1, .selects (ji_m 118).1.cls (ji_m 118).1 (ji_m 118).1, .initialized (ji_m 118).1.cls], w ∈ ji_tt := by
  intro w hw
  simp only [List.mem_cons, List.not_mem_nil, or_false] at hw
  rcases hw with rfl | rfl | rfl | rfl
  · exact ji_is1_in (p := 889) (by decide +kernel)
  · exact ji_is1_in (p := 890) (by decide +kernel)
  · exact ji_is1_in (p := 891) (by decide +kernel)
  · exact ji_is1_in (p := 69) (by decide +kernel)
theorem jl_w211 : ∀ w ∈ [Cond.methodLink R_law 105 (ji_m 211).1, .instanceMethod (ji_m 211).1, .selects (ji_m 211).1.cls (ji_m 211).1 (ji_m 211).1, .initialized (ji_m 211).1.cls], w ∈ ji_tt := by
  intro w hw
  simp only [List.mem_cons, List.not_mem_nil, or_false] at hw
  rcases hw with rfl | rfl | rfl | rfl
  · exact ji_is1_in (p := 1547) (by decide +kernel)
  · exact ji_is1_in (p := 1548) (by decide +kernel)
  · exact ji_is1_in (p := 1549) (by decide +kernel)
  · exact ji_is1_in (p := 84) (by decide +kernel)
theorem jl_w127 : ∀ w ∈ [Cond.methodLink R_law 106 (ji_m 127).1, .instanceMethod (ji_m 127).1, .selects (ji_m 127).1.cls (ji_m 127).1 (ji_m 127).1, .initialized (ji_m 127).1.cls], w ∈ ji_tt := by
  intro w hw
  simp only [List.mem_cons, List.not_mem_nil, or_false] at hw
  rcases hw with rfl | rfl | rfl | rfl
  · exact ji_is1_in (p := 929) (by decide +kernel)
  · exact ji_is1_in (p := 930) (by decide +kernel)
  · exact ji_is1_in (p := 931) (by decide +kernel)
  · exact ji_is1_in (p := 69) (by decide +kernel)
theorem jl_w213 : ∀ w ∈ [Cond.methodLink R_law 109 (ji_m 213).1, .instanceMethod (ji_m 213).1, .selects (ji_m 213).1.cls (ji_m 213).1 (ji_m 213).1, .initialized (ji_m 213).1.cls], w ∈ ji_tt := by
  intro w hw
  simp only [List.mem_cons, List.not_mem_nil, or_false] at hw
  rcases hw with rfl | rfl | rfl | rfl
  · exact ji_is1_in (p := 1555) (by decide +kernel)
  · exact ji_is1_in (p := 1556) (by decide +kernel)
  · exact ji_is1_in (p := 1557) (by decide +kernel)
  · exact ji_is1_in (p := 84) (by decide +kernel)
theorem jl_w128 : ∀ w ∈ [Cond.methodLink R_law 110 (ji_m 128).1, .instanceMethod (ji_m 128).1, .selects (ji_m 128).1.cls (ji_m 128).1 (ji_m 128).1, .initialized (ji_m 128).1.cls], w ∈ ji_tt := by
  intro w hw
  simp only [List.mem_cons, List.not_mem_nil, or_false] at hw
  rcases hw with rfl | rfl | rfl | rfl
  · exact ji_is1_in (p := 933) (by decide +kernel)
  · exact ji_is1_in (p := 934) (by decide +kernel)
  · exact ji_is1_in (p := 935) (by decide +kernel)
  · exact ji_is1_in (p := 69) (by decide +kernel)
theorem jl_w214 : ∀ w ∈ [Cond.methodLink R_law 113 (ji_m 214).1, .instanceMethod (ji_m 214).1, .selects (ji_m 214).1.cls (ji_m 214).1 (ji_m 214).1, .initialized (ji_m 214).1.cls], w ∈ ji_tt := by
  intro w hw
  simp only [List.mem_cons, List.not_mem_nil, or_false] at hw
  rcases hw with rfl | rfl | rfl | rfl
  · exact ji_is1_in (p := 1559) (by decide +kernel)
  · exact ji_is1_in (p := 1560) (by decide +kernel)
  · exact ji_is1_in (p := 1561) (by decide +kernel)
  · exact ji_is1_in (p := 84) (by decide +kernel)
theorem jl_w130 : ∀ w ∈ [Cond.methodLink R_law 114 (ji_m 130).1, .instanceMethod (ji_m 130).1, .selects (ji_m 130).1.cls (ji_m 130).1 (ji_m 130).1, .initialized (ji_m 130).1.cls], w ∈ ji_tt := by
  intro w hw
  simp only [List.mem_cons, List.not_mem_nil, or_false] at hw
  rcases hw with rfl | rfl | rfl | rfl
  · exact ji_is1_in (p := 942) (by decide +kernel)
  · exact ji_is1_in (p := 943) (by decide +kernel)
  · exact ji_is1_in (p := 944) (by decide +kernel)
  · exact ji_is1_in (p := 69) (by decide +kernel)
theorem jl_w215 : ∀ w ∈ [Cond.methodLink R_law 117 (ji_m 215).1, .instanceMethod (ji_m 215).1, .selects (ji_m 215).1.cls (ji_m 215).1 (ji_m 215).1, .initialized (ji_m 215).1.cls], w ∈ ji_tt := by
  intro w hw
  simp only [List.mem_cons, List.not_mem_nil, or_false] at hw
  rcases hw with rfl | rfl | rfl | rfl
  · exact ji_is1_in (p := 1563) (by decide +kernel)
  · exact ji_is1_in (p := 1564) (by decide +kernel)
  · exact ji_is1_in (p := 1565) (by decide +kernel)
  · exact ji_is1_in (p := 84) (by decide +kernel)
theorem jl_w131 : ∀ w ∈ [Cond.methodLink R_law 118 (ji_m 131).1, .instanceMethod (ji_m 131).1, .selects (ji_m 131).1.cls (ji_m 131).1 (ji_m 131).1, .initialized (ji_m 131).1.cls], w ∈ ji_tt := by
  intro w hw
  simp only [List.mem_cons, List.not_mem_nil, or_false] at hw
  rcases hw with rfl | rfl | rfl | rfl
  · exact ji_is1_in (p := 946) (by decide +kernel)
  · exact ji_is1_in (p := 947) (by decide +kernel)
  · exact ji_is1_in (p := 948) (by decide +kernel)
  · exact ji_is1_in (p := 69) (by decide +kernel)
theorem jl_w216 : ∀ w ∈ [Cond.methodLink R_law 121 (ji_m 216).1, .instanceMethod (ji_m 216).1, .selects (ji_m 216).1.cls (ji_m 216).1 (ji_m 216).1, .initialized (ji_m 216).1.cls], w ∈ ji_tt := by
  intro w hw
  simp only [List.mem_cons, List.not_mem_nil, or_false] at hw
  rcases hw with rfl | rfl | rfl | rfl
  · exact ji_is1_in (p := 1567) (by decide +kernel)
  · exact ji_is1_in (p := 1568) (by decide +kernel)
  · exact ji_is1_in (p := 1569) (by decide +kernel)
  · exact ji_is1_in (p := 84) (by decide +kernel)
theorem jl_w132 : ∀ w ∈ [Cond.methodLink R_law 122 (ji_m 132).1, .instanceMethod (ji_m 132).1, .selects (ji_m 132).1.cls (ji_m 132).1 (ji_m 132).1, .initialized (ji_m 132).1.cls], w ∈ ji_tt := by
  intro w hw
  simp only [List.mem_cons, List.not_mem_nil, or_false] at hw
  rcases hw with rfl | rfl | rfl | rfl
  · exact ji_is1_in (p := 950) (by decide +kernel)
  · exact ji_is1_in (p := 951) (by decide +kernel)
  · exact ji_is1_in (p := 952) (by decide +kernel)
  · exact ji_is1_in (p := 69) (by decide +kernel)
theorem jl_w217 : ∀ w ∈ [Cond.methodLink R_law 125 (ji_m 217).1, .instanceMethod (ji_m 217).1, .selects (ji_m 217).1.cls (ji_m 217).1 (ji_m 217).1, .initialized (ji_m 217).1.cls], w ∈ ji_tt := by
  intro w hw
  simp only [List.mem_cons, List.not_mem_nil, or_false] at hw
  rcases hw with rfl | rfl | rfl | rfl
  · exact ji_is1_in (p := 1571) (by decide +kernel)
  · exact ji_is1_in (p := 1572) (by decide +kernel)
  · exact ji_is1_in (p := 1573) (by decide +kernel)
  · exact ji_is1_in (p := 84) (by decide +kernel)
theorem jl_w134 : ∀ w ∈ [Cond.methodLink R_law 126 (ji_m 134).1, .instanceMethod (ji_m 134).1, .selects (ji_m 134).1.cls (ji_m 134).1 (ji_m 134).1, .initialized (ji_m 134).1.cls], w ∈ ji_tt := by
  intro w hw
  simp only [List.mem_cons, List.not_mem_nil, or_false] at hw
  rcases hw with rfl | rfl | rfl | rfl
  · exact ji_is1_in (p := 958) (by decide +kernel)
  · exact ji_is1_in (p := 959) (by decide +kernel)
  · exact ji_is1_in (p := 960) (by decide +kernel)
  · exact ji_is1_in (p := 69) (by decide +kernel)
theorem jl_w218 : ∀ w ∈ [Cond.methodLink R_law 129 (ji_m 218).1, .instanceMethod (ji_m 218).1, .selects (ji_m 218).1.cls (ji_m 218).1 (ji_m 218).1, .initialized (ji_m 218).1.cls], w ∈ ji_tt := by
  intro w hw
  simp only [List.mem_cons, List.not_mem_nil, or_false] at hw
  rcases hw with rfl | rfl | rfl | rfl
  · exact ji_is1_in (p := 1575) (by decide +kernel)
  · exact ji_is1_in (p := 1576) (by decide +kernel)
  · exact ji_is1_in (p := 1577) (by decide +kernel)
  · exact ji_is1_in (p := 84) (by decide +kernel)
theorem jl_w135 : ∀ w ∈ [Cond.methodLink R_law 130 (ji_m 135).1, .instanceMethod (ji_m 135).1, .selects (ji_m 135).1.cls (ji_m 135).1 (ji_m 135).1, .initialized (ji_m 135).1.cls], w ∈ ji_tt := by
  intro w hw
  simp only [List.mem_cons, List.not_mem_nil, or_false] at hw
  rcases hw with rfl | rfl | rfl | rfl
  · exact ji_is1_in (p := 962) (by decide +kernel)
  · exact ji_is1_in (p := 963) (by decide +kernel)
  · exact ji_is1_in (p := 964) (by decide +kernel)
  · exact ji_is1_in (p := 69) (by decide +kernel)
theorem jl_w219 : ∀ w ∈ [Cond.methodLink R_law 133 (ji_m 219).1, .instanceMethod (ji_m 219).1, .selects (ji_m 219).1.cls (ji_m 219).1 (ji_m 219).1, .initialized (ji_m 219).1.cls], w ∈ ji_tt := by
  intro w hw
  simp only [List.mem_cons, List.not_mem_nil, or_false] at hw
  rcases hw with rfl | rfl | rfl | rfl
  · exact ji_is1_in (p := 1579) (by decide +kernel)
  · exact ji_is1_in (p := 1580) (by decide +kernel)
  · exact ji_is1_in (p := 1581) (by decide +kernel)
  · exact ji_is1_in (p := 84) (by decide +kernel)
theorem jl_w141 : ∀ w ∈ [Cond.methodLink R_law 134 (ji_m 141).1, .instanceMethod (ji_m 141).1, .selects (ji_m 141).1.cls (ji_m 141).1 (ji_m 141).1, .initialized (ji_m 141).1.cls], w ∈ ji_tt := by
  intro w hw
  simp only [List.mem_cons, List.not_mem_nil, or_false] at hw
  rcases hw with rfl | rfl | rfl | rfl
  · exact ji_is1_in (p := 990) (by decide +kernel)
  · exact ji_is1_in (p := 991) (by decide +kernel)
  · exact ji_is1_in (p := 992) (by decide +kernel)
  · exact ji_is1_in (p := 69) (by decide +kernel)
theorem jl_w221 : ∀ w ∈ [Cond.methodLink R_law 137 (ji_m 221).1, .instanceMethod (ji_m 221).1, .selects (ji_m 221).1.cls (ji_m 221).1 (ji_m 221).1, .initialized (ji_m 221).1.cls], w ∈ ji_tt := by
  intro w hw
  simp only [List.mem_cons, List.not_mem_nil, or_false] at hw
  rcases hw with rfl | rfl | rfl | rfl
  · exact ji_is1_in (p := 1587) (by decide +kernel)
  · exact ji_is1_in (p := 1588) (by decide +kernel)
  · exact ji_is1_in (p := 1589) (by decide +kernel)
  · exact ji_is1_in (p := 84) (by decide +kernel)
theorem jl_w142 : ∀ w ∈ [Cond.methodLink R_law 138 (ji_m 142).1, .instanceMethod (ji_m 142).1, .selects (ji_m 142).1.cls (ji_m 142).1 (ji_m 142).1, .initialized (ji_m 142).1.cls], w ∈ ji_tt := by
  intro w hw
  simp only [List.mem_cons, List.not_mem_nil, or_false] at hw
  rcases hw with rfl | rfl | rfl | rfl
  · exact ji_is1_in (p := 995) (by decide +kernel)
  · exact ji_is1_in (p := 996) (by decide +kernel)
  · exact ji_is1_in (p := 997) (by decide +kernel)
  · exact ji_is1_in (p := 69) (by decide +kernel)
theorem jl_w222 : ∀ w ∈ [Cond.methodLink R_law 141 (ji_m 222).1, .instanceMethod (ji_m 222).1, .selects (ji_m 222).1.cls (ji_m 222).1 (ji_m 222).1, .initialized (ji_m 222).1.cls], w ∈ ji_tt := by
  intro w hw
  simp only [List.mem_cons, List.not_mem_nil, or_false] at hw
  rcases hw with rfl | rfl | rfl | rfl
  · exact ji_is1_in (p := 1591) (by decide +kernel)
  · exact ji_is1_in (p := 1592) (by decide +kernel)
  · exact ji_is1_in (p := 1593) (by decide +kernel)
  · exact ji_is1_in (p := 84) (by decide +kernel)
theorem jl_w145 : ∀ w ∈ [Cond.methodLink R_law 142 (ji_m 145).1, .instanceMethod (ji_m 145).1, .selects (ji_m 145).1.cls (ji_m 145).1 (ji_m 145).1, .initialized (ji_m 145).1.cls], w ∈ ji_tt := by
  intro w hw
  simp only [List.mem_cons, List.not_mem_nil, or_false] at hw
  rcases hw with rfl | rfl | rfl | rfl
  · exact ji_is1_in (p := 1010) (by decide +kernel)
  · exact ji_is1_in (p := 1011) (by decide +kernel)
  · exact ji_is1_in (p := 1012) (by decide +kernel)
  · exact ji_is1_in (p := 69) (by decide +kernel)
theorem jl_w224 : ∀ w ∈ [Cond.methodLink R_law 145 (ji_m 224).1, .instanceMethod (ji_m 224).1, .selects (ji_m 224).1.cls (ji_m 224).1 (ji_m 224).1, .initialized (ji_m 224).1.cls], w ∈ ji_tt := by
  intro w hw
  simp only [List.mem_cons, List.not_mem_nil, or_false] at hw
  rcases hw with rfl | rfl | rfl | rfl
  · exact ji_is1_in (p := 1599) (by decide +kernel)
  · exact ji_is1_in (p := 1600) (by decide +kernel)
  · exact ji_is1_in (p := 1601) (by decide +kernel)
  · exact ji_is1_in (p := 84) (by decide +kernel)
theorem jl_w150 : ∀ w ∈ [Cond.methodLink R_law 146 (ji_m 150).1, .instanceMethod (ji_m 150).1, .selects (ji_m 150).1.cls (ji_m 150).1 (ji_m 150).1, .initialized (ji_m 150).1.cls], w ∈ ji_tt := by
  intro w hw
  simp only [List.mem_cons, List.not_mem_nil, or_false] at hw
  rcases hw with rfl | rfl | rfl | rfl
  · exact ji_is1_in (p := 1031) (by decide +kernel)
  · exact ji_is1_in (p := 1032) (by decide +kernel)
  · exact ji_is1_in (p := 1033) (by decide +kernel)
  · exact ji_is1_in (p := 69) (by decide +kernel)
theorem jl_w225 : ∀ w ∈ [Cond.methodLink R_law 150 (ji_m 225).1, .instanceMethod (ji_m 225).1, .selects (ji_m 225).1.cls (ji_m 225).1 (ji_m 225).1, .initialized (ji_m 225).1.cls], w ∈ ji_tt := by
  intro w hw
  simp only [List.mem_cons, List.not_mem_nil, or_false] at hw
  rcases hw with rfl | rfl | rfl | rfl
  · exact ji_is1_in (p := 1603) (by decide +kernel)
  · exact ji_is1_in (p := 1604) (by decide +kernel)
  · exact ji_is1_in (p := 1605) (by decide +kernel)
  · exact ji_is1_in (p := 84) (by decide +kernel)
theorem jl_w153 : ∀ w ∈ [Cond.methodLink R_law 151 (ji_m 153).1, .instanceMethod (ji_m 153).1, .selects (ji_m 153).1.cls (ji_m 153).1 (ji_m 153).1, .initialized (ji_m 153).1.cls], w ∈ ji_tt := by
  intro w hw
  simp only [List.mem_cons, List.not_mem_nil, or_false] at hw
  rcases hw with rfl | rfl | rfl | rfl
  · exact ji_is1_in (p := 1046) (by decide +kernel)
  · exact ji_is1_in (p := 1047) (by decide +kernel)
  · exact ji_is1_in (p := 1048) (by decide +kernel)
  · exact ji_is1_in (p := 69) (by decide +kernel)
theorem jl_w226 : ∀ w ∈ [Cond.methodLink R_law 155 (ji_m 226).1, .instanceMethod (ji_m 226).1, .selects (ji_m 226).1.cls (ji_m 226).1 (ji_m 226).1, .initialized (ji_m 226).1.cls], w ∈ ji_tt := by
  intro w hw
  simp only [List.mem_cons, List.not_mem_nil, or_false] at hw
  rcases hw with rfl | rfl | rfl | rfl
  · exact ji_is1_in (p := 1607) (by decide +kernel)
  · exact ji_is1_in (p := 1608) (by decide +kernel)
  · exact ji_is1_in (p := 1609) (by decide +kernel)
  · exact ji_is1_in (p := 84) (by decide +kernel)
theorem jl_w155 : ∀ w ∈ [Cond.methodLink R_law 156 (ji_m 155).1, .instanceMethod (ji_m 155).1, .selects (ji_m 155).1.cls (ji_m 155).1 (ji_m 155).1, .initialized (ji_m 155).1.cls], w ∈ ji_tt := by
  intro w hw
  simp only [List.mem_cons, List.not_mem_nil, or_false] at hw
  rcases hw with rfl | rfl | rfl | rfl
  · exact ji_is1_in (p := 1055) (by decide +kernel)
  · exact ji_is1_in (p := 1056) (by decide +kernel)
  · exact ji_is1_in (p := 1057) (by decide +kernel)
  · exact ji_is1_in (p := 69) (by decide +kernel)
theorem jl_w227 : ∀ w ∈ [Cond.methodLink R_law 159 (ji_m 227).1, .instanceMethod (ji_m 227).1, .selects (ji_m 227).1.cls (ji_m 227).1 (ji_m 227).1, .initialized (ji_m 227).1.cls], w ∈ ji_tt := by
  intro w hw
  simp only [List.mem_cons, List.not_mem_nil, or_false] at hw
  rcases hw with rfl | rfl | rfl | rfl
  · exact ji_is1_in (p := 1612) (by decide +kernel)
  · exact ji_is1_in (p := 1613) (by decide +kernel)
  · exact ji_is1_in (p := 1614) (by decide +kernel)
  · exact ji_is1_in (p := 84) (by decide +kernel)
