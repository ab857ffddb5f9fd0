/-! ===== the law's cases 12 .. ===== -/
section JLC12
variable {p : Program} {l : Launch} {e : Env} {s : State} {m : MethodId} {args : Array Value} {below : List Frame} {meth : Method} {c : Code} {Q : State → Prop}
variable {x : Nat → Value} {D : va_G} {G : ji_G} {b L : Nat} {xs : Nat → Int32} {X N : ji_M} {H : Heap} {locs : List Loc} {cells slots bX bN : Nat} {ls : Array Slot} {x3 : Int32}
set_option maxRecDepth 100000 in
theorem jl_case_12 (C : jl_Cx p s m args c b L xs x D G) (R : ji_Rel jx_P X N) (I : jl_I s D G bX bN X N H locs) (hl : lv_has ls 4 [(3, .int x3), (2, .ref bN), (1, .ref bX), (0, .ref b)]) (hin : ∀ j : Nat, j ≤ 5 → vp_in (x3 + Int32.ofInt j) L) (hcs : cells ≤ 600000) (hss : slots ≤ 7302250)
    (kk : ∀ (X' N' : ji_M) (H1 : Heap) (locs1 : List Loc), ji_Rel jx_P X' N' → jl_I s D G bX bN X' N' H1 locs1 → W p l e room_1 s m args below meth c H1 locs1 cells slots Q (F0 m 1359 ls [])) : W p l e room_1 s m args below meth c H locs cells slots Q (F0 m 543 ls []) := by
  obtain ⟨hx, hb, -, hown, hts, -⟩ := id C
  obtain ⟨v, X', N', n1, n2, e1, e2, R'⟩ := jl_two (call_12 (x := jl_z xs x3 1) (y := jl_z xs x3 2) (z := jl_z xs x3 3) R)
  obtain ⟨z, rfl⟩ := jl_int (by decide +kernel) e1
  refine lv_aload_n hx hb jl_d_543 rfl (lv_at hl 2 rfl) ?_
  refine jl_arg C I hl jl_d_544 jl_d_545 jl_d_546 jl_d_547 jl_d_548 (hin 1 (by decide)) ?_
  refine jl_arg C I hl jl_d_549 jl_d_550 jl_d_551 jl_d_552 jl_d_553 (hin 2 (by decide)) ?_
  refine jl_arg C I hl jl_d_554 jl_d_555 jl_d_556 jl_d_557 jl_d_558 (hin 3 (by decide)) ?_
  refine jl_cX (As := [.int (jl_z xs x3 1), .int (jl_z xs x3 2), .int (jl_z xs x3 3)]) (rest := []) C I hl.1 e1 (xk_0 R.xf) (by decide +kernel) jl_w98 (by show (parseMethodDescriptor (ji_m 98).1.desc).map (fun d => d.parameters.length) = some 3; decide +kernel) rfl (Nat.le_of_ble_eq_true rfl) jl_d_559 hcs hss (fun H1 locs1 I1 => ?_)
  refine lv_aload_n hx hb jl_d_562 rfl (lv_at hl 1 rfl) ?_
  refine jl_arg C I1 hl jl_d_563 jl_d_564 jl_d_565 jl_d_566 jl_d_567 (hin 1 (by decide)) ?_
  refine jl_arg C I1 hl jl_d_568 jl_d_569 jl_d_570 jl_d_571 jl_d_572 (hin 2 (by decide)) ?_
  refine jl_arg C I1 hl jl_d_573 jl_d_574 jl_d_575 jl_d_576 jl_d_577 (hin 3 (by decide)) ?_
  refine jl_cN (As := [.int (jl_z xs x3 1), .int (jl_z xs x3 2), .int (jl_z xs x3 3)]) (rest := [.int z]) C I1 hl.1 e2 (mk_0 R.mf) (by decide +kernel) jl_w200 (by show (parseMethodDescriptor (ji_m 200).1.desc).map (fun d => d.parameters.length) = some 3; decide +kernel) rfl (Nat.le_of_ble_eq_true rfl) jl_d_578 hcs hss (fun H2 locs2 I2 => ?_)
  exact lv_icmp_eq (x := z) (y := z) hx hb jl_d_581 (by decide) (fun _ => kk X' N' _ _ R' I2) (fun h => absurd rfl h)
set_option maxRecDepth 100000 in
theorem jl_case_13 (C : jl_Cx p s m args c b L xs x D G) (R : ji_Rel jx_P X N) (I : jl_I s D G bX bN X N H locs) (hl : lv_has ls 4 [(3, .int x3), (2, .ref bN), (1, .ref bX), (0, .ref b)]) (hin : ∀ j : Nat, j ≤ 5 → vp_in (x3 + Int32.ofInt j) L) (hcs : cells ≤ 600000) (hss : slots ≤ 7302250)
    (kk : ∀ (X' N' : ji_M) (H1 : Heap) (locs1 : List Loc), ji_Rel jx_P X' N' → jl_I s D G bX bN X' N' H1 locs1 → W p l e room_1 s m args below meth c H1 locs1 cells slots Q (F0 m 1359 ls [])) : W p l e room_1 s m args below meth c H locs cells slots Q (F0 m 586 ls []) := by
  obtain ⟨hx, hb, -, hown, hts, -⟩ := id C
  obtain ⟨v, X', N', n1, n2, e1, e2, R'⟩ := jl_two (call_13 (x := jl_z xs x3 1) (y := jl_z xs x3 2) (z := jl_z xs x3 3) R)
  obtain ⟨z, rfl⟩ := jl_int (by decide +kernel) e1
  refine lv_aload_n hx hb jl_d_586 rfl (lv_at hl 2 rfl) ?_
  refine jl_arg C I hl jl_d_587 jl_d_588 jl_d_589 jl_d_590 jl_d_591 (hin 1 (by decide)) ?_
  refine jl_arg C I hl jl_d_592 jl_d_593 jl_d_594 jl_d_595 jl_d_596 (hin 2 (by decide)) ?_
  refine jl_arg C I hl jl_d_597 jl_d_598 jl_d_599 jl_d_600 jl_d_601 (hin 3 (by decide)) ?_
  refine jl_cX (As := [.int (jl_z xs x3 1), .int (jl_z xs x3 2), .int (jl_z xs x3 3)]) (rest := []) C I hl.1 e1 (xk_0 R.xf) (by decide +kernel) jl_w99 (by show (parseMethodDescriptor (ji_m 99).1.desc).map (fun d => d.parameters.length) = some 3; decide +kernel) rfl (Nat.le_of_ble_eq_true rfl) jl_d_602 hcs hss (fun H1 locs1 I1 => ?_)
  refine lv_aload_n hx hb jl_d_605 rfl (lv_at hl 1 rfl) ?_
  refine jl_arg C I1 hl jl_d_606 jl_d_607 jl_d_608 jl_d_609 jl_d_610 (hin 1 (by decide)) ?_
  refine jl_arg C I1 hl jl_d_611 jl_d_612 jl_d_613 jl_d_614 jl_d_615 (hin 2 (by decide)) ?_
  refine jl_arg C I1 hl jl_d_616 jl_d_617 jl_d_618 jl_d_619 jl_d_620 (hin 3 (by decide)) ?_
  refine jl_cN (As := [.int (jl_z xs x3 1), .int (jl_z xs x3 2), .int (jl_z xs x3 3)]) (rest := [.int z]) C I1 hl.1 e2 (mk_0 R.mf) (by decide +kernel) jl_w201 (by show (parseMethodDescriptor (ji_m 201).1.desc).map (fun d => d.parameters.length) = some 3; decide +kernel) rfl (Nat.le_of_ble_eq_true rfl) jl_d_621 hcs hss (fun H2 locs2 I2 => ?_)
  exact lv_icmp_eq (x := z) (y := z) hx hb jl_d_624 (by decide) (fun _ => kk X' N' _ _ R' I2) (fun h => absurd rfl h)
set_option maxRecDepth 100000 in
theorem jl_case_14 (C : jl_Cx p s m args c b L xs x D G) (R : ji_Rel jx_P X N) (I : jl_I s D G bX bN X N H locs) (hl : lv_has ls 4 [(3, .int x3), (2, .ref bN), (1, .ref bX), (0, .ref b)]) (hin : ∀ j : Nat, j ≤ 5 → vp_in (x3 + Int32.ofInt j) L) (hcs : cells ≤ 600000) (hss : slots ≤ 7302250)
    (kk : ∀ (X' N' : ji_M) (H1 : Heap) (locs1 : List Loc), ji_Rel jx_P X' N' → jl_I s D G bX bN X' N' H1 locs1 → W p l e room_1 s m args below meth c H1 locs1 cells slots Q (F0 m 1359 ls [])) : W p l e room_1 s m args below meth c H locs cells slots Q (F0 m 629 ls []) := by
  obtain ⟨hx, hb, -, hown, hts, -⟩ := id C
  obtain ⟨v, X', N', n1, n2, e1, e2, R'⟩ := jl_two (call_14 (x := jl_z xs x3 1) (y := jl_z xs x3 2) (z := jl_z xs x3 3) R)
  obtain ⟨z, rfl⟩ := jl_int (by decide +kernel) e1
  refine lv_aload_n hx hb jl_d_629 rfl (lv_at hl 2 rfl) ?_
  refine jl_arg C I hl jl_d_630 jl_d_631 jl_d_632 jl_d_633 jl_d_634 (hin 1 (by decide)) ?_
  refine jl_arg C I hl jl_d_635 jl_d_636 jl_d_637 jl_d_638 jl_d_639 (hin 2 (by decide)) ?_
  refine jl_arg C I hl jl_d_640 jl_d_641 jl_d_642 jl_d_643 jl_d_644 (hin 3 (by decide)) ?_
  refine jl_cX (As := [.int (jl_z xs x3 1), .int (jl_z xs x3 2), .int (jl_z xs x3 3)]) (rest := []) C I hl.1 e1 (xk_0 R.xf) (by decide +kernel) jl_w100 (by show (parseMethodDescriptor (ji_m 100).1.desc).map (fun d => d.parameters.length) = some 3; decide +kernel) rfl (Nat.le_of_ble_eq_true rfl) jl_d_645 hcs hss (fun H1 locs1 I1 => ?_)
  refine lv_aload_n hx hb jl_d_648 rfl (lv_at hl 1 rfl) ?_
  refine jl_arg C I1 hl jl_d_649 jl_d_650 jl_d_651 jl_d_652 jl_d_653 (hin 1 (by decide)) ?_
  refine jl_arg C I1 hl jl_d_654 jl_d_655 jl_d_656 jl_d_657 jl_d_658 (hin 2 (by decide)) ?_
  refine jl_arg C I1 hl jl_d_659 jl_d_660 jl_d_661 jl_d_662 jl_d_663 (hin 3 (by decide)) ?_
  refine jl_cN (As := [.int (jl_z xs x3 1), .int (jl_z xs x3 2), .int (jl_z xs x3 3)]) (rest := [.int z]) C I1 hl.1 e2 (mk_0 R.mf) (by decide +kernel) jl_w202 (by show (parseMethodDescriptor (ji_m 202).1.desc).map (fun d => d.parameters.length) = some 3; decide +kernel) rfl (Nat.le_of_ble_eq_true rfl) jl_d_664 hcs hss (fun H2 locs2 I2 => ?_)
  exact lv_icmp_eq (x := z) (y := z) hx hb jl_d_667 (by decide) (fun _ => kk X' N' _ _ R' I2) (fun h => absurd rfl h)
set_option maxRecDepth 100000 in
theorem jl_case_15 (C : jl_Cx p s m args c b L xs x D G) (R : ji_Rel jx_P X N) (I : jl_I s D G bX bN X N H locs) (hl : lv_has ls 4 [(3, .int x3), (2, .ref bN), (1, .ref bX), (0, .ref b)]) (hin : ∀ j : Nat, j ≤ 5 → vp_in (x3 + Int32.ofInt j) L) (hcs : cells ≤ 600000) (hss : slots ≤ 7302250)
    (kk : ∀ (X' N' : ji_M) (H1 : Heap) (locs1 : List Loc), ji_Rel jx_P X' N' → jl_I s D G bX bN X' N' H1 locs1 → W p l e room_1 s m args below meth c H1 locs1 cells slots Q (F0 m 1359 ls [])) : W p l e room_1 s m args below meth c H locs cells slots Q (F0 m 672 ls []) := by
  obtain ⟨hx, hb, -, hown, hts, -⟩ := id C
  obtain ⟨v, X', N', n1, n2, e1, e2, R'⟩ := jl_two (call_15 (x := jl_z xs x3 1) (y := jl_z xs x3 2) R)
  obtain ⟨z, rfl⟩ := jl_int (by decide +kernel) e1
  refine lv_aload_n hx hb jl_d_672 rfl (lv_at hl 2 rfl) ?_
  refine jl_arg C I hl jl_d_673 jl_d_674 jl_d_675 jl_d_676 jl_d_677 (hin 1 (by decide)) ?_
  refine jl_arg C I hl jl_d_678 jl_d_679 jl_d_680 jl_d_681 jl_d_682 (hin 2 (by decide)) ?_
  refine jl_cX (As := [.int (jl_z xs x3 1), .int (jl_z xs x3 2)]) (rest := []) C I hl.1 e1 (xk_0 R.xf) (by decide +kernel) jl_w111 (by show (parseMethodDescriptor (ji_m 111).1.desc).map (fun d => d.parameters.length) = some 2; decide +kernel) rfl (Nat.le_of_ble_eq_true rfl) jl_d_683 hcs hss (fun H1 locs1 I1 => ?_)
  refine lv_aload_n hx hb jl_d_686 rfl (lv_at hl 1 rfl) ?_
  refine jl_arg C I1 hl jl_d_687 jl_d_688 jl_d_689 jl_d_690 jl_d_691 (hin 1 (by decide)) ?_
  refine jl_arg C I1 hl jl_d_692 jl_d_693 jl_d_694 jl_d_695 jl_d_696 (hin 2 (by decide)) ?_
  refine jl_cN (As := [.int (jl_z xs x3 1), .int (jl_z xs x3 2)]) (rest := [.int z]) C I1 hl.1 e2 (mk_0 R.mf) (by decide +kernel) jl_w205 (by show (parseMethodDescriptor (ji_m 205).1.desc).map (fun d => d.parameters.length) = some 2; decide +kernel) rfl (Nat.le_of_ble_eq_true rfl) jl_d_697 hcs hss (fun H2 locs2 I2 => ?_)
  exact lv_icmp_eq (x := z) (y := z) hx hb jl_d_700 (by decide) (fun _ => kk X' N' _ _ R' I2) (fun h => absurd rfl h)
set_option maxRecDepth 100000 in
theorem jl_case_16 (C : jl_Cx p s m args c b L xs x D G) (R : ji_Rel jx_P X N) (I : jl_I s D G bX bN X N H locs) (hl : lv_has ls 4 [(3, .int x3), (2, .ref bN), (1, .ref bX), (0, .ref b)]) (hin : ∀ j : Nat, j ≤ 5 → vp_in (x3 + Int32.ofInt j) L) (hcs : cells ≤ 600000) (hss : slots ≤ 7302250)
    (kk : ∀ (X' N' : ji_M) (H1 : Heap) (locs1 : List Loc), ji_Rel jx_P X' N' → jl_I s D G bX bN X' N' H1 locs1 → W p l e room_1 s m args below meth c H1 locs1 cells slots Q (F0 m 1359 ls [])) : W p l e room_1 s m args below meth c H locs cells slots Q (F0 m 705 ls []) := by
  obtain ⟨hx, hb, -, hown, hts, -⟩ := id C
  obtain ⟨v, X', N', n1, n2, e1, e2, R'⟩ := jl_two (call_16 (x := jl_z xs x3 1) R)
  obtain ⟨z, rfl⟩ := jl_int (by decide +kernel) e1
  refine lv_aload_n hx hb jl_d_705 rfl (lv_at hl 2 rfl) ?_
  refine jl_arg C I hl jl_d_706 jl_d_707 jl_d_708 jl_d_709 jl_d_710 (hin 1 (by decide)) ?_
  refine jl_cX (As := [.int (jl_z xs x3 1)]) (rest := []) C I hl.1 e1 (xk_0 R.xf) (by decide +kernel) jl_w112 (by show (parseMethodDescriptor (ji_m 112).1.desc).map (fun d => d.parameters.length) = some 1; decide +kernel) rfl (Nat.le_of_ble_eq_true rfl) jl_d_711 hcs hss (fun H1 locs1 I1 => ?_)
  refine lv_aload_n hx hb jl_d_714 rfl (lv_at hl 1 rfl) ?_
  refine jl_arg C I1 hl jl_d_715 jl_d_716 jl_d_717 jl_d_718 jl_d_719 (hin 1 (by decide)) ?_
  refine jl_cN (As := [.int (jl_z xs x3 1)]) (rest := [.int z]) C I1 hl.1 e2 (mk_0 R.mf) (by decide +kernel) jl_w206 (by show (parseMethodDescriptor (ji_m 206).1.desc).map (fun d => d.parameters.length) = some 1; decide +kernel) rfl (Nat.le_of_ble_eq_true rfl) jl_d_720 hcs hss (fun H2 locs2 I2 => ?_)
  exact lv_icmp_eq (x := z) (y := z) hx hb jl_d_723 (by decide) (fun _ => kk X' N' _ _ R' I2) (fun h => absurd rfl h)
set_option maxRecDepth 100000 in
theorem jl_case_17 (C : jl_Cx p s m args c b L xs x D G) (R : ji_Rel jx_P X N) (I : jl_I s D G bX bN X N H locs) (hl : lv_has ls 4 [(3, .int x3), (2, .ref bN), (1, .ref bX), (0, .ref b)]) (hin : ∀ j : Nat, j ≤ 5 → vp_in (x3 + Int32.ofInt j) L) (hcs : cells ≤ 600000) (hss : slots ≤ 7302250)
    (kk : ∀ (X' N' : ji_M) (H1 : Heap) (locs1 : List Loc), ji_Rel jx_P X' N' → jl_I s D G bX bN X' N' H1 locs1 → W p l e room_1 s m args below meth c H1 locs1 cells slots Q (F0 m 1359 ls [])) : W p l e room_1 s m args below meth c H locs cells slots Q (F0 m 728 ls []) := by
  obtain ⟨hx, hb, -, hown, hts, -⟩ := id C
  obtain ⟨v, X', N', n1, n2, e1, e2, R'⟩ := jl_two (call_17 (x := jl_z xs x3 1) R)
  obtain ⟨z, rfl⟩ := jl_int (by decide +kernel) e1
  refine lv_aload_n hx hb jl_d_728 rfl (lv_at hl 2 rfl) ?_
  refine jl_arg C I hl jl_d_729 jl_d_730 jl_d_731 jl_d_732 jl_d_733 (hin 1 (by decide)) ?_
  refine jl_cX (As := [.int (jl_z xs x3 1)]) (rest := []) C I hl.1 e1 (xk_0 R.xf) (by decide +kernel) jl_w114 (by show (parseMethodDescriptor (ji_m 114).1.desc).map (fun d => d.parameters.length) = some 1; decide +kernel) rfl (Nat.le_of_ble_eq_true rfl) jl_d_734 hcs hss (fun H1 locs1 I1 => ?_)
  refine lv_aload_n hx hb jl_d_737 rfl (lv_at hl 1 rfl) ?_
  refine jl_arg C I1 hl jl_d_738 jl_d_739 jl_d_740 jl_d_741 jl_d_742 (hin 1 (by decide)) ?_
  refine jl_cN (As := [.int (jl_z xs x3 1)]) (rest := [.int z]) C I1 hl.1 e2 (mk_0 R.mf) (by decide +kernel) jl_w207 (by show (parseMethodDescriptor (ji_m 207).1.desc).map (fun d => d.parameters.length) = some 1; decide +kernel) rfl (Nat.le_of_ble_eq_true rfl) jl_d_743 hcs hss (fun H2 locs2 I2 => ?_)
  exact lv_icmp_eq (x := z) (y := z) hx hb jl_d_746 (by decide) (fun _ => kk X' N' _ _ R' I2) (fun h => absurd rfl h)
set_option maxRecDepth 100000 in
theorem jl_case_18 (C : jl_Cx p s m args c b L xs x D G) (R : ji_Rel jx_P X N) (I : jl_I s D G bX bN X N H locs) (hl : lv_has ls 4 [(3, .int x3), (2, .ref bN), (1, .ref bX), (0, .ref b)]) (hin : ∀ j : Nat, j ≤ 5 → vp_in (x3 + Int32.ofInt j) L) (hcs : cells ≤ 600000) (hss : slots ≤ 7302250)
    (kk : ∀ (X' N' : ji_M) (H1 : Heap) (locs1 : List Loc), ji_Rel jx_P X' N' → jl_I s D G bX bN X' N' H1 locs1 → W p l e room_1 s m args below meth c H1 locs1 cells slots Q (F0 m 1359 ls [])) : W p l e room_1 s m args below meth c H locs cells slots Q (F0 m 751 ls []) := by
  obtain ⟨hx, hb, -, hown, hts, -⟩ := id C
  obtain ⟨v, X', N', n1, n2, e1, e2, R'⟩ := jl_two (call_18 (x := jl_z xs x3 1) (y := jl_z xs x3 2) R)
  obtain ⟨z, rfl⟩ := jl_int (by decide +kernel) e1
  refine lv_aload_n hx hb jl_d_751 rfl (lv_at hl 2 rfl) ?_
  refine jl_arg C I hl jl_d_752 jl_d_753 jl_d_754 jl_d_755 jl_d_756 (hin 1 (by decide)) ?_
  refine jl_arg C I hl jl_d_757 jl_d_758 jl_d_759 jl_d_760 jl_d_761 (hin 2 (by decide)) ?_
  refine jl_cX (As := [.int (jl_z xs x3 1), .int (jl_z xs x3 2)]) (rest := []) C I hl.1 e1 (xk_0 R.xf) (by decide +kernel) jl_w115 (by show (parseMethodDescriptor (ji_m 115).1.desc).map (fun d => d.parameters.length) = some 2; decide +kernel) rfl (Nat.le_of_ble_eq_true rfl) jl_d_762 hcs hss (fun H1 locs1 I1 => ?_)
  refine lv_aload_n hx hb jl_d_765 rfl (lv_at hl 1 rfl) ?_
  refine jl_arg C I1 hl jl_d_766 jl_d_767 jl_d_768 jl_d_769 jl_d_770 (hin 1 (by decide)) ?_
  refine jl_arg C I1 hl jl_d_771 jl_d_772 jl_d_773 jl_d_774 jl_d_775 (hin 2 (by decide)) ?_
  refine jl_cN (As := [.int (jl_z xs x3 1), .int (jl_z xs x3 2)]) (rest := [.int z]) C I1 hl.1 e2 (mk_0 R.mf) (by decide +kernel) jl_w208 (by show (parseMethodDescriptor (ji_m 208).1.desc).map (fun d => d.parameters.length) = some 2; decide +kernel) rfl (Nat.le_of_ble_eq_true rfl) jl_d_776 hcs hss (fun H2 locs2 I2 => ?_)
  exact lv_icmp_eq (x := z) (y := z) hx hb jl_d_779 (by decide) (fun _ => kk X' N' _ _ R' I2) (fun h => absurd rfl h)
set_option maxRecDepth 100000 in
theorem jl_case_19 (C : jl_Cx p s m args c b L xs x D G) (R : ji_Rel jx_P X N) (I : jl_I s D G bX bN X N H locs) (hl : lv_has ls 4 [(3, .int x3), (2, .ref bN), (1, .ref bX), (0, .ref b)]) (hin : ∀ j : Nat, j ≤ 5 → vp_in (x3 + Int32.ofInt j) L) (hcs : cells ≤ 600000) (hss : slots ≤ 7302250)
    (kk : ∀ (X' N' : ji_M) (H1 : Heap) (locs1 : List Loc), ji_Rel jx_P X' N' → jl_I s D G bX bN X' N' H1 locs1 → W p l e room_1 s m args below meth c H1 locs1 cells slots Q (F0 m 1359 ls [])) : W p l e room_1 s m args below meth c H locs cells slots Q (F0 m 784 ls []) := by
  obtain ⟨hx, hb, -, hown, hts, -⟩ := id C
  obtain ⟨v, X', N', n1, n2, e1, e2, R'⟩ := jl_two (call_19 (x := jl_z xs x3 1) (y := jl_z xs x3 2) R)
  obtain ⟨z, rfl⟩ := jl_int (by decide +kernel) e1
  refine lv_aload_n hx hb jl_d_784 rfl (lv_at hl 2 rfl) ?_
  refine jl_arg C I hl jl_d_785 jl_d_786 jl_d_787 jl_d_788 jl_d_789 (hin 1 (by decide)) ?_
  refine jl_arg C I hl jl_d_790 jl_d_791 jl_d_792 jl_d_793 jl_d_794 (hin 2 (by decide)) ?_
  refine jl_cX (As := [.int (jl_z xs x3 1), .int (jl_z xs x3 2)]) (rest := []) C I hl.1 e1 (xk_0 R.xf) (by decide +kernel) jl_w116 (by show (parseMethodDescriptor (ji_m 116).1.desc).map (fun d => d.parameters.length) = some 2; decide +kernel) rfl (Nat.le_of_ble_eq_true rfl) jl_d_795 hcs hss (fun H1 locs1 I1 => ?_)
  refine lv_aload_n hx hb jl_d_798 rfl (lv_at hl 1 rfl) ?_
  refine jl_arg C I1 hl jl_d_799 jl_d_800 jl_d_801 jl_d_802 jl_d_803 (hin 1 (by decide)) ?_
  refine jl_arg C I1 hl jl_d_804 jl_d_805 jl_d_806 jl_d_807 jl_d_808 (hin 2 (by decide)) ?_
  refine jl_cN (As := [.int (jl_z xs x3 1), .int (jl_z xs x3 2)]) (rest := [.int z]) C I1 hl.1 e2 (mk_0 R.mf) (by decide +kernel) jl_w209 (by show (parseMethodDescriptor (ji_m 209).1.desc).map (fun d => d.parameters.length) = some 2; decide +kernel) rfl (Nat.le_of_ble_eq_true rfl) jl_d_809 hcs hss (fun H2 locs2 I2 => ?_)
  exact lv_icmp_eq (x := z) (y := z) hx hb jl_d_812 (by decide) (fun _ => kk X' N' _ _ R' I2) (fun h => absurd rfl h)
set_option maxRecDepth 100000 in
theorem jl_case_20 (C : jl_Cx p s m args c b L xs x D G) (R : ji_Rel jx_P X N) (I : jl_I s D G bX bN X N H locs) (hl : lv_has ls 4 [(3, .int x3), (2, .ref bN), (1, .ref bX), (0, .ref b)]) (hin : ∀ j : Nat, j ≤ 5 → vp_in (x3 + Int32.ofInt j) L) (hcs : cells ≤ 600000) (hss : slots ≤ 7302250)
    (kk : ∀ (X' N' : ji_M) (H1 : Heap) (locs1 : List Loc), ji_Rel jx_P X' N' → jl_I s D G bX bN X' N' H1 locs1 → W p l e room_1 s m args below meth c H1 locs1 cells slots Q (F0 m 1359 ls [])) : W p l e room_1 s m args below meth c H locs cells slots Q (F0 m 817 ls []) := by
  obtain ⟨hx, hb, -, hown, hts, -⟩ := id C
  obtain ⟨v, X', N', n1, n2, e1, e2, R'⟩ := jl_two (call_20 (x := jl_z xs x3 1) R)
  obtain ⟨z, rfl⟩ := jl_int (by decide +kernel) e1
  refine lv_aload_n hx hb jl_d_817 rfl (lv_at hl 2 rfl) ?_
  refine jl_arg C I hl jl_d_818 jl_d_819 jl_d_820 jl_d_821 jl_d_822 (hin 1 (by decide)) ?_
  refine jl_cX (As := [.int (jl_z xs x3 1)]) (rest := []) C I hl.1 e1 (xk_0 R.xf) (by decide +kernel) jl_w118 (by show (parseMethodDescriptor (ji_m 118).1.desc).map (fun d => d.parameters.length) = some 1; decide +kernel) rfl (Nat.le_of_ble_eq_true rfl) jl_d_823 hcs hss (fun H1 locs1 I1 => ?_)
  refine lv_aload_n hx hb jl_d_826 rfl (lv_at hl 1 rfl) ?_
  refine jl_arg C I1 hl jl_d_827 jl_d_828 jl_d_829 jl_d_830 jl_d_831 (hin 1 (by decide)) ?_
  refine jl_cN (As := [.int (jl_z xs x3 1)]) (rest := [.int z]) C I1 hl.1 e2 (mk_0 R.mf) (by decide +kernel) jl_w211 (by show (parseMethodDescriptor (ji_m 211).1.desc).map (fun d => d.parameters.length) = some 1; decide +kernel) rfl (Nat.le_of_ble_eq_true rfl) jl_d_832 hcs hss (fun H2 locs2 I2 => ?_)
  exact lv_icmp_eq (x := z) (y := z) hx hb jl_d_835 (by decide) (fun _ => kk X' N' _ _ R' I2) (fun h => absurd rfl h)
set_option maxRecDepth 100000 in
theorem jl_case_21 (C : jl_Cx p s m args c b L xs x D G) (R : ji_Rel jx_P X N) (I : jl_I s D G bX bN X N H locs) (hl : lv_has ls 4 [(3, .int x3), (2, .ref bN), (1, .ref bX), (0, .ref b)]) (hin : ∀ j : Nat, j ≤ 5 → vp_in (x3 + Int32.ofInt j) L) (hcs : cells ≤ 600000) (hss : slots ≤ 7302250)
    (kk : ∀ (X' N' : ji_M) (H1 : Heap) (locs1 : List Loc), ji_Rel jx_P X' N' → jl_I s D G bX bN X' N' H1 locs1 → W p l e room_1 s m args below meth c H1 locs1 cells slots Q (F0 m 1359 ls [])) : W p l e room_1 s m args below meth c H locs cells slots Q (F0 m 840 ls []) := by
  obtain ⟨hx, hb, -, hown, hts, -⟩ := id C
  obtain ⟨v, X', N', n1, n2, e1, e2, R'⟩ := jl_two (call_21 (x := jl_z xs x3 1) (y := jl_z xs x3 2) (z := jl_z xs x3 3) R)
  obtain ⟨z, rfl⟩ := jl_int (by decide +kernel) e1
  refine lv_aload_n hx hb jl_d_840 rfl (lv_at hl 2 rfl) ?_
  refine jl_arg C I hl jl_d_841 jl_d_842 jl_d_843 jl_d_844 jl_d_845 (hin 1 (by decide)) ?_
  refine jl_arg C I hl jl_d_846 jl_d_847 jl_d_848 jl_d_849 jl_d_850 (hin 2 (by decide)) ?_
  refine jl_arg C I hl jl_d_851 jl_d_852 jl_d_853 jl_d_854 jl_d_855 (hin 3 (by decide)) ?_
  refine jl_cX (As := [.int (jl_z xs x3 1), .int (jl_z xs x3 2), .int (jl_z xs x3 3)]) (rest := []) C I hl.1 e1 (xk_0 R.xf) (by decide +kernel) jl_w127 (by show (parseMethodDescriptor (ji_m 127).1.desc).map (fun d => d.parameters.length) = some 3; decide +kernel) rfl (Nat.le_of_ble_eq_true rfl) jl_d_856 hcs hss (fun H1 locs1 I1 => ?_)
  refine lv_aload_n hx hb jl_d_859 rfl (lv_at hl 1 rfl) ?_
  refine jl_arg C I1 hl jl_d_860 jl_d_861 jl_d_862 jl_d_863 jl_d_864 (hin 1 (by decide)) ?_
  refine jl_arg C I1 hl jl_d_865 jl_d_866 jl_d_867 jl_d_868 jl_d_869 (hin 2 (by decide)) ?_
  refine jl_arg C I1 hl jl_d_870 jl_d_871 jl_d_872 jl_d_873 jl_d_874 (hin 3 (by decide)) ?_
  refine jl_cN (As := [.int (jl_z xs x3 1), .int (jl_z xs x3 2), .int (jl_z xs x3 3)]) (rest := [.int z]) C I1 hl.1 e2 (mk_0 R.mf) (by decide +kernel) jl_w213 (by show (parseMethodDescriptor (ji_m 213).1.desc).map (fun d => d.parameters.length) = some 3; decide +kernel) rfl (Nat.le_of_ble_eq_true rfl) jl_d_875 hcs hss (fun H2 locs2 I2 => ?_)
  exact lv_icmp_eq (x := z) (y := z) hx hb jl_d_878 (by decide) (fun _ => kk X' N' _ _ R' I2) (fun h => absurd rfl h)
set_option maxRecDepth 100000 in
theorem jl_case_22 (C : jl_Cx p s m args c b L xs x D G) (R : ji_Rel jx_P X N) (I : jl_I s D G bX bN X N H locs) (hl : lv_has ls 4 [(3, .int x3), (2, .ref bN), (1, .ref bX), (0, .ref b)]) (hin : ∀ j : Nat, j ≤ 5 → vp_in (x3 + Int32.ofInt j) L) (hcs : cells ≤ 600000) (hss : slots ≤ 7302250)
    (kk : ∀ (X' N' : ji_M) (H1 : Heap) (locs1 : List Loc), ji_Rel jx_P X' N' → jl_I s D G bX bN X' N' H1 locs1 → W p l e room_1 s m args below meth c H1 locs1 cells slots Q (F0 m 1359 ls [])) : W p l e room_1 s m args below meth c H locs cells slots Q (F0 m 883 ls []) := by
  obtain ⟨hx, hb, -, hown, hts, -⟩ := id C
  obtain ⟨v, X', N', n1, n2, e1, e2, R'⟩ := jl_two (call_22 (x := jl_z xs x3 1) (y := jl_z xs x3 2) (z := jl_z xs x3 3) R)
  obtain ⟨z, rfl⟩ := jl_int (by decide +kernel) e1
  refine lv_aload_n hx hb jl_d_883 rfl (lv_at hl 2 rfl) ?_
  refine jl_arg C I hl jl_d_884 jl_d_885 jl_d_886 jl_d_887 jl_d_888 (hin 1 (by decide)) ?_
  refine jl_arg C I hl jl_d_889 jl_d_890 jl_d_891 jl_d_892 jl_d_893 (hin 2 (by decide)) ?_
  refine jl_arg C I hl jl_d_894 jl_d_895 jl_d_896 jl_d_897 jl_d_898 (hin 3 (by decide)) ?_
  refine jl_cX (As := [.int (jl_z xs x3 1), .int (jl_z xs x3 2), .int (jl_z xs x3 3)]) (rest := []) C I hl.1 e1 (xk_0 R.xf) (by decide +kernel) jl_w128 (by show (parseMethodDescriptor (ji_m 128).1.desc).map (fun d => d.parameters.length) = some 3; decide +kernel) rfl (Nat.le_of_ble_eq_true rfl) jl_d_899 hcs hss (fun H1 locs1 I1 => ?_)
  refine lv_aload_n hx hb jl_d_902 rfl (lv_at hl 1 rfl) ?_
  refine jl_arg C I1 hl jl_d_903 jl_d_904 jl_d_905 jl_d_906 jl_d_907 (hin 1 (by decide)) ?_
  refine jl_arg C I1 hl jl_d_908 jl_d_909 jl_d_910 jl_d_911 jl_d_912 (hin 2 (by decide)) ?_
  refine jl_arg C I1 hl jl_d_913 jl_d_914 jl_d_915 jl_d_916 jl_d_917 (hin 3 (by decide)) ?_
  refine jl_cN (As := [.int (jl_z xs x3 1), .int (jl_z xs x3 2), .int (jl_z xs x3 3)]) (rest := [.int z]) C I1 hl.1 e2 (mk_0 R.mf) (by decide +kernel) jl_w214 (by show (parseMethodDescriptor (ji_m 214).1.desc).map (fun d => d.parameters.length) = some 3; decide +kernel) rfl (Nat.le_of_ble_eq_true rfl) jl_d_918 hcs hss (fun H2 locs2 I2 => ?_)
  exact lv_icmp_eq (x := z) (y := z) hx hb jl_d_921 (by decide) (fun _ => kk X' N' _ _ R' I2) (fun h => absurd rfl h)
set_option maxRecDepth 100000 in
theorem jl_case_23 (C : jl_Cx p s m args c b L xs x D G) (R : ji_Rel jx_P X N) (I : jl_I s D G bX bN X N H locs) (hl : lv_has ls 4 [(3, .int x3), (2, .ref bN), (1, .ref bX), (0, .ref b)]) (hin : ∀ j : Nat, j ≤ 5 → vp_in (x3 + Int32.ofInt j) L) (hcs : cells ≤ 600000) (hss : slots ≤ 7302250)
    (kk : ∀ (X' N' : ji_M) (H1 : Heap) (locs1 : List Loc), ji_Rel jx_P X' N' → jl_I s D G bX bN X' N' H1 locs1 → W p l e room_1 s m args below meth c H1 locs1 cells slots Q (F0 m 1359 ls [])) : W p l e room_1 s m args below meth c H locs cells slots Q (F0 m 926 ls []) := by
  obtain ⟨hx, hb, -, hown, hts, -⟩ := id C
  obtain ⟨v, X', N', n1, n2, e1, e2, R'⟩ := jl_two (call_23 (x := jl_z xs x3 1) (y := jl_z xs x3 2) R)
  obtain ⟨z, rfl⟩ := jl_int (by decide +kernel) e1
  refine lv_aload_n hx hb jl_d_926 rfl (lv_at hl 2 rfl) ?_
  refine jl_arg C I hl jl_d_927 jl_d_928 jl_d_929 jl_d_930 jl_d_931 (hin 1 (by decide)) ?_
  refine jl_arg C I hl jl_d_932 jl_d_933 jl_d_934 jl_d_935 jl_d_936 (hin 2 (by decide)) ?_
  refine jl_cX (As := [.int (jl_z xs x3 1), .int (jl_z xs x3 2)]) (rest := []) C I hl.1 e1 (xk_0 R.xf) (by decide +kernel) jl_w130 (by show (parseMethodDescriptor (ji_m 130).1.desc).map (fun d => d.parameters.length) = some 2; decide +kernel) rfl (Nat.le_of_ble_eq_true rfl) jl_d_937 hcs hss (fun H1 locs1 I1 => ?_)
  refine lv_aload_n hx hb jl_d_940 rfl (lv_at hl 1 rfl) ?_
  refine jl_arg C I1 hl jl_d_941 jl_d_942 jl_d_943 jl_d_944 jl_d_945 (hin 1 (by decide)) ?_
  refine jl_arg C I1 hl jl_d_946 jl_d_947 jl_d_948 jl_d_949 jl_d_950 (hin 2 (by decide)) ?_
  refine jl_cN (As := [.int (jl_z xs x3 1), .int (jl_z xs x3 2)]) (rest := [.int z]) C I1 hl.1 e2 (mk_0 R.mf) (by decide +kernel) jl_w215 (by show (parseMethodDescriptor (ji_m 215).1.desc).map (fun d => d.parameters.length) = some 2; decide +kernel) rfl (Nat.le_of_ble_eq_true rfl) jl_d_951 hcs hss (fun H2 locs2 I2 => ?_)
  exact lv_icmp_eq (x := z) (y := z) hx hb jl_d_954 (by decide) (fun _ => kk X' N' _ _ R' I2) (fun h => absurd rfl h)
end JLC12
