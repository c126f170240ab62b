set_option maxRecDepth 100000 in
set_option maxHeartbeats 600000 in
theorem s_law7 {Γ : fx_G} {nm : String} {i : Nat} (hN31 : Γ.2.2.2 98 < 2 ^ 31) (hi : i + 8 ≤ Γ.2.2.2 98) {m : fx_M} {na nd : Nat} (R : fr_R m na nd) (ih : ∀ m', fx_Rel m' → fx_E Γ (mL_law nm) 20 0 119 (fun r _ => r = some (.int 1)) 119 m' 1622 [some (.ref (Γ.2.2.2 99)), some (fx_rf Γ 0), some (fx_rf Γ 83), some (.int (nI i))] []) : fx_E Γ (mL_law nm) 20 0 119 (fun r _ => r = some (.int 1)) 119 m 514 [some (.ref (Γ.2.2.2 99)), some (fx_rf Γ 0), some (fx_rf Γ 83), some (.int (nI i))] [] := by
  have hL := R.1
  have h8 := R.2.1.1
  have h5 := R.2.1.2
  have hna := R.2.2.1.1
  have hnd := R.2.2.1.2.1
  have hcn := R.2.2.2.2.1.1
  refine e_aload_n dL_law_514 rfl ?_
  refine e_aload_n dL_law_515 rfl ?_
  refine e_iload_n dL_law_516 rfl ?_
  refine e_iconst dL_law_517 kci_1 ?_
  refine e_iadd dL_law_518 ?_
  refine e_xald (j := i + 1) dL_law_519 (by rw [show (1 : Int32) = nI 1 from rfl, nI_add]) (by omega) hN31 ?_
  refine e_aload_n dL_law_520 rfl ?_
  refine e_iload_n dL_law_521 rfl ?_
  refine e_iconst dL_law_522 kci_2 ?_
  refine e_iadd dL_law_523 ?_
  refine e_xald (j := i + 2) dL_law_524 (by rw [show (2 : Int32) = nI 2 from rfl, nI_add]) (by omega) hN31 ?_
  refine e_aload_n dL_law_525 rfl ?_
  refine e_iload_n dL_law_526 rfl ?_
  refine e_iconst dL_law_527 kci_3 ?_
  refine e_iadd dL_law_528 ?_
  refine e_xald (j := i + 3) dL_law_529 (by rw [show (3 : Int32) = nI 3 from rfl, nI_add]) (by omega) hN31 ?_
  refine e_aload_n dL_law_530 rfl ?_
  refine e_iload_n dL_law_531 rfl ?_
  refine e_iconst dL_law_532 kci_4 ?_
  refine e_iadd dL_law_533 ?_
  refine e_xald (j := i + 4) dL_law_534 (by rw [show (4 : Int32) = nI 4 from rfl, nI_add]) (by omega) hN31 ?_
  refine e_aload_n dL_law_535 rfl ?_
  refine e_iload_n dL_law_536 rfl ?_
  refine e_iconst dL_law_537 kci_5 ?_
  refine e_iadd dL_law_538 ?_
  refine e_xald (j := i + 5) dL_law_539 (by rw [show (5 : Int32) = nI 5 from rfl, nI_add]) (by omega) hN31 ?_
  refine e_aload_n dL_law_540 rfl ?_
  refine e_iload_n dL_law_541 rfl ?_
  refine e_bipush dL_law_542 kcb_6 ?_
  refine e_iadd dL_law_544 ?_
  refine e_xald (j := i + 6) dL_law_545 (by rw [show (6 : Int32) = nI 6 from rfl, nI_add]) (by omega) hN31 ?_
  refine e_callV1 (μ' := mX8_arm) (ci := 8) (As := [.int (Int32.ofNat (Γ.2.2.2 (100 + (i + 1)))), .int (Int32.ofNat (Γ.2.2.2 (100 + (i + 2)))), .int (Int32.ofNat (Γ.2.2.2 (100 + (i + 3)))), .int (Int32.ofNat (Γ.2.2.2 (100 + (i + 4)))), .int (Int32.ofNat (Γ.2.2.2 (100 + (i + 5)))), .int (Int32.ofNat (Γ.2.2.2 (100 + (i + 6))))]) dL_law_546 wl_L_49 ok_X8_arm rfl rfl (fx_pi_lt (by decide)) (by decide) (Nat.le_of_ble_eq_true rfl) fx_n1 (s_X8_arm (m := m) hL hna h8 (Int32.ofNat (Γ.2.2.2 (100 + (i + 1)))) (Int32.ofNat (Γ.2.2.2 (100 + (i + 2)))) (Int32.ofNat (Γ.2.2.2 (100 + (i + 3)))) (Int32.ofNat (Γ.2.2.2 (100 + (i + 4)))) (Int32.ofNat (Γ.2.2.2 (100 + (i + 5)))) (Int32.ofNat (Γ.2.2.2 (100 + (i + 6))))) rfl ?_
  have hm := fr_hm (M := fx_mArm m 1 na (Int32.ofNat (Γ.2.2.2 (100 + (i + 1)))) (Int32.ofNat (Γ.2.2.2 (100 + (i + 2)))) (Int32.ofNat (Γ.2.2.2 (100 + (i + 3)))) (Int32.ofNat (Γ.2.2.2 (100 + (i + 4)))) (Int32.ofNat (Γ.2.2.2 (100 + (i + 5)))) (Int32.ofNat (Γ.2.2.2 (100 + (i + 6))))) (b := (q_arm na (Int32.ofNat (Γ.2.2.2 (100 + (i + 1)))) (Int32.ofNat (Γ.2.2.2 (100 + (i + 2)))) (Int32.ofNat (Γ.2.2.2 (100 + (i + 3)))) (Int32.ofNat (Γ.2.2.2 (100 + (i + 4)))) (Int32.ofNat (Γ.2.2.2 (100 + (i + 5)))) (Int32.ofNat (Γ.2.2.2 (100 + (i + 6))))).1) R (fun e => fr_armC R e)
  refine e_aload_n dL_law_549 rfl ?_
  refine e_aload_n dL_law_550 rfl ?_
  refine e_iload_n dL_law_551 rfl ?_
  refine e_iconst dL_law_552 kci_1 ?_
  refine e_iadd dL_law_553 ?_
  refine e_xald (j := i + 1) dL_law_554 (by rw [show (1 : Int32) = nI 1 from rfl, nI_add]) (by omega) hN31 ?_
  refine e_aload_n dL_law_555 rfl ?_
  refine e_iload_n dL_law_556 rfl ?_
  refine e_iconst dL_law_557 kci_2 ?_
  refine e_iadd dL_law_558 ?_
  refine e_xald (j := i + 2) dL_law_559 (by rw [show (2 : Int32) = nI 2 from rfl, nI_add]) (by omega) hN31 ?_
  refine e_aload_n dL_law_560 rfl ?_
  refine e_iload_n dL_law_561 rfl ?_
  refine e_iconst dL_law_562 kci_3 ?_
  refine e_iadd dL_law_563 ?_
  refine e_xald (j := i + 3) dL_law_564 (by rw [show (3 : Int32) = nI 3 from rfl, nI_add]) (by omega) hN31 ?_
  refine e_aload_n dL_law_565 rfl ?_
  refine e_iload_n dL_law_566 rfl ?_
  refine e_iconst dL_law_567 kci_4 ?_
  refine e_iadd dL_law_568 ?_
  refine e_xald (j := i + 4) dL_law_569 (by rw [show (4 : Int32) = nI 4 from rfl, nI_add]) (by omega) hN31 ?_
  refine e_aload_n dL_law_570 rfl ?_
  refine e_iload_n dL_law_571 rfl ?_
  refine e_iconst dL_law_572 kci_5 ?_
  refine e_iadd dL_law_573 ?_
  refine e_xald (j := i + 5) dL_law_574 (by rw [show (5 : Int32) = nI 5 from rfl, nI_add]) (by omega) hN31 ?_
  refine e_aload_n dL_law_575 rfl ?_
  refine e_iload_n dL_law_576 rfl ?_
  refine e_bipush dL_law_577 kcb_6 ?_
  refine e_iadd dL_law_579 ?_
  refine e_xald (j := i + 6) dL_law_580 (by rw [show (6 : Int32) = nI 6 from rfl, nI_add]) (by omega) hN31 ?_
  refine e_callV (μ' := mX9_arm) (ci := 9) (As := [.int (Int32.ofNat (Γ.2.2.2 (100 + (i + 1)))), .int (Int32.ofNat (Γ.2.2.2 (100 + (i + 2)))), .int (Int32.ofNat (Γ.2.2.2 (100 + (i + 3)))), .int (Int32.ofNat (Γ.2.2.2 (100 + (i + 4)))), .int (Int32.ofNat (Γ.2.2.2 (100 + (i + 5)))), .int (Int32.ofNat (Γ.2.2.2 (100 + (i + 6))))]) dL_law_581 wl_L_53 ok_X9_arm rfl rfl (fx_pi_lt (by decide)) (by decide) (Nat.le_of_ble_eq_true rfl) fx_n1 (s_X9_arm (m := fx_qm m (q_arm na (Int32.ofNat (Γ.2.2.2 (100 + (i + 1)))) (Int32.ofNat (Γ.2.2.2 (100 + (i + 2)))) (Int32.ofNat (Γ.2.2.2 (100 + (i + 3)))) (Int32.ofNat (Γ.2.2.2 (100 + (i + 4)))) (Int32.ofNat (Γ.2.2.2 (100 + (i + 5)))) (Int32.ofNat (Γ.2.2.2 (100 + (i + 6))))).1 (fx_mArm m 1 na (Int32.ofNat (Γ.2.2.2 (100 + (i + 1)))) (Int32.ofNat (Γ.2.2.2 (100 + (i + 2)))) (Int32.ofNat (Γ.2.2.2 (100 + (i + 3)))) (Int32.ofNat (Γ.2.2.2 (100 + (i + 4)))) (Int32.ofNat (Γ.2.2.2 (100 + (i + 5)))) (Int32.ofNat (Γ.2.2.2 (100 + (i + 6)))))) hm.1 hm.2.1 h8 (Int32.ofNat (Γ.2.2.2 (100 + (i + 1)))) (Int32.ofNat (Γ.2.2.2 (100 + (i + 2)))) (Int32.ofNat (Γ.2.2.2 (100 + (i + 3)))) (Int32.ofNat (Γ.2.2.2 (100 + (i + 4)))) (Int32.ofNat (Γ.2.2.2 (100 + (i + 5)))) (Int32.ofNat (Γ.2.2.2 (100 + (i + 6))))) rfl (fun r_ m_ hpost => ?_)
  revert r_ m_
  intro r_ m2 hpost
  obtain ⟨rfl, g1, g0⟩ := hpost
  refine e_icmp_eq 1622 dL_law_584 rfl (fun _ => ?_) (fun h => absurd rfl h)
  exact ih _ (fr_arm R g1 g0)
set_option maxRecDepth 100000 in
set_option maxHeartbeats 600000 in
theorem s_law8 {Γ : fx_G} {nm : String} {i : Nat} (hN31 : Γ.2.2.2 98 < 2 ^ 31) (hi : i + 8 ≤ Γ.2.2.2 98) {m : fx_M} {na nd : Nat} (R : fr_R m na nd) (ih : ∀ m', fx_Rel m' → fx_E Γ (mL_law nm) 20 0 119 (fun r _ => r = some (.int 1)) 119 m' 1622 [some (.ref (Γ.2.2.2 99)), some (fx_rf Γ 0), some (fx_rf Γ 83), some (.int (nI i))] []) : fx_E Γ (mL_law nm) 20 0 119 (fun r _ => r = some (.int 1)) 119 m 589 [some (.ref (Γ.2.2.2 99)), some (fx_rf Γ 0), some (fx_rf Γ 83), some (.int (nI i))] [] := by
  have hL := R.1
  have h8 := R.2.1.1
  have h5 := R.2.1.2
  have hna := R.2.2.1.1
  have hnd := R.2.2.1.2.1
  have hcn := R.2.2.2.2.1.1
  refine e_aload_n dL_law_589 rfl ?_
  refine e_aload_n dL_law_590 rfl ?_
  refine e_iload_n dL_law_591 rfl ?_
  refine e_iconst dL_law_592 kci_1 ?_
  refine e_iadd dL_law_593 ?_
  refine e_xald (j := i + 1) dL_law_594 (by rw [show (1 : Int32) = nI 1 from rfl, nI_add]) (by omega) hN31 ?_
  refine e_aload_n dL_law_595 rfl ?_
  refine e_iload_n dL_law_596 rfl ?_
  refine e_iconst dL_law_597 kci_2 ?_
  refine e_iadd dL_law_598 ?_
  refine e_xald (j := i + 2) dL_law_599 (by rw [show (2 : Int32) = nI 2 from rfl, nI_add]) (by omega) hN31 ?_
  refine e_aload_n dL_law_600 rfl ?_
  refine e_iload_n dL_law_601 rfl ?_
  refine e_iconst dL_law_602 kci_3 ?_
  refine e_iadd dL_law_603 ?_
  refine e_xald (j := i + 3) dL_law_604 (by rw [show (3 : Int32) = nI 3 from rfl, nI_add]) (by omega) hN31 ?_
  refine e_aload_n dL_law_605 rfl ?_
  refine e_iload_n dL_law_606 rfl ?_
  refine e_iconst dL_law_607 kci_4 ?_
  refine e_iadd dL_law_608 ?_
  refine e_xald (j := i + 4) dL_law_609 (by rw [show (4 : Int32) = nI 4 from rfl, nI_add]) (by omega) hN31 ?_
  refine e_aload_n dL_law_610 rfl ?_
  refine e_iload_n dL_law_611 rfl ?_
  refine e_iconst dL_law_612 kci_5 ?_
  refine e_iadd dL_law_613 ?_
  refine e_xald (j := i + 5) dL_law_614 (by rw [show (5 : Int32) = nI 5 from rfl, nI_add]) (by omega) hN31 ?_
  refine e_aload_n dL_law_615 rfl ?_
  refine e_iload_n dL_law_616 rfl ?_
  refine e_bipush dL_law_617 kcb_6 ?_
  refine e_iadd dL_law_619 ?_
  refine e_xald (j := i + 6) dL_law_620 (by rw [show (6 : Int32) = nI 6 from rfl, nI_add]) (by omega) hN31 ?_
  refine e_aload_n dL_law_621 rfl ?_
  refine e_iload_n dL_law_622 rfl ?_
  refine e_bipush dL_law_623 kcb_7 ?_
  refine e_iadd dL_law_625 ?_
  refine e_xald (j := i + 7) dL_law_626 (by rw [show (7 : Int32) = nI 7 from rfl, nI_add]) (by omega) hN31 ?_
  refine e_callV1 (μ' := mX8_doll) (ci := 8) (As := [.int (Int32.ofNat (Γ.2.2.2 (100 + (i + 1)))), .int (Int32.ofNat (Γ.2.2.2 (100 + (i + 2)))), .int (Int32.ofNat (Γ.2.2.2 (100 + (i + 3)))), .int (Int32.ofNat (Γ.2.2.2 (100 + (i + 4)))), .int (Int32.ofNat (Γ.2.2.2 (100 + (i + 5)))), .int (Int32.ofNat (Γ.2.2.2 (100 + (i + 6)))), .int (Int32.ofNat (Γ.2.2.2 (100 + (i + 7))))]) dL_law_627 wl_L_54 ok_X8_doll rfl rfl (fx_pi_lt (by decide)) (by decide) (Nat.le_of_ble_eq_true rfl) fx_n1 (s_X8_doll (m := m) hL hnd h5 (Int32.ofNat (Γ.2.2.2 (100 + (i + 1)))) (Int32.ofNat (Γ.2.2.2 (100 + (i + 2)))) (Int32.ofNat (Γ.2.2.2 (100 + (i + 3)))) (Int32.ofNat (Γ.2.2.2 (100 + (i + 4)))) (Int32.ofNat (Γ.2.2.2 (100 + (i + 5)))) (Int32.ofNat (Γ.2.2.2 (100 + (i + 6)))) (Int32.ofNat (Γ.2.2.2 (100 + (i + 7))))) rfl ?_
  have hm := fr_hm (M := fx_mDoll m 1 nd (Int32.ofNat (Γ.2.2.2 (100 + (i + 1)))) (Int32.ofNat (Γ.2.2.2 (100 + (i + 2)))) (Int32.ofNat (Γ.2.2.2 (100 + (i + 3)))) (Int32.ofNat (Γ.2.2.2 (100 + (i + 4)))) (Int32.ofNat (Γ.2.2.2 (100 + (i + 5)))) (Int32.ofNat (Γ.2.2.2 (100 + (i + 6)))) (Int32.ofNat (Γ.2.2.2 (100 + (i + 7))))) (b := (q_doll nd (Int32.ofNat (Γ.2.2.2 (100 + (i + 1)))) (Int32.ofNat (Γ.2.2.2 (100 + (i + 2)))) (Int32.ofNat (Γ.2.2.2 (100 + (i + 3)))) (Int32.ofNat (Γ.2.2.2 (100 + (i + 4)))) (Int32.ofNat (Γ.2.2.2 (100 + (i + 5)))) (Int32.ofNat (Γ.2.2.2 (100 + (i + 6)))) (Int32.ofNat (Γ.2.2.2 (100 + (i + 7))))).1) R (fun e => fr_dollC R e)
  refine e_aload_n dL_law_630 rfl ?_
  refine e_aload_n dL_law_631 rfl ?_
  refine e_iload_n dL_law_632 rfl ?_
  refine e_iconst dL_law_633 kci_1 ?_
  refine e_iadd dL_law_634 ?_
  refine e_xald (j := i + 1) dL_law_635 (by rw [show (1 : Int32) = nI 1 from rfl, nI_add]) (by omega) hN31 ?_
  refine e_aload_n dL_law_636 rfl ?_
  refine e_iload_n dL_law_637 rfl ?_
  refine e_iconst dL_law_638 kci_2 ?_
  refine e_iadd dL_law_639 ?_
  refine e_xald (j := i + 2) dL_law_640 (by rw [show (2 : Int32) = nI 2 from rfl, nI_add]) (by omega) hN31 ?_
  refine e_aload_n dL_law_641 rfl ?_
  refine e_iload_n dL_law_642 rfl ?_
  refine e_iconst dL_law_643 kci_3 ?_
  refine e_iadd dL_law_644 ?_
  refine e_xald (j := i + 3) dL_law_645 (by rw [show (3 : Int32) = nI 3 from rfl, nI_add]) (by omega) hN31 ?_
  refine e_aload_n dL_law_646 rfl ?_
  refine e_iload_n dL_law_647 rfl ?_
  refine e_iconst dL_law_648 kci_4 ?_
  refine e_iadd dL_law_649 ?_
  refine e_xald (j := i + 4) dL_law_650 (by rw [show (4 : Int32) = nI 4 from rfl, nI_add]) (by omega) hN31 ?_
  refine e_aload_n dL_law_651 rfl ?_
  refine e_iload_n dL_law_652 rfl ?_
  refine e_iconst dL_law_653 kci_5 ?_
  refine e_iadd dL_law_654 ?_
  refine e_xald (j := i + 5) dL_law_655 (by rw [show (5 : Int32) = nI 5 from rfl, nI_add]) (by omega) hN31 ?_
  refine e_aload_n dL_law_656 rfl ?_
  refine e_iload_n dL_law_657 rfl ?_
  refine e_bipush dL_law_658 kcb_6 ?_
  refine e_iadd dL_law_660 ?_
  refine e_xald (j := i + 6) dL_law_661 (by rw [show (6 : Int32) = nI 6 from rfl, nI_add]) (by omega) hN31 ?_
  refine e_aload_n dL_law_662 rfl ?_
  refine e_iload_n dL_law_663 rfl ?_
  refine e_bipush dL_law_664 kcb_7 ?_
  refine e_iadd dL_law_666 ?_
  refine e_xald (j := i + 7) dL_law_667 (by rw [show (7 : Int32) = nI 7 from rfl, nI_add]) (by omega) hN31 ?_
  refine e_callV (μ' := mX9_doll) (ci := 9) (As := [.int (Int32.ofNat (Γ.2.2.2 (100 + (i + 1)))), .int (Int32.ofNat (Γ.2.2.2 (100 + (i + 2)))), .int (Int32.ofNat (Γ.2.2.2 (100 + (i + 3)))), .int (Int32.ofNat (Γ.2.2.2 (100 + (i + 4)))), .int (Int32.ofNat (Γ.2.2.2 (100 + (i + 5)))), .int (Int32.ofNat (Γ.2.2.2 (100 + (i + 6)))), .int (Int32.ofNat (Γ.2.2.2 (100 + (i + 7))))]) dL_law_668 wl_L_58 ok_X9_doll rfl rfl (fx_pi_lt (by decide)) (by decide) (Nat.le_of_ble_eq_true rfl) fx_n1 (s_X9_doll (m := fx_qm m (q_doll nd (Int32.ofNat (Γ.2.2.2 (100 + (i + 1)))) (Int32.ofNat (Γ.2.2.2 (100 + (i + 2)))) (Int32.ofNat (Γ.2.2.2 (100 + (i + 3)))) (Int32.ofNat (Γ.2.2.2 (100 + (i + 4)))) (Int32.ofNat (Γ.2.2.2 (100 + (i + 5)))) (Int32.ofNat (Γ.2.2.2 (100 + (i + 6)))) (Int32.ofNat (Γ.2.2.2 (100 + (i + 7))))).1 (fx_mDoll m 1 nd (Int32.ofNat (Γ.2.2.2 (100 + (i + 1)))) (Int32.ofNat (Γ.2.2.2 (100 + (i + 2)))) (Int32.ofNat (Γ.2.2.2 (100 + (i + 3)))) (Int32.ofNat (Γ.2.2.2 (100 + (i + 4)))) (Int32.ofNat (Γ.2.2.2 (100 + (i + 5)))) (Int32.ofNat (Γ.2.2.2 (100 + (i + 6)))) (Int32.ofNat (Γ.2.2.2 (100 + (i + 7)))))) hm.1 hm.2.1 (Int32.ofNat (Γ.2.2.2 (100 + (i + 1)))) (Int32.ofNat (Γ.2.2.2 (100 + (i + 2)))) (Int32.ofNat (Γ.2.2.2 (100 + (i + 3)))) (Int32.ofNat (Γ.2.2.2 (100 + (i + 4)))) (Int32.ofNat (Γ.2.2.2 (100 + (i + 5)))) (Int32.ofNat (Γ.2.2.2 (100 + (i + 6)))) (Int32.ofNat (Γ.2.2.2 (100 + (i + 7))))) rfl (fun r_ m_ hpost => ?_)
  revert r_ m_
  intro r_ m2 hpost
  obtain ⟨rfl, g1, g0⟩ := hpost
  refine e_icmp_eq 1622 dL_law_671 rfl (fun _ => ?_) (fun h => absurd rfl h)
  exact ih _ (fr_doll R g1 g0)
set_option maxRecDepth 100000 in
set_option maxHeartbeats 600000 in
theorem s_law9 {Γ : fx_G} {nm : String} {i : Nat} (hN31 : Γ.2.2.2 98 < 2 ^ 31) (hi : i + 8 ≤ Γ.2.2.2 98) {m : fx_M} {na nd : Nat} (R : fr_R m na nd) (ih : ∀ m', fx_Rel m' → fx_E Γ (mL_law nm) 20 0 119 (fun r _ => r = some (.int 1)) 119 m' 1622 [some (.ref (Γ.2.2.2 99)), some (fx_rf Γ 0), some (fx_rf Γ 83), some (.int (nI i))] []) : fx_E Γ (mL_law nm) 20 0 119 (fun r _ => r = some (.int 1)) 119 m 676 [some (.ref (Γ.2.2.2 99)), some (fx_rf Γ 0), some (fx_rf Γ 83), some (.int (nI i))] [] := by
  have hL := R.1
  have h8 := R.2.1.1
  have h5 := R.2.1.2
  have hna := R.2.2.1.1
  have hnd := R.2.2.1.2.1
  have hcn := R.2.2.2.2.1.1
  refine e_aload_n dL_law_676 rfl ?_
  refine e_aload_n dL_law_677 rfl ?_
  refine e_iload_n dL_law_678 rfl ?_
  refine e_iconst dL_law_679 kci_1 ?_
  refine e_iadd dL_law_680 ?_
  refine e_xald (j := i + 1) dL_law_681 (by rw [show (1 : Int32) = nI 1 from rfl, nI_add]) (by omega) hN31 ?_
  refine e_aload_n dL_law_682 rfl ?_
  refine e_iload_n dL_law_683 rfl ?_
  refine e_iconst dL_law_684 kci_2 ?_
  refine e_iadd dL_law_685 ?_
  refine e_xald (j := i + 2) dL_law_686 (by rw [show (2 : Int32) = nI 2 from rfl, nI_add]) (by omega) hN31 ?_
  refine e_aload_n dL_law_687 rfl ?_
  refine e_iload_n dL_law_688 rfl ?_
  refine e_iconst dL_law_689 kci_3 ?_
  refine e_iadd dL_law_690 ?_
  refine e_xald (j := i + 3) dL_law_691 (by rw [show (3 : Int32) = nI 3 from rfl, nI_add]) (by omega) hN31 ?_
  refine e_callV1 (μ' := mX8_dye) (ci := 8) (As := [.int (Int32.ofNat (Γ.2.2.2 (100 + (i + 1)))), .int (Int32.ofNat (Γ.2.2.2 (100 + (i + 2)))), .int (Int32.ofNat (Γ.2.2.2 (100 + (i + 3))))]) dL_law_692 wl_L_59 ok_X8_dye rfl rfl (fx_pi_lt (by decide)) (by decide) (Nat.le_of_ble_eq_true rfl) fx_n1 (s_X8_dye (m := m) hL hna h8 (Int32.ofNat (Γ.2.2.2 (100 + (i + 1)))) (Int32.ofNat (Γ.2.2.2 (100 + (i + 2)))) (Int32.ofNat (Γ.2.2.2 (100 + (i + 3))))) rfl ?_
  have hm := fr_hm (M := fx_sI m (1 + 3 + (p_ix (Int32.ofNat (Γ.2.2.2 (100 + (i + 1)))))) (p_dyI (Int32.ofNat (Γ.2.2.2 (100 + (i + 2))))) (Int32.ofNat (Γ.2.2.2 (100 + (i + 3))))) (b := (q_dye (fx_ar m 1) na (Int32.ofNat (Γ.2.2.2 (100 + (i + 1)))) (Int32.ofNat (Γ.2.2.2 (100 + (i + 2)))) (Int32.ofNat (Γ.2.2.2 (100 + (i + 3))))).1) R (fun e => fr_dyeC R e)
  refine e_aload_n dL_law_695 rfl ?_
  refine e_aload_n dL_law_696 rfl ?_
  refine e_iload_n dL_law_697 rfl ?_
  refine e_iconst dL_law_698 kci_1 ?_
  refine e_iadd dL_law_699 ?_
  refine e_xald (j := i + 1) dL_law_700 (by rw [show (1 : Int32) = nI 1 from rfl, nI_add]) (by omega) hN31 ?_
  refine e_aload_n dL_law_701 rfl ?_
  refine e_iload_n dL_law_702 rfl ?_
  refine e_iconst dL_law_703 kci_2 ?_
  refine e_iadd dL_law_704 ?_
  refine e_xald (j := i + 2) dL_law_705 (by rw [show (2 : Int32) = nI 2 from rfl, nI_add]) (by omega) hN31 ?_
  refine e_aload_n dL_law_706 rfl ?_
  refine e_iload_n dL_law_707 rfl ?_
  refine e_iconst dL_law_708 kci_3 ?_
  refine e_iadd dL_law_709 ?_
  refine e_xald (j := i + 3) dL_law_710 (by rw [show (3 : Int32) = nI 3 from rfl, nI_add]) (by omega) hN31 ?_
  refine e_callV (μ' := mX9_dye) (ci := 9) (As := [.int (Int32.ofNat (Γ.2.2.2 (100 + (i + 1)))), .int (Int32.ofNat (Γ.2.2.2 (100 + (i + 2)))), .int (Int32.ofNat (Γ.2.2.2 (100 + (i + 3))))]) dL_law_711 wl_L_62 ok_X9_dye rfl rfl (fx_pi_lt (by decide)) (by decide) (Nat.le_of_ble_eq_true rfl) fx_n1 (s_X9_dye (m := fx_qm m (q_dye (fx_ar m 1) na (Int32.ofNat (Γ.2.2.2 (100 + (i + 1)))) (Int32.ofNat (Γ.2.2.2 (100 + (i + 2)))) (Int32.ofNat (Γ.2.2.2 (100 + (i + 3))))).1 (fx_sI m (1 + 3 + (p_ix (Int32.ofNat (Γ.2.2.2 (100 + (i + 1)))))) (p_dyI (Int32.ofNat (Γ.2.2.2 (100 + (i + 2))))) (Int32.ofNat (Γ.2.2.2 (100 + (i + 3)))))) hm.1 hm.2.1 (Int32.ofNat (Γ.2.2.2 (100 + (i + 1)))) (Int32.ofNat (Γ.2.2.2 (100 + (i + 2)))) (Int32.ofNat (Γ.2.2.2 (100 + (i + 3))))) rfl (fun r_ m_ hpost => ?_)
  revert r_ m_
  intro r_ m2 hpost
  obtain ⟨rfl, g1, g0⟩ := hpost
  refine e_icmp_eq 1622 dL_law_714 rfl (fun _ => ?_) (fun h => absurd rfl h)
  exact ih _ (fr_dye R g1 g0)
set_option maxRecDepth 100000 in
set_option maxHeartbeats 600000 in
theorem s_law10 {Γ : fx_G} {nm : String} {i : Nat} (hN31 : Γ.2.2.2 98 < 2 ^ 31) (hi : i + 8 ≤ Γ.2.2.2 98) {m : fx_M} {na nd : Nat} (R : fr_R m na nd) (ih : ∀ m', fx_Rel m' → fx_E Γ (mL_law nm) 20 0 119 (fun r _ => r = some (.int 1)) 119 m' 1622 [some (.ref (Γ.2.2.2 99)), some (fx_rf Γ 0), some (fx_rf Γ 83), some (.int (nI i))] []) : fx_E Γ (mL_law nm) 20 0 119 (fun r _ => r = some (.int 1)) 119 m 719 [some (.ref (Γ.2.2.2 99)), some (fx_rf Γ 0), some (fx_rf Γ 83), some (.int (nI i))] [] := by
  have hL := R.1
  have h8 := R.2.1.1
  have h5 := R.2.1.2
  have hna := R.2.2.1.1
  have hnd := R.2.2.1.2.1
  have hcn := R.2.2.2.2.1.1
  refine e_aload_n dL_law_719 rfl ?_
  refine e_aload_n dL_law_720 rfl ?_
  refine e_iload_n dL_law_721 rfl ?_
  refine e_iconst dL_law_722 kci_1 ?_
  refine e_iadd dL_law_723 ?_
  refine e_xald (j := i + 1) dL_law_724 (by rw [show (1 : Int32) = nI 1 from rfl, nI_add]) (by omega) hN31 ?_
  refine e_aload_n dL_law_725 rfl ?_
  refine e_iload_n dL_law_726 rfl ?_
  refine e_iconst dL_law_727 kci_2 ?_
  refine e_iadd dL_law_728 ?_
  refine e_xald (j := i + 2) dL_law_729 (by rw [show (2 : Int32) = nI 2 from rfl, nI_add]) (by omega) hN31 ?_
  refine e_aload_n dL_law_730 rfl ?_
  refine e_iload_n dL_law_731 rfl ?_
  refine e_iconst dL_law_732 kci_3 ?_
  refine e_iadd dL_law_733 ?_
  refine e_xald (j := i + 3) dL_law_734 (by rw [show (3 : Int32) = nI 3 from rfl, nI_add]) (by omega) hN31 ?_
  refine e_callV1 (μ' := mX8_tell) (ci := 8) (As := [.int (Int32.ofNat (Γ.2.2.2 (100 + (i + 1)))), .int (Int32.ofNat (Γ.2.2.2 (100 + (i + 2)))), .int (Int32.ofNat (Γ.2.2.2 (100 + (i + 3))))]) dL_law_735 wl_L_63 ok_X8_tell rfl rfl (fx_pi_lt (by decide)) (by decide) (Nat.le_of_ble_eq_true rfl) fx_n1 (s_X8_tell (m := m) hL hnd h5 (Int32.ofNat (Γ.2.2.2 (100 + (i + 1)))) (Int32.ofNat (Γ.2.2.2 (100 + (i + 2)))) (Int32.ofNat (Γ.2.2.2 (100 + (i + 3))))) rfl ?_
  have hm := fr_hm (M := fx_sI m (1 + 11 + (p_ix (Int32.ofNat (Γ.2.2.2 (100 + (i + 1)))))) (p_retI (Int32.ofNat (Γ.2.2.2 (100 + (i + 2))))) (Int32.ofNat (Γ.2.2.2 (100 + (i + 3))))) (b := (q_tell (fx_dr m 1) nd (Int32.ofNat (Γ.2.2.2 (100 + (i + 1)))) (Int32.ofNat (Γ.2.2.2 (100 + (i + 2)))) (Int32.ofNat (Γ.2.2.2 (100 + (i + 3))))).1) R (fun e => fr_tellC R e)
  refine e_aload_n dL_law_738 rfl ?_
  refine e_aload_n dL_law_739 rfl ?_
  refine e_iload_n dL_law_740 rfl ?_
  refine e_iconst dL_law_741 kci_1 ?_
  refine e_iadd dL_law_742 ?_
  refine e_xald (j := i + 1) dL_law_743 (by rw [show (1 : Int32) = nI 1 from rfl, nI_add]) (by omega) hN31 ?_
  refine e_aload_n dL_law_744 rfl ?_
  refine e_iload_n dL_law_745 rfl ?_
  refine e_iconst dL_law_746 kci_2 ?_
  refine e_iadd dL_law_747 ?_
  refine e_xald (j := i + 2) dL_law_748 (by rw [show (2 : Int32) = nI 2 from rfl, nI_add]) (by omega) hN31 ?_
  refine e_aload_n dL_law_749 rfl ?_
  refine e_iload_n dL_law_750 rfl ?_
  refine e_iconst dL_law_751 kci_3 ?_
  refine e_iadd dL_law_752 ?_
  refine e_xald (j := i + 3) dL_law_753 (by rw [show (3 : Int32) = nI 3 from rfl, nI_add]) (by omega) hN31 ?_
  refine e_callV (μ' := mX9_tell) (ci := 9) (As := [.int (Int32.ofNat (Γ.2.2.2 (100 + (i + 1)))), .int (Int32.ofNat (Γ.2.2.2 (100 + (i + 2)))), .int (Int32.ofNat (Γ.2.2.2 (100 + (i + 3))))]) dL_law_754 wl_L_66 ok_X9_tell rfl rfl (fx_pi_lt (by decide)) (by decide) (Nat.le_of_ble_eq_true rfl) fx_n1 (s_X9_tell (m := fx_qm m (q_tell (fx_dr m 1) nd (Int32.ofNat (Γ.2.2.2 (100 + (i + 1)))) (Int32.ofNat (Γ.2.2.2 (100 + (i + 2)))) (Int32.ofNat (Γ.2.2.2 (100 + (i + 3))))).1 (fx_sI m (1 + 11 + (p_ix (Int32.ofNat (Γ.2.2.2 (100 + (i + 1)))))) (p_retI (Int32.ofNat (Γ.2.2.2 (100 + (i + 2))))) (Int32.ofNat (Γ.2.2.2 (100 + (i + 3)))))) hm.1 hm.2.1 (Int32.ofNat (Γ.2.2.2 (100 + (i + 1)))) (Int32.ofNat (Γ.2.2.2 (100 + (i + 2)))) (Int32.ofNat (Γ.2.2.2 (100 + (i + 3))))) rfl (fun r_ m_ hpost => ?_)
  revert r_ m_
  intro r_ m2 hpost
  obtain ⟨rfl, g1, g0⟩ := hpost
  refine e_icmp_eq 1622 dL_law_757 rfl (fun _ => ?_) (fun h => absurd rfl h)
  exact ih _ (fr_tell R g1 g0)
set_option maxRecDepth 100000 in
set_option maxHeartbeats 600000 in
theorem s_law32 {Γ : fx_G} {nm : String} {i : Nat} (hN31 : Γ.2.2.2 98 < 2 ^ 31) (hi : i + 8 ≤ Γ.2.2.2 98) {m : fx_M} {na nd : Nat} (R : fr_R m na nd) (ih : ∀ m', fx_Rel m' → fx_E Γ (mL_law nm) 20 0 119 (fun r _ => r = some (.int 1)) 119 m' 1622 [some (.ref (Γ.2.2.2 99)), some (fx_rf Γ 0), some (fx_rf Γ 83), some (.int (nI i))] []) : fx_E Γ (mL_law nm) 20 0 119 (fun r _ => r = some (.int 1)) 119 m 1395 [some (.ref (Γ.2.2.2 99)), some (fx_rf Γ 0), some (fx_rf Γ 83), some (.int (nI i))] [] := by
  have hL := R.1
  have h8 := R.2.1.1
  have h5 := R.2.1.2
  have hna := R.2.2.1.1
  have hnd := R.2.2.1.2.1
  have hcn := R.2.2.2.2.1.1
  refine e_aload_n dL_law_1395 rfl ?_
  refine e_aload_n dL_law_1396 rfl ?_
  refine e_iload_n dL_law_1397 rfl ?_
  refine e_iconst dL_law_1398 kci_1 ?_
  refine e_iadd dL_law_1399 ?_
  refine e_xald (j := i + 1) dL_law_1400 (by rw [show (1 : Int32) = nI 1 from rfl, nI_add]) (by omega) hN31 ?_
  refine e_aload_n dL_law_1401 rfl ?_
  refine e_iload_n dL_law_1402 rfl ?_
  refine e_iconst dL_law_1403 kci_2 ?_
  refine e_iadd dL_law_1404 ?_
  refine e_xald (j := i + 2) dL_law_1405 (by rw [show (2 : Int32) = nI 2 from rfl, nI_add]) (by omega) hN31 ?_
  refine e_aload_n dL_law_1406 rfl ?_
  refine e_iload_n dL_law_1407 rfl ?_
  refine e_iconst dL_law_1408 kci_3 ?_
  refine e_iadd dL_law_1409 ?_
  refine e_xald (j := i + 3) dL_law_1410 (by rw [show (3 : Int32) = nI 3 from rfl, nI_add]) (by omega) hN31 ?_
  refine e_callV1 (μ' := mX8_mend) (ci := 8) (As := [.int (Int32.ofNat (Γ.2.2.2 (100 + (i + 1)))), .int (Int32.ofNat (Γ.2.2.2 (100 + (i + 2)))), .int (Int32.ofNat (Γ.2.2.2 (100 + (i + 3))))]) dL_law_1411 wl_L_152 ok_X8_mend rfl rfl (fx_pi_lt (by decide)) (by decide) (Nat.le_of_ble_eq_true rfl) fx_n1 (s_X8_mend (m := m) hL hna h8 hnd h5 (Int32.ofNat (Γ.2.2.2 (100 + (i + 1)))) (Int32.ofNat (Γ.2.2.2 (100 + (i + 2)))) (Int32.ofNat (Γ.2.2.2 (100 + (i + 3))))) rfl ?_
  have hm := fr_hm (M := fx_mMend m 1 (p_ix (Int32.ofNat (Γ.2.2.2 (100 + (i + 1))))) (p_ix (Int32.ofNat (Γ.2.2.2 (100 + (i + 2))))) (Int32.ofNat (Γ.2.2.2 (100 + (i + 3))))) (b := (q_mend (fx_ar m 1) (fx_dr m 1) na nd (m.1 1 5) (Int32.ofNat (Γ.2.2.2 (100 + (i + 1)))) (Int32.ofNat (Γ.2.2.2 (100 + (i + 2)))) (Int32.ofNat (Γ.2.2.2 (100 + (i + 3))))).1) R (fun e => fr_mendC R e)
  refine e_aload_n dL_law_1414 rfl ?_
  refine e_aload_n dL_law_1415 rfl ?_
  refine e_iload_n dL_law_1416 rfl ?_
  refine e_iconst dL_law_1417 kci_1 ?_
  refine e_iadd dL_law_1418 ?_
  refine e_xald (j := i + 1) dL_law_1419 (by rw [show (1 : Int32) = nI 1 from rfl, nI_add]) (by omega) hN31 ?_
  refine e_aload_n dL_law_1420 rfl ?_
  refine e_iload_n dL_law_1421 rfl ?_
  refine e_iconst dL_law_1422 kci_2 ?_
  refine e_iadd dL_law_1423 ?_
  refine e_xald (j := i + 2) dL_law_1424 (by rw [show (2 : Int32) = nI 2 from rfl, nI_add]) (by omega) hN31 ?_
  refine e_aload_n dL_law_1425 rfl ?_
  refine e_iload_n dL_law_1426 rfl ?_
  refine e_iconst dL_law_1427 kci_3 ?_
  refine e_iadd dL_law_1428 ?_
  refine e_xald (j := i + 3) dL_law_1429 (by rw [show (3 : Int32) = nI 3 from rfl, nI_add]) (by omega) hN31 ?_
  refine e_callV (μ' := mX9_mend) (ci := 9) (As := [.int (Int32.ofNat (Γ.2.2.2 (100 + (i + 1)))), .int (Int32.ofNat (Γ.2.2.2 (100 + (i + 2)))), .int (Int32.ofNat (Γ.2.2.2 (100 + (i + 3))))]) dL_law_1430 wl_L_155 ok_X9_mend rfl rfl (fx_pi_lt (by decide)) (by decide) (Nat.le_of_ble_eq_true rfl) fx_n1 (s_X9_mend (m := fx_qm m (q_mend (fx_ar m 1) (fx_dr m 1) na nd (m.1 1 5) (Int32.ofNat (Γ.2.2.2 (100 + (i + 1)))) (Int32.ofNat (Γ.2.2.2 (100 + (i + 2)))) (Int32.ofNat (Γ.2.2.2 (100 + (i + 3))))).1 (fx_mMend m 1 (p_ix (Int32.ofNat (Γ.2.2.2 (100 + (i + 1))))) (p_ix (Int32.ofNat (Γ.2.2.2 (100 + (i + 2))))) (Int32.ofNat (Γ.2.2.2 (100 + (i + 3)))))) hm.1 hm.2.1 (Int32.ofNat (Γ.2.2.2 (100 + (i + 1)))) (Int32.ofNat (Γ.2.2.2 (100 + (i + 2)))) (Int32.ofNat (Γ.2.2.2 (100 + (i + 3))))) rfl (fun r_ m_ hpost => ?_)
  revert r_ m_
  intro r_ m2 hpost
  obtain ⟨rfl, g1, g0⟩ := hpost
  refine e_icmp_eq 1622 dL_law_1433 rfl (fun _ => ?_) (fun h => absurd rfl h)
  exact ih _ (fr_mend R g1 g0)
set_option maxRecDepth 100000 in
set_option maxHeartbeats 600000 in
theorem s_law33 {Γ : fx_G} {nm : String} {i : Nat} (hN31 : Γ.2.2.2 98 < 2 ^ 31) (hi : i + 8 ≤ Γ.2.2.2 98) {m : fx_M} {na nd : Nat} (R : fr_R m na nd) (ih : ∀ m', fx_Rel m' → fx_E Γ (mL_law nm) 20 0 119 (fun r _ => r = some (.int 1)) 119 m' 1622 [some (.ref (Γ.2.2.2 99)), some (fx_rf Γ 0), some (fx_rf Γ 83), some (.int (nI i))] []) : fx_E Γ (mL_law nm) 20 0 119 (fun r _ => r = some (.int 1)) 119 m 1438 [some (.ref (Γ.2.2.2 99)), some (fx_rf Γ 0), some (fx_rf Γ 83), some (.int (nI i))] [] := by
  have hL := R.1
  have h8 := R.2.1.1
  have h5 := R.2.1.2
  have hna := R.2.2.1.1
  have hnd := R.2.2.1.2.1
  have hcn := R.2.2.2.2.1.1
  refine e_aload_n dL_law_1438 rfl ?_
  refine e_aload_n dL_law_1439 rfl ?_
  refine e_iload_n dL_law_1440 rfl ?_
  refine e_iconst dL_law_1441 kci_1 ?_
  refine e_iadd dL_law_1442 ?_
  refine e_xald (j := i + 1) dL_law_1443 (by rw [show (1 : Int32) = nI 1 from rfl, nI_add]) (by omega) hN31 ?_
  refine e_callV1 (μ' := mX8_off) (ci := 8) (As := [.int (Int32.ofNat (Γ.2.2.2 (100 + (i + 1))))]) dL_law_1444 wl_L_156 ok_X8_off rfl rfl (fx_pi_lt (by decide)) (by decide) (Nat.le_of_ble_eq_true rfl) fx_n1 (s_X8_off (m := m) hL hna h8 (Int32.ofNat (Γ.2.2.2 (100 + (i + 1))))) rfl ?_
  have hm := fr_hm (M := fx_sI m (1 + 3 + (p_ix (Int32.ofNat (Γ.2.2.2 (100 + (i + 1)))))) 6 99) (b := (q_off (fx_ar m 1) na (Int32.ofNat (Γ.2.2.2 (100 + (i + 1))))).1) R (fun e => fr_offC R e)
  refine e_aload_n dL_law_1447 rfl ?_
  refine e_aload_n dL_law_1448 rfl ?_
  refine e_iload_n dL_law_1449 rfl ?_
  refine e_iconst dL_law_1450 kci_1 ?_
  refine e_iadd dL_law_1451 ?_
  refine e_xald (j := i + 1) dL_law_1452 (by rw [show (1 : Int32) = nI 1 from rfl, nI_add]) (by omega) hN31 ?_
  refine e_callV (μ' := mX9_off) (ci := 9) (As := [.int (Int32.ofNat (Γ.2.2.2 (100 + (i + 1))))]) dL_law_1453 wl_L_159 ok_X9_off rfl rfl (fx_pi_lt (by decide)) (by decide) (Nat.le_of_ble_eq_true rfl) fx_n1 (s_X9_off (m := fx_qm m (q_off (fx_ar m 1) na (Int32.ofNat (Γ.2.2.2 (100 + (i + 1))))).1 (fx_sI m (1 + 3 + (p_ix (Int32.ofNat (Γ.2.2.2 (100 + (i + 1)))))) 6 99)) hm.1 hm.2.1 (Int32.ofNat (Γ.2.2.2 (100 + (i + 1))))) rfl (fun r_ m_ hpost => ?_)
  revert r_ m_
  intro r_ m2 hpost
  obtain ⟨rfl, g1, g0⟩ := hpost
  refine e_icmp_eq 1622 dL_law_1456 rfl (fun _ => ?_) (fun h => absurd rfl h)
  exact ih _ (fr_off R g1 g0)
set_option maxRecDepth 100000 in
set_option maxHeartbeats 600000 in
theorem s_law35 {Γ : fx_G} {nm : String} {i : Nat} (hN31 : Γ.2.2.2 98 < 2 ^ 31) (hi : i + 8 ≤ Γ.2.2.2 98) {m : fx_M} {na nd : Nat} (R : fr_R m na nd) (ih : ∀ m', fx_Rel m' → fx_E Γ (mL_law nm) 20 0 119 (fun r _ => r = some (.int 1)) 119 m' 1622 [some (.ref (Γ.2.2.2 99)), some (fx_rf Γ 0), some (fx_rf Γ 83), some (.int (nI i))] []) : fx_E Γ (mL_law nm) 20 0 119 (fun r _ => r = some (.int 1)) 119 m 1484 [some (.ref (Γ.2.2.2 99)), some (fx_rf Γ 0), some (fx_rf Γ 83), some (.int (nI i))] [] := by
  have hL := R.1
  have h8 := R.2.1.1
  have h5 := R.2.1.2
  have hna := R.2.2.1.1
  have hnd := R.2.2.1.2.1
  have hcn := R.2.2.2.2.1.1
  refine e_aload_n dL_law_1484 rfl ?_
  refine e_aload_n dL_law_1485 rfl ?_
  refine e_iload_n dL_law_1486 rfl ?_
  refine e_iconst dL_law_1487 kci_1 ?_
  refine e_iadd dL_law_1488 ?_
  refine e_xald (j := i + 1) dL_law_1489 (by rw [show (1 : Int32) = nI 1 from rfl, nI_add]) (by omega) hN31 ?_
  refine e_callV1 (μ' := mX8_seed) (ci := 8) (As := [.int (Int32.ofNat (Γ.2.2.2 (100 + (i + 1))))]) dL_law_1490 wl_L_164 ok_X8_seed rfl rfl (fx_pi_lt (by decide)) (by decide) (Nat.le_of_ble_eq_true rfl) fx_n1 (s_X8_seed (m := m) hL (Int32.ofNat (Γ.2.2.2 (100 + (i + 1))))) rfl ?_
  have hm := R.mod (fr_C1 (o := 1) (k := 7) (v := (Int32.ofNat (Γ.2.2.2 (100 + (i + 1))))) R.1 (by decide)) (fun o h => by omega) (fun _ h => h.elim)
  refine e_aload_n dL_law_1493 rfl ?_
  refine e_aload_n dL_law_1494 rfl ?_
  refine e_iload_n dL_law_1495 rfl ?_
  refine e_iconst dL_law_1496 kci_1 ?_
  refine e_iadd dL_law_1497 ?_
  refine e_xald (j := i + 1) dL_law_1498 (by rw [show (1 : Int32) = nI 1 from rfl, nI_add]) (by omega) hN31 ?_
  refine e_callV (μ' := mX9_seed) (ci := 9) (As := [.int (Int32.ofNat (Γ.2.2.2 (100 + (i + 1))))]) dL_law_1499 wl_L_167 ok_X9_seed rfl rfl (fx_pi_lt (by decide)) (by decide) (Nat.le_of_ble_eq_true rfl) fx_n1 (s_X9_seed (m := fx_sI m 1 7 (Int32.ofNat (Γ.2.2.2 (100 + (i + 1))))) hm.1 hm.2.1 (Int32.ofNat (Γ.2.2.2 (100 + (i + 1))))) rfl (fun r_ m_ hpost => ?_)
  revert r_ m_
  intro r_ m2 hpost
  obtain ⟨rfl, g0⟩ := hpost
  refine e_icmp_eq 1622 dL_law_1502 rfl (fun _ => ?_) (fun h => absurd rfl h)
  exact ih _ (fr_seed R g0)
set_option maxRecDepth 100000 in
set_option maxHeartbeats 600000 in
theorem s_law34 {Γ : fx_G} {nm : String} {i : Nat} (hN31 : Γ.2.2.2 98 < 2 ^ 31) (hi : i + 8 ≤ Γ.2.2.2 98) {m : fx_M} {na nd : Nat} (R : fr_R m na nd) (ih : ∀ m', fx_Rel m' → fx_E Γ (mL_law nm) 20 0 119 (fun r _ => r = some (.int 1)) 119 m' 1622 [some (.ref (Γ.2.2.2 99)), some (fx_rf Γ 0), some (fx_rf Γ 83), some (.int (nI i))] []) : fx_E Γ (mL_law nm) 20 0 119 (fun r _ => r = some (.int 1)) 119 m 1461 [some (.ref (Γ.2.2.2 99)), some (fx_rf Γ 0), some (fx_rf Γ 83), some (.int (nI i))] [] := by
  have hL := R.1
  have h8 := R.2.1.1
  have h5 := R.2.1.2
  have hna := R.2.2.1.1
  have hnd := R.2.2.1.2.1
  have hcn := R.2.2.2.2.1.1
  refine e_aload_n dL_law_1461 rfl ?_
  refine e_aload_n dL_law_1462 rfl ?_
  refine e_iload_n dL_law_1463 rfl ?_
  refine e_iconst dL_law_1464 kci_1 ?_
  refine e_iadd dL_law_1465 ?_
  refine e_xald (j := i + 1) dL_law_1466 (by rw [show (1 : Int32) = nI 1 from rfl, nI_add]) (by omega) hN31 ?_
  refine e_callV (μ' := mX8_days) (ci := 8) (As := [.int (Int32.ofNat (Γ.2.2.2 (100 + (i + 1))))]) dL_law_1467 wl_L_160 ok_X8_days rfl rfl (fx_pi_lt (by decide)) (by decide) (Nat.le_of_ble_eq_true rfl) fx_n1 (s_X8_days (m := m) hL h8 h5 R.H (Int32.ofNat (Γ.2.2.2 (100 + (i + 1))))) rfl (fun r_ m_ hpost => ?_)
  revert r_ m_
  intro r_ m1 hpost
  have hr : r_ = some (.int (if p_daB na nd (Int32.ofNat (Γ.2.2.2 (100 + (i + 1)))) ≠ 0 then -(nI (p_daB na nd (Int32.ofNat (Γ.2.2.2 (100 + (i + 1)))))) else (p_dys na nd (p_ix (Int32.ofNat (Γ.2.2.2 (100 + (i + 1))))) (fx_tC m)).2.2 0)) := by by_cases e : p_daB na nd (Int32.ofNat (Γ.2.2.2 (100 + (i + 1)))) = 0; (rw [if_neg (not_not_intro e)]; exact (hpost.2 e).1); (rw [if_pos e]; exact (hpost.1 e).1)
  subst hr
  have hc := And.intro (fun e => (hpost.1 e).2) (fun e => (hpost.2 e).2)
  have hm := fr_daysM R hc
  refine e_aload_n dL_law_1470 rfl ?_
  refine e_aload_n dL_law_1471 rfl ?_
  refine e_iload_n dL_law_1472 rfl ?_
  refine e_iconst dL_law_1473 kci_1 ?_
  refine e_iadd dL_law_1474 ?_
  refine e_xald (j := i + 1) dL_law_1475 (by rw [show (1 : Int32) = nI 1 from rfl, nI_add]) (by omega) hN31 ?_
  refine e_callV (μ' := mX9_days) (ci := 9) (As := [.int (Int32.ofNat (Γ.2.2.2 (100 + (i + 1))))]) dL_law_1476 wl_L_163 ok_X9_days rfl rfl (fx_pi_lt (by decide)) (by decide) (Nat.le_of_ble_eq_true rfl) fx_n1 (s_X9_days (m := m1) hm.1 hm.2.1 (Int32.ofNat (Γ.2.2.2 (100 + (i + 1))))) rfl (fun r_ m_ hpost => ?_)
  revert r_ m_
  intro r_ m2 hpost
  have hr : r_ = some (.int (if p_daB na nd (Int32.ofNat (Γ.2.2.2 (100 + (i + 1)))) ≠ 0 then -(nI (p_daB na nd (Int32.ofNat (Γ.2.2.2 (100 + (i + 1)))))) else (p_dys na nd (p_ix (Int32.ofNat (Γ.2.2.2 (100 + (i + 1))))) (fx_tC m)).2.2 0)) := by by_cases e : p_daB na nd (Int32.ofNat (Γ.2.2.2 (100 + (i + 1)))) = 0; (rw [if_neg (not_not_intro e)]; exact (hpost.2 e).1); (rw [if_pos e]; exact (hpost.1 e).1)
  subst hr
  have hd := And.intro (fun e => (hpost.1 e).2) (fun e => (hpost.2 e).2)
  refine e_icmp_eq 1622 dL_law_1479 rfl (fun _ => ?_) (fun h => absurd rfl h)
  exact ih _ (fr_days R hc hd)
set_option maxRecDepth 100000 in
set_option maxHeartbeats 600000 in
theorem s_law29 {Γ : fx_G} {nm : String} {i : Nat} (hN31 : Γ.2.2.2 98 < 2 ^ 31) (hi : i + 8 ≤ Γ.2.2.2 98) {m : fx_M} {na nd : Nat} (R : fr_R m na nd) (ih : ∀ m', fx_Rel m' → fx_E Γ (mL_law nm) 20 0 119 (fun r _ => r = some (.int 1)) 119 m' 1622 [some (.ref (Γ.2.2.2 99)), some (fx_rf Γ 0), some (fx_rf Γ 83), some (.int (nI i))] []) : fx_E Γ (mL_law nm) 20 0 119 (fun r _ => r = some (.int 1)) 119 m 1286 [some (.ref (Γ.2.2.2 99)), some (fx_rf Γ 0), some (fx_rf Γ 83), some (.int (nI i))] [] := by
  have hL := R.1
  have h8 := R.2.1.1
  have h5 := R.2.1.2
  have hna := R.2.2.1.1
  have hnd := R.2.2.1.2.1
  have hcn := R.2.2.2.2.1.1
  refine e_aload_n dL_law_1286 rfl ?_
  refine e_aload_n dL_law_1287 rfl ?_
  refine e_iload_n dL_law_1288 rfl ?_
  refine e_iconst dL_law_1289 kci_1 ?_
  refine e_iadd dL_law_1290 ?_
  refine e_xald (j := i + 1) dL_law_1291 (by rw [show (1 : Int32) = nI 1 from rfl, nI_add]) (by omega) hN31 ?_
  refine e_aload_n dL_law_1292 rfl ?_
  refine e_iload_n dL_law_1293 rfl ?_
  refine e_iconst dL_law_1294 kci_2 ?_
  refine e_iadd dL_law_1295 ?_
  refine e_xald (j := i + 2) dL_law_1296 (by rw [show (2 : Int32) = nI 2 from rfl, nI_add]) (by omega) hN31 ?_
  refine e_callV (μ' := mX8_judge) (ci := 8) (As := [.int (Int32.ofNat (Γ.2.2.2 (100 + (i + 1)))), .int (Int32.ofNat (Γ.2.2.2 (100 + (i + 2))))]) dL_law_1297 wl_L_140 ok_X8_judge rfl rfl (fx_pi_lt (by decide)) (by decide) (Nat.le_of_ble_eq_true rfl) fx_n1 (s_X8_judge (m := m) hL (cn := (fx_uC m).2.2.1) hcn h8 h5 R.H R.2.2.1.2.2.1 R.2.2.2.1.2 (rd := p_rdI (fx_uC m)) (fun _ _ _ _ => rfl) (Int32.ofNat (Γ.2.2.2 (100 + (i + 1)))) (Int32.ofNat (Γ.2.2.2 (100 + (i + 2))))) rfl (fun r_ m_ hpost => ?_)
  revert r_ m_
  intro r_ m1 hpost
  obtain ⟨rfl, f1⟩ := hpost
  have hm := fr_toldM R f1
  refine e_aload_n dL_law_1300 rfl ?_
  refine e_aload_n dL_law_1301 rfl ?_
  refine e_iload_n dL_law_1302 rfl ?_
  refine e_iconst dL_law_1303 kci_1 ?_
  refine e_iadd dL_law_1304 ?_
  refine e_xald (j := i + 1) dL_law_1305 (by rw [show (1 : Int32) = nI 1 from rfl, nI_add]) (by omega) hN31 ?_
  refine e_aload_n dL_law_1306 rfl ?_
  refine e_iload_n dL_law_1307 rfl ?_
  refine e_iconst dL_law_1308 kci_2 ?_
  refine e_iadd dL_law_1309 ?_
  refine e_xald (j := i + 2) dL_law_1310 (by rw [show (2 : Int32) = nI 2 from rfl, nI_add]) (by omega) hN31 ?_
  refine e_callV (μ' := mX9_judge) (ci := 9) (As := [.int (Int32.ofNat (Γ.2.2.2 (100 + (i + 1)))), .int (Int32.ofNat (Γ.2.2.2 (100 + (i + 2))))]) dL_law_1311 wl_L_143 ok_X9_judge rfl rfl (fx_pi_lt (by decide)) (by decide) (Nat.le_of_ble_eq_true rfl) fx_n1 (s_X9_judge (m := m1) hm.1 hm.2.1 h8 hm.2.2.1 (Int32.ofNat (Γ.2.2.2 (100 + (i + 1)))) (Int32.ofNat (Γ.2.2.2 (100 + (i + 2))))) rfl (fun r_ m_ hpost => ?_)
  revert r_ m_
  intro r_ m2 hpost
  obtain ⟨rfl, M2, K2⟩ := hpost
  refine e_icmp_eq 1622 dL_law_1314 rfl (fun _ => ?_) (fun h => absurd rfl h)
  exact ih _ ⟨na, nd, fr_told R f1 M2 K2⟩
set_option maxRecDepth 100000 in
set_option maxHeartbeats 600000 in
theorem s_law30 {Γ : fx_G} {nm : String} {i : Nat} (hN31 : Γ.2.2.2 98 < 2 ^ 31) (hi : i + 8 ≤ Γ.2.2.2 98) {m : fx_M} {na nd : Nat} (R : fr_R m na nd) (ih : ∀ m', fx_Rel m' → fx_E Γ (mL_law nm) 20 0 119 (fun r _ => r = some (.int 1)) 119 m' 1622 [some (.ref (Γ.2.2.2 99)), some (fx_rf Γ 0), some (fx_rf Γ 83), some (.int (nI i))] []) : fx_E Γ (mL_law nm) 20 0 119 (fun r _ => r = some (.int 1)) 119 m 1319 [some (.ref (Γ.2.2.2 99)), some (fx_rf Γ 0), some (fx_rf Γ 83), some (.int (nI i))] [] := by
  have hL := R.1
  have h8 := R.2.1.1
  have h5 := R.2.1.2
  have hna := R.2.2.1.1
  have hnd := R.2.2.1.2.1
  have hcn := R.2.2.2.2.1.1
  refine e_aload_n dL_law_1319 rfl ?_
  refine e_aload_n dL_law_1320 rfl ?_
  refine e_iload_n dL_law_1321 rfl ?_
  refine e_iconst dL_law_1322 kci_1 ?_
  refine e_iadd dL_law_1323 ?_
  refine e_xald (j := i + 1) dL_law_1324 (by rw [show (1 : Int32) = nI 1 from rfl, nI_add]) (by omega) hN31 ?_
  refine e_aload_n dL_law_1325 rfl ?_
  refine e_iload_n dL_law_1326 rfl ?_
  refine e_iconst dL_law_1327 kci_2 ?_
  refine e_iadd dL_law_1328 ?_
  refine e_xald (j := i + 2) dL_law_1329 (by rw [show (2 : Int32) = nI 2 from rfl, nI_add]) (by omega) hN31 ?_
  refine e_aload_n dL_law_1330 rfl ?_
  refine e_iload_n dL_law_1331 rfl ?_
  refine e_iconst dL_law_1332 kci_3 ?_
  refine e_iadd dL_law_1333 ?_
  refine e_xald (j := i + 3) dL_law_1334 (by rw [show (3 : Int32) = nI 3 from rfl, nI_add]) (by omega) hN31 ?_
  refine e_callV (μ' := mX8_behind) (ci := 8) (As := [.int (Int32.ofNat (Γ.2.2.2 (100 + (i + 1)))), .int (Int32.ofNat (Γ.2.2.2 (100 + (i + 2)))), .int (Int32.ofNat (Γ.2.2.2 (100 + (i + 3))))]) dL_law_1335 wl_L_144 ok_X8_behind rfl rfl (fx_pi_lt (by decide)) (by decide) (Nat.le_of_ble_eq_true rfl) fx_n1 (s_X8_behind (m := m) hL (cn := (fx_uC m).2.2.1) hcn h8 h5 R.H R.2.2.1.2.2.1 R.2.2.2.1.2 (rd := p_rdI (fx_uC m)) (fun _ _ _ _ => rfl) (Int32.ofNat (Γ.2.2.2 (100 + (i + 1)))) (Int32.ofNat (Γ.2.2.2 (100 + (i + 2)))) (Int32.ofNat (Γ.2.2.2 (100 + (i + 3))))) rfl (fun r_ m_ hpost => ?_)
  revert r_ m_
  intro r_ m1 hpost
  obtain ⟨rfl, f1⟩ := hpost
  have hm := fr_toldM R f1
  refine e_aload_n dL_law_1338 rfl ?_
  refine e_aload_n dL_law_1339 rfl ?_
  refine e_iload_n dL_law_1340 rfl ?_
  refine e_iconst dL_law_1341 kci_1 ?_
  refine e_iadd dL_law_1342 ?_
  refine e_xald (j := i + 1) dL_law_1343 (by rw [show (1 : Int32) = nI 1 from rfl, nI_add]) (by omega) hN31 ?_
  refine e_aload_n dL_law_1344 rfl ?_
  refine e_iload_n dL_law_1345 rfl ?_
  refine e_iconst dL_law_1346 kci_2 ?_
  refine e_iadd dL_law_1347 ?_
  refine e_xald (j := i + 2) dL_law_1348 (by rw [show (2 : Int32) = nI 2 from rfl, nI_add]) (by omega) hN31 ?_
  refine e_aload_n dL_law_1349 rfl ?_
  refine e_iload_n dL_law_1350 rfl ?_
  refine e_iconst dL_law_1351 kci_3 ?_
  refine e_iadd dL_law_1352 ?_
  refine e_xald (j := i + 3) dL_law_1353 (by rw [show (3 : Int32) = nI 3 from rfl, nI_add]) (by omega) hN31 ?_
  refine e_callV (μ' := mX9_behind) (ci := 9) (As := [.int (Int32.ofNat (Γ.2.2.2 (100 + (i + 1)))), .int (Int32.ofNat (Γ.2.2.2 (100 + (i + 2)))), .int (Int32.ofNat (Γ.2.2.2 (100 + (i + 3))))]) dL_law_1354 wl_L_147 ok_X9_behind rfl rfl (fx_pi_lt (by decide)) (by decide) (Nat.le_of_ble_eq_true rfl) fx_n1 (s_X9_behind (m := m1) hm.1 hm.2.1 h8 hm.2.2.1 (Int32.ofNat (Γ.2.2.2 (100 + (i + 1)))) (Int32.ofNat (Γ.2.2.2 (100 + (i + 2)))) (Int32.ofNat (Γ.2.2.2 (100 + (i + 3))))) rfl (fun r_ m_ hpost => ?_)
  revert r_ m_
  intro r_ m2 hpost
  obtain ⟨rfl, M2, K2⟩ := hpost
  refine e_icmp_eq 1622 dL_law_1357 rfl (fun _ => ?_) (fun h => absurd rfl h)
  exact ih _ ⟨na, nd, fr_told R f1 M2 K2⟩
set_option maxRecDepth 100000 in
set_option maxHeartbeats 600000 in
theorem s_law31 {Γ : fx_G} {nm : String} {i : Nat} (hN31 : Γ.2.2.2 98 < 2 ^ 31) (hi : i + 8 ≤ Γ.2.2.2 98) {m : fx_M} {na nd : Nat} (R : fr_R m na nd) (ih : ∀ m', fx_Rel m' → fx_E Γ (mL_law nm) 20 0 119 (fun r _ => r = some (.int 1)) 119 m' 1622 [some (.ref (Γ.2.2.2 99)), some (fx_rf Γ 0), some (fx_rf Γ 83), some (.int (nI i))] []) : fx_E Γ (mL_law nm) 20 0 119 (fun r _ => r = some (.int 1)) 119 m 1362 [some (.ref (Γ.2.2.2 99)), some (fx_rf Γ 0), some (fx_rf Γ 83), some (.int (nI i))] [] := by
  have hL := R.1
  have h8 := R.2.1.1
  have h5 := R.2.1.2
  have hna := R.2.2.1.1
  have hnd := R.2.2.1.2.1
  have hcn := R.2.2.2.2.1.1
  refine e_aload_n dL_law_1362 rfl ?_
  refine e_aload_n dL_law_1363 rfl ?_
  refine e_iload_n dL_law_1364 rfl ?_
  refine e_iconst dL_law_1365 kci_1 ?_
  refine e_iadd dL_law_1366 ?_
  refine e_xald (j := i + 1) dL_law_1367 (by rw [show (1 : Int32) = nI 1 from rfl, nI_add]) (by omega) hN31 ?_
  refine e_aload_n dL_law_1368 rfl ?_
  refine e_iload_n dL_law_1369 rfl ?_
  refine e_iconst dL_law_1370 kci_2 ?_
  refine e_iadd dL_law_1371 ?_
  refine e_xald (j := i + 2) dL_law_1372 (by rw [show (2 : Int32) = nI 2 from rfl, nI_add]) (by omega) hN31 ?_
  refine e_callV (μ' := mX8_done) (ci := 8) (As := [.int (Int32.ofNat (Γ.2.2.2 (100 + (i + 1)))), .int (Int32.ofNat (Γ.2.2.2 (100 + (i + 2))))]) dL_law_1373 wl_L_148 ok_X8_done rfl rfl (fx_pi_lt (by decide)) (by decide) (Nat.le_of_ble_eq_true rfl) fx_n1 (s_X8_done (m := m) hL (cn := (fx_uC m).2.2.1) hcn h8 h5 R.H R.2.2.1.2.2.1 R.2.2.2.1.2 (rd := p_rdI (fx_uC m)) (fun _ _ _ _ => rfl) (Int32.ofNat (Γ.2.2.2 (100 + (i + 1)))) (Int32.ofNat (Γ.2.2.2 (100 + (i + 2))))) rfl (fun r_ m_ hpost => ?_)
  revert r_ m_
  intro r_ m1 hpost
  obtain ⟨rfl, f1, f0⟩ := hpost
  have hm := fr_doneM R f1 f0
  refine e_aload_n dL_law_1376 rfl ?_
  refine e_aload_n dL_law_1377 rfl ?_
  refine e_iload_n dL_law_1378 rfl ?_
  refine e_iconst dL_law_1379 kci_1 ?_
  refine e_iadd dL_law_1380 ?_
  refine e_xald (j := i + 1) dL_law_1381 (by rw [show (1 : Int32) = nI 1 from rfl, nI_add]) (by omega) hN31 ?_
  refine e_aload_n dL_law_1382 rfl ?_
  refine e_iload_n dL_law_1383 rfl ?_
  refine e_iconst dL_law_1384 kci_2 ?_
  refine e_iadd dL_law_1385 ?_
  refine e_xald (j := i + 2) dL_law_1386 (by rw [show (2 : Int32) = nI 2 from rfl, nI_add]) (by omega) hN31 ?_
  refine e_callV (μ' := mX9_done) (ci := 9) (As := [.int (Int32.ofNat (Γ.2.2.2 (100 + (i + 1)))), .int (Int32.ofNat (Γ.2.2.2 (100 + (i + 2))))]) dL_law_1387 wl_L_151 ok_X9_done rfl rfl (fx_pi_lt (by decide)) (by decide) (Nat.le_of_ble_eq_true rfl) fx_n1 (s_X9_done (m := m1) hm.1 hm.2.1 h8 hm.2.2.1 (Int32.ofNat (Γ.2.2.2 (100 + (i + 1)))) (Int32.ofNat (Γ.2.2.2 (100 + (i + 2))))) rfl (fun r_ m_ hpost => ?_)
  revert r_ m_
  intro r_ m2 hpost
  obtain ⟨rfl, g1, g0⟩ := hpost
  refine e_icmp_eq 1622 dL_law_1390 rfl (fun _ => ?_) (fun h => absurd rfl h)
  exact ih _ (fr_done R f1 f0 g1 g0 (p_sp.tl h5 _ _ _ R.sp))
