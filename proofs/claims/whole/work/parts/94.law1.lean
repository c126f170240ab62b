abbrev mL_law (nm : String) : fx_MD := (⟨RL, nm, "([I)Z"⟩, cL_law, 4, some .boolean)
theorem fr_R.kd {m : fx_M} {na nd : Nat} (R : fr_R m na nd) : ∀ x, x < na → ∃ kk : Nat, kk ≤ 6 ∧ m.1 (1 + 3 + x) 0 = nI kk := fun x hx => by
  have g := (R.2.2.1.2.2.2.1.2.2.2.2.2.2.2.1 x hx).1
  obtain ⟨j, hj, e⟩ := nI_of (x := m.1 (1 + 3 + x) 0) (Int32.not_lt.mpr g.1)
  refine ⟨j, ?_, e⟩
  have g2 : m.1 (1 + 3 + x) 0 ≤ 6 := g.2
  rw [e] at g2
  exact (nI_leI (b := 6) hj (by decide)).mp g2
theorem fr_R.day {m : fx_M} {na nd : Nat} (R : fr_R m na nd) : ∀ d, d < nd → p_in (m.1 (1 + 11 + d) 7) 0 99 := fun d hd => (R.2.2.1.2.2.2.1.2.2.2.2.2.2.2.2 d hd).2.2.2.2.2.2.2
theorem fr_T.bod {m : fx_M} (T : fr_T m) (i : Int32) : p_bod (m.1 66) (m.1 65 0) i = p_bod (m.1 118) (m.1 83 49) i := by
  obtain ⟨l, a, b⟩ := T
  unfold p_bod
  rw [a.1, b.1]
  by_cases c : 0 ≤ i ∧ i < nI l.length ∧ i < 20
  · rw [if_pos c, if_pos c]
    obtain ⟨j, hj, rfl⟩ := nI_of (x := i) (Int32.not_lt.mpr c.1)
    rw [nI_clamp hj]
    have hl : j < l.length := by
      rcases Nat.lt_or_ge l.length (2 ^ 31) with q | q
      · exact (nI_ltI hj q).mp c.2.1
      · omega
    rw [a.2 j _ (List.getElem?_eq_getElem hl), b.2 j _ (List.getElem?_eq_getElem hl)]
  · rw [if_neg c, if_neg c]
theorem fr_T.ran {m : fx_M} (T : fr_T m) : m.1 65 0 = m.1 83 49 := by
  obtain ⟨l, a, b⟩ := T
  rw [a.1, b.1]
theorem fr_stat {m : fx_M} {na nd : Nat} (R : fr_R m na nd) (w : Int32) : q_status (fx_ar m 1) na nd (fun k => m.1 1 (4 + k)) (m.1 50) (m.1 65 0) w = q_status (fx_tC m).1 na nd (fx_tC m).2.2 (m.1 84) (m.1 83 49) w := by
  rw [fr_T.ran R.2.2.2.2.2.2.2.1, show m.1 50 = m.1 84 from funext R.2.2.2.2.2.1]
  rfl
set_option maxRecDepth 100000 in
set_option maxHeartbeats 600000 in
theorem s_law6 {Γ : fx_G} {nm : String} {i : Nat} (hN31 : Γ.2.2.2 98 < 2 ^ 31) (hi : i + 8 ≤ Γ.2.2.2 98) {m : fx_M} {na nd : Nat} (R : fr_R m na nd) (ih : ∀ m', fx_Rel m' → fx_E Γ (mL_law nm) 20 0 119 (fun r _ => r = some (.int 1)) 119 m' 1622 [some (.ref (Γ.2.2.2 99)), some (fx_rf Γ 0), some (fx_rf Γ 83), some (.int (nI i))] []) : fx_E Γ (mL_law nm) 20 0 119 (fun r _ => r = some (.int 1)) 119 m 481 [some (.ref (Γ.2.2.2 99)), some (fx_rf Γ 0), some (fx_rf Γ 83), some (.int (nI i))] [] := by
  have hL := R.1
  have h8 := R.2.1.1
  have h5 := R.2.1.2
  have hna := R.2.2.1.1
  have hnd := R.2.2.1.2.1
  have hcn := R.2.2.2.2.1.1
  refine e_aload_n dL_law_481 rfl ?_
  refine e_aload_n dL_law_482 rfl ?_
  refine e_iload_n dL_law_483 rfl ?_
  refine e_iconst dL_law_484 kci_1 ?_
  refine e_iadd dL_law_485 ?_
  refine e_xald (j := i + 1) dL_law_486 (by rw [show (1 : Int32) = nI 1 from rfl, nI_add]) (by omega) hN31 ?_
  refine e_aload_n dL_law_487 rfl ?_
  refine e_iload_n dL_law_488 rfl ?_
  refine e_iconst dL_law_489 kci_2 ?_
  refine e_iadd dL_law_490 ?_
  refine e_xald (j := i + 2) dL_law_491 (by rw [show (2 : Int32) = nI 2 from rfl, nI_add]) (by omega) hN31 ?_
  refine e_callV1 (μ' := mX8_says) (ci := 8) (As := [.int (Int32.ofNat (Γ.2.2.2 (100 + (i + 1)))), .int (Int32.ofNat (Γ.2.2.2 (100 + (i + 2))))]) dL_law_492 wl_L_45 ok_X8_says rfl rfl (fx_pi_lt (by decide)) (by decide) (Nat.le_of_ble_eq_true rfl) fx_n1 (s_X8_says (m := m) hL hna h8 R.kd (Int32.ofNat (Γ.2.2.2 (100 + (i + 1)))) (Int32.ofNat (Γ.2.2.2 (100 + (i + 2))))) rfl ?_
  have hm := R.mod (fr_C.no R.1 (q_says (fx_ar m 1) na (fun k => m.1 (67 + 2 * k) 1) (fun k => m.1 (67 + 2 * k) 3) (Int32.ofNat (Γ.2.2.2 (100 + (i + 1)))) (Int32.ofNat (Γ.2.2.2 (100 + (i + 2))))).1) (fun o h => by omega) (fun _ h => h.elim)
  refine e_aload_n dL_law_495 rfl ?_
  refine e_aload_n dL_law_496 rfl ?_
  refine e_iload_n dL_law_497 rfl ?_
  refine e_iconst dL_law_498 kci_1 ?_
  refine e_iadd dL_law_499 ?_
  refine e_xald (j := i + 1) dL_law_500 (by rw [show (1 : Int32) = nI 1 from rfl, nI_add]) (by omega) hN31 ?_
  refine e_aload_n dL_law_501 rfl ?_
  refine e_iload_n dL_law_502 rfl ?_
  refine e_iconst dL_law_503 kci_2 ?_
  refine e_iadd dL_law_504 ?_
  refine e_xald (j := i + 2) dL_law_505 (by rw [show (2 : Int32) = nI 2 from rfl, nI_add]) (by omega) hN31 ?_
  refine e_callV1 (μ' := mX9_says) (ci := 9) (As := [.int (Int32.ofNat (Γ.2.2.2 (100 + (i + 1)))), .int (Int32.ofNat (Γ.2.2.2 (100 + (i + 2))))]) dL_law_506 wl_L_48 ok_X9_says rfl rfl (fx_pi_lt (by decide)) (by decide) (Nat.le_of_ble_eq_true rfl) fx_n1 (s_X9_says (m := fx_no m (q_says (fx_ar m 1) na (fun k => m.1 (67 + 2 * k) 1) (fun k => m.1 (67 + 2 * k) 3) (Int32.ofNat (Γ.2.2.2 (100 + (i + 1)))) (Int32.ofNat (Γ.2.2.2 (100 + (i + 2))))).1) hm.1 hm.2.1 hm.2.2.1 (Int32.ofNat (Γ.2.2.2 (100 + (i + 1)))) (Int32.ofNat (Γ.2.2.2 (100 + (i + 2))))) rfl ?_
  refine e_icmp_eq 1622 dL_law_509 rfl (fun _ => ?_) (fun h => absurd rfl h)
  exact ih _ ⟨na, nd, R.q _⟩
set_option maxRecDepth 100000 in
set_option maxHeartbeats 600000 in
theorem s_law11 {Γ : fx_G} {nm : String} {i : Nat} (hN31 : Γ.2.2.2 98 < 2 ^ 31) (hi : i + 8 ≤ Γ.2.2.2 98) {m : fx_M} {na nd : Nat} (R : fr_R m na nd) (ih : ∀ m', fx_Rel m' → fx_E Γ (mL_law nm) 20 0 119 (fun r _ => r = some (.int 1)) 119 m' 1622 [some (.ref (Γ.2.2.2 99)), some (fx_rf Γ 0), some (fx_rf Γ 83), some (.int (nI i))] []) : fx_E Γ (mL_law nm) 20 0 119 (fun r _ => r = some (.int 1)) 119 m 762 [some (.ref (Γ.2.2.2 99)), some (fx_rf Γ 0), some (fx_rf Γ 83), some (.int (nI i))] [] := by
  have hL := R.1
  have h8 := R.2.1.1
  have h5 := R.2.1.2
  have hna := R.2.2.1.1
  have hnd := R.2.2.1.2.1
  have hcn := R.2.2.2.2.1.1
  refine e_aload_n dL_law_762 rfl ?_
  refine e_aload_n dL_law_763 rfl ?_
  refine e_iload_n dL_law_764 rfl ?_
  refine e_iconst dL_law_765 kci_1 ?_
  refine e_iadd dL_law_766 ?_
  refine e_xald (j := i + 1) dL_law_767 (by rw [show (1 : Int32) = nI 1 from rfl, nI_add]) (by omega) hN31 ?_
  refine e_aload_n dL_law_768 rfl ?_
  refine e_iload_n dL_law_769 rfl ?_
  refine e_iconst dL_law_770 kci_2 ?_
  refine e_iadd dL_law_771 ?_
  refine e_xald (j := i + 2) dL_law_772 (by rw [show (2 : Int32) = nI 2 from rfl, nI_add]) (by omega) hN31 ?_
  refine e_callV1 (μ' := mX8_armOf) (ci := 8) (As := [.int (Int32.ofNat (Γ.2.2.2 (100 + (i + 1)))), .int (Int32.ofNat (Γ.2.2.2 (100 + (i + 2))))]) dL_law_773 wl_L_67 ok_X8_armOf rfl rfl (fx_pi_lt (by decide)) (by decide) (Nat.le_of_ble_eq_true rfl) fx_n1 (s_X8_armOf (m := m) hL hna h8 (Int32.ofNat (Γ.2.2.2 (100 + (i + 1)))) (Int32.ofNat (Γ.2.2.2 (100 + (i + 2))))) rfl ?_
  have hm := R.mod (fr_C.no R.1 (q_armOf (fx_ar m 1) na (Int32.ofNat (Γ.2.2.2 (100 + (i + 1)))) (Int32.ofNat (Γ.2.2.2 (100 + (i + 2))))).1) (fun o h => by omega) (fun _ h => h.elim)
  refine e_aload_n dL_law_776 rfl ?_
  refine e_aload_n dL_law_777 rfl ?_
  refine e_iload_n dL_law_778 rfl ?_
  refine e_iconst dL_law_779 kci_1 ?_
  refine e_iadd dL_law_780 ?_
  refine e_xald (j := i + 1) dL_law_781 (by rw [show (1 : Int32) = nI 1 from rfl, nI_add]) (by omega) hN31 ?_
  refine e_aload_n dL_law_782 rfl ?_
  refine e_iload_n dL_law_783 rfl ?_
  refine e_iconst dL_law_784 kci_2 ?_
  refine e_iadd dL_law_785 ?_
  refine e_xald (j := i + 2) dL_law_786 (by rw [show (2 : Int32) = nI 2 from rfl, nI_add]) (by omega) hN31 ?_
  refine e_callV1 (μ' := mX9_armOf) (ci := 9) (As := [.int (Int32.ofNat (Γ.2.2.2 (100 + (i + 1)))), .int (Int32.ofNat (Γ.2.2.2 (100 + (i + 2))))]) dL_law_787 wl_L_70 ok_X9_armOf rfl rfl (fx_pi_lt (by decide)) (by decide) (Nat.le_of_ble_eq_true rfl) fx_n1 (s_X9_armOf (m := fx_no m (q_armOf (fx_ar m 1) na (Int32.ofNat (Γ.2.2.2 (100 + (i + 1)))) (Int32.ofNat (Γ.2.2.2 (100 + (i + 2))))).1) hm.1 hm.2.1 (Int32.ofNat (Γ.2.2.2 (100 + (i + 1)))) (Int32.ofNat (Γ.2.2.2 (100 + (i + 2))))) rfl ?_
  refine e_icmp_eq 1622 dL_law_790 rfl (fun _ => ?_) (fun h => absurd rfl h)
  exact ih _ ⟨na, nd, R.q _⟩
set_option maxRecDepth 100000 in
set_option maxHeartbeats 600000 in
theorem s_law12 {Γ : fx_G} {nm : String} {i : Nat} (hN31 : Γ.2.2.2 98 < 2 ^ 31) (hi : i + 8 ≤ Γ.2.2.2 98) {m : fx_M} {na nd : Nat} (R : fr_R m na nd) (ih : ∀ m', fx_Rel m' → fx_E Γ (mL_law nm) 20 0 119 (fun r _ => r = some (.int 1)) 119 m' 1622 [some (.ref (Γ.2.2.2 99)), some (fx_rf Γ 0), some (fx_rf Γ 83), some (.int (nI i))] []) : fx_E Γ (mL_law nm) 20 0 119 (fun r _ => r = some (.int 1)) 119 m 795 [some (.ref (Γ.2.2.2 99)), some (fx_rf Γ 0), some (fx_rf Γ 83), some (.int (nI i))] [] := by
  have hL := R.1
  have h8 := R.2.1.1
  have h5 := R.2.1.2
  have hna := R.2.2.1.1
  have hnd := R.2.2.1.2.1
  have hcn := R.2.2.2.2.1.1
  refine e_aload_n dL_law_795 rfl ?_
  refine e_aload_n dL_law_796 rfl ?_
  refine e_iload_n dL_law_797 rfl ?_
  refine e_iconst dL_law_798 kci_1 ?_
  refine e_iadd dL_law_799 ?_
  refine e_xald (j := i + 1) dL_law_800 (by rw [show (1 : Int32) = nI 1 from rfl, nI_add]) (by omega) hN31 ?_
  refine e_aload_n dL_law_801 rfl ?_
  refine e_iload_n dL_law_802 rfl ?_
  refine e_iconst dL_law_803 kci_2 ?_
  refine e_iadd dL_law_804 ?_
  refine e_xald (j := i + 2) dL_law_805 (by rw [show (2 : Int32) = nI 2 from rfl, nI_add]) (by omega) hN31 ?_
  refine e_callV1 (μ' := mX8_dollOf) (ci := 8) (As := [.int (Int32.ofNat (Γ.2.2.2 (100 + (i + 1)))), .int (Int32.ofNat (Γ.2.2.2 (100 + (i + 2))))]) dL_law_806 wl_L_71 ok_X8_dollOf rfl rfl (fx_pi_lt (by decide)) (by decide) (Nat.le_of_ble_eq_true rfl) fx_n1 (s_X8_dollOf (m := m) hL hna h8 hnd h5 (Int32.ofNat (Γ.2.2.2 (100 + (i + 1)))) (Int32.ofNat (Γ.2.2.2 (100 + (i + 2))))) rfl ?_
  have hm := R.mod (fr_C.no R.1 (q_dollOf (fx_ar m 1) (fx_dr m 1) na nd (Int32.ofNat (Γ.2.2.2 (100 + (i + 1)))) (Int32.ofNat (Γ.2.2.2 (100 + (i + 2))))).1) (fun o h => by omega) (fun _ h => h.elim)
  refine e_aload_n dL_law_809 rfl ?_
  refine e_aload_n dL_law_810 rfl ?_
  refine e_iload_n dL_law_811 rfl ?_
  refine e_iconst dL_law_812 kci_1 ?_
  refine e_iadd dL_law_813 ?_
  refine e_xald (j := i + 1) dL_law_814 (by rw [show (1 : Int32) = nI 1 from rfl, nI_add]) (by omega) hN31 ?_
  refine e_aload_n dL_law_815 rfl ?_
  refine e_iload_n dL_law_816 rfl ?_
  refine e_iconst dL_law_817 kci_2 ?_
  refine e_iadd dL_law_818 ?_
  refine e_xald (j := i + 2) dL_law_819 (by rw [show (2 : Int32) = nI 2 from rfl, nI_add]) (by omega) hN31 ?_
  refine e_callV1 (μ' := mX9_dollOf) (ci := 9) (As := [.int (Int32.ofNat (Γ.2.2.2 (100 + (i + 1)))), .int (Int32.ofNat (Γ.2.2.2 (100 + (i + 2))))]) dL_law_820 wl_L_74 ok_X9_dollOf rfl rfl (fx_pi_lt (by decide)) (by decide) (Nat.le_of_ble_eq_true rfl) fx_n1 (s_X9_dollOf (m := fx_no m (q_dollOf (fx_ar m 1) (fx_dr m 1) na nd (Int32.ofNat (Γ.2.2.2 (100 + (i + 1)))) (Int32.ofNat (Γ.2.2.2 (100 + (i + 2))))).1) hm.1 hm.2.1 (Int32.ofNat (Γ.2.2.2 (100 + (i + 1)))) (Int32.ofNat (Γ.2.2.2 (100 + (i + 2))))) rfl ?_
  refine e_icmp_eq 1622 dL_law_823 rfl (fun _ => ?_) (fun h => absurd rfl h)
  exact ih _ ⟨na, nd, R.q _⟩
set_option maxRecDepth 100000 in
set_option maxHeartbeats 600000 in
theorem s_law16 {Γ : fx_G} {nm : String} {i : Nat} (hN31 : Γ.2.2.2 98 < 2 ^ 31) (hi : i + 8 ≤ Γ.2.2.2 98) {m : fx_M} {na nd : Nat} (R : fr_R m na nd) (ih : ∀ m', fx_Rel m' → fx_E Γ (mL_law nm) 20 0 119 (fun r _ => r = some (.int 1)) 119 m' 1622 [some (.ref (Γ.2.2.2 99)), some (fx_rf Γ 0), some (fx_rf Γ 83), some (.int (nI i))] []) : fx_E Γ (mL_law nm) 20 0 119 (fun r _ => r = some (.int 1)) 119 m 897 [some (.ref (Γ.2.2.2 99)), some (fx_rf Γ 0), some (fx_rf Γ 83), some (.int (nI i))] [] := by
  have hL := R.1
  have h8 := R.2.1.1
  have h5 := R.2.1.2
  have hna := R.2.2.1.1
  have hnd := R.2.2.1.2.1
  have hcn := R.2.2.2.2.1.1
  refine e_aload_n dL_law_897 rfl ?_
  refine e_aload_n dL_law_898 rfl ?_
  refine e_iload_n dL_law_899 rfl ?_
  refine e_iconst dL_law_900 kci_1 ?_
  refine e_iadd dL_law_901 ?_
  refine e_xald (j := i + 1) dL_law_902 (by rw [show (1 : Int32) = nI 1 from rfl, nI_add]) (by omega) hN31 ?_
  refine e_aload_n dL_law_903 rfl ?_
  refine e_iload_n dL_law_904 rfl ?_
  refine e_iconst dL_law_905 kci_2 ?_
  refine e_iadd dL_law_906 ?_
  refine e_xald (j := i + 2) dL_law_907 (by rw [show (2 : Int32) = nI 2 from rfl, nI_add]) (by omega) hN31 ?_
  refine e_aload_n dL_law_908 rfl ?_
  refine e_iload_n dL_law_909 rfl ?_
  refine e_iconst dL_law_910 kci_3 ?_
  refine e_iadd dL_law_911 ?_
  refine e_xald (j := i + 3) dL_law_912 (by rw [show (3 : Int32) = nI 3 from rfl, nI_add]) (by omega) hN31 ?_
  refine e_callV1 (μ' := mX8_fits) (ci := 8) (As := [.int (Int32.ofNat (Γ.2.2.2 (100 + (i + 1)))), .int (Int32.ofNat (Γ.2.2.2 (100 + (i + 2)))), .int (Int32.ofNat (Γ.2.2.2 (100 + (i + 3))))]) dL_law_913 wl_L_88 ok_X8_fits rfl rfl (fx_pi_lt (by decide)) (by decide) (Nat.le_of_ble_eq_true rfl) fx_n1 (s_X8_fits (m := m) hL hna h8 hnd h5 (Int32.ofNat (Γ.2.2.2 (100 + (i + 1)))) (Int32.ofNat (Γ.2.2.2 (100 + (i + 2)))) (Int32.ofNat (Γ.2.2.2 (100 + (i + 3))))) rfl ?_
  have hm := R.mod (fr_C.no R.1 (q_fits (fx_ar m 1) (fx_dr m 1) na nd (Int32.ofNat (Γ.2.2.2 (100 + (i + 1)))) (Int32.ofNat (Γ.2.2.2 (100 + (i + 2)))) (Int32.ofNat (Γ.2.2.2 (100 + (i + 3))))).1) (fun o h => by omega) (fun _ h => h.elim)
  refine e_aload_n dL_law_916 rfl ?_
  refine e_aload_n dL_law_917 rfl ?_
  refine e_iload_n dL_law_918 rfl ?_
  refine e_iconst dL_law_919 kci_1 ?_
  refine e_iadd dL_law_920 ?_
  refine e_xald (j := i + 1) dL_law_921 (by rw [show (1 : Int32) = nI 1 from rfl, nI_add]) (by omega) hN31 ?_
  refine e_aload_n dL_law_922 rfl ?_
  refine e_iload_n dL_law_923 rfl ?_
  refine e_iconst dL_law_924 kci_2 ?_
  refine e_iadd dL_law_925 ?_
  refine e_xald (j := i + 2) dL_law_926 (by rw [show (2 : Int32) = nI 2 from rfl, nI_add]) (by omega) hN31 ?_
  refine e_aload_n dL_law_927 rfl ?_
  refine e_iload_n dL_law_928 rfl ?_
  refine e_iconst dL_law_929 kci_3 ?_
  refine e_iadd dL_law_930 ?_
  refine e_xald (j := i + 3) dL_law_931 (by rw [show (3 : Int32) = nI 3 from rfl, nI_add]) (by omega) hN31 ?_
  refine e_callV1 (μ' := mX9_fits) (ci := 9) (As := [.int (Int32.ofNat (Γ.2.2.2 (100 + (i + 1)))), .int (Int32.ofNat (Γ.2.2.2 (100 + (i + 2)))), .int (Int32.ofNat (Γ.2.2.2 (100 + (i + 3))))]) dL_law_932 wl_L_91 ok_X9_fits rfl rfl (fx_pi_lt (by decide)) (by decide) (Nat.le_of_ble_eq_true rfl) fx_n1 (s_X9_fits (m := fx_no m (q_fits (fx_ar m 1) (fx_dr m 1) na nd (Int32.ofNat (Γ.2.2.2 (100 + (i + 1)))) (Int32.ofNat (Γ.2.2.2 (100 + (i + 2)))) (Int32.ofNat (Γ.2.2.2 (100 + (i + 3))))).1) hm.1 hm.2.1 (Int32.ofNat (Γ.2.2.2 (100 + (i + 1)))) (Int32.ofNat (Γ.2.2.2 (100 + (i + 2)))) (Int32.ofNat (Γ.2.2.2 (100 + (i + 3))))) rfl ?_
  refine e_icmp_eq 1622 dL_law_935 rfl (fun _ => ?_) (fun h => absurd rfl h)
  exact ih _ ⟨na, nd, R.q _⟩
set_option maxRecDepth 100000 in
set_option maxHeartbeats 600000 in
theorem s_law17 {Γ : fx_G} {nm : String} {i : Nat} (hN31 : Γ.2.2.2 98 < 2 ^ 31) (hi : i + 8 ≤ Γ.2.2.2 98) {m : fx_M} {na nd : Nat} (R : fr_R m na nd) (ih : ∀ m', fx_Rel m' → fx_E Γ (mL_law nm) 20 0 119 (fun r _ => r = some (.int 1)) 119 m' 1622 [some (.ref (Γ.2.2.2 99)), some (fx_rf Γ 0), some (fx_rf Γ 83), some (.int (nI i))] []) : fx_E Γ (mL_law nm) 20 0 119 (fun r _ => r = some (.int 1)) 119 m 940 [some (.ref (Γ.2.2.2 99)), some (fx_rf Γ 0), some (fx_rf Γ 83), some (.int (nI i))] [] := by
  have hL := R.1
  have h8 := R.2.1.1
  have h5 := R.2.1.2
  have hna := R.2.2.1.1
  have hnd := R.2.2.1.2.1
  have hcn := R.2.2.2.2.1.1
  refine e_aload_n dL_law_940 rfl ?_
  refine e_aload_n dL_law_941 rfl ?_
  refine e_iload_n dL_law_942 rfl ?_
  refine e_iconst dL_law_943 kci_1 ?_
  refine e_iadd dL_law_944 ?_
  refine e_xald (j := i + 1) dL_law_945 (by rw [show (1 : Int32) = nI 1 from rfl, nI_add]) (by omega) hN31 ?_
  refine e_aload_n dL_law_946 rfl ?_
  refine e_iload_n dL_law_947 rfl ?_
  refine e_iconst dL_law_948 kci_2 ?_
  refine e_iadd dL_law_949 ?_
  refine e_xald (j := i + 2) dL_law_950 (by rw [show (2 : Int32) = nI 2 from rfl, nI_add]) (by omega) hN31 ?_
  refine e_callV1 (μ' := mX8_unlike) (ci := 8) (As := [.int (Int32.ofNat (Γ.2.2.2 (100 + (i + 1)))), .int (Int32.ofNat (Γ.2.2.2 (100 + (i + 2))))]) dL_law_951 wl_L_92 ok_X8_unlike rfl rfl (fx_pi_lt (by decide)) (by decide) (Nat.le_of_ble_eq_true rfl) fx_n1 (s_X8_unlike (m := m) hL hna h8 hnd h5 (Int32.ofNat (Γ.2.2.2 (100 + (i + 1)))) (Int32.ofNat (Γ.2.2.2 (100 + (i + 2))))) rfl ?_
  have hm := R.mod (fr_C.no R.1 (q_unlike (fx_ar m 1) (fx_dr m 1) na nd (Int32.ofNat (Γ.2.2.2 (100 + (i + 1)))) (Int32.ofNat (Γ.2.2.2 (100 + (i + 2))))).1) (fun o h => by omega) (fun _ h => h.elim)
  refine e_aload_n dL_law_954 rfl ?_
  refine e_aload_n dL_law_955 rfl ?_
  refine e_iload_n dL_law_956 rfl ?_
  refine e_iconst dL_law_957 kci_1 ?_
  refine e_iadd dL_law_958 ?_
  refine e_xald (j := i + 1) dL_law_959 (by rw [show (1 : Int32) = nI 1 from rfl, nI_add]) (by omega) hN31 ?_
  refine e_aload_n dL_law_960 rfl ?_
  refine e_iload_n dL_law_961 rfl ?_
  refine e_iconst dL_law_962 kci_2 ?_
  refine e_iadd dL_law_963 ?_
  refine e_xald (j := i + 2) dL_law_964 (by rw [show (2 : Int32) = nI 2 from rfl, nI_add]) (by omega) hN31 ?_
  refine e_callV1 (μ' := mX9_unlike) (ci := 9) (As := [.int (Int32.ofNat (Γ.2.2.2 (100 + (i + 1)))), .int (Int32.ofNat (Γ.2.2.2 (100 + (i + 2))))]) dL_law_965 wl_L_95 ok_X9_unlike rfl rfl (fx_pi_lt (by decide)) (by decide) (Nat.le_of_ble_eq_true rfl) fx_n1 (s_X9_unlike (m := fx_no m (q_unlike (fx_ar m 1) (fx_dr m 1) na nd (Int32.ofNat (Γ.2.2.2 (100 + (i + 1)))) (Int32.ofNat (Γ.2.2.2 (100 + (i + 2))))).1) hm.1 hm.2.1 (Int32.ofNat (Γ.2.2.2 (100 + (i + 1)))) (Int32.ofNat (Γ.2.2.2 (100 + (i + 2))))) rfl ?_
  refine e_icmp_eq 1622 dL_law_968 rfl (fun _ => ?_) (fun h => absurd rfl h)
  exact ih _ ⟨na, nd, R.q _⟩
set_option maxRecDepth 100000 in
set_option maxHeartbeats 600000 in
theorem s_law18 {Γ : fx_G} {nm : String} {i : Nat} (hN31 : Γ.2.2.2 98 < 2 ^ 31) (hi : i + 8 ≤ Γ.2.2.2 98) {m : fx_M} {na nd : Nat} (R : fr_R m na nd) (ih : ∀ m', fx_Rel m' → fx_E Γ (mL_law nm) 20 0 119 (fun r _ => r = some (.int 1)) 119 m' 1622 [some (.ref (Γ.2.2.2 99)), some (fx_rf Γ 0), some (fx_rf Γ 83), some (.int (nI i))] []) : fx_E Γ (mL_law nm) 20 0 119 (fun r _ => r = some (.int 1)) 119 m 973 [some (.ref (Γ.2.2.2 99)), some (fx_rf Γ 0), some (fx_rf Γ 83), some (.int (nI i))] [] := by
  have hL := R.1
  have h8 := R.2.1.1
  have h5 := R.2.1.2
  have hna := R.2.2.1.1
  have hnd := R.2.2.1.2.1
  have hcn := R.2.2.2.2.1.1
  refine e_aload_n dL_law_973 rfl ?_
  refine e_aload_n dL_law_974 rfl ?_
  refine e_iload_n dL_law_975 rfl ?_
  refine e_iconst dL_law_976 kci_1 ?_
  refine e_iadd dL_law_977 ?_
  refine e_xald (j := i + 1) dL_law_978 (by rw [show (1 : Int32) = nI 1 from rfl, nI_add]) (by omega) hN31 ?_
  refine e_aload_n dL_law_979 rfl ?_
  refine e_iload_n dL_law_980 rfl ?_
  refine e_iconst dL_law_981 kci_2 ?_
  refine e_iadd dL_law_982 ?_
  refine e_xald (j := i + 2) dL_law_983 (by rw [show (2 : Int32) = nI 2 from rfl, nI_add]) (by omega) hN31 ?_
  refine e_callV1 (μ' := mX8_may) (ci := 8) (As := [.int (Int32.ofNat (Γ.2.2.2 (100 + (i + 1)))), .int (Int32.ofNat (Γ.2.2.2 (100 + (i + 2))))]) dL_law_984 wl_L_96 ok_X8_may rfl rfl (fx_pi_lt (by decide)) (by decide) (Nat.le_of_ble_eq_true rfl) fx_n1 (s_X8_may (m := m) hL hna h8 hnd h5 (Int32.ofNat (Γ.2.2.2 (100 + (i + 1)))) (Int32.ofNat (Γ.2.2.2 (100 + (i + 2))))) rfl ?_
  have hm := R.mod (fr_C.no R.1 (q_may (fx_ar m 1) (fx_dr m 1) na nd (Int32.ofNat (Γ.2.2.2 (100 + (i + 1)))) (Int32.ofNat (Γ.2.2.2 (100 + (i + 2))))).1) (fun o h => by omega) (fun _ h => h.elim)
  refine e_aload_n dL_law_987 rfl ?_
  refine e_aload_n dL_law_988 rfl ?_
  refine e_iload_n dL_law_989 rfl ?_
  refine e_iconst dL_law_990 kci_1 ?_
  refine e_iadd dL_law_991 ?_
  refine e_xald (j := i + 1) dL_law_992 (by rw [show (1 : Int32) = nI 1 from rfl, nI_add]) (by omega) hN31 ?_
  refine e_aload_n dL_law_993 rfl ?_
  refine e_iload_n dL_law_994 rfl ?_
  refine e_iconst dL_law_995 kci_2 ?_
  refine e_iadd dL_law_996 ?_
  refine e_xald (j := i + 2) dL_law_997 (by rw [show (2 : Int32) = nI 2 from rfl, nI_add]) (by omega) hN31 ?_
  refine e_callV1 (μ' := mX9_may) (ci := 9) (As := [.int (Int32.ofNat (Γ.2.2.2 (100 + (i + 1)))), .int (Int32.ofNat (Γ.2.2.2 (100 + (i + 2))))]) dL_law_998 wl_L_99 ok_X9_may rfl rfl (fx_pi_lt (by decide)) (by decide) (Nat.le_of_ble_eq_true rfl) fx_n1 (s_X9_may (m := fx_no m (q_may (fx_ar m 1) (fx_dr m 1) na nd (Int32.ofNat (Γ.2.2.2 (100 + (i + 1)))) (Int32.ofNat (Γ.2.2.2 (100 + (i + 2))))).1) hm.1 hm.2.1 (Int32.ofNat (Γ.2.2.2 (100 + (i + 1)))) (Int32.ofNat (Γ.2.2.2 (100 + (i + 2))))) rfl ?_
  refine e_icmp_eq 1622 dL_law_1001 rfl (fun _ => ?_) (fun h => absurd rfl h)
  exact ih _ ⟨na, nd, R.q _⟩
set_option maxRecDepth 100000 in
set_option maxHeartbeats 600000 in
theorem s_law19 {Γ : fx_G} {nm : String} {i : Nat} (hN31 : Γ.2.2.2 98 < 2 ^ 31) (hi : i + 8 ≤ Γ.2.2.2 98) {m : fx_M} {na nd : Nat} (R : fr_R m na nd) (ih : ∀ m', fx_Rel m' → fx_E Γ (mL_law nm) 20 0 119 (fun r _ => r = some (.int 1)) 119 m' 1622 [some (.ref (Γ.2.2.2 99)), some (fx_rf Γ 0), some (fx_rf Γ 83), some (.int (nI i))] []) : fx_E Γ (mL_law nm) 20 0 119 (fun r _ => r = some (.int 1)) 119 m 1006 [some (.ref (Γ.2.2.2 99)), some (fx_rf Γ 0), some (fx_rf Γ 83), some (.int (nI i))] [] := by
  have hL := R.1
  have h8 := R.2.1.1
  have h5 := R.2.1.2
  have hna := R.2.2.1.1
  have hnd := R.2.2.1.2.1
  have hcn := R.2.2.2.2.1.1
  refine e_aload_n dL_law_1006 rfl ?_
  refine e_aload_n dL_law_1007 rfl ?_
  refine e_iload_n dL_law_1008 rfl ?_
  refine e_iconst dL_law_1009 kci_1 ?_
  refine e_iadd dL_law_1010 ?_
  refine e_xald (j := i + 1) dL_law_1011 (by rw [show (1 : Int32) = nI 1 from rfl, nI_add]) (by omega) hN31 ?_
  refine e_aload_n dL_law_1012 rfl ?_
  refine e_iload_n dL_law_1013 rfl ?_
  refine e_iconst dL_law_1014 kci_2 ?_
  refine e_iadd dL_law_1015 ?_
  refine e_xald (j := i + 2) dL_law_1016 (by rw [show (2 : Int32) = nI 2 from rfl, nI_add]) (by omega) hN31 ?_
  refine e_callV1 (μ' := mX8_best) (ci := 8) (As := [.int (Int32.ofNat (Γ.2.2.2 (100 + (i + 1)))), .int (Int32.ofNat (Γ.2.2.2 (100 + (i + 2))))]) dL_law_1017 wl_L_100 ok_X8_best rfl rfl (fx_pi_lt (by decide)) (by decide) (Nat.le_of_ble_eq_true rfl) fx_n1 (s_X8_best (m := m) hL hna h8 hnd h5 (Int32.ofNat (Γ.2.2.2 (100 + (i + 1)))) (Int32.ofNat (Γ.2.2.2 (100 + (i + 2))))) rfl ?_
  have hm := R.mod (fr_C.no R.1 (q_best (fx_ar m 1) (fx_dr m 1) na nd (Int32.ofNat (Γ.2.2.2 (100 + (i + 1)))) (Int32.ofNat (Γ.2.2.2 (100 + (i + 2))))).1) (fun o h => by omega) (fun _ h => h.elim)
  refine e_aload_n dL_law_1020 rfl ?_
  refine e_aload_n dL_law_1021 rfl ?_
  refine e_iload_n dL_law_1022 rfl ?_
  refine e_iconst dL_law_1023 kci_1 ?_
  refine e_iadd dL_law_1024 ?_
  refine e_xald (j := i + 1) dL_law_1025 (by rw [show (1 : Int32) = nI 1 from rfl, nI_add]) (by omega) hN31 ?_
  refine e_aload_n dL_law_1026 rfl ?_
  refine e_iload_n dL_law_1027 rfl ?_
  refine e_iconst dL_law_1028 kci_2 ?_
  refine e_iadd dL_law_1029 ?_
  refine e_xald (j := i + 2) dL_law_1030 (by rw [show (2 : Int32) = nI 2 from rfl, nI_add]) (by omega) hN31 ?_
  refine e_callV1 (μ' := mX9_best) (ci := 9) (As := [.int (Int32.ofNat (Γ.2.2.2 (100 + (i + 1)))), .int (Int32.ofNat (Γ.2.2.2 (100 + (i + 2))))]) dL_law_1031 wl_L_103 ok_X9_best rfl rfl (fx_pi_lt (by decide)) (by decide) (Nat.le_of_ble_eq_true rfl) fx_n1 (s_X9_best (m := fx_no m (q_best (fx_ar m 1) (fx_dr m 1) na nd (Int32.ofNat (Γ.2.2.2 (100 + (i + 1)))) (Int32.ofNat (Γ.2.2.2 (100 + (i + 2))))).1) hm.1 hm.2.1 (Int32.ofNat (Γ.2.2.2 (100 + (i + 1)))) (Int32.ofNat (Γ.2.2.2 (100 + (i + 2))))) rfl ?_
  refine e_icmp_eq 1622 dL_law_1034 rfl (fun _ => ?_) (fun h => absurd rfl h)
  exact ih _ ⟨na, nd, R.q _⟩
set_option maxRecDepth 100000 in
set_option maxHeartbeats 600000 in
theorem s_law23 {Γ : fx_G} {nm : String} {i : Nat} (hN31 : Γ.2.2.2 98 < 2 ^ 31) (hi : i + 8 ≤ Γ.2.2.2 98) {m : fx_M} {na nd : Nat} (R : fr_R m na nd) (ih : ∀ m', fx_Rel m' → fx_E Γ (mL_law nm) 20 0 119 (fun r _ => r = some (.int 1)) 119 m' 1622 [some (.ref (Γ.2.2.2 99)), some (fx_rf Γ 0), some (fx_rf Γ 83), some (.int (nI i))] []) : fx_E Γ (mL_law nm) 20 0 119 (fun r _ => r = some (.int 1)) 119 m 1098 [some (.ref (Γ.2.2.2 99)), some (fx_rf Γ 0), some (fx_rf Γ 83), some (.int (nI i))] [] := by
  have hL := R.1
  have h8 := R.2.1.1
  have h5 := R.2.1.2
  have hna := R.2.2.1.1
  have hnd := R.2.2.1.2.1
  have hcn := R.2.2.2.2.1.1
  refine e_aload_n dL_law_1098 rfl ?_
  refine e_aload_n dL_law_1099 rfl ?_
  refine e_iload_n dL_law_1100 rfl ?_
  refine e_iconst dL_law_1101 kci_1 ?_
  refine e_iadd dL_law_1102 ?_
  refine e_xald (j := i + 1) dL_law_1103 (by rw [show (1 : Int32) = nI 1 from rfl, nI_add]) (by omega) hN31 ?_
  refine e_aload_n dL_law_1104 rfl ?_
  refine e_iload_n dL_law_1105 rfl ?_
  refine e_iconst dL_law_1106 kci_2 ?_
  refine e_iadd dL_law_1107 ?_
  refine e_xald (j := i + 2) dL_law_1108 (by rw [show (2 : Int32) = nI 2 from rfl, nI_add]) (by omega) hN31 ?_
  refine e_callV1 (μ' := mX8_tea) (ci := 8) (As := [.int (Int32.ofNat (Γ.2.2.2 (100 + (i + 1)))), .int (Int32.ofNat (Γ.2.2.2 (100 + (i + 2))))]) dL_law_1109 wl_L_116 ok_X8_tea rfl rfl (fx_pi_lt (by decide)) (by decide) (Nat.le_of_ble_eq_true rfl) fx_n1 (s_X8_tea (m := m) hL hna h8 hnd h5 (Int32.ofNat (Γ.2.2.2 (100 + (i + 1)))) (Int32.ofNat (Γ.2.2.2 (100 + (i + 2))))) rfl ?_
  have hm := R.mod (fr_C.no R.1 (q_tea (fx_ar m 1) (fx_dr m 1) na nd (Int32.ofNat (Γ.2.2.2 (100 + (i + 1)))) (Int32.ofNat (Γ.2.2.2 (100 + (i + 2))))).1) (fun o h => by omega) (fun _ h => h.elim)
  refine e_aload_n dL_law_1112 rfl ?_
  refine e_aload_n dL_law_1113 rfl ?_
  refine e_iload_n dL_law_1114 rfl ?_
  refine e_iconst dL_law_1115 kci_1 ?_
  refine e_iadd dL_law_1116 ?_
  refine e_xald (j := i + 1) dL_law_1117 (by rw [show (1 : Int32) = nI 1 from rfl, nI_add]) (by omega) hN31 ?_
  refine e_aload_n dL_law_1118 rfl ?_
  refine e_iload_n dL_law_1119 rfl ?_
  refine e_iconst dL_law_1120 kci_2 ?_
  refine e_iadd dL_law_1121 ?_
  refine e_xald (j := i + 2) dL_law_1122 (by rw [show (2 : Int32) = nI 2 from rfl, nI_add]) (by omega) hN31 ?_
  refine e_callV1 (μ' := mX9_tea) (ci := 9) (As := [.int (Int32.ofNat (Γ.2.2.2 (100 + (i + 1)))), .int (Int32.ofNat (Γ.2.2.2 (100 + (i + 2))))]) dL_law_1123 wl_L_119 ok_X9_tea rfl rfl (fx_pi_lt (by decide)) (by decide) (Nat.le_of_ble_eq_true rfl) fx_n1 (s_X9_tea (m := fx_no m (q_tea (fx_ar m 1) (fx_dr m 1) na nd (Int32.ofNat (Γ.2.2.2 (100 + (i + 1)))) (Int32.ofNat (Γ.2.2.2 (100 + (i + 2))))).1) hm.1 hm.2.1 (Int32.ofNat (Γ.2.2.2 (100 + (i + 1)))) (Int32.ofNat (Γ.2.2.2 (100 + (i + 2))))) rfl ?_
  refine e_icmp_eq 1622 dL_law_1126 rfl (fun _ => ?_) (fun h => absurd rfl h)
  exact ih _ ⟨na, nd, R.q _⟩
set_option maxRecDepth 100000 in
set_option maxHeartbeats 600000 in
theorem s_law13 {Γ : fx_G} {nm : String} {i : Nat} (hN31 : Γ.2.2.2 98 < 2 ^ 31) (hi : i + 8 ≤ Γ.2.2.2 98) {m : fx_M} {na nd : Nat} (R : fr_R m na nd) (ih : ∀ m', fx_Rel m' → fx_E Γ (mL_law nm) 20 0 119 (fun r _ => r = some (.int 1)) 119 m' 1622 [some (.ref (Γ.2.2.2 99)), some (fx_rf Γ 0), some (fx_rf Γ 83), some (.int (nI i))] []) : fx_E Γ (mL_law nm) 20 0 119 (fun r _ => r = some (.int 1)) 119 m 828 [some (.ref (Γ.2.2.2 99)), some (fx_rf Γ 0), some (fx_rf Γ 83), some (.int (nI i))] [] := by
  have hL := R.1
  have h8 := R.2.1.1
  have h5 := R.2.1.2
  have hna := R.2.2.1.1
  have hnd := R.2.2.1.2.1
  have hcn := R.2.2.2.2.1.1
  refine e_aload_n dL_law_828 rfl ?_
  refine e_aload_n dL_law_829 rfl ?_
  refine e_iload_n dL_law_830 rfl ?_
  refine e_iconst dL_law_831 kci_1 ?_
  refine e_iadd dL_law_832 ?_
  refine e_xald (j := i + 1) dL_law_833 (by rw [show (1 : Int32) = nI 1 from rfl, nI_add]) (by omega) hN31 ?_
  refine e_aload_n dL_law_834 rfl ?_
  refine e_iload_n dL_law_835 rfl ?_
  refine e_iconst dL_law_836 kci_2 ?_
  refine e_iadd dL_law_837 ?_
  refine e_xald (j := i + 2) dL_law_838 (by rw [show (2 : Int32) = nI 2 from rfl, nI_add]) (by omega) hN31 ?_
  refine e_callV1 (μ' := mX8_on) (ci := 8) (As := [.int (Int32.ofNat (Γ.2.2.2 (100 + (i + 1)))), .int (Int32.ofNat (Γ.2.2.2 (100 + (i + 2))))]) dL_law_839 wl_L_75 ok_X8_on rfl rfl (fx_pi_lt (by decide)) (by decide) (Nat.le_of_ble_eq_true rfl) fx_n1 (s_X8_on (m := m) hL hna h8 hnd h5 (Int32.ofNat (Γ.2.2.2 (100 + (i + 1)))) (Int32.ofNat (Γ.2.2.2 (100 + (i + 2))))) rfl ?_
  have hm := R.mod (fr_C.no R.1 (q_on (fx_ar m 1) na nd (Int32.ofNat (Γ.2.2.2 (100 + (i + 1)))) (Int32.ofNat (Γ.2.2.2 (100 + (i + 2))))).1) (fun o h => by omega) (fun _ h => h.elim)
  refine e_aload_n dL_law_842 rfl ?_
  refine e_aload_n dL_law_843 rfl ?_
  refine e_iload_n dL_law_844 rfl ?_
  refine e_iconst dL_law_845 kci_1 ?_
  refine e_iadd dL_law_846 ?_
  refine e_xald (j := i + 1) dL_law_847 (by rw [show (1 : Int32) = nI 1 from rfl, nI_add]) (by omega) hN31 ?_
  refine e_aload_n dL_law_848 rfl ?_
  refine e_iload_n dL_law_849 rfl ?_
  refine e_iconst dL_law_850 kci_2 ?_
  refine e_iadd dL_law_851 ?_
  refine e_xald (j := i + 2) dL_law_852 (by rw [show (2 : Int32) = nI 2 from rfl, nI_add]) (by omega) hN31 ?_
  refine e_callV1 (μ' := mX9_on) (ci := 9) (As := [.int (Int32.ofNat (Γ.2.2.2 (100 + (i + 1)))), .int (Int32.ofNat (Γ.2.2.2 (100 + (i + 2))))]) dL_law_853 wl_L_78 ok_X9_on rfl rfl (fx_pi_lt (by decide)) (by decide) (Nat.le_of_ble_eq_true rfl) fx_n1 (s_X9_on (m := fx_no m (q_on (fx_ar m 1) na nd (Int32.ofNat (Γ.2.2.2 (100 + (i + 1)))) (Int32.ofNat (Γ.2.2.2 (100 + (i + 2))))).1) hm.1 hm.2.1 (Int32.ofNat (Γ.2.2.2 (100 + (i + 1)))) (Int32.ofNat (Γ.2.2.2 (100 + (i + 2))))) rfl ?_
  refine e_icmp_eq 1622 dL_law_856 rfl (fun _ => ?_) (fun h => absurd rfl h)
  exact ih _ ⟨na, nd, R.q _⟩
set_option maxRecDepth 100000 in
set_option maxHeartbeats 600000 in
theorem s_law24 {Γ : fx_G} {nm : String} {i : Nat} (hN31 : Γ.2.2.2 98 < 2 ^ 31) (hi : i + 8 ≤ Γ.2.2.2 98) {m : fx_M} {na nd : Nat} (R : fr_R m na nd) (ih : ∀ m', fx_Rel m' → fx_E Γ (mL_law nm) 20 0 119 (fun r _ => r = some (.int 1)) 119 m' 1622 [some (.ref (Γ.2.2.2 99)), some (fx_rf Γ 0), some (fx_rf Γ 83), some (.int (nI i))] []) : fx_E Γ (mL_law nm) 20 0 119 (fun r _ => r = some (.int 1)) 119 m 1131 [some (.ref (Γ.2.2.2 99)), some (fx_rf Γ 0), some (fx_rf Γ 83), some (.int (nI i))] [] := by
  have hL := R.1
  have h8 := R.2.1.1
  have h5 := R.2.1.2
  have hna := R.2.2.1.1
  have hnd := R.2.2.1.2.1
  have hcn := R.2.2.2.2.1.1
  refine e_aload_n dL_law_1131 rfl ?_
  refine e_aload_n dL_law_1132 rfl ?_
  refine e_iload_n dL_law_1133 rfl ?_
  refine e_iconst dL_law_1134 kci_1 ?_
  refine e_iadd dL_law_1135 ?_
  refine e_xald (j := i + 1) dL_law_1136 (by rw [show (1 : Int32) = nI 1 from rfl, nI_add]) (by omega) hN31 ?_
  refine e_aload_n dL_law_1137 rfl ?_
  refine e_iload_n dL_law_1138 rfl ?_
  refine e_iconst dL_law_1139 kci_2 ?_
  refine e_iadd dL_law_1140 ?_
  refine e_xald (j := i + 2) dL_law_1141 (by rw [show (2 : Int32) = nI 2 from rfl, nI_add]) (by omega) hN31 ?_
  refine e_callV1 (μ' := mX8_comes) (ci := 8) (As := [.int (Int32.ofNat (Γ.2.2.2 (100 + (i + 1)))), .int (Int32.ofNat (Γ.2.2.2 (100 + (i + 2))))]) dL_law_1142 wl_L_120 ok_X8_comes rfl rfl (fx_pi_lt (by decide)) (by decide) (Nat.le_of_ble_eq_true rfl) fx_n1 (s_X8_comes (m := m) hL hnd h5 R.day (Int32.ofNat (Γ.2.2.2 (100 + (i + 1)))) (Int32.ofNat (Γ.2.2.2 (100 + (i + 2))))) rfl ?_
  have hm := R.mod (fr_C.no R.1 (q_comes (fx_dr m 1) nd (Int32.ofNat (Γ.2.2.2 (100 + (i + 1)))) (Int32.ofNat (Γ.2.2.2 (100 + (i + 2))))).1) (fun o h => by omega) (fun _ h => h.elim)
  refine e_aload_n dL_law_1145 rfl ?_
  refine e_aload_n dL_law_1146 rfl ?_
  refine e_iload_n dL_law_1147 rfl ?_
  refine e_iconst dL_law_1148 kci_1 ?_
  refine e_iadd dL_law_1149 ?_
  refine e_xald (j := i + 1) dL_law_1150 (by rw [show (1 : Int32) = nI 1 from rfl, nI_add]) (by omega) hN31 ?_
  refine e_aload_n dL_law_1151 rfl ?_
  refine e_iload_n dL_law_1152 rfl ?_
  refine e_iconst dL_law_1153 kci_2 ?_
  refine e_iadd dL_law_1154 ?_
  refine e_xald (j := i + 2) dL_law_1155 (by rw [show (2 : Int32) = nI 2 from rfl, nI_add]) (by omega) hN31 ?_
  refine e_callV1 (μ' := mX9_comes) (ci := 9) (As := [.int (Int32.ofNat (Γ.2.2.2 (100 + (i + 1)))), .int (Int32.ofNat (Γ.2.2.2 (100 + (i + 2))))]) dL_law_1156 wl_L_123 ok_X9_comes rfl rfl (fx_pi_lt (by decide)) (by decide) (Nat.le_of_ble_eq_true rfl) fx_n1 (s_X9_comes (m := fx_no m (q_comes (fx_dr m 1) nd (Int32.ofNat (Γ.2.2.2 (100 + (i + 1)))) (Int32.ofNat (Γ.2.2.2 (100 + (i + 2))))).1) hm.1 hm.2.1 (Int32.ofNat (Γ.2.2.2 (100 + (i + 1)))) (Int32.ofNat (Γ.2.2.2 (100 + (i + 2))))) rfl ?_
  refine e_icmp_eq 1622 dL_law_1159 rfl (fun _ => ?_) (fun h => absurd rfl h)
  exact ih _ ⟨na, nd, R.q _⟩
set_option maxRecDepth 100000 in
set_option maxHeartbeats 600000 in
theorem s_law26 {Γ : fx_G} {nm : String} {i : Nat} (hN31 : Γ.2.2.2 98 < 2 ^ 31) (hi : i + 8 ≤ Γ.2.2.2 98) {m : fx_M} {na nd : Nat} (R : fr_R m na nd) (ih : ∀ m', fx_Rel m' → fx_E Γ (mL_law nm) 20 0 119 (fun r _ => r = some (.int 1)) 119 m' 1622 [some (.ref (Γ.2.2.2 99)), some (fx_rf Γ 0), some (fx_rf Γ 83), some (.int (nI i))] []) : fx_E Γ (mL_law nm) 20 0 119 (fun r _ => r = some (.int 1)) 119 m 1187 [some (.ref (Γ.2.2.2 99)), some (fx_rf Γ 0), some (fx_rf Γ 83), some (.int (nI i))] [] := by
  have hL := R.1
  have h8 := R.2.1.1
  have h5 := R.2.1.2
  have hna := R.2.2.1.1
  have hnd := R.2.2.1.2.1
  have hcn := R.2.2.2.2.1.1
  refine e_aload_n dL_law_1187 rfl ?_
  refine e_aload_n dL_law_1188 rfl ?_
  refine e_iload_n dL_law_1189 rfl ?_
  refine e_iconst dL_law_1190 kci_1 ?_
  refine e_iadd dL_law_1191 ?_
  refine e_xald (j := i + 1) dL_law_1192 (by rw [show (1 : Int32) = nI 1 from rfl, nI_add]) (by omega) hN31 ?_
  refine e_aload_n dL_law_1193 rfl ?_
  refine e_iload_n dL_law_1194 rfl ?_
  refine e_iconst dL_law_1195 kci_2 ?_
  refine e_iadd dL_law_1196 ?_
  refine e_xald (j := i + 2) dL_law_1197 (by rw [show (2 : Int32) = nI 2 from rfl, nI_add]) (by omega) hN31 ?_
  refine e_callV1 (μ' := mX8_feast) (ci := 8) (As := [.int (Int32.ofNat (Γ.2.2.2 (100 + (i + 1)))), .int (Int32.ofNat (Γ.2.2.2 (100 + (i + 2))))]) dL_law_1198 wl_L_128 ok_X8_feast rfl rfl (fx_pi_lt (by decide)) (by decide) (Nat.le_of_ble_eq_true rfl) fx_n1 (s_X8_feast (m := m) hL hnd h5 (Int32.ofNat (Γ.2.2.2 (100 + (i + 1)))) (Int32.ofNat (Γ.2.2.2 (100 + (i + 2))))) rfl ?_
  have hm := R.mod (fr_C.no R.1 (q_feast (fun d => fx_dr m 1 d 4) (fun d => fx_dr m 1 d 5) nd (Int32.ofNat (Γ.2.2.2 (100 + (i + 1)))) (Int32.ofNat (Γ.2.2.2 (100 + (i + 2))))).1) (fun o h => by omega) (fun _ h => h.elim)
  refine e_aload_n dL_law_1201 rfl ?_
  refine e_aload_n dL_law_1202 rfl ?_
  refine e_iload_n dL_law_1203 rfl ?_
  refine e_iconst dL_law_1204 kci_1 ?_
  refine e_iadd dL_law_1205 ?_
  refine e_xald (j := i + 1) dL_law_1206 (by rw [show (1 : Int32) = nI 1 from rfl, nI_add]) (by omega) hN31 ?_
  refine e_aload_n dL_law_1207 rfl ?_
  refine e_iload_n dL_law_1208 rfl ?_
  refine e_iconst dL_law_1209 kci_2 ?_
  refine e_iadd dL_law_1210 ?_
  refine e_xald (j := i + 2) dL_law_1211 (by rw [show (2 : Int32) = nI 2 from rfl, nI_add]) (by omega) hN31 ?_
  refine e_callV1 (μ' := mX9_feast) (ci := 9) (As := [.int (Int32.ofNat (Γ.2.2.2 (100 + (i + 1)))), .int (Int32.ofNat (Γ.2.2.2 (100 + (i + 2))))]) dL_law_1212 wl_L_131 ok_X9_feast rfl rfl (fx_pi_lt (by decide)) (by decide) (Nat.le_of_ble_eq_true rfl) fx_n1 (s_X9_feast (m := fx_no m (q_feast (fun d => fx_dr m 1 d 4) (fun d => fx_dr m 1 d 5) nd (Int32.ofNat (Γ.2.2.2 (100 + (i + 1)))) (Int32.ofNat (Γ.2.2.2 (100 + (i + 2))))).1) hm.1 hm.2.1 (Int32.ofNat (Γ.2.2.2 (100 + (i + 1)))) (Int32.ofNat (Γ.2.2.2 (100 + (i + 2))))) rfl ?_
  refine e_icmp_eq 1622 dL_law_1215 rfl (fun _ => ?_) (fun h => absurd rfl h)
  exact ih _ ⟨na, nd, R.q _⟩
set_option maxRecDepth 100000 in
set_option maxHeartbeats 600000 in
theorem s_law27 {Γ : fx_G} {nm : String} {i : Nat} (hN31 : Γ.2.2.2 98 < 2 ^ 31) (hi : i + 8 ≤ Γ.2.2.2 98) {m : fx_M} {na nd : Nat} (R : fr_R m na nd) (ih : ∀ m', fx_Rel m' → fx_E Γ (mL_law nm) 20 0 119 (fun r _ => r = some (.int 1)) 119 m' 1622 [some (.ref (Γ.2.2.2 99)), some (fx_rf Γ 0), some (fx_rf Γ 83), some (.int (nI i))] []) : fx_E Γ (mL_law nm) 20 0 119 (fun r _ => r = some (.int 1)) 119 m 1220 [some (.ref (Γ.2.2.2 99)), some (fx_rf Γ 0), some (fx_rf Γ 83), some (.int (nI i))] [] := by
  have hL := R.1
  have h8 := R.2.1.1
  have h5 := R.2.1.2
  have hna := R.2.2.1.1
  have hnd := R.2.2.1.2.1
  have hcn := R.2.2.2.2.1.1
  refine e_aload_n dL_law_1220 rfl ?_
  refine e_aload_n dL_law_1221 rfl ?_
  refine e_iload_n dL_law_1222 rfl ?_
  refine e_iconst dL_law_1223 kci_1 ?_
  refine e_iadd dL_law_1224 ?_
  refine e_xald (j := i + 1) dL_law_1225 (by rw [show (1 : Int32) = nI 1 from rfl, nI_add]) (by omega) hN31 ?_
  refine e_aload_n dL_law_1226 rfl ?_
  refine e_iload_n dL_law_1227 rfl ?_
  refine e_iconst dL_law_1228 kci_2 ?_
  refine e_iadd dL_law_1229 ?_
  refine e_xald (j := i + 2) dL_law_1230 (by rw [show (2 : Int32) = nI 2 from rfl, nI_add]) (by omega) hN31 ?_
  refine e_aload_n dL_law_1231 rfl ?_
  refine e_iload_n dL_law_1232 rfl ?_
  refine e_iconst dL_law_1233 kci_3 ?_
  refine e_iadd dL_law_1234 ?_
  refine e_xald (j := i + 3) dL_law_1235 (by rw [show (3 : Int32) = nI 3 from rfl, nI_add]) (by omega) hN31 ?_
  refine e_callV1 (μ' := mX8_looks) (ci := 8) (As := [.int (Int32.ofNat (Γ.2.2.2 (100 + (i + 1)))), .int (Int32.ofNat (Γ.2.2.2 (100 + (i + 2)))), .int (Int32.ofNat (Γ.2.2.2 (100 + (i + 3))))]) dL_law_1236 wl_L_132 ok_X8_looks rfl rfl (fx_pi_lt (by decide)) (by decide) (Nat.le_of_ble_eq_true rfl) fx_n1 (s_X8_looks (m := m) hL hna h8 hnd h5 (cn := (fx_uC m).2.2.1) hcn (rd := p_rdI (fx_uC m)) (fun _ _ _ _ => rfl) (Int32.ofNat (Γ.2.2.2 (100 + (i + 1)))) (Int32.ofNat (Γ.2.2.2 (100 + (i + 2)))) (Int32.ofNat (Γ.2.2.2 (100 + (i + 3))))) rfl ?_
  have hm := R.mod (fr_C.no R.1 (q_looks (fx_ar m 1) (fx_dr m 1) na nd (fun k => m.1 (67 + 2 * k) 1) (fun k => m.1 (67 + 2 * k) 3) (fx_uC m).2.2.1 (p_rdI (fx_uC m)) (Int32.ofNat (Γ.2.2.2 (100 + (i + 1)))) (Int32.ofNat (Γ.2.2.2 (100 + (i + 2)))) (Int32.ofNat (Γ.2.2.2 (100 + (i + 3))))).1) (fun o h => by omega) (fun _ h => h.elim)
  refine e_aload_n dL_law_1239 rfl ?_
  refine e_aload_n dL_law_1240 rfl ?_
  refine e_iload_n dL_law_1241 rfl ?_
  refine e_iconst dL_law_1242 kci_1 ?_
  refine e_iadd dL_law_1243 ?_
  refine e_xald (j := i + 1) dL_law_1244 (by rw [show (1 : Int32) = nI 1 from rfl, nI_add]) (by omega) hN31 ?_
  refine e_aload_n dL_law_1245 rfl ?_
  refine e_iload_n dL_law_1246 rfl ?_
  refine e_iconst dL_law_1247 kci_2 ?_
  refine e_iadd dL_law_1248 ?_
  refine e_xald (j := i + 2) dL_law_1249 (by rw [show (2 : Int32) = nI 2 from rfl, nI_add]) (by omega) hN31 ?_
  refine e_aload_n dL_law_1250 rfl ?_
  refine e_iload_n dL_law_1251 rfl ?_
  refine e_iconst dL_law_1252 kci_3 ?_
  refine e_iadd dL_law_1253 ?_
  refine e_xald (j := i + 3) dL_law_1254 (by rw [show (3 : Int32) = nI 3 from rfl, nI_add]) (by omega) hN31 ?_
  refine e_callV1 (μ' := mX9_looks) (ci := 9) (As := [.int (Int32.ofNat (Γ.2.2.2 (100 + (i + 1)))), .int (Int32.ofNat (Γ.2.2.2 (100 + (i + 2)))), .int (Int32.ofNat (Γ.2.2.2 (100 + (i + 3))))]) dL_law_1255 wl_L_135 ok_X9_looks rfl rfl (fx_pi_lt (by decide)) (by decide) (Nat.le_of_ble_eq_true rfl) fx_n1 (s_X9_looks (m := fx_no m (q_looks (fx_ar m 1) (fx_dr m 1) na nd (fun k => m.1 (67 + 2 * k) 1) (fun k => m.1 (67 + 2 * k) 3) (fx_uC m).2.2.1 (p_rdI (fx_uC m)) (Int32.ofNat (Γ.2.2.2 (100 + (i + 1)))) (Int32.ofNat (Γ.2.2.2 (100 + (i + 2)))) (Int32.ofNat (Γ.2.2.2 (100 + (i + 3))))).1) hm.1 hm.2.1 hm.2.2.1 (Int32.ofNat (Γ.2.2.2 (100 + (i + 1)))) (Int32.ofNat (Γ.2.2.2 (100 + (i + 2)))) (Int32.ofNat (Γ.2.2.2 (100 + (i + 3))))) rfl ?_
  refine e_icmp_eq 1622 dL_law_1258 rfl (fun _ => ?_) (fun h => absurd rfl h)
  exact ih _ ⟨na, nd, R.q _⟩
set_option maxRecDepth 100000 in
set_option maxHeartbeats 600000 in
theorem s_law3 {Γ : fx_G} {nm : String} {i : Nat} (hN31 : Γ.2.2.2 98 < 2 ^ 31) (hi : i + 8 ≤ Γ.2.2.2 98) {m : fx_M} {na nd : Nat} (R : fr_R m na nd) (ih : ∀ m', fx_Rel m' → fx_E Γ (mL_law nm) 20 0 119 (fun r _ => r = some (.int 1)) 119 m' 1622 [some (.ref (Γ.2.2.2 99)), some (fx_rf Γ 0), some (fx_rf Γ 83), some (.int (nI i))] []) : fx_E Γ (mL_law nm) 20 0 119 (fun r _ => r = some (.int 1)) 119 m 391 [some (.ref (Γ.2.2.2 99)), some (fx_rf Γ 0), some (fx_rf Γ 83), some (.int (nI i))] [] := by
  have hL := R.1
  have h8 := R.2.1.1
  have h5 := R.2.1.2
  have hna := R.2.2.1.1
  have hnd := R.2.2.1.2.1
  have hcn := R.2.2.2.2.1.1
  have hm := R.mod (X := fun _ => False) (Y := fun _ => False) ⟨R.1, fun _ _ => rfl, fun _ _ => rfl⟩ (fun _ h => h.elim) (fun _ h => h.elim)
  refine e_aload_n dL_law_391 rfl ?_
  refine e_aload_n dL_law_392 rfl ?_
  refine e_iload_n dL_law_393 rfl ?_
  refine e_iconst dL_law_394 kci_1 ?_
  refine e_iadd dL_law_395 ?_
  refine e_xald (j := i + 1) dL_law_396 (by rw [show (1 : Int32) = nI 1 from rfl, nI_add]) (by omega) hN31 ?_
  refine e_aload_n dL_law_397 rfl ?_
  refine e_iload_n dL_law_398 rfl ?_
  refine e_iconst dL_law_399 kci_2 ?_
  refine e_iadd dL_law_400 ?_
  refine e_xald (j := i + 2) dL_law_401 (by rw [show (2 : Int32) = nI 2 from rfl, nI_add]) (by omega) hN31 ?_
  refine e_callV1 (μ' := mX8_element) (ci := 8) (As := [.int (Int32.ofNat (Γ.2.2.2 (100 + (i + 1)))), .int (Int32.ofNat (Γ.2.2.2 (100 + (i + 2))))]) dL_law_402 wl_L_30 ok_X8_element rfl rfl (fx_pi_lt (by decide)) (by decide) (Nat.le_of_ble_eq_true rfl) fx_n1 (s_X8_element (m := m) hL (cn := (fx_uC m).2.2.1) hcn (Int32.ofNat (Γ.2.2.2 (100 + (i + 1)))) (Int32.ofNat (Γ.2.2.2 (100 + (i + 2))))) rfl ?_
  refine e_aload_n dL_law_405 rfl ?_
  refine e_aload_n dL_law_406 rfl ?_
  refine e_iload_n dL_law_407 rfl ?_
  refine e_iconst dL_law_408 kci_1 ?_
  refine e_iadd dL_law_409 ?_
  refine e_xald (j := i + 1) dL_law_410 (by rw [show (1 : Int32) = nI 1 from rfl, nI_add]) (by omega) hN31 ?_
  refine e_aload_n dL_law_411 rfl ?_
  refine e_iload_n dL_law_412 rfl ?_
  refine e_iconst dL_law_413 kci_2 ?_
  refine e_iadd dL_law_414 ?_
  refine e_xald (j := i + 2) dL_law_415 (by rw [show (2 : Int32) = nI 2 from rfl, nI_add]) (by omega) hN31 ?_
  refine e_callV1 (μ' := mX9_element) (ci := 9) (As := [.int (Int32.ofNat (Γ.2.2.2 (100 + (i + 1)))), .int (Int32.ofNat (Γ.2.2.2 (100 + (i + 2))))]) dL_law_416 wl_L_34 ok_X9_element rfl rfl (fx_pi_lt (by decide)) (by decide) (Nat.le_of_ble_eq_true rfl) fx_n1 (s_X9_element (m := m) hm.1 hm.2.2.1 (Int32.ofNat (Γ.2.2.2 (100 + (i + 1)))) (Int32.ofNat (Γ.2.2.2 (100 + (i + 2))))) rfl ?_
  refine e_lcmpE dL_law_419 rfl ?_
  refine e_if_eq 1622 dL_law_420 rfl (fun _ => ?_) (fun h => absurd (by decide) h)
  exact ih _ ⟨na, nd, R⟩
set_option maxRecDepth 100000 in
set_option maxHeartbeats 600000 in
theorem s_law5 {Γ : fx_G} {nm : String} {i : Nat} (hN31 : Γ.2.2.2 98 < 2 ^ 31) (hi : i + 8 ≤ Γ.2.2.2 98) {m : fx_M} {na nd : Nat} (R : fr_R m na nd) (ih : ∀ m', fx_Rel m' → fx_E Γ (mL_law nm) 20 0 119 (fun r _ => r = some (.int 1)) 119 m' 1622 [some (.ref (Γ.2.2.2 99)), some (fx_rf Γ 0), some (fx_rf Γ 83), some (.int (nI i))] []) : fx_E Γ (mL_law nm) 20 0 119 (fun r _ => r = some (.int 1)) 119 m 458 [some (.ref (Γ.2.2.2 99)), some (fx_rf Γ 0), some (fx_rf Γ 83), some (.int (nI i))] [] := by
  have hL := R.1
  have h8 := R.2.1.1
  have h5 := R.2.1.2
  have hna := R.2.2.1.1
  have hnd := R.2.2.1.2.1
  have hcn := R.2.2.2.2.1.1
  have hm := R.mod (X := fun _ => False) (Y := fun _ => False) ⟨R.1, fun _ _ => rfl, fun _ _ => rfl⟩ (fun _ h => h.elim) (fun _ h => h.elim)
  refine e_aload_n dL_law_458 rfl ?_
  refine e_aload_n dL_law_459 rfl ?_
  refine e_iload_n dL_law_460 rfl ?_
  refine e_iconst dL_law_461 kci_1 ?_
  refine e_iadd dL_law_462 ?_
  refine e_xald (j := i + 1) dL_law_463 (by rw [show (1 : Int32) = nI 1 from rfl, nI_add]) (by omega) hN31 ?_
  refine e_callV1 (μ' := mX8_holds) (ci := 8) (As := [.int (Int32.ofNat (Γ.2.2.2 (100 + (i + 1))))]) dL_law_464 wl_L_40 ok_X8_holds rfl rfl (fx_pi_lt (by decide)) (by decide) (Nat.le_of_ble_eq_true rfl) fx_n1 (s_X8_holds (m := m) hL (Int32.ofNat (Γ.2.2.2 (100 + (i + 1))))) rfl ?_
  refine e_aload_n dL_law_467 rfl ?_
  refine e_aload_n dL_law_468 rfl ?_
  refine e_iload_n dL_law_469 rfl ?_
  refine e_iconst dL_law_470 kci_1 ?_
  refine e_iadd dL_law_471 ?_
  refine e_xald (j := i + 1) dL_law_472 (by rw [show (1 : Int32) = nI 1 from rfl, nI_add]) (by omega) hN31 ?_
  refine e_callV1 (μ' := mX9_holds) (ci := 9) (As := [.int (Int32.ofNat (Γ.2.2.2 (100 + (i + 1))))]) dL_law_473 wl_L_44 ok_X9_holds rfl rfl (fx_pi_lt (by decide)) (by decide) (Nat.le_of_ble_eq_true rfl) fx_n1 (s_X9_holds (m := m) hm.1 hm.2.2.1 (Int32.ofNat (Γ.2.2.2 (100 + (i + 1))))) rfl ?_
  refine e_icmp_eq 1622 dL_law_476 rfl (fun _ => ?_) (fun h => absurd rfl h)
  exact ih _ ⟨na, nd, R⟩
set_option maxRecDepth 100000 in
set_option maxHeartbeats 600000 in
theorem s_law15 {Γ : fx_G} {nm : String} {i : Nat} (hN31 : Γ.2.2.2 98 < 2 ^ 31) (hi : i + 8 ≤ Γ.2.2.2 98) {m : fx_M} {na nd : Nat} (R : fr_R m na nd) (ih : ∀ m', fx_Rel m' → fx_E Γ (mL_law nm) 20 0 119 (fun r _ => r = some (.int 1)) 119 m' 1622 [some (.ref (Γ.2.2.2 99)), some (fx_rf Γ 0), some (fx_rf Γ 83), some (.int (nI i))] []) : fx_E Γ (mL_law nm) 20 0 119 (fun r _ => r = some (.int 1)) 119 m 884 [some (.ref (Γ.2.2.2 99)), some (fx_rf Γ 0), some (fx_rf Γ 83), some (.int (nI i))] [] := by
  have hL := R.1
  have h8 := R.2.1.1
  have h5 := R.2.1.2
  have hna := R.2.2.1.1
  have hnd := R.2.2.1.2.1
  have hcn := R.2.2.2.2.1.1
  have hm := R.mod (X := fun _ => False) (Y := fun _ => False) ⟨R.1, fun _ _ => rfl, fun _ _ => rfl⟩ (fun _ h => h.elim) (fun _ h => h.elim)
  refine e_aload_n dL_law_884 rfl ?_
  refine e_callV1 (μ' := mX8_fault) (ci := 8) (As := []) dL_law_885 wl_L_83 ok_X8_fault rfl rfl (fx_pi_lt (by decide)) (by decide) (Nat.le_of_ble_eq_true rfl) fx_n1 (s_X8_fault (m := m) hL ) rfl ?_
  refine e_aload_n dL_law_888 rfl ?_
  refine e_callV1 (μ' := mX9_fault) (ci := 9) (As := []) dL_law_889 wl_L_87 ok_X9_fault rfl rfl (fx_pi_lt (by decide)) (by decide) (Nat.le_of_ble_eq_true rfl) fx_n1 (s_X9_fault (m := m) hm.1 ) rfl ?_
  refine e_icmp_eq 1622 dL_law_892 rfl (fun _ => ?_) (fun h => absurd R.2.2.2.2.2.2.1 h)
  exact ih _ ⟨na, nd, R⟩
set_option maxRecDepth 100000 in
set_option maxHeartbeats 600000 in
theorem s_law37 {Γ : fx_G} {nm : String} {i : Nat} (hN31 : Γ.2.2.2 98 < 2 ^ 31) (hi : i + 8 ≤ Γ.2.2.2 98) {m : fx_M} {na nd : Nat} (R : fr_R m na nd) (ih : ∀ m', fx_Rel m' → fx_E Γ (mL_law nm) 20 0 119 (fun r _ => r = some (.int 1)) 119 m' 1622 [some (.ref (Γ.2.2.2 99)), some (fx_rf Γ 0), some (fx_rf Γ 83), some (.int (nI i))] []) : fx_E Γ (mL_law nm) 20 0 119 (fun r _ => r = some (.int 1)) 119 m 1550 [some (.ref (Γ.2.2.2 99)), some (fx_rf Γ 0), some (fx_rf Γ 83), some (.int (nI i))] [] := by
  have hL := R.1
  have h8 := R.2.1.1
  have h5 := R.2.1.2
  have hna := R.2.2.1.1
  have hnd := R.2.2.1.2.1
  have hcn := R.2.2.2.2.1.1
  have hm := R.mod (X := fun _ => False) (Y := fun _ => False) ⟨R.1, fun _ _ => rfl, fun _ _ => rfl⟩ (fun _ h => h.elim) (fun _ h => h.elim)
  refine e_aload_n dL_law_1550 rfl ?_
  refine e_aload_n dL_law_1551 rfl ?_
  refine e_iload_n dL_law_1552 rfl ?_
  refine e_iconst dL_law_1553 kci_1 ?_
  refine e_iadd dL_law_1554 ?_
  refine e_xald (j := i + 1) dL_law_1555 (by rw [show (1 : Int32) = nI 1 from rfl, nI_add]) (by omega) hN31 ?_
  refine e_callV1 (μ' := mX8_trace) (ci := 8) (As := [.int (Int32.ofNat (Γ.2.2.2 (100 + (i + 1))))]) dL_law_1556 wl_L_172 ok_X8_trace rfl rfl (fx_pi_lt (by decide)) (by decide) (Nat.le_of_ble_eq_true rfl) fx_n1 (s_X8_trace (m := m) hL (Int32.ofNat (Γ.2.2.2 (100 + (i + 1))))) rfl ?_
  refine e_aload_n dL_law_1559 rfl ?_
  refine e_aload_n dL_law_1560 rfl ?_
  refine e_iload_n dL_law_1561 rfl ?_
  refine e_iconst dL_law_1562 kci_1 ?_
  refine e_iadd dL_law_1563 ?_
  refine e_xald (j := i + 1) dL_law_1564 (by rw [show (1 : Int32) = nI 1 from rfl, nI_add]) (by omega) hN31 ?_
  refine e_callV1 (μ' := mX9_trace) (ci := 9) (As := [.int (Int32.ofNat (Γ.2.2.2 (100 + (i + 1))))]) dL_law_1565 wl_L_175 ok_X9_trace rfl rfl (fx_pi_lt (by decide)) (by decide) (Nat.le_of_ble_eq_true rfl) fx_n1 (s_X9_trace (m := m) hm.1 (Int32.ofNat (Γ.2.2.2 (100 + (i + 1))))) rfl ?_
  refine e_icmp_eq 1622 dL_law_1568 rfl (fun _ => ?_) (fun h => absurd (fr_T.bod R.2.2.2.2.2.2.2.1 _) h)
  exact ih _ ⟨na, nd, R⟩
set_option maxRecDepth 100000 in
set_option maxHeartbeats 600000 in
theorem s_law40 {Γ : fx_G} {nm : String} {i : Nat} (hN31 : Γ.2.2.2 98 < 2 ^ 31) (hi : i + 8 ≤ Γ.2.2.2 98) {m : fx_M} {na nd : Nat} (R : fr_R m na nd) (ih : ∀ m', fx_Rel m' → fx_E Γ (mL_law nm) 20 0 119 (fun r _ => r = some (.int 1)) 119 m' 1622 [some (.ref (Γ.2.2.2 99)), some (fx_rf Γ 0), some (fx_rf Γ 83), some (.int (nI i))] []) : fx_E Γ (mL_law nm) 20 0 119 (fun r _ => r = some (.int 1)) 119 m 1599 [some (.ref (Γ.2.2.2 99)), some (fx_rf Γ 0), some (fx_rf Γ 83), some (.int (nI i))] [] := by
  have hL := R.1
  have h8 := R.2.1.1
  have h5 := R.2.1.2
  have hna := R.2.2.1.1
  have hnd := R.2.2.1.2.1
  have hcn := R.2.2.2.2.1.1
  have hm := R.mod (X := fun _ => False) (Y := fun _ => False) ⟨R.1, fun _ _ => rfl, fun _ _ => rfl⟩ (fun _ h => h.elim) (fun _ h => h.elim)
  refine e_aload_n dL_law_1599 rfl ?_
  refine e_aload_n dL_law_1600 rfl ?_
  refine e_iload_n dL_law_1601 rfl ?_
  refine e_iconst dL_law_1602 kci_1 ?_
  refine e_iadd dL_law_1603 ?_
  refine e_xald (j := i + 1) dL_law_1604 (by rw [show (1 : Int32) = nI 1 from rfl, nI_add]) (by omega) hN31 ?_
  refine e_callV1 (μ' := mX8_status) (ci := 8) (As := [.int (Int32.ofNat (Γ.2.2.2 (100 + (i + 1))))]) dL_law_1605 wl_L_184 ok_X8_status rfl rfl (fx_pi_lt (by decide)) (by decide) (Nat.le_of_ble_eq_true rfl) fx_n1 (s_X8_status (m := m) hL hna h8 hnd h5 (Int32.ofNat (Γ.2.2.2 (100 + (i + 1))))) rfl ?_
  refine e_aload_n dL_law_1608 rfl ?_
  refine e_aload_n dL_law_1609 rfl ?_
  refine e_iload_n dL_law_1610 rfl ?_
  refine e_iconst dL_law_1611 kci_1 ?_
  refine e_iadd dL_law_1612 ?_
  refine e_xald (j := i + 1) dL_law_1613 (by rw [show (1 : Int32) = nI 1 from rfl, nI_add]) (by omega) hN31 ?_
  refine e_callV1 (μ' := mX9_status) (ci := 9) (As := [.int (Int32.ofNat (Γ.2.2.2 (100 + (i + 1))))]) dL_law_1614 wl_L_187 ok_X9_status rfl rfl (fx_pi_lt (by decide)) (by decide) (Nat.le_of_ble_eq_true rfl) fx_n1 (s_X9_status (m := m) hm.1 hm.2.1 (Int32.ofNat (Γ.2.2.2 (100 + (i + 1))))) rfl ?_
  refine e_icmp_eq 1622 dL_law_1617 rfl (fun _ => ?_) (fun h => absurd (fr_stat R _) h)
  exact ih _ ⟨na, nd, R⟩
