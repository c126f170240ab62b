set_option maxRecDepth 100000 in
set_option maxHeartbeats 600000 in
theorem s_law20 {Γ : fx_G} {nm : String} {i : Nat} (hN31 : Γ.2.2.2 98 < 2 ^ 31) (hi : i + 8 ≤ Γ.2.2.2 98) {m : fx_M} {na nd : Nat} (R : fr_R m na nd) (ih : ∀ m', fx_Rel m' → fx_E Γ (mL_law nm) 20 0 119 (fun r _ => r = some (.int 1)) 119 m' 1622 [some (.ref (Γ.2.2.2 99)), some (fx_rf Γ 0), some (fx_rf Γ 83), some (.int (nI i))] []) : fx_E Γ (mL_law nm) 20 0 119 (fun r _ => r = some (.int 1)) 119 m 1039 [some (.ref (Γ.2.2.2 99)), some (fx_rf Γ 0), some (fx_rf Γ 83), some (.int (nI i))] [] := by
  have hL := R.1
  have h8 := R.2.1.1
  have h5 := R.2.1.2
  have hna := R.2.2.1.1
  have hnd := R.2.2.1.2.1
  have hcn := R.2.2.2.2.1.1
  refine e_aload_n dL_law_1039 rfl ?_
  refine e_aload_n dL_law_1040 rfl ?_
  refine e_iload_n dL_law_1041 rfl ?_
  refine e_iconst dL_law_1042 kci_1 ?_
  refine e_iadd dL_law_1043 ?_
  refine e_xald (j := i + 1) dL_law_1044 (by rw [show (1 : Int32) = nI 1 from rfl, nI_add]) (by omega) hN31 ?_
  refine e_callV (μ' := mX8_whole) (ci := 8) (As := [.int (Int32.ofNat (Γ.2.2.2 (100 + (i + 1))))]) dL_law_1045 wl_L_104 ok_X8_whole rfl rfl (fx_pi_lt (by decide)) (by decide) (Nat.le_of_ble_eq_true rfl) fx_n1 (s_X8_whole (m := m) hL hna h8 hnd h5 R.2.2.2.2.2.2.2.2.2.2 (Int32.ofNat (Γ.2.2.2 (100 + (i + 1))))) rfl (fun r_ m_ hpost => ?_)
  revert r_ m_
  intro r_ m1 hpost
  obtain ⟨rfl, f1, M1⟩ := hpost
  have hm := fr_tabM R f1 (fun o h => by omega)
  refine e_aload_n dL_law_1048 rfl ?_
  refine e_aload_n dL_law_1049 rfl ?_
  refine e_iload_n dL_law_1050 rfl ?_
  refine e_iconst dL_law_1051 kci_1 ?_
  refine e_iadd dL_law_1052 ?_
  refine e_xald (j := i + 1) dL_law_1053 (by rw [show (1 : Int32) = nI 1 from rfl, nI_add]) (by omega) hN31 ?_
  refine e_callV (μ' := mX9_whole) (ci := 9) (As := [.int (Int32.ofNat (Γ.2.2.2 (100 + (i + 1))))]) dL_law_1054 wl_L_107 ok_X9_whole rfl rfl (fx_pi_lt (by decide)) (by decide) (Nat.le_of_ble_eq_true rfl) fx_n1 (s_X9_whole (m := m1) hm.1 hm.2.1 hm.2.2.2.1 (Int32.ofNat (Γ.2.2.2 (100 + (i + 1))))) rfl (fun r_ m_ hpost => ?_)
  revert r_ m_
  intro r_ m2 hpost
  rw [q_whole_eq ] at hpost
  obtain ⟨rfl, K2⟩ := hpost
  refine e_icmp_eq 1622 dL_law_1057 rfl (fun _ => ?_) (fun h => absurd rfl h)
  exact ih _ ⟨na, nd, fr_tab R f1 M1 K2⟩
set_option maxRecDepth 100000 in
set_option maxHeartbeats 600000 in
theorem s_law21 {Γ : fx_G} {nm : String} {i : Nat} (hN31 : Γ.2.2.2 98 < 2 ^ 31) (hi : i + 8 ≤ Γ.2.2.2 98) {m : fx_M} {na nd : Nat} (R : fr_R m na nd) (ih : ∀ m', fx_Rel m' → fx_E Γ (mL_law nm) 20 0 119 (fun r _ => r = some (.int 1)) 119 m' 1622 [some (.ref (Γ.2.2.2 99)), some (fx_rf Γ 0), some (fx_rf Γ 83), some (.int (nI i))] []) : fx_E Γ (mL_law nm) 20 0 119 (fun r _ => r = some (.int 1)) 119 m 1062 [some (.ref (Γ.2.2.2 99)), some (fx_rf Γ 0), some (fx_rf Γ 83), some (.int (nI i))] [] := by
  have hL := R.1
  have h8 := R.2.1.1
  have h5 := R.2.1.2
  have hna := R.2.2.1.1
  have hnd := R.2.2.1.2.1
  have hcn := R.2.2.2.2.1.1
  refine e_aload_n dL_law_1062 rfl ?_
  refine e_aload_n dL_law_1063 rfl ?_
  refine e_iload_n dL_law_1064 rfl ?_
  refine e_iconst dL_law_1065 kci_1 ?_
  refine e_iadd dL_law_1066 ?_
  refine e_xald (j := i + 1) dL_law_1067 (by rw [show (1 : Int32) = nI 1 from rfl, nI_add]) (by omega) hN31 ?_
  refine e_callV (μ' := mX8_given) (ci := 8) (As := [.int (Int32.ofNat (Γ.2.2.2 (100 + (i + 1))))]) dL_law_1068 wl_L_108 ok_X8_given rfl rfl (fx_pi_lt (by decide)) (by decide) (Nat.le_of_ble_eq_true rfl) fx_n1 (s_X8_given (m := m) hL hna h8 hnd h5 R.2.2.2.2.2.2.2.2.2.2 (Int32.ofNat (Γ.2.2.2 (100 + (i + 1))))) rfl (fun r_ m_ hpost => ?_)
  revert r_ m_
  intro r_ m1 hpost
  obtain ⟨rfl, f1, M1⟩ := hpost
  have hm := fr_tabM R f1 (fun o h => by omega)
  refine e_aload_n dL_law_1071 rfl ?_
  refine e_aload_n dL_law_1072 rfl ?_
  refine e_iload_n dL_law_1073 rfl ?_
  refine e_iconst dL_law_1074 kci_1 ?_
  refine e_iadd dL_law_1075 ?_
  refine e_xald (j := i + 1) dL_law_1076 (by rw [show (1 : Int32) = nI 1 from rfl, nI_add]) (by omega) hN31 ?_
  refine e_callV (μ' := mX9_given) (ci := 9) (As := [.int (Int32.ofNat (Γ.2.2.2 (100 + (i + 1))))]) dL_law_1077 wl_L_111 ok_X9_given rfl rfl (fx_pi_lt (by decide)) (by decide) (Nat.le_of_ble_eq_true rfl) fx_n1 (s_X9_given (m := m1) hm.1 hm.2.1 hm.2.2.2.1 (Int32.ofNat (Γ.2.2.2 (100 + (i + 1))))) rfl (fun r_ m_ hpost => ?_)
  revert r_ m_
  intro r_ m2 hpost
  rw [q_giv_eq h5] at hpost
  obtain ⟨rfl, K2⟩ := hpost
  refine e_icmp_eq 1622 dL_law_1080 rfl (fun _ => ?_) (fun h => absurd rfl h)
  exact ih _ ⟨na, nd, fr_tab R f1 M1 K2⟩
set_option maxRecDepth 100000 in
set_option maxHeartbeats 600000 in
theorem s_law28 {Γ : fx_G} {nm : String} {i : Nat} (hN31 : Γ.2.2.2 98 < 2 ^ 31) (hi : i + 8 ≤ Γ.2.2.2 98) {m : fx_M} {na nd : Nat} (R : fr_R m na nd) (ih : ∀ m', fx_Rel m' → fx_E Γ (mL_law nm) 20 0 119 (fun r _ => r = some (.int 1)) 119 m' 1622 [some (.ref (Γ.2.2.2 99)), some (fx_rf Γ 0), some (fx_rf Γ 83), some (.int (nI i))] []) : fx_E Γ (mL_law nm) 20 0 119 (fun r _ => r = some (.int 1)) 119 m 1263 [some (.ref (Γ.2.2.2 99)), some (fx_rf Γ 0), some (fx_rf Γ 83), some (.int (nI i))] [] := by
  have hL := R.1
  have h8 := R.2.1.1
  have h5 := R.2.1.2
  have hna := R.2.2.1.1
  have hnd := R.2.2.1.2.1
  have hcn := R.2.2.2.2.1.1
  refine e_aload_n dL_law_1263 rfl ?_
  refine e_aload_n dL_law_1264 rfl ?_
  refine e_iload_n dL_law_1265 rfl ?_
  refine e_iconst dL_law_1266 kci_1 ?_
  refine e_iadd dL_law_1267 ?_
  refine e_xald (j := i + 1) dL_law_1268 (by rw [show (1 : Int32) = nI 1 from rfl, nI_add]) (by omega) hN31 ?_
  refine e_callV (μ' := mX8_dearest) (ci := 8) (As := [.int (Int32.ofNat (Γ.2.2.2 (100 + (i + 1))))]) dL_law_1269 wl_L_136 ok_X8_dearest rfl rfl (fx_pi_lt (by decide)) (by decide) (Nat.le_of_ble_eq_true rfl) fx_n1 (s_X8_dearest (m := m) hL hna h8 hnd h5 R.2.2.2.2.2.2.2.2.2.2 (fun x hx => (R.sp x hx).2) (Int32.ofNat (Γ.2.2.2 (100 + (i + 1))))) rfl (fun r_ m_ hpost => ?_)
  revert r_ m_
  intro r_ m1 hpost
  obtain ⟨rfl, f1, M1⟩ := hpost
  have hm := fr_tabM R f1 (fun o h => by omega)
  refine e_aload_n dL_law_1272 rfl ?_
  refine e_aload_n dL_law_1273 rfl ?_
  refine e_iload_n dL_law_1274 rfl ?_
  refine e_iconst dL_law_1275 kci_1 ?_
  refine e_iadd dL_law_1276 ?_
  refine e_xald (j := i + 1) dL_law_1277 (by rw [show (1 : Int32) = nI 1 from rfl, nI_add]) (by omega) hN31 ?_
  refine e_callV (μ' := mX9_dearest) (ci := 9) (As := [.int (Int32.ofNat (Γ.2.2.2 (100 + (i + 1))))]) dL_law_1278 wl_L_139 ok_X9_dearest rfl rfl (fx_pi_lt (by decide)) (by decide) (Nat.le_of_ble_eq_true rfl) fx_n1 (s_X9_dearest (m := m1) hm.1 hm.2.1 hm.2.2.2.1 (fun x hx => (R.sp x hx).2) (Int32.ofNat (Γ.2.2.2 (100 + (i + 1))))) rfl (fun r_ m_ hpost => ?_)
  revert r_ m_
  intro r_ m2 hpost
  rw [q_dea_eq ] at hpost
  obtain ⟨rfl, K2⟩ := hpost
  refine e_icmp_eq 1622 dL_law_1281 rfl (fun _ => ?_) (fun h => absurd rfl h)
  exact ih _ ⟨na, nd, fr_tab R f1 M1 K2⟩
set_option maxRecDepth 100000 in
set_option maxHeartbeats 600000 in
theorem s_law22 {Γ : fx_G} {nm : String} {i : Nat} (hN31 : Γ.2.2.2 98 < 2 ^ 31) (hi : i + 8 ≤ Γ.2.2.2 98) {m : fx_M} {na nd : Nat} (R : fr_R m na nd) (ih : ∀ m', fx_Rel m' → fx_E Γ (mL_law nm) 20 0 119 (fun r _ => r = some (.int 1)) 119 m' 1622 [some (.ref (Γ.2.2.2 99)), some (fx_rf Γ 0), some (fx_rf Γ 83), some (.int (nI i))] []) : fx_E Γ (mL_law nm) 20 0 119 (fun r _ => r = some (.int 1)) 119 m 1085 [some (.ref (Γ.2.2.2 99)), some (fx_rf Γ 0), some (fx_rf Γ 83), some (.int (nI i))] [] := by
  have hL := R.1
  have h8 := R.2.1.1
  have h5 := R.2.1.2
  have hna := R.2.2.1.1
  have hnd := R.2.2.1.2.1
  have hcn := R.2.2.2.2.1.1
  refine e_aload_n dL_law_1085 rfl ?_
  refine e_callV (μ' := mX8_cast) (ci := 8) (As := []) dL_law_1086 wl_L_112 ok_X8_cast rfl rfl (fx_pi_lt (by decide)) (by decide) (Nat.le_of_ble_eq_true rfl) fx_n1 (s_X8_cast (m := m) hL hna h8 hnd h5 R.2.2.2.2.2.2.2.2.2.2) rfl (fun r_ m_ hpost => ?_)
  revert r_ m_
  intro r_ m1 hpost
  obtain ⟨rfl, f1, M1⟩ := hpost
  have hm := fr_tabM (b := 0) R (by rw [fr_no0]; exact f1) (fun o h => by omega)
  refine e_aload_n dL_law_1089 rfl ?_
  refine e_callV (μ' := mX9_cast) (ci := 9) (As := []) dL_law_1090 wl_L_115 ok_X9_cast rfl rfl (fx_pi_lt (by decide)) (by decide) (Nat.le_of_ble_eq_true rfl) fx_n1 (s_X9_cast (m := m1) hm.1 hm.2.1 h8 hm.2.2.2.1) rfl (fun r_ m_ hpost => ?_)
  revert r_ m_
  intro r_ m2 hpost
  rw [p_cst_eq R.2.2.1.2.2.2.1.2.2.2.2.2.2.2.1 R.2.2.1.2.2.2.1.2.2.2.2.2.2.2.2 h5] at hpost
  obtain ⟨rfl, M2, K2⟩ := hpost
  refine e_icmp_eq 1622 dL_law_1093 rfl (fun _ => ?_) (fun h => absurd rfl h)
  exact ih _ ⟨na, nd, fr_castR R f1 M1 M2 K2⟩
set_option maxRecDepth 100000 in
set_option maxHeartbeats 600000 in
theorem s_law25 {Γ : fx_G} {nm : String} {i : Nat} (hN31 : Γ.2.2.2 98 < 2 ^ 31) (hi : i + 8 ≤ Γ.2.2.2 98) {m : fx_M} {na nd : Nat} (R : fr_R m na nd) (ih : ∀ m', fx_Rel m' → fx_E Γ (mL_law nm) 20 0 119 (fun r _ => r = some (.int 1)) 119 m' 1622 [some (.ref (Γ.2.2.2 99)), some (fx_rf Γ 0), some (fx_rf Γ 83), some (.int (nI i))] []) : fx_E Γ (mL_law nm) 20 0 119 (fun r _ => r = some (.int 1)) 119 m 1164 [some (.ref (Γ.2.2.2 99)), some (fx_rf Γ 0), some (fx_rf Γ 83), some (.int (nI i))] [] := by
  have hL := R.1
  have h8 := R.2.1.1
  have h5 := R.2.1.2
  have hna := R.2.2.1.1
  have hnd := R.2.2.1.2.1
  have hcn := R.2.2.2.2.1.1
  refine e_aload_n dL_law_1164 rfl ?_
  refine e_aload_n dL_law_1165 rfl ?_
  refine e_iload_n dL_law_1166 rfl ?_
  refine e_iconst dL_law_1167 kci_1 ?_
  refine e_iadd dL_law_1168 ?_
  refine e_xald (j := i + 1) dL_law_1169 (by rw [show (1 : Int32) = nI 1 from rfl, nI_add]) (by omega) hN31 ?_
  refine e_callV (μ' := mX8_queue) (ci := 8) (As := [.int (Int32.ofNat (Γ.2.2.2 (100 + (i + 1))))]) dL_law_1170 wl_L_124 ok_X8_queue rfl rfl (fx_pi_lt (by decide)) (by decide) (Nat.le_of_ble_eq_true rfl) fx_n1 (s_X8_queue (m := m) hL hnd h5 (Int32.ofNat (Γ.2.2.2 (100 + (i + 1))))) rfl (fun r_ m_ hpost => ?_)
  revert r_ m_
  intro r_ m1 hpost
  obtain ⟨rfl, f1, T1⟩ := hpost
  have hm := fr_tabM R f1 (fun o h => by omega)
  have gD := fr_gD R
  refine e_aload_n dL_law_1173 rfl ?_
  refine e_aload_n dL_law_1174 rfl ?_
  refine e_iload_n dL_law_1175 rfl ?_
  refine e_iconst dL_law_1176 kci_1 ?_
  refine e_iadd dL_law_1177 ?_
  refine e_xald (j := i + 1) dL_law_1178 (by rw [show (1 : Int32) = nI 1 from rfl, nI_add]) (by omega) hN31 ?_
  refine e_callV (μ' := mX9_queue) (ci := 9) (As := [.int (Int32.ofNat (Γ.2.2.2 (100 + (i + 1))))]) dL_law_1179 wl_L_127 ok_X9_queue rfl rfl (fx_pi_lt (by decide)) (by decide) (Nat.le_of_ble_eq_true rfl) fx_n1 (s_X9_queue (m := m1) hm.1 hm.2.1 (Int32.ofNat (Γ.2.2.2 (100 + (i + 1))))) rfl (fun r_ m_ hpost => ?_)
  revert r_ m_
  intro r_ m2 hpost
  have hq := q_que_eq (mi := fun d => (fx_tC m).2.1 d 4) (te := fun d => (fx_tC m).2.1 d 5) h5 gD.1 gD.2 (Int32.ofNat (Γ.2.2.2 (100 + (i + 1)))) T1 (p_stq m1)
  rw [hq] at hpost
  obtain ⟨rfl, K2⟩ := hpost
  refine e_icmp_eq 1622 dL_law_1182 rfl (fun _ => ?_) (fun h => absurd rfl h)
  exact ih _ ⟨na, nd, fr_queR R f1 K2⟩
set_option maxRecDepth 100000 in
set_option maxHeartbeats 600000 in
theorem s_law36 {Γ : fx_G} {nm : String} {i : Nat} (hN31 : Γ.2.2.2 98 < 2 ^ 31) (hi : i + 8 ≤ Γ.2.2.2 98) {m : fx_M} {na nd : Nat} (R : fr_R m na nd) (ih : ∀ m', fx_Rel m' → fx_E Γ (mL_law nm) 20 0 119 (fun r _ => r = some (.int 1)) 119 m' 1622 [some (.ref (Γ.2.2.2 99)), some (fx_rf Γ 0), some (fx_rf Γ 83), some (.int (nI i))] []) : fx_E Γ (mL_law nm) 20 0 119 (fun r _ => r = some (.int 1)) 119 m 1507 [some (.ref (Γ.2.2.2 99)), some (fx_rf Γ 0), some (fx_rf Γ 83), some (.int (nI i))] [] := by
  have hL := R.1
  have h8 := R.2.1.1
  have h5 := R.2.1.2
  have hna := R.2.2.1.1
  have hnd := R.2.2.1.2.1
  have hcn := R.2.2.2.2.1.1
  refine e_aload_n dL_law_1507 rfl ?_
  refine e_aload_n dL_law_1508 rfl ?_
  refine e_iload_n dL_law_1509 rfl ?_
  refine e_iconst dL_law_1510 kci_1 ?_
  refine e_iadd dL_law_1511 ?_
  refine e_xald (j := i + 1) dL_law_1512 (by rw [show (1 : Int32) = nI 1 from rfl, nI_add]) (by omega) hN31 ?_
  refine e_aload_n dL_law_1513 rfl ?_
  refine e_iload_n dL_law_1514 rfl ?_
  refine e_iconst dL_law_1515 kci_2 ?_
  refine e_iadd dL_law_1516 ?_
  refine e_xald (j := i + 2) dL_law_1517 (by rw [show (2 : Int32) = nI 2 from rfl, nI_add]) (by omega) hN31 ?_
  refine e_aload_n dL_law_1518 rfl ?_
  refine e_iload_n dL_law_1519 rfl ?_
  refine e_iconst dL_law_1520 kci_3 ?_
  refine e_iadd dL_law_1521 ?_
  refine e_xald (j := i + 3) dL_law_1522 (by rw [show (3 : Int32) = nI 3 from rfl, nI_add]) (by omega) hN31 ?_
  refine e_callV (μ' := mX8_act) (ci := 8) (As := [.int (Int32.ofNat (Γ.2.2.2 (100 + (i + 1)))), .int (Int32.ofNat (Γ.2.2.2 (100 + (i + 2)))), .int (Int32.ofNat (Γ.2.2.2 (100 + (i + 3))))]) dL_law_1523 wl_L_168 ok_X8_act rfl rfl (fx_pi_lt (by decide)) (by decide) (Nat.le_of_ble_eq_true rfl) fx_n1 (s_X8_act (m := m) hL hna h8 R.kd (Int32.ofNat (Γ.2.2.2 (100 + (i + 1)))) (Int32.ofNat (Γ.2.2.2 (100 + (i + 2)))) (Int32.ofNat (Γ.2.2.2 (100 + (i + 3))))) rfl (fun r_ m_ hpost => ?_)
  revert r_ m_
  intro r_ m1 hpost
  obtain ⟨rfl, t1, j1, i1, l1, -⟩ := hpost
  have hm := fr_actM R j1 i1 l1
  refine e_aload_n dL_law_1526 rfl ?_
  refine e_aload_n dL_law_1527 rfl ?_
  refine e_iload_n dL_law_1528 rfl ?_
  refine e_iconst dL_law_1529 kci_1 ?_
  refine e_iadd dL_law_1530 ?_
  refine e_xald (j := i + 1) dL_law_1531 (by rw [show (1 : Int32) = nI 1 from rfl, nI_add]) (by omega) hN31 ?_
  refine e_aload_n dL_law_1532 rfl ?_
  refine e_iload_n dL_law_1533 rfl ?_
  refine e_iconst dL_law_1534 kci_2 ?_
  refine e_iadd dL_law_1535 ?_
  refine e_xald (j := i + 2) dL_law_1536 (by rw [show (2 : Int32) = nI 2 from rfl, nI_add]) (by omega) hN31 ?_
  refine e_aload_n dL_law_1537 rfl ?_
  refine e_iload_n dL_law_1538 rfl ?_
  refine e_iconst dL_law_1539 kci_3 ?_
  refine e_iadd dL_law_1540 ?_
  refine e_xald (j := i + 3) dL_law_1541 (by rw [show (3 : Int32) = nI 3 from rfl, nI_add]) (by omega) hN31 ?_
  refine e_callV (μ' := mX9_act) (ci := 9) (As := [.int (Int32.ofNat (Γ.2.2.2 (100 + (i + 1)))), .int (Int32.ofNat (Γ.2.2.2 (100 + (i + 2)))), .int (Int32.ofNat (Γ.2.2.2 (100 + (i + 3))))]) dL_law_1542 wl_L_171 ok_X9_act rfl rfl (fx_pi_lt (by decide)) (by decide) (Nat.le_of_ble_eq_true rfl) fx_n1 (s_X9_act (m := m1) hm.1 hm.2.1 (Int32.ofNat (Γ.2.2.2 (100 + (i + 1)))) (Int32.ofNat (Γ.2.2.2 (100 + (i + 2)))) (Int32.ofNat (Γ.2.2.2 (100 + (i + 3))))) rfl (fun r_ m_ hpost => ?_)
  revert r_ m_
  intro r_ m2 hpost
  obtain ⟨rfl, K2, T2⟩ := hpost
  refine e_icmp_eq 1622 dL_law_1545 rfl (fun _ => ?_) (fun h => absurd rfl h)
  exact ih _ ⟨na, nd, fr_act R t1 j1 i1 l1 K2 T2⟩
set_option maxRecDepth 100000 in
set_option maxHeartbeats 600000 in
theorem s_law38 {Γ : fx_G} {nm : String} {i : Nat} (hN31 : Γ.2.2.2 98 < 2 ^ 31) (hi : i + 8 ≤ Γ.2.2.2 98) {m : fx_M} {na nd : Nat} (R : fr_R m na nd) (ih : ∀ m', fx_Rel m' → fx_E Γ (mL_law nm) 20 0 119 (fun r _ => r = some (.int 1)) 119 m' 1622 [some (.ref (Γ.2.2.2 99)), some (fx_rf Γ 0), some (fx_rf Γ 83), some (.int (nI i))] []) : fx_E Γ (mL_law nm) 20 0 119 (fun r _ => r = some (.int 1)) 119 m 1573 [some (.ref (Γ.2.2.2 99)), some (fx_rf Γ 0), some (fx_rf Γ 83), some (.int (nI i))] [] := by
  have hL := R.1
  have h8 := R.2.1.1
  have h5 := R.2.1.2
  have hna := R.2.2.1.1
  have hnd := R.2.2.1.2.1
  have hcn := R.2.2.2.2.1.1
  refine e_aload_n dL_law_1573 rfl ?_
  refine e_callV (μ' := mX8_image) (ci := 8) (As := []) dL_law_1574 wl_L_176 ok_X8_image rfl rfl (fx_pi_lt (by decide)) (by decide) (Nat.le_of_ble_eq_true rfl) fx_n1 (s_X8_image (m := m) hL h8 h5 R.H R.2.2.1.2.2.1 R.2.2.2.1.1) rfl (fun r_ m_ hpost => ?_)
  revert r_ m_
  intro r_ m1 hpost
  obtain ⟨rfl, ma, f1, H1, rfl⟩ := hpost
  have hm := fr_imgM R f1
  refine e_aload_n dL_law_1577 rfl ?_
  refine e_callV (μ' := mX9_image) (ci := 9) (As := []) dL_law_1578 wl_L_179 ok_X9_image rfl rfl (fx_pi_lt (by decide)) (by decide) (Nat.le_of_ble_eq_true rfl) fx_n1 (s_X9_image (m := fx_sI ma 0 3 1) hm.1 hm.2.1 h8) rfl (fun r_ m_ hpost => ?_)
  revert r_ m_
  intro r_ m2 hpost
  obtain ⟨rfl, M2, I2, e50, K2⟩ := hpost
  refine e_icmp_eq 1622 dL_law_1581 rfl (fun _ => ?_) (fun h => absurd rfl h)
  exact ih _ ⟨na, nd, fr_img R f1 H1 M2 I2 e50 K2⟩
set_option maxRecDepth 100000 in
set_option maxHeartbeats 600000 in
theorem s_law39 {Γ : fx_G} {nm : String} {i : Nat} (hN31 : Γ.2.2.2 98 < 2 ^ 31) (hi : i + 8 ≤ Γ.2.2.2 98) {m : fx_M} {na nd : Nat} (R : fr_R m na nd) (ih : ∀ m', fx_Rel m' → fx_E Γ (mL_law nm) 20 0 119 (fun r _ => r = some (.int 1)) 119 m' 1622 [some (.ref (Γ.2.2.2 99)), some (fx_rf Γ 0), some (fx_rf Γ 83), some (.int (nI i))] []) : fx_E Γ (mL_law nm) 20 0 119 (fun r _ => r = some (.int 1)) 119 m 1586 [some (.ref (Γ.2.2.2 99)), some (fx_rf Γ 0), some (fx_rf Γ 83), some (.int (nI i))] [] := by
  have hL := R.1
  have h8 := R.2.1.1
  have h5 := R.2.1.2
  have hna := R.2.2.1.1
  have hnd := R.2.2.1.2.1
  have hcn := R.2.2.2.2.1.1
  obtain ⟨ni, di, ti, hn, hd, hI⟩ := fr_I.ex R.2.2.2.2.2.2.2.2.1
  refine e_aload_n dL_law_1586 rfl ?_
  refine e_callV (μ' := mX8_restore) (ci := 8) (As := []) dL_law_1587 wl_L_180 ok_X8_restore rfl rfl (fx_pi_lt (by decide)) (by decide) (Nat.le_of_ble_eq_true rfl) fx_n1 (s_X8_restore (m := m) hL hn hd (fun h => (hI h).1) R.2.2.1.2.2.1 R.2.2.2.1.1) rfl (fun r_ m_ hpost => ?_)
  revert r_ m_
  intro r_ m1 hpost
  have hr : r_ = some (.int (if m.1 0 3 = 0 then -6 else nI ni)) := by by_cases e : m.1 0 3 = 0; (rw [if_pos e]; exact (hpost.2 e).1); (rw [if_neg e]; exact (hpost.1 e).1)
  subst hr
  have c1 := fun e => (hpost.1 e).2
  have c0 := fun e => (hpost.2 e).2
  have cm := fr_restM R c1 c0
  have hm := R.mod cm (fun o h => by omega) (fun _ h => h.elim)
  have e50 : m1.1 83 50 = m.1 0 3 := by rw [cm.2.1 83 (by omega)]; exact R.2.2.2.2.2.2.2.2.1.1.symm
  refine e_aload_n dL_law_1590 rfl ?_
  refine e_callV (μ' := mX9_restore) (ci := 9) (As := []) dL_law_1591 wl_L_183 ok_X9_restore rfl rfl (fx_pi_lt (by decide)) (by decide) (Nat.le_of_ble_eq_true rfl) fx_n1 (s_X9_restore (m := m1) (na := ni) (nd := di) (t := ti) hm.1 (fun h => (hI (fun q => h (e50.trans q))).2.1.cg (cm.2.1 112 (by omega))) hm.2.2.1) rfl (fun r_ m_ hpost => ?_)
  revert r_ m_
  intro r_ m2 hpost
  have hr : r_ = some (.int (if m.1 0 3 = 0 then -6 else nI ni)) := by by_cases e : m.1 0 3 = 0; (rw [if_pos e]; exact (hpost.2 (e50.trans e)).1); (rw [if_neg e]; exact (hpost.1 (fun q => e (e50.symm.trans q))).1)
  subst hr
  refine e_icmp_eq 1622 dL_law_1594 rfl (fun _ => ?_) (fun h => absurd rfl h)
  exact ih _ (fr_rest R hn hd c1 c0 (fun h => (hpost.1 h).2) (fun h => (hpost.2 h).2) (fun h => (hI h).2.2))
