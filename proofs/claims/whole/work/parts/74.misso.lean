set_option maxRecDepth 100000 in
set_option maxHeartbeats 600000 in
theorem s_X9_isSo0 {Γ : fx_G} {m : fx_M} (hL : fx_Lay m) (W : fx_WC m) {v : Nat} (hv : m.1 83 37 = nI v) (hv9 : v < 2 ^ 31) {i : Nat} (hi : i < 6) : fx_Ct Γ mX9_isSo 1 119 119 [fx_rf Γ 83, .int 0, .int (nI i)] m (fx_is (some (.int (if nI v ≤ fx_tab 1 i then 1 else 0))) m) := by
  refine fx_Ct.of (j := 0) (by decide) (Nat.le_of_ble_eq_true rfl) (Nat.le_of_ble_eq_true rfl) ?_
  show fx_E Γ mX9_isSo 1 119 119 _ 119 m 0 [some (fx_rf Γ 83), some (.int 0), some (.int (nI i))] []
  refine e_iload_n dX9_isSo_0 rfl ?_
  refine e_if_ne 23 dX9_isSo_1 rfl (fun h => absurd h (by decide)) (fun _ => ?_)
  refine e_aload_n dX9_isSo_4 rfl ?_
  refine e_getv (v := nI v) dX9_isSo_5 ff_X9_205 rfl (fx_pi_lt (by decide)) (by decide) rfl hv ?_
  refine e_aload_n dX9_isSo_8 rfl ?_
  refine e_getr (o2 := 108) dX9_isSo_9 ff_X9_90 rfl (fx_pi_lt (by decide)) (by decide) rfl (hL _ _ _ rfl) ?_
  refine e_iload_n dX9_isSo_12 rfl ?_
  refine e_ialdv (j := i) (v := fx_tab 1 i) dX9_isSo_13 rfl (fx_pi_lt (by decide)) rfl (by omega) (by decide) (W.2.2.1 _ hi) ?_
  refine e_icmp_gt 21 dX9_isSo_14 rfl (fun c_1 => ?_) (fun c_1 => ?_)
  · refine e_iconst dX9_isSo_21 kci_0 ?_
    exact e_iret dX9_isSo_22 rfl rfl rfl ⟨by rw [if_neg (Int32.not_le.mpr c_1)], rfl⟩
  · refine e_iconst dX9_isSo_17 kci_1 ?_
    refine e_goto 22 dX9_isSo_18 rfl ?_
    exact e_iret dX9_isSo_22 rfl rfl rfl ⟨by rw [if_pos (Int32.not_lt.mp c_1)], rfl⟩
set_option maxRecDepth 100000 in
set_option maxHeartbeats 600000 in
theorem s_X9_isSo1 {Γ : fx_G} {m : fx_M} (hL : fx_Lay m) (W : fx_WC m) {v : Nat} (hv : m.1 83 37 = nI v) (hv9 : v < 2 ^ 31) {i : Nat} (hi : i < 7) : fx_Ct Γ mX9_isSo 1 119 119 [fx_rf Γ 83, .int 1, .int (nI i)] m (fx_is (some (.int (if p_in (nI v) (if i = 4 then 1 else 0) (fx_tab 3 i) then 1 else 0))) m) := by
  refine fx_Ct.of (j := 0) (by decide) (Nat.le_of_ble_eq_true rfl) (Nat.le_of_ble_eq_true rfl) ?_
  show fx_E Γ mX9_isSo 1 119 119 _ 119 m 0 [some (fx_rf Γ 83), some (.int 1), some (.int (nI i))] []
  refine e_iload_n dX9_isSo_0 rfl ?_
  refine e_if_ne 23 dX9_isSo_1 rfl (fun _ => ?_) (fun h => absurd h (by decide))
  refine e_iload_n dX9_isSo_23 rfl ?_
  refine e_iconst dX9_isSo_24 kci_1 ?_
  refine e_icmp_ne 53 dX9_isSo_25 rfl (fun h => absurd h (by decide)) (fun _ => ?_)
  refine e_aload_n dX9_isSo_28 rfl ?_
  refine e_aload_n dX9_isSo_29 rfl ?_
  refine e_getv (v := nI v) dX9_isSo_30 ff_X9_205 rfl (fx_pi_lt (by decide)) (by decide) rfl hv ?_
  refine e_iload_n dX9_isSo_33 rfl ?_
  refine e_iconst dX9_isSo_34 kci_4 ?_
  refine e_icmp_ne 42 dX9_isSo_35 rfl (fun c_i => ?_) (fun c_i => ?_)
  · refine e_iconst dX9_isSo_42 kci_0 ?_
    refine e_aload_n dX9_isSo_43 rfl ?_
    refine e_getr (o2 := 109) dX9_isSo_44 ff_X9_93 rfl (fx_pi_lt (by decide)) (by decide) rfl (hL _ _ _ rfl) ?_
    refine e_iload_n dX9_isSo_47 rfl ?_
    refine e_ialdv (j := i) (v := fx_tab 3 i) dX9_isSo_48 rfl (fx_pi_lt (by decide)) rfl (by omega) (by decide) (W.2.2.2 _ hi) ?_
    refine e_callV1 (μ' := mX9_isFrom) (ci := 9) (As := [.int (nI v), .int 0, .int (fx_tab 3 i)]) dX9_isSo_49 wl_X9_172 ok_X9_isFrom rfl rfl (fx_pi_lt (by decide)) (by decide) (Nat.le_of_ble_eq_true rfl) fx_n1 (s_X9_isFrom (m := m) hL (nI v) 0 (fx_tab 3 i)) rfl ?_
    have hi4 : ¬ i = 4 := fun h => c_i ((nI_eq (b := 4) (by omega) (by decide)).mpr h)
    exact e_iret dX9_isSo_52 rfl rfl (by split <;> rfl) ⟨by rw [if_neg hi4], rfl⟩
  · refine e_iconst dX9_isSo_38 kci_1 ?_
    refine e_goto 43 dX9_isSo_39 rfl ?_
    refine e_aload_n dX9_isSo_43 rfl ?_
    refine e_getr (o2 := 109) dX9_isSo_44 ff_X9_93 rfl (fx_pi_lt (by decide)) (by decide) rfl (hL _ _ _ rfl) ?_
    refine e_iload_n dX9_isSo_47 rfl ?_
    refine e_ialdv (j := i) (v := fx_tab 3 i) dX9_isSo_48 rfl (fx_pi_lt (by decide)) rfl (by omega) (by decide) (W.2.2.2 _ hi) ?_
    refine e_callV1 (μ' := mX9_isFrom) (ci := 9) (As := [.int (nI v), .int 1, .int (fx_tab 3 i)]) dX9_isSo_49 wl_X9_172 ok_X9_isFrom rfl rfl (fx_pi_lt (by decide)) (by decide) (Nat.le_of_ble_eq_true rfl) fx_n1 (s_X9_isFrom (m := m) hL (nI v) 1 (fx_tab 3 i)) rfl ?_
    have hi4 : i = 4 := (nI_eq (b := 4) (by omega) (by decide)).mp c_i
    exact e_iret dX9_isSo_52 rfl rfl (by split <;> rfl) ⟨by rw [if_pos hi4], rfl⟩
set_option maxRecDepth 100000 in
set_option maxHeartbeats 600000 in
theorem s_X9_isSo20 {Γ : fx_G} {m : fx_M} (hL : fx_Lay m) {na nd : Nat} {t : p_Sg} (H : fx_MS m na nd t) {v : Nat} (hv : m.1 83 37 = nI v) (hv9 : v < 2 ^ 31) : fx_Ct Γ mX9_isSo 1 119 119 [fx_rf Γ 83, .int 2, .int 0] m (fx_is (some (.int (if v < na ∧ t.1 v 6 = 99 then 1 else 0))) m) := by
  refine fx_Ct.of (j := 0) (by decide) (Nat.le_of_ble_eq_true rfl) (Nat.le_of_ble_eq_true rfl) ?_
  show fx_E Γ mX9_isSo 1 119 119 _ 119 m 0 [some (fx_rf Γ 83), some (.int 2), some (.int 0)] []
  have h9 := H.2.2.2.2.2.1
  have h5 := H.2.2.2.2.2.2.1
  refine e_iload_n dX9_isSo_0 rfl ?_
  refine e_if_ne 23 dX9_isSo_1 rfl (fun _ => ?_) (fun h => absurd h (by decide))
  refine e_iload_n dX9_isSo_23 rfl ?_
  refine e_iconst dX9_isSo_24 kci_1 ?_
  refine e_icmp_ne 53 dX9_isSo_25 rfl (fun _ => ?_) (fun h => absurd h (by decide))
  refine e_iload_n dX9_isSo_53 rfl ?_
  refine e_iconst dX9_isSo_54 kci_4 ?_
  refine e_icmp_ne 80 dX9_isSo_55 rfl (fun _ => ?_) (fun h => absurd h (by decide))
  refine e_iload_n dX9_isSo_80 rfl ?_
  refine e_if_ne 133 dX9_isSo_81 rfl (fun h => absurd h (by decide)) (fun _ => ?_)
  refine e_aload_n dX9_isSo_84 rfl ?_
  refine e_getv (v := nI v) dX9_isSo_85 ff_X9_205 rfl (fx_pi_lt (by decide)) (by decide) rfl hv ?_
  refine e_aload_n dX9_isSo_88 rfl ?_
  refine e_getv (v := nI na) dX9_isSo_89 ff_X9_126 rfl (fx_pi_lt (by decide)) (by decide) rfl H.1 ?_
  refine e_icmp_ge 131 dX9_isSo_92 rfl (fun c_a => ?_) (fun c_a => ?_)
  · refine e_iconst dX9_isSo_131 kci_0 ?_
    exact e_iret dX9_isSo_132 rfl rfl rfl ⟨by rw [if_neg (fun h => absurd c_a (nI_ge h.1 (by omega)))], rfl⟩
  · have hva : v < na := by rcases Nat.lt_or_ge v na with h | h; exact h; exact absurd (nI_le h (by omega)) c_a
    refine e_aload_n dX9_isSo_95 rfl ?_
    refine e_getr (o2 := 91) dX9_isSo_96 ff_X9_38 rfl (fx_pi_lt (by decide)) (by decide) rfl (hL _ _ _ rfl) ?_
    refine e_aload_n dX9_isSo_99 rfl ?_
    refine e_getv (v := nI v) dX9_isSo_100 ff_X9_205 rfl (fx_pi_lt (by decide)) (by decide) rfl hv ?_
    refine e_ialdv (j := v) (v := t.1 v 6) dX9_isSo_103 rfl (fx_pi_lt (by decide)) rfl (by omega) (by decide) (H.2.2.2.1 _ hva 6 (by decide)) ?_
    refine e_bipush dX9_isSo_104 kcb_99 ?_
    refine e_icmp_ne 113 dX9_isSo_106 rfl (fun c_p => ?_) (fun c_p => ?_)
    · refine e_iconst dX9_isSo_113 kci_0 ?_
      refine e_iload_n dX9_isSo_114 rfl ?_
      refine e_iconst dX9_isSo_115 kci_2 ?_
      refine e_icmp_ne 123 dX9_isSo_116 rfl (fun h => absurd h (by decide)) (fun _ => ?_)
      refine e_iconst dX9_isSo_119 kci_1 ?_
      refine e_goto 124 dX9_isSo_120 rfl ?_
      refine e_icmp_ne 131 dX9_isSo_124 rfl (fun _ => ?_) (fun h => absurd h (by decide))
      refine e_iconst dX9_isSo_131 kci_0 ?_
      exact e_iret dX9_isSo_132 rfl rfl rfl ⟨by rw [if_neg (fun h => c_p h.2)], rfl⟩
    · refine e_iconst dX9_isSo_109 kci_1 ?_
      refine e_goto 114 dX9_isSo_110 rfl ?_
      refine e_iload_n dX9_isSo_114 rfl ?_
      refine e_iconst dX9_isSo_115 kci_2 ?_
      refine e_icmp_ne 123 dX9_isSo_116 rfl (fun h => absurd h (by decide)) (fun _ => ?_)
      refine e_iconst dX9_isSo_119 kci_1 ?_
      refine e_goto 124 dX9_isSo_120 rfl ?_
      refine e_icmp_ne 131 dX9_isSo_124 rfl (fun h => absurd h (by decide)) (fun _ => ?_)
      refine e_iconst dX9_isSo_127 kci_1 ?_
      refine e_goto 132 dX9_isSo_128 rfl ?_
      exact e_iret dX9_isSo_132 rfl rfl rfl ⟨by rw [if_pos ⟨hva, c_p⟩], rfl⟩
set_option maxRecDepth 100000 in
set_option maxHeartbeats 600000 in
theorem s_X9_isSo30 {Γ : fx_G} {m : fx_M} (hL : fx_Lay m) {na nd : Nat} {t : p_Sg} (H : fx_MS m na nd t) {v : Nat} (hv : m.1 83 37 = nI v) (hv9 : v < 2 ^ 31) : fx_Ct Γ mX9_isSo 1 119 119 [fx_rf Γ 83, .int 3, .int 0] m (fx_is (some (.int (if v < na ∧ ¬ t.1 v 6 = 99 then 1 else 0))) m) := by
  refine fx_Ct.of (j := 0) (by decide) (Nat.le_of_ble_eq_true rfl) (Nat.le_of_ble_eq_true rfl) ?_
  show fx_E Γ mX9_isSo 1 119 119 _ 119 m 0 [some (fx_rf Γ 83), some (.int 3), some (.int 0)] []
  have h9 := H.2.2.2.2.2.1
  have h5 := H.2.2.2.2.2.2.1
  refine e_iload_n dX9_isSo_0 rfl ?_
  refine e_if_ne 23 dX9_isSo_1 rfl (fun _ => ?_) (fun h => absurd h (by decide))
  refine e_iload_n dX9_isSo_23 rfl ?_
  refine e_iconst dX9_isSo_24 kci_1 ?_
  refine e_icmp_ne 53 dX9_isSo_25 rfl (fun _ => ?_) (fun h => absurd h (by decide))
  refine e_iload_n dX9_isSo_53 rfl ?_
  refine e_iconst dX9_isSo_54 kci_4 ?_
  refine e_icmp_ne 80 dX9_isSo_55 rfl (fun _ => ?_) (fun h => absurd h (by decide))
  refine e_iload_n dX9_isSo_80 rfl ?_
  refine e_if_ne 133 dX9_isSo_81 rfl (fun h => absurd h (by decide)) (fun _ => ?_)
  refine e_aload_n dX9_isSo_84 rfl ?_
  refine e_getv (v := nI v) dX9_isSo_85 ff_X9_205 rfl (fx_pi_lt (by decide)) (by decide) rfl hv ?_
  refine e_aload_n dX9_isSo_88 rfl ?_
  refine e_getv (v := nI na) dX9_isSo_89 ff_X9_126 rfl (fx_pi_lt (by decide)) (by decide) rfl H.1 ?_
  refine e_icmp_ge 131 dX9_isSo_92 rfl (fun c_a => ?_) (fun c_a => ?_)
  · refine e_iconst dX9_isSo_131 kci_0 ?_
    exact e_iret dX9_isSo_132 rfl rfl rfl ⟨by rw [if_neg (fun h => absurd c_a (nI_ge h.1 (by omega)))], rfl⟩
  · have hva : v < na := by rcases Nat.lt_or_ge v na with h | h; exact h; exact absurd (nI_le h (by omega)) c_a
    refine e_aload_n dX9_isSo_95 rfl ?_
    refine e_getr (o2 := 91) dX9_isSo_96 ff_X9_38 rfl (fx_pi_lt (by decide)) (by decide) rfl (hL _ _ _ rfl) ?_
    refine e_aload_n dX9_isSo_99 rfl ?_
    refine e_getv (v := nI v) dX9_isSo_100 ff_X9_205 rfl (fx_pi_lt (by decide)) (by decide) rfl hv ?_
    refine e_ialdv (j := v) (v := t.1 v 6) dX9_isSo_103 rfl (fx_pi_lt (by decide)) rfl (by omega) (by decide) (H.2.2.2.1 _ hva 6 (by decide)) ?_
    refine e_bipush dX9_isSo_104 kcb_99 ?_
    refine e_icmp_ne 113 dX9_isSo_106 rfl (fun c_p => ?_) (fun c_p => ?_)
    · refine e_iconst dX9_isSo_113 kci_0 ?_
      refine e_iload_n dX9_isSo_114 rfl ?_
      refine e_iconst dX9_isSo_115 kci_2 ?_
      refine e_icmp_ne 123 dX9_isSo_116 rfl (fun _ => ?_) (fun h => absurd h (by decide))
      refine e_iconst dX9_isSo_123 kci_0 ?_
      refine e_icmp_ne 131 dX9_isSo_124 rfl (fun h => absurd h (by decide)) (fun _ => ?_)
      refine e_iconst dX9_isSo_127 kci_1 ?_
      refine e_goto 132 dX9_isSo_128 rfl ?_
      exact e_iret dX9_isSo_132 rfl rfl rfl ⟨by rw [if_pos ⟨hva, c_p⟩], rfl⟩
    · refine e_iconst dX9_isSo_109 kci_1 ?_
      refine e_goto 114 dX9_isSo_110 rfl ?_
      refine e_iload_n dX9_isSo_114 rfl ?_
      refine e_iconst dX9_isSo_115 kci_2 ?_
      refine e_icmp_ne 123 dX9_isSo_116 rfl (fun _ => ?_) (fun h => absurd h (by decide))
      refine e_iconst dX9_isSo_123 kci_0 ?_
      refine e_icmp_ne 131 dX9_isSo_124 rfl (fun _ => ?_) (fun h => absurd h (by decide))
      refine e_iconst dX9_isSo_131 kci_0 ?_
      exact e_iret dX9_isSo_132 rfl rfl rfl ⟨by rw [if_neg (fun h => h.2 c_p)], rfl⟩
set_option maxRecDepth 100000 in
set_option maxHeartbeats 600000 in
theorem s_X9_isSo40 {Γ : fx_G} {m : fx_M} (hL : fx_Lay m) {na nd : Nat} {t : p_Sg} (H : fx_MS m na nd t) {v : Nat} (hv : m.1 83 37 = nI v) (hv9 : v < 2 ^ 31) : fx_Ct Γ mX9_isSo 1 119 119 [fx_rf Γ 83, .int 4, .int 0] m (fx_is (some (.int (if v < nd then 1 else 0))) m) := by
  refine fx_Ct.of (j := 0) (by decide) (Nat.le_of_ble_eq_true rfl) (Nat.le_of_ble_eq_true rfl) ?_
  show fx_E Γ mX9_isSo 1 119 119 _ 119 m 0 [some (fx_rf Γ 83), some (.int 4), some (.int 0)] []
  have h9 := H.2.2.2.2.2.1
  have h5 := H.2.2.2.2.2.2.1
  refine e_iload_n dX9_isSo_0 rfl ?_
  refine e_if_ne 23 dX9_isSo_1 rfl (fun _ => ?_) (fun h => absurd h (by decide))
  refine e_iload_n dX9_isSo_23 rfl ?_
  refine e_iconst dX9_isSo_24 kci_1 ?_
  refine e_icmp_ne 53 dX9_isSo_25 rfl (fun _ => ?_) (fun h => absurd h (by decide))
  refine e_iload_n dX9_isSo_53 rfl ?_
  refine e_iconst dX9_isSo_54 kci_4 ?_
  refine e_icmp_ne 80 dX9_isSo_55 rfl (fun h => absurd h (by decide)) (fun _ => ?_)
  refine e_iload_n dX9_isSo_58 rfl ?_
  refine e_iconst dX9_isSo_59 kci_1 ?_
  refine e_icmp_eq 74 dX9_isSo_60 rfl (fun h => absurd h (by decide)) (fun _ => ?_)
  refine e_aload_n dX9_isSo_63 rfl ?_
  refine e_getv (v := nI v) dX9_isSo_64 ff_X9_205 rfl (fx_pi_lt (by decide)) (by decide) rfl hv ?_
  refine e_aload_n dX9_isSo_67 rfl ?_
  refine e_getv (v := nI nd) dX9_isSo_68 ff_X9_129 rfl (fx_pi_lt (by decide)) (by decide) rfl H.2.1 ?_
  refine e_icmp_ge 78 dX9_isSo_71 rfl (fun c_a => ?_) (fun c_a => ?_)
  · refine e_iconst dX9_isSo_78 kci_0 ?_
    exact e_iret dX9_isSo_79 rfl rfl rfl ⟨by rw [if_neg (fun h => absurd c_a (nI_ge h (by omega)))], rfl⟩
  · refine e_iconst dX9_isSo_74 kci_1 ?_
    refine e_goto 79 dX9_isSo_75 rfl ?_
    exact e_iret dX9_isSo_79 rfl rfl rfl ⟨by rw [if_pos (by rcases Nat.lt_or_ge v nd with h | h; exact h; exact absurd (nI_le h (by omega)) c_a)], rfl⟩
set_option maxRecDepth 100000 in
set_option maxHeartbeats 600000 in
theorem s_X9_isSo41 {Γ : fx_G} {m : fx_M} (hL : fx_Lay m) : fx_Ct Γ mX9_isSo 1 119 119 [fx_rf Γ 83, .int 4, .int 1] m (fx_is (some (.int 1)) m) := by
  refine fx_Ct.of (j := 0) (by decide) (Nat.le_of_ble_eq_true rfl) (Nat.le_of_ble_eq_true rfl) ?_
  show fx_E Γ mX9_isSo 1 119 119 _ 119 m 0 [some (fx_rf Γ 83), some (.int 4), some (.int 1)] []
  refine e_iload_n dX9_isSo_0 rfl ?_
  refine e_if_ne 23 dX9_isSo_1 rfl (fun _ => ?_) (fun h => absurd h (by decide))
  refine e_iload_n dX9_isSo_23 rfl ?_
  refine e_iconst dX9_isSo_24 kci_1 ?_
  refine e_icmp_ne 53 dX9_isSo_25 rfl (fun _ => ?_) (fun h => absurd h (by decide))
  refine e_iload_n dX9_isSo_53 rfl ?_
  refine e_iconst dX9_isSo_54 kci_4 ?_
  refine e_icmp_ne 80 dX9_isSo_55 rfl (fun h => absurd h (by decide)) (fun _ => ?_)
  refine e_iload_n dX9_isSo_58 rfl ?_
  refine e_iconst dX9_isSo_59 kci_1 ?_
  refine e_icmp_eq 74 dX9_isSo_60 rfl (fun _ => ?_) (fun h => absurd (by decide) h)
  refine e_iconst dX9_isSo_74 kci_1 ?_
  refine e_goto 79 dX9_isSo_75 rfl ?_
  exact e_iret dX9_isSo_79 rfl rfl rfl ⟨rfl, rfl⟩
theorem p_at_lt31 {A : Nat → Nat → Int32} {na : Nat} {d s : Int32} {x : Nat} (h : p_at A na d s = some x) (h9 : na ≤ 9) : x < 2 ^ 31 := by
  have := p_at_lt h
  omega
set_option maxRecDepth 100000 in
set_option maxHeartbeats 600000 in
theorem s_X9_isSo21 {Γ : fx_G} {m : fx_M} (hL : fx_Lay m) {na nd : Nat} {t : p_Sg} (H : fx_MS m na nd t) {v : Nat} (hv : m.1 83 37 = nI v) (hv9 : v < 2 ^ 31) {x : Nat} (hx : x < na) (htd : m.1 110 0 = nI x) : fx_Ct Γ mX9_isSo 2 119 119 [fx_rf Γ 83, .int 2, .int 1] m (fx_is (some (.int (if v < nd ∧ p_at t.1 na (nI v) (t.1 x 2) = none ∧ p_fit (t.1 x) (t.2.1 v) (t.1 x 2) then 1 else 0))) m) := by
  refine fx_Ct.of (j := 0) (by decide) (Nat.le_of_ble_eq_true rfl) (Nat.le_of_ble_eq_true rfl) ?_
  show fx_E Γ mX9_isSo 2 119 119 _ 119 m 0 [some (fx_rf Γ 83), some (.int 2), some (.int 1)] []
  have h9 := H.2.2.2.2.2.1
  have h5 := H.2.2.2.2.2.2.1
  refine e_iload_n dX9_isSo_0 rfl ?_
  refine e_if_ne 23 dX9_isSo_1 rfl (fun _ => ?_) (fun h => absurd h (by decide))
  refine e_iload_n dX9_isSo_23 rfl ?_
  refine e_iconst dX9_isSo_24 kci_1 ?_
  refine e_icmp_ne 53 dX9_isSo_25 rfl (fun _ => ?_) (fun h => absurd h (by decide))
  refine e_iload_n dX9_isSo_53 rfl ?_
  refine e_iconst dX9_isSo_54 kci_4 ?_
  refine e_icmp_ne 80 dX9_isSo_55 rfl (fun _ => ?_) (fun h => absurd h (by decide))
  refine e_iload_n dX9_isSo_80 rfl ?_
  refine e_if_ne 133 dX9_isSo_81 rfl (fun _ => ?_) (fun h => absurd h (by decide))
  refine e_aload_n dX9_isSo_133 rfl ?_
  refine e_getv (v := nI v) dX9_isSo_134 ff_X9_205 rfl (fx_pi_lt (by decide)) (by decide) rfl hv ?_
  refine e_aload_n dX9_isSo_137 rfl ?_
  refine e_getv (v := nI nd) dX9_isSo_138 ff_X9_129 rfl (fx_pi_lt (by decide)) (by decide) rfl H.2.1 ?_
  refine e_icmp_ge 199 dX9_isSo_141 rfl (fun c_a => ?_) (fun c_a => ?_)
  · refine e_iconst dX9_isSo_199 kci_0 ?_
    exact e_iret dX9_isSo_200 rfl rfl rfl ⟨by rw [if_neg (fun h => absurd c_a (nI_ge h.1 (by omega)))], rfl⟩
  · have hvd : v < nd := by rcases Nat.lt_or_ge v nd with h | h; exact h; exact absurd (nI_le h (by omega)) c_a
    refine e_aload_n dX9_isSo_144 rfl ?_
    refine e_aload_n dX9_isSo_145 rfl ?_
    refine e_getv (v := nI v) dX9_isSo_146 ff_X9_205 rfl (fx_pi_lt (by decide)) (by decide) rfl hv ?_
    refine e_aload_n dX9_isSo_149 rfl ?_
    refine e_getr (o2 := 87) dX9_isSo_150 ff_X9_26 rfl (fx_pi_lt (by decide)) (by decide) rfl (hL _ _ _ rfl) ?_
    refine e_aload_n dX9_isSo_153 rfl ?_
    refine e_getr (o2 := 110) dX9_isSo_154 ff_X9_96 rfl (fx_pi_lt (by decide)) (by decide) rfl (hL _ _ _ rfl) ?_
    refine e_iconst dX9_isSo_157 kci_0 ?_
    refine e_ialdv (j := 0) (v := nI x) dX9_isSo_158 rfl (fx_pi_lt (by decide)) rfl (by decide) (by decide) htd ?_
    refine e_ialdv (j := x) (v := t.1 x 2) dX9_isSo_159 rfl (fx_pi_lt (by decide)) rfl (by omega) (by decide) (H.2.2.2.1 _ hx 2 (by decide)) ?_
    refine e_callV1 (μ' := mX9_armOn) (ci := 9) (As := [.int (nI v), .int (t.1 x 2)]) dX9_isSo_160 wl_X9_160 ok_X9_armOn rfl rfl (fx_pi_lt (by decide)) (by decide) (Nat.le_of_ble_eq_true rfl) fx_n1 (s_X9_armOn (m := m) hL H (nI v) (t.1 x 2)) rfl ?_
    refine e_iconst dX9_isSo_163 kci_m1 ?_
    refine e_icmp_ne 199 dX9_isSo_164 rfl (fun c_o => ?_) (fun c_o => ?_)
    · refine e_iconst dX9_isSo_199 kci_0 ?_
      exact e_iret dX9_isSo_200 rfl rfl rfl ⟨by rw [if_neg (fun h => c_o (by rw [h.2.1]; rfl))], rfl⟩
    · refine e_aload_n dX9_isSo_167 rfl ?_
      refine e_aload_n dX9_isSo_168 rfl ?_
      refine e_getr (o2 := 110) dX9_isSo_169 ff_X9_96 rfl (fx_pi_lt (by decide)) (by decide) rfl (hL _ _ _ rfl) ?_
      refine e_iconst dX9_isSo_172 kci_0 ?_
      refine e_ialdv (j := 0) (v := nI x) dX9_isSo_173 rfl (fx_pi_lt (by decide)) rfl (by decide) (by decide) htd ?_
      refine e_aload_n dX9_isSo_174 rfl ?_
      refine e_getv (v := nI v) dX9_isSo_175 ff_X9_205 rfl (fx_pi_lt (by decide)) (by decide) rfl hv ?_
      refine e_aload_n dX9_isSo_178 rfl ?_
      refine e_getr (o2 := 87) dX9_isSo_179 ff_X9_26 rfl (fx_pi_lt (by decide)) (by decide) rfl (hL _ _ _ rfl) ?_
      refine e_aload_n dX9_isSo_182 rfl ?_
      refine e_getr (o2 := 110) dX9_isSo_183 ff_X9_96 rfl (fx_pi_lt (by decide)) (by decide) rfl (hL _ _ _ rfl) ?_
      refine e_iconst dX9_isSo_186 kci_0 ?_
      refine e_ialdv (j := 0) (v := nI x) dX9_isSo_187 rfl (fx_pi_lt (by decide)) rfl (by decide) (by decide) htd ?_
      refine e_ialdv (j := x) (v := t.1 x 2) dX9_isSo_188 rfl (fx_pi_lt (by decide)) rfl (by omega) (by decide) (H.2.2.2.1 _ hx 2 (by decide)) ?_
      refine e_callV1 (μ' := mX9_isFit) (ci := 9) (As := [.int (nI x), .int (nI v), .int (t.1 x 2)]) dX9_isSo_189 wl_X9_215 ok_X9_isFit rfl rfl (fx_pi_lt (by decide)) (by decide) (Nat.le_of_ble_eq_true rfl) fx_n1 (s_X9_isFit (m := m) hL H (x := x) hx (d := v) hvd (t.1 x 2)) rfl ?_
      refine e_if_eqB 199 dX9_isSo_192 rfl (fun c_g => ?_) (fun c_g => ?_)
      · refine e_iconst dX9_isSo_199 kci_0 ?_
        exact e_iret dX9_isSo_200 rfl rfl rfl ⟨by rw [if_neg (fun h => c_g h.2.2)], rfl⟩
      · refine e_iconst dX9_isSo_195 kci_1 ?_
        refine e_goto 200 dX9_isSo_196 rfl ?_
        exact e_iret dX9_isSo_200 rfl rfl rfl ⟨by rw [if_pos ⟨hvd, (p_oi_ne (fun x h => p_at_lt31 h h9)).mp c_o, c_g⟩], rfl⟩
