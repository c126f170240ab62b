set_option maxRecDepth 100000 in
set_option maxHeartbeats 600000 in
theorem s_X9_isFit {Γ : fx_G} {m : fx_M} (hL : fx_Lay m) {na nd : Nat} {t : p_Sg} (H : fx_MS m na nd t) {x : Nat} (hx : x < na) {d : Nat} (hd : d < nd) (s : Int32) : fx_Ct Γ mX9_isFit 1 119 119 [fx_rf Γ 83, .int (nI x), .int (nI d), .int s] m (fx_is (some (.int (if p_fit (t.1 x) (t.2.1 d) s then 1 else 0))) m) := by
  refine fx_Ct.of (j := 0) (by decide) (Nat.le_of_ble_eq_true rfl) (Nat.le_of_ble_eq_true rfl) ?_
  show fx_E Γ mX9_isFit 1 119 119 _ 119 m 0 [some (fx_rf Γ 83), some (.int (nI x)), some (.int (nI d)), some (.int s)] []
  have h9 := H.2.2.2.2.2.1
  have h5 := H.2.2.2.2.2.2.1
  have gA := H.2.2.2.2.2.2.2.1 x hx
  have gD := H.2.2.2.2.2.2.2.2 d hd
  refine e_aload_n dX9_isFit_0 rfl ?_
  refine e_getr (o2 := 85) dX9_isFit_1 ff_X9_20 rfl (fx_pi_lt (by decide)) (by decide) rfl (hL _ _ _ rfl) ?_
  refine e_iload_n dX9_isFit_4 rfl ?_
  refine e_ialdv (j := x) (v := t.1 x 0) dX9_isFit_5 rfl (fx_pi_lt (by decide)) rfl (by omega) (by decide) (H.2.2.2.1 _ (by omega) 0 (by decide)) ?_
  refine e_iconst dX9_isFit_6 kci_4 ?_
  refine e_icmp_eq 20 dX9_isFit_7 rfl (fun c_1 => ?_) (fun c_1 => ?_)
  · refine e_aload_n dX9_isFit_20 rfl ?_
    refine e_aload_n dX9_isFit_21 rfl ?_
    refine e_getr (o2 := 88) dX9_isFit_22 ff_X9_29 rfl (fx_pi_lt (by decide)) (by decide) rfl (hL _ _ _ rfl) ?_
    refine e_iload_n dX9_isFit_25 rfl ?_
    refine e_ialdv (j := x) (v := t.1 x 3) dX9_isFit_26 rfl (fx_pi_lt (by decide)) rfl (by omega) (by decide) (H.2.2.2.1 _ (by omega) 3 (by decide)) ?_
    refine e_aload_n dX9_isFit_27 rfl ?_
    refine e_getr (o2 := 92) dX9_isFit_28 ff_X9_41 rfl (fx_pi_lt (by decide)) (by decide) rfl (hL _ _ _ rfl) ?_
    refine e_iload_n dX9_isFit_31 rfl ?_
    refine e_ialdv (j := d) (v := t.2.1 d 0) dX9_isFit_32 rfl (fx_pi_lt (by decide)) rfl (by omega) (by decide) (H.2.2.2.2.1 _ (by omega) 0 (by decide)) ?_
    refine e_callV (μ' := mX9_apart) (ci := 9) (As := [.int (t.1 x 3), .int (t.2.1 d 0)]) dX9_isFit_33 wl_X9_156 ok_X9_apart rfl rfl (fx_pi_lt (by decide)) (by decide) (Nat.le_of_ble_eq_true rfl) fx_n1 (s_X9_apart (m := m) hL (t.1 x 3) (t.2.1 d 0)) rfl (fun r_ m_ hpost => ?_)
    obtain ⟨rfl, e2⟩ := hpost
    have e2 := e2.symm
    subst e2
    rw [p_apt_abs (p_in9 gA.2.2.2.1 (by decide)) (p_in9 gD.1 (by decide))]
    refine e_aload_n dX9_isFit_36 rfl ?_
    refine e_getr (o2 := 85) dX9_isFit_37 ff_X9_20 rfl (fx_pi_lt (by decide)) (by decide) rfl (hL _ _ _ rfl) ?_
    refine e_iload_n dX9_isFit_40 rfl ?_
    refine e_ialdv (j := x) (v := t.1 x 0) dX9_isFit_41 rfl (fx_pi_lt (by decide)) rfl (by omega) (by decide) (H.2.2.2.1 _ (by omega) 0 (by decide)) ?_
    refine e_bipush dX9_isFit_42 kcb_6 ?_
    refine e_icmp_ne 51 dX9_isFit_44 rfl (fun c_2 => ?_) (fun c_2 => ?_)
    · refine e_iconst dX9_isFit_51 kci_1 ?_
      refine e_icmp_gt 59 dX9_isFit_52 rfl (fun c_3 => ?_) (fun c_3 => ?_)
      · refine e_iconst dX9_isFit_59 kci_0 ?_
        exact e_iret dX9_isFit_60 rfl rfl rfl ⟨by first | (simp [p_fit, *]; done) | (simp_all [p_fit]; done), rfl⟩
      · refine e_iconst dX9_isFit_55 kci_1 ?_
        refine e_goto 60 dX9_isFit_56 rfl ?_
        exact e_iret dX9_isFit_60 rfl rfl rfl ⟨by first | (simp [p_fit, *]; done) | (simp_all [p_fit]; done), rfl⟩
    · refine e_iconst dX9_isFit_47 kci_2 ?_
      refine e_goto 52 dX9_isFit_48 rfl ?_
      refine e_icmp_gt 59 dX9_isFit_52 rfl (fun c_4 => ?_) (fun c_4 => ?_)
      · refine e_iconst dX9_isFit_59 kci_0 ?_
        exact e_iret dX9_isFit_60 rfl rfl rfl ⟨by first | (simp [p_fit, *]; done) | (simp_all [p_fit]; done), rfl⟩
      · refine e_iconst dX9_isFit_55 kci_1 ?_
        refine e_goto 60 dX9_isFit_56 rfl ?_
        exact e_iret dX9_isFit_60 rfl rfl rfl ⟨by first | (simp [p_fit, *]; done) | (simp_all [p_fit]; done), rfl⟩
  · refine e_aload_n dX9_isFit_10 rfl ?_
    refine e_getr (o2 := 87) dX9_isFit_11 ff_X9_26 rfl (fx_pi_lt (by decide)) (by decide) rfl (hL _ _ _ rfl) ?_
    refine e_iload_n dX9_isFit_14 rfl ?_
    refine e_ialdv (j := x) (v := t.1 x 2) dX9_isFit_15 rfl (fx_pi_lt (by decide)) rfl (by omega) (by decide) (H.2.2.2.1 _ (by omega) 2 (by decide)) ?_
    refine e_iload_n dX9_isFit_16 rfl ?_
    refine e_icmp_ne 59 dX9_isFit_17 rfl (fun c_5 => ?_) (fun c_5 => ?_)
    · refine e_iconst dX9_isFit_59 kci_0 ?_
      exact e_iret dX9_isFit_60 rfl rfl rfl ⟨by first | (simp [p_fit, *]; done) | (simp_all [p_fit]; done), rfl⟩
    · refine e_aload_n dX9_isFit_20 rfl ?_
      refine e_aload_n dX9_isFit_21 rfl ?_
      refine e_getr (o2 := 88) dX9_isFit_22 ff_X9_29 rfl (fx_pi_lt (by decide)) (by decide) rfl (hL _ _ _ rfl) ?_
      refine e_iload_n dX9_isFit_25 rfl ?_
      refine e_ialdv (j := x) (v := t.1 x 3) dX9_isFit_26 rfl (fx_pi_lt (by decide)) rfl (by omega) (by decide) (H.2.2.2.1 _ (by omega) 3 (by decide)) ?_
      refine e_aload_n dX9_isFit_27 rfl ?_
      refine e_getr (o2 := 92) dX9_isFit_28 ff_X9_41 rfl (fx_pi_lt (by decide)) (by decide) rfl (hL _ _ _ rfl) ?_
      refine e_iload_n dX9_isFit_31 rfl ?_
      refine e_ialdv (j := d) (v := t.2.1 d 0) dX9_isFit_32 rfl (fx_pi_lt (by decide)) rfl (by omega) (by decide) (H.2.2.2.2.1 _ (by omega) 0 (by decide)) ?_
      refine e_callV (μ' := mX9_apart) (ci := 9) (As := [.int (t.1 x 3), .int (t.2.1 d 0)]) dX9_isFit_33 wl_X9_156 ok_X9_apart rfl rfl (fx_pi_lt (by decide)) (by decide) (Nat.le_of_ble_eq_true rfl) fx_n1 (s_X9_apart (m := m) hL (t.1 x 3) (t.2.1 d 0)) rfl (fun r_ m_ hpost => ?_)
      obtain ⟨rfl, e2⟩ := hpost
      have e2 := e2.symm
      subst e2
      rw [p_apt_abs (p_in9 gA.2.2.2.1 (by decide)) (p_in9 gD.1 (by decide))]
      refine e_aload_n dX9_isFit_36 rfl ?_
      refine e_getr (o2 := 85) dX9_isFit_37 ff_X9_20 rfl (fx_pi_lt (by decide)) (by decide) rfl (hL _ _ _ rfl) ?_
      refine e_iload_n dX9_isFit_40 rfl ?_
      refine e_ialdv (j := x) (v := t.1 x 0) dX9_isFit_41 rfl (fx_pi_lt (by decide)) rfl (by omega) (by decide) (H.2.2.2.1 _ (by omega) 0 (by decide)) ?_
      refine e_bipush dX9_isFit_42 kcb_6 ?_
      refine e_icmp_ne 51 dX9_isFit_44 rfl (fun c_6 => ?_) (fun c_6 => ?_)
      · refine e_iconst dX9_isFit_51 kci_1 ?_
        refine e_icmp_gt 59 dX9_isFit_52 rfl (fun c_7 => ?_) (fun c_7 => ?_)
        · refine e_iconst dX9_isFit_59 kci_0 ?_
          exact e_iret dX9_isFit_60 rfl rfl rfl ⟨by first | (simp [p_fit, *]; done) | (simp_all [p_fit]; done), rfl⟩
        · refine e_iconst dX9_isFit_55 kci_1 ?_
          refine e_goto 60 dX9_isFit_56 rfl ?_
          exact e_iret dX9_isFit_60 rfl rfl rfl ⟨by first | (simp [p_fit, *]; done) | (simp_all [p_fit]; done), rfl⟩
      · refine e_iconst dX9_isFit_47 kci_2 ?_
        refine e_goto 52 dX9_isFit_48 rfl ?_
        refine e_icmp_gt 59 dX9_isFit_52 rfl (fun c_8 => ?_) (fun c_8 => ?_)
        · refine e_iconst dX9_isFit_59 kci_0 ?_
          exact e_iret dX9_isFit_60 rfl rfl rfl ⟨by first | (simp [p_fit, *]; done) | (simp_all [p_fit]; done), rfl⟩
        · refine e_iconst dX9_isFit_55 kci_1 ?_
          refine e_goto 60 dX9_isFit_56 rfl ?_
          exact e_iret dX9_isFit_60 rfl rfl rfl ⟨by first | (simp [p_fit, *]; done) | (simp_all [p_fit]; done), rfl⟩
set_option maxRecDepth 100000 in
set_option maxHeartbeats 600000 in
theorem s_X9_differs {Γ : fx_G} {m : fx_M} (hL : fx_Lay m) {na nd : Nat} {t : p_Sg} (H : fx_MS m na nd t) {x : Nat} (hx : x < na) {d : Nat} (hd : d < nd) : fx_Ct Γ mX9_differs 2 119 119 [fx_rf Γ 83, .int (nI x), .int (nI d)] m (fx_is (some (.int (p_farA t.1 t.2.1 x d))) m) := by
  refine fx_Ct.of (j := 1) (by decide) (Nat.le_of_ble_eq_true rfl) (Nat.le_of_ble_eq_true rfl) ?_
  show fx_E Γ mX9_differs 2 119 119 _ 119 m 0 [some (fx_rf Γ 83), some (.int (nI x)), some (.int (nI d)), none] []
  have h9 := H.2.2.2.2.2.1
  have h5 := H.2.2.2.2.2.2.1
  have gA := H.2.2.2.2.2.2.2.1 x hx
  have gD := H.2.2.2.2.2.2.2.2 d hd
  refine e_iconst dX9_differs_0 kci_2 ?_
  refine e_aload_n dX9_differs_1 rfl ?_
  refine e_aload_n dX9_differs_2 rfl ?_
  refine e_getr (o2 := 88) dX9_differs_3 ff_X9_29 rfl (fx_pi_lt (by decide)) (by decide) rfl (hL _ _ _ rfl) ?_
  refine e_iload_n dX9_differs_6 rfl ?_
  refine e_ialdv (j := x) (v := t.1 x 3) dX9_differs_7 rfl (fx_pi_lt (by decide)) rfl (by omega) (by decide) (H.2.2.2.1 _ (by omega) 3 (by decide)) ?_
  refine e_aload_n dX9_differs_8 rfl ?_
  refine e_getr (o2 := 92) dX9_differs_9 ff_X9_41 rfl (fx_pi_lt (by decide)) (by decide) rfl (hL _ _ _ rfl) ?_
  refine e_iload_n dX9_differs_12 rfl ?_
  refine e_ialdv (j := d) (v := t.2.1 d 0) dX9_differs_13 rfl (fx_pi_lt (by decide)) rfl (by omega) (by decide) (H.2.2.2.2.1 _ (by omega) 0 (by decide)) ?_
  refine e_callV (μ' := mX9_apart) (ci := 9) (As := [.int (t.1 x 3), .int (t.2.1 d 0)]) dX9_differs_14 wl_X9_156 ok_X9_apart rfl rfl (fx_pi_lt (by decide)) (by decide) (Nat.le_of_ble_eq_true rfl) fx_n1 (s_X9_apart (m := m) hL (t.1 x 3) (t.2.1 d 0)) rfl (fun r_ m_ hpost => ?_)
  obtain ⟨rfl, e2⟩ := hpost
  have e2 := e2.symm
  subst e2
  rw [p_apt_abs (p_in9 gA.2.2.2.1 (by decide)) (p_in9 gD.1 (by decide))]
  refine e_imul dX9_differs_17 ?_
  refine e_istore_n dX9_differs_18 (by decide) rfl ?_
  refine e_aload_n dX9_differs_19 rfl ?_
  refine e_getr (o2 := 95) dX9_differs_20 ff_X9_50 rfl (fx_pi_lt (by decide)) (by decide) rfl (hL _ _ _ rfl) ?_
  refine e_iload_n dX9_differs_23 rfl ?_
  refine e_ialdv (j := d) (v := t.2.1 d 3) dX9_differs_24 rfl (fx_pi_lt (by decide)) rfl (by omega) (by decide) (H.2.2.2.2.1 _ (by omega) 3 (by decide)) ?_
  refine e_iconst dX9_differs_25 kci_2 ?_
  refine e_icmp_ne 31 dX9_differs_26 rfl (fun c_1 => ?_) (fun c_1 => ?_)
  · refine e_iload_n dX9_differs_31 rfl ?_
    refine e_aload_n dX9_differs_32 rfl ?_
    refine e_aload_n dX9_differs_33 rfl ?_
    refine e_iload_n dX9_differs_34 rfl ?_
    refine e_callV1 (μ' := mX9_shadeSeen) (ci := 9) (As := [.int (nI x)]) dX9_differs_35 wl_X9_150 ok_X9_shadeSeen rfl rfl (fx_pi_lt (by decide)) (by decide) (Nat.le_of_ble_eq_true rfl) fx_n1 (s_X9_shadeSeen (m := m) hL H (x := x) (by omega)) rfl ?_
    refine e_aload_n dX9_differs_38 rfl ?_
    refine e_getr (o2 := 93) dX9_differs_39 ff_X9_44 rfl (fx_pi_lt (by decide)) (by decide) rfl (hL _ _ _ rfl) ?_
    refine e_iload_n dX9_differs_42 rfl ?_
    refine e_ialdv (j := d) (v := t.2.1 d 1) dX9_differs_43 rfl (fx_pi_lt (by decide)) rfl (by omega) (by decide) (H.2.2.2.2.1 _ (by omega) 1 (by decide)) ?_
    refine e_callV (μ' := mX9_apart) (ci := 9) (As := [.int (p_shade (t.1 x) (t.1 x 4)), .int (t.2.1 d 1)]) dX9_differs_44 wl_X9_156 ok_X9_apart rfl rfl (fx_pi_lt (by decide)) (by decide) (Nat.le_of_ble_eq_true rfl) fx_n1 (s_X9_apart (m := m) hL (p_shade (t.1 x) (t.1 x 4)) (t.2.1 d 1)) rfl (fun r_ m_ hpost => ?_)
    obtain ⟨rfl, e2⟩ := hpost
    have e2 := e2.symm
    subst e2
    rw [p_apt_abs (p_in9 (p_shade_in gA gA.2.2.2.2.1) (by decide)) (p_in9 gD.2.1 (by decide))]
    refine e_iadd dX9_differs_47 ?_
    refine e_istore_n dX9_differs_48 (by decide) rfl ?_
    refine e_iload_n dX9_differs_49 rfl ?_
    refine e_aload_n dX9_differs_50 rfl ?_
    refine e_getr (o2 := 95) dX9_differs_51 ff_X9_50 rfl (fx_pi_lt (by decide)) (by decide) rfl (hL _ _ _ rfl) ?_
    refine e_iload_n dX9_differs_54 rfl ?_
    refine e_ialdv (j := d) (v := t.2.1 d 3) dX9_differs_55 rfl (fx_pi_lt (by decide)) rfl (by omega) (by decide) (H.2.2.2.2.1 _ (by omega) 3 (by decide)) ?_
    refine e_iconst dX9_differs_56 kci_1 ?_
    refine e_icmp_ne 68 dX9_differs_57 rfl (fun c_2 => ?_) (fun c_2 => ?_)
    · refine e_aload_n dX9_differs_68 rfl ?_
      refine e_aload_n dX9_differs_69 rfl ?_
      refine e_iload_n dX9_differs_70 rfl ?_
      refine e_callV1 (μ' := mX9_wearSeen) (ci := 9) (As := [.int (nI x)]) dX9_differs_71 wl_X9_147 ok_X9_wearSeen rfl rfl (fx_pi_lt (by decide)) (by decide) (Nat.le_of_ble_eq_true rfl) fx_n1 (s_X9_wearSeen (m := m) hL H (x := x) (by omega)) rfl ?_
      refine e_aload_n dX9_differs_74 rfl ?_
      refine e_getr (o2 := 94) dX9_differs_75 ff_X9_47 rfl (fx_pi_lt (by decide)) (by decide) rfl (hL _ _ _ rfl) ?_
      refine e_iload_n dX9_differs_78 rfl ?_
      refine e_ialdv (j := d) (v := t.2.1 d 2) dX9_differs_79 rfl (fx_pi_lt (by decide)) rfl (by omega) (by decide) (H.2.2.2.2.1 _ (by omega) 2 (by decide)) ?_
      refine e_callV (μ' := mX9_apart) (ci := 9) (As := [.int (p_wear (t.1 x) (t.1 x 5)), .int (t.2.1 d 2)]) dX9_differs_80 wl_X9_156 ok_X9_apart rfl rfl (fx_pi_lt (by decide)) (by decide) (Nat.le_of_ble_eq_true rfl) fx_n1 (s_X9_apart (m := m) hL (p_wear (t.1 x) (t.1 x 5)) (t.2.1 d 2)) rfl (fun r_ m_ hpost => ?_)
      obtain ⟨rfl, e2⟩ := hpost
      have e2 := e2.symm
      subst e2
      rw [p_apt_abs (p_in9 (p_wear_in gA gA.2.2.2.2.2) (by decide)) (p_in9 gD.2.2.1 (by decide))]
      refine e_iadd dX9_differs_83 ?_
      exact e_iret dX9_differs_84 rfl rfl rfl ⟨by first | (simp [p_farA, p_far, *]; done) | (simp_all [p_farA, p_far]; done), rfl⟩
    · refine e_aload_n dX9_differs_60 rfl ?_
      refine e_iload_n dX9_differs_61 rfl ?_
      refine e_callV1 (μ' := mX9_wearSeen) (ci := 9) (As := [.int (nI x)]) dX9_differs_62 wl_X9_147 ok_X9_wearSeen rfl rfl (fx_pi_lt (by decide)) (by decide) (Nat.le_of_ble_eq_true rfl) fx_n1 (s_X9_wearSeen (m := m) hL H (x := x) (by omega)) rfl ?_
      refine e_goto 83 dX9_differs_65 rfl ?_
      refine e_iadd dX9_differs_83 ?_
      exact e_iret dX9_differs_84 rfl rfl rfl ⟨by first | (simp [p_farA, p_far, *]; done) | (simp_all [p_farA, p_far]; done), rfl⟩
  · refine e_iload_n dX9_differs_29 rfl ?_
    exact e_iret dX9_differs_30 rfl rfl rfl ⟨by first | (simp [p_farA, p_far, *]; done) | (simp_all [p_farA, p_far]; done), rfl⟩
set_option maxRecDepth 100000 in
set_option maxHeartbeats 600000 in
theorem s_X9_armOn {Γ : fx_G} {m : fx_M} (hL : fx_Lay m) {na nd : Nat} {t : p_Sg} (H : fx_MS m na nd t) (d s : Int32) : fx_Ct Γ mX9_armOn 0 119 119 [fx_rf Γ 83, .int d, .int s] m (fx_is (some (.int (p_oi (p_at t.1 na d s)))) m) := by
  refine fx_Ct.of (j := 1) (by decide) (Nat.le_of_ble_eq_true rfl) (Nat.le_of_ble_eq_true rfl) ?_
  show fx_E Γ mX9_armOn 0 119 119 _ 119 m 0 [some (fx_rf Γ 83), some (.int d), some (.int s), none] []
  have h9 := H.2.2.2.2.2.1
  have h5 := H.2.2.2.2.2.2.1
  have lp : ∀ (j : Nat) (k : Nat), k + j = na → fx_E Γ mX9_armOn 0 119 119 (fx_is (some (.int (p_oi (p_fd (fun x => t.1 x 6 = 10 * d + s) j k)))) m) 119 m 2 [some (fx_rf Γ 83), some (.int d), some (.int s), some (.int (nI k))] [] := by
    intro j
    induction j with
    | zero =>
      intro k hk
      refine e_iload_n dX9_armOn_2 rfl ?_
      refine e_aload_n dX9_armOn_3 rfl ?_
      refine e_getv (v := nI na) dX9_armOn_4 ff_X9_126 rfl (fx_pi_lt (by decide)) (by decide) rfl H.1 ?_
      refine e_icmp_ge 33 dX9_armOn_7 rfl (fun _ => ?_) (fun h => absurd (nI_le (by omega) (by omega)) h)
      refine e_iconst dX9_armOn_33 kci_m1 ?_
      exact e_iret dX9_armOn_34 rfl rfl rfl ⟨rfl, rfl⟩
    | succ j ih =>
      intro k hk
      refine e_iload_n dX9_armOn_2 rfl ?_
      refine e_aload_n dX9_armOn_3 rfl ?_
      refine e_getv (v := nI na) dX9_armOn_4 ff_X9_126 rfl (fx_pi_lt (by decide)) (by decide) rfl H.1 ?_
      refine e_icmp_ge 33 dX9_armOn_7 rfl (fun h => absurd h (nI_ge (by omega) (by omega))) (fun _ => ?_)
      refine e_aload_n dX9_armOn_10 rfl ?_
      refine e_getr (o2 := 91) dX9_armOn_11 ff_X9_38 rfl (fx_pi_lt (by decide)) (by decide) rfl (hL _ _ _ rfl) ?_
      refine e_iload_n dX9_armOn_14 rfl ?_
      refine e_ialdv (j := k) (v := t.1 k 6) dX9_armOn_15 rfl (fx_pi_lt (by decide)) rfl (by omega) (by decide) (H.2.2.2.1 _ (by omega) 6 (by decide)) ?_
      refine e_bipush dX9_armOn_16 kcb_10 ?_
      refine e_iload_n dX9_armOn_18 rfl ?_
      refine e_imul dX9_armOn_19 ?_
      refine e_iload_n dX9_armOn_20 rfl ?_
      refine e_iadd dX9_armOn_21 ?_
      refine e_icmp_ne 27 dX9_armOn_22 rfl (fun c_p => ?_) (fun c_p => ?_)
      · refine e_iinc (v := nI (k + 1)) dX9_armOn_27 rfl (fx_inc _) (by decide) rfl ?_
        refine e_goto 2 dX9_armOn_30 rfl ?_
        rw [show p_fd (fun x => t.1 x 6 = 10 * d + s) (j + 1) k = p_fd (fun x => t.1 x 6 = 10 * d + s) j (k + 1) from if_neg c_p]
        exact ih (k + 1) (by omega)
      · refine e_iload_n dX9_armOn_25 rfl ?_
        exact e_iret dX9_armOn_26 rfl rfl rfl ⟨by rw [show p_fd (fun x => t.1 x 6 = 10 * d + s) (j + 1) k = some k from if_pos c_p]; rfl, rfl⟩
  refine e_iconst dX9_armOn_0 kci_0 ?_
  refine e_istore_n dX9_armOn_1 (by decide) rfl ?_
  exact lp na 0 (by omega)
set_option maxRecDepth 100000 in
set_option maxHeartbeats 600000 in
theorem s_X9_unlikeOn {Γ : fx_G} {m : fx_M} (hL : fx_Lay m) {na nd : Nat} {t : p_Sg} (H : fx_MS m na nd t) {d : Nat} (hd : d < nd) : fx_Ct Γ mX9_unlikeOn 3 119 119 [fx_rf Γ 83, .int (nI d)] m (fx_is (some (.int (p_unl t.1 t.2.1 na d))) m) := by
  refine fx_Ct.of (j := 2) (by decide) (Nat.le_of_ble_eq_true rfl) (Nat.le_of_ble_eq_true rfl) ?_
  show fx_E Γ mX9_unlikeOn 3 119 119 _ 119 m 0 [some (fx_rf Γ 83), some (.int (nI d)), none, none] []
  have h9 := H.2.2.2.2.2.1
  have h5 := H.2.2.2.2.2.2.1
  refine e_iconst dX9_unlikeOn_0 kci_0 ?_
  refine e_istore_n dX9_unlikeOn_1 (by decide) rfl ?_
  refine e_iconst dX9_unlikeOn_2 kci_0 ?_
  refine e_istore_n dX9_unlikeOn_3 (by decide) rfl ?_
  refine e_iload_n dX9_unlikeOn_4 rfl ?_
  refine e_iconst dX9_unlikeOn_5 kci_2 ?_
  refine e_icmp_ge 39 dX9_unlikeOn_6 rfl (fun h => absurd h (by decide)) (fun _ => ?_)
  refine e_aload_n dX9_unlikeOn_9 rfl ?_
  refine e_iload_n dX9_unlikeOn_10 rfl ?_
  refine e_iload_n dX9_unlikeOn_11 rfl ?_
  refine e_callV1 (μ' := mX9_armOn) (ci := 9) (As := [.int (nI d), .int 0]) dX9_unlikeOn_12 wl_X9_160 ok_X9_armOn rfl rfl (fx_pi_lt (by decide)) (by decide) (Nat.le_of_ble_eq_true rfl) fx_n1 (s_X9_armOn (m := m) hL H (nI d) 0) rfl ?_
  refine e_iconst dX9_unlikeOn_15 kci_m1 ?_
  refine e_icmp_eq 33 dX9_unlikeOn_16 rfl (fun c_s0 => ?_) (fun c_s0 => ?_)
  · refine e_iinc (v := 1) dX9_unlikeOn_33 rfl (by decide) (by decide) rfl ?_
    refine e_goto 4 dX9_unlikeOn_36 rfl ?_
    refine e_iload_n dX9_unlikeOn_4 rfl ?_
    refine e_iconst dX9_unlikeOn_5 kci_2 ?_
    refine e_icmp_ge 39 dX9_unlikeOn_6 rfl (fun h => absurd h (by decide)) (fun _ => ?_)
    refine e_aload_n dX9_unlikeOn_9 rfl ?_
    refine e_iload_n dX9_unlikeOn_10 rfl ?_
    refine e_iload_n dX9_unlikeOn_11 rfl ?_
    refine e_callV1 (μ' := mX9_armOn) (ci := 9) (As := [.int (nI d), .int 1]) dX9_unlikeOn_12 wl_X9_160 ok_X9_armOn rfl rfl (fx_pi_lt (by decide)) (by decide) (Nat.le_of_ble_eq_true rfl) fx_n1 (s_X9_armOn (m := m) hL H (nI d) 1) rfl ?_
    refine e_iconst dX9_unlikeOn_15 kci_m1 ?_
    refine e_icmp_eq 33 dX9_unlikeOn_16 rfl (fun c_s1 => ?_) (fun c_s1 => ?_)
    · refine e_iinc (v := 2) dX9_unlikeOn_33 rfl (by decide) (by decide) rfl ?_
      refine e_goto 4 dX9_unlikeOn_36 rfl ?_
      refine e_iload_n dX9_unlikeOn_4 rfl ?_
      refine e_iconst dX9_unlikeOn_5 kci_2 ?_
      refine e_icmp_ge 39 dX9_unlikeOn_6 rfl (fun _ => ?_) (fun h => absurd (by decide) h)
      refine e_iload_n dX9_unlikeOn_39 rfl ?_
      exact e_iret dX9_unlikeOn_40 rfl rfl rfl ⟨by rw [p_unl]; (first | rw [hy0] | rw [(p_oi_ne (fun x hx => by have := (p_fd_some hx).2.1; omega)).mp c_s0]); (first | rw [hy1] | rw [(p_oi_ne (fun x hx => by have := (p_fd_some hx).2.1; omega)).mp c_s1]); (try rfl), rfl⟩
    · obtain ⟨y1, hy1⟩ : ∃ y, p_at t.1 na (nI d) 1 = some y := Option.ne_none_iff_exists'.mp (fun h => c_s1 (by rw [h]; rfl))
      have hl1 := (p_fd_some hy1).2.1
      refine e_iload_n dX9_unlikeOn_19 rfl ?_
      refine e_aload_n dX9_unlikeOn_20 rfl ?_
      refine e_aload_n dX9_unlikeOn_21 rfl ?_
      refine e_iload_n dX9_unlikeOn_22 rfl ?_
      refine e_iload_n dX9_unlikeOn_23 rfl ?_
      refine e_callV1 (μ' := mX9_armOn) (ci := 9) (As := [.int (nI d), .int 1]) dX9_unlikeOn_24 wl_X9_160 ok_X9_armOn rfl rfl (fx_pi_lt (by decide)) (by decide) (Nat.le_of_ble_eq_true rfl) fx_n1 (s_X9_armOn (m := m) hL H (nI d) 1) rfl ?_
      refine e_iload_n dX9_unlikeOn_27 rfl ?_
      rw [hy1]
      refine e_callV1 (μ' := mX9_differs) (ci := 9) (As := [.int (nI y1), .int (nI d)]) dX9_unlikeOn_28 wl_X9_163 ok_X9_differs rfl rfl (fx_pi_lt (by decide)) (by decide) (Nat.le_of_ble_eq_true rfl) fx_n1 (s_X9_differs (m := m) hL H (x := y1) (by omega) (d := d) (by omega)) rfl ?_
      refine e_iadd dX9_unlikeOn_31 ?_
      refine e_istore_n dX9_unlikeOn_32 (by decide) rfl ?_
      refine e_iinc (v := 2) dX9_unlikeOn_33 rfl (by decide) (by decide) rfl ?_
      refine e_goto 4 dX9_unlikeOn_36 rfl ?_
      refine e_iload_n dX9_unlikeOn_4 rfl ?_
      refine e_iconst dX9_unlikeOn_5 kci_2 ?_
      refine e_icmp_ge 39 dX9_unlikeOn_6 rfl (fun _ => ?_) (fun h => absurd (by decide) h)
      refine e_iload_n dX9_unlikeOn_39 rfl ?_
      exact e_iret dX9_unlikeOn_40 rfl rfl rfl ⟨by rw [p_unl]; (first | rw [hy0] | rw [(p_oi_ne (fun x hx => by have := (p_fd_some hx).2.1; omega)).mp c_s0]); (first | rw [hy1] | rw [(p_oi_ne (fun x hx => by have := (p_fd_some hx).2.1; omega)).mp c_s1]); (try rfl), rfl⟩
  · obtain ⟨y0, hy0⟩ : ∃ y, p_at t.1 na (nI d) 0 = some y := Option.ne_none_iff_exists'.mp (fun h => c_s0 (by rw [h]; rfl))
    have hl0 := (p_fd_some hy0).2.1
    refine e_iload_n dX9_unlikeOn_19 rfl ?_
    refine e_aload_n dX9_unlikeOn_20 rfl ?_
    refine e_aload_n dX9_unlikeOn_21 rfl ?_
    refine e_iload_n dX9_unlikeOn_22 rfl ?_
    refine e_iload_n dX9_unlikeOn_23 rfl ?_
    refine e_callV1 (μ' := mX9_armOn) (ci := 9) (As := [.int (nI d), .int 0]) dX9_unlikeOn_24 wl_X9_160 ok_X9_armOn rfl rfl (fx_pi_lt (by decide)) (by decide) (Nat.le_of_ble_eq_true rfl) fx_n1 (s_X9_armOn (m := m) hL H (nI d) 0) rfl ?_
    refine e_iload_n dX9_unlikeOn_27 rfl ?_
    rw [hy0]
    refine e_callV1 (μ' := mX9_differs) (ci := 9) (As := [.int (nI y0), .int (nI d)]) dX9_unlikeOn_28 wl_X9_163 ok_X9_differs rfl rfl (fx_pi_lt (by decide)) (by decide) (Nat.le_of_ble_eq_true rfl) fx_n1 (s_X9_differs (m := m) hL H (x := y0) (by omega) (d := d) (by omega)) rfl ?_
    refine e_iadd dX9_unlikeOn_31 ?_
    refine e_istore_n dX9_unlikeOn_32 (by decide) rfl ?_
    refine e_iinc (v := 1) dX9_unlikeOn_33 rfl (by decide) (by decide) rfl ?_
    refine e_goto 4 dX9_unlikeOn_36 rfl ?_
    refine e_iload_n dX9_unlikeOn_4 rfl ?_
    refine e_iconst dX9_unlikeOn_5 kci_2 ?_
    refine e_icmp_ge 39 dX9_unlikeOn_6 rfl (fun h => absurd h (by decide)) (fun _ => ?_)
    refine e_aload_n dX9_unlikeOn_9 rfl ?_
    refine e_iload_n dX9_unlikeOn_10 rfl ?_
    refine e_iload_n dX9_unlikeOn_11 rfl ?_
    refine e_callV1 (μ' := mX9_armOn) (ci := 9) (As := [.int (nI d), .int 1]) dX9_unlikeOn_12 wl_X9_160 ok_X9_armOn rfl rfl (fx_pi_lt (by decide)) (by decide) (Nat.le_of_ble_eq_true rfl) fx_n1 (s_X9_armOn (m := m) hL H (nI d) 1) rfl ?_
    refine e_iconst dX9_unlikeOn_15 kci_m1 ?_
    refine e_icmp_eq 33 dX9_unlikeOn_16 rfl (fun c_s1 => ?_) (fun c_s1 => ?_)
    · refine e_iinc (v := 2) dX9_unlikeOn_33 rfl (by decide) (by decide) rfl ?_
      refine e_goto 4 dX9_unlikeOn_36 rfl ?_
      refine e_iload_n dX9_unlikeOn_4 rfl ?_
      refine e_iconst dX9_unlikeOn_5 kci_2 ?_
      refine e_icmp_ge 39 dX9_unlikeOn_6 rfl (fun _ => ?_) (fun h => absurd (by decide) h)
      refine e_iload_n dX9_unlikeOn_39 rfl ?_
      exact e_iret dX9_unlikeOn_40 rfl rfl rfl ⟨by rw [p_unl]; (first | rw [hy0] | rw [(p_oi_ne (fun x hx => by have := (p_fd_some hx).2.1; omega)).mp c_s0]); (first | rw [hy1] | rw [(p_oi_ne (fun x hx => by have := (p_fd_some hx).2.1; omega)).mp c_s1]); (try rfl), rfl⟩
    · obtain ⟨y1, hy1⟩ : ∃ y, p_at t.1 na (nI d) 1 = some y := Option.ne_none_iff_exists'.mp (fun h => c_s1 (by rw [h]; rfl))
      have hl1 := (p_fd_some hy1).2.1
      refine e_iload_n dX9_unlikeOn_19 rfl ?_
      refine e_aload_n dX9_unlikeOn_20 rfl ?_
      refine e_aload_n dX9_unlikeOn_21 rfl ?_
      refine e_iload_n dX9_unlikeOn_22 rfl ?_
      refine e_iload_n dX9_unlikeOn_23 rfl ?_
      refine e_callV1 (μ' := mX9_armOn) (ci := 9) (As := [.int (nI d), .int 1]) dX9_unlikeOn_24 wl_X9_160 ok_X9_armOn rfl rfl (fx_pi_lt (by decide)) (by decide) (Nat.le_of_ble_eq_true rfl) fx_n1 (s_X9_armOn (m := m) hL H (nI d) 1) rfl ?_
      refine e_iload_n dX9_unlikeOn_27 rfl ?_
      rw [hy1]
      refine e_callV1 (μ' := mX9_differs) (ci := 9) (As := [.int (nI y1), .int (nI d)]) dX9_unlikeOn_28 wl_X9_163 ok_X9_differs rfl rfl (fx_pi_lt (by decide)) (by decide) (Nat.le_of_ble_eq_true rfl) fx_n1 (s_X9_differs (m := m) hL H (x := y1) (by omega) (d := d) (by omega)) rfl ?_
      refine e_iadd dX9_unlikeOn_31 ?_
      refine e_istore_n dX9_unlikeOn_32 (by decide) rfl ?_
      refine e_iinc (v := 2) dX9_unlikeOn_33 rfl (by decide) (by decide) rfl ?_
      refine e_goto 4 dX9_unlikeOn_36 rfl ?_
      refine e_iload_n dX9_unlikeOn_4 rfl ?_
      refine e_iconst dX9_unlikeOn_5 kci_2 ?_
      refine e_icmp_ge 39 dX9_unlikeOn_6 rfl (fun _ => ?_) (fun h => absurd (by decide) h)
      refine e_iload_n dX9_unlikeOn_39 rfl ?_
      exact e_iret dX9_unlikeOn_40 rfl rfl rfl ⟨by rw [p_unl]; (first | rw [hy0] | rw [(p_oi_ne (fun x hx => by have := (p_fd_some hx).2.1; omega)).mp c_s0]); (first | rw [hy1] | rw [(p_oi_ne (fun x hx => by have := (p_fd_some hx).2.1; omega)).mp c_s1]); (try rfl), rfl⟩
set_option maxRecDepth 100000 in
set_option maxHeartbeats 600000 in
theorem s_X9_isHer {Γ : fx_G} {m : fx_M} (hL : fx_Lay m) {na nd : Nat} {t : p_Sg} (H : fx_MS m na nd t) {d : Nat} (hd : d < nd) : fx_Ct Γ mX9_isHer 4 119 119 [fx_rf Γ 83, .int (nI d)] m (fx_is (some (.int (if p_her t.1 t.2.1 na d then 1 else 0))) m) := by
  refine fx_Ct.of (j := 0) (by decide) (Nat.le_of_ble_eq_true rfl) (Nat.le_of_ble_eq_true rfl) ?_
  show fx_E Γ mX9_isHer 4 119 119 _ 119 m 0 [some (fx_rf Γ 83), some (.int (nI d))] []
  have h9 := H.2.2.2.2.2.1
  have h5 := H.2.2.2.2.2.2.1
  refine e_aload_n dX9_isHer_0 rfl ?_
  refine e_iload_n dX9_isHer_1 rfl ?_
  refine e_callV1 (μ' := mX9_unlikeOn) (ci := 9) (As := [.int (nI d)]) dX9_isHer_2 wl_X9_166 ok_X9_unlikeOn rfl rfl (fx_pi_lt (by decide)) (by decide) (Nat.le_of_ble_eq_true rfl) fx_n1 (s_X9_unlikeOn (m := m) hL H (d := d) (by omega)) rfl ?_
  refine e_aload_n dX9_isHer_5 rfl ?_
  refine e_getr (o2 := 98) dX9_isHer_6 ff_X9_59 rfl (fx_pi_lt (by decide)) (by decide) rfl (hL _ _ _ rfl) ?_
  refine e_iload_n dX9_isHer_9 rfl ?_
  refine e_ialdv (j := d) (v := t.2.1 d 6) dX9_isHer_10 rfl (fx_pi_lt (by decide)) rfl (by omega) (by decide) (H.2.2.2.2.1 _ (by omega) 6 (by decide)) ?_
  refine e_icmp_gt 18 dX9_isHer_11 rfl (fun c_1 => ?_) (fun c_1 => ?_)
  · refine e_iconst dX9_isHer_18 kci_0 ?_
    exact e_iret dX9_isHer_19 rfl rfl rfl ⟨by first | rw [if_pos (Int32.not_lt.mp c_1)] | rw [if_neg (Int32.not_le.mpr c_1)], rfl⟩
  · refine e_iconst dX9_isHer_14 kci_1 ?_
    refine e_goto 19 dX9_isHer_15 rfl ?_
    exact e_iret dX9_isHer_19 rfl rfl rfl ⟨by first | rw [if_pos (Int32.not_lt.mp c_1)] | rw [if_neg (Int32.not_le.mpr c_1)], rfl⟩
theorem p_sN_y {P : Nat → Prop} [DecidablePred P] {k : Nat} (h : P k) : p_sN P (k + 1) = p_sN P k + 2 ^ k := by simp only [p_sN, if_pos h]
theorem p_sN_z {P : Nat → Prop} [DecidablePred P] : ∀ {n : Nat}, (∀ k, k < n → ¬ P k) → p_sN P n = 0
  | 0, _ => rfl
  | n + 1, h => by rw [p_sN_no (h n (by omega)), p_sN_z (fun k hk => h k (by omega))]
theorem p_ipl {P : Nat → Prop} [DecidablePred P] {k : Nat} (hk : k < 31) (h : P k) : nI (p_sN P k) + ((1 : Int32) <<< (nI k &&& 31)) = nI (p_sN P (k + 1)) := by
  rw [i_shl1 hk, nI_add, p_sN_y h]
set_option maxRecDepth 100000 in
set_option maxHeartbeats 600000 in
theorem s_X9_mayBe {Γ : fx_G} {m : fx_M} (hL : fx_Lay m) {na nd : Nat} {t : p_Sg} (H : fx_MS m na nd t) {d : Nat} (hd : d < nd) (s : Int32) : fx_Ct Γ mX9_mayBe 3 119 119 [fx_rf Γ 83, .int (nI d), .int s] m (fx_is (some (.int (nI (p_sN (fun x => p_can t.1 t.2.1 na x d s) na)))) m) := by
  refine fx_Ct.of (j := 2) (by decide) (Nat.le_of_ble_eq_true rfl) (Nat.le_of_ble_eq_true rfl) ?_
  show fx_E Γ mX9_mayBe 3 119 119 _ 119 m 0 [some (fx_rf Γ 83), some (.int (nI d)), some (.int s), none, none] []
  have h9 := H.2.2.2.2.2.1
  have h5 := H.2.2.2.2.2.2.1
  refine e_iconst dX9_mayBe_0 kci_0 ?_
  refine e_istore_n dX9_mayBe_1 (by decide) rfl ?_
  refine e_aload_n dX9_mayBe_2 rfl ?_
  refine e_iload_n dX9_mayBe_3 rfl ?_
  refine e_iload_n dX9_mayBe_4 rfl ?_
  refine e_callV1 (μ' := mX9_armOn) (ci := 9) (As := [.int (nI d), .int s]) dX9_mayBe_5 wl_X9_160 ok_X9_armOn rfl rfl (fx_pi_lt (by decide)) (by decide) (Nat.le_of_ble_eq_true rfl) fx_n1 (s_X9_armOn (m := m) hL H (nI d) s) rfl ?_
  refine e_iconst dX9_mayBe_8 kci_m1 ?_
  refine e_icmp_eq 14 dX9_mayBe_9 rfl (fun c_n => ?_) (fun c_n => ?_)
  · refine e_iconst dX9_mayBe_14 kci_0 ?_
    refine e_istore dX9_mayBe_15 (by decide) rfl ?_
    have hno : p_at t.1 na (nI d) s = none := (p_oi_ne (fun x hx => by have := (p_fd_some hx).2.1; omega)).mp c_n
    have lp : ∀ (j : Nat) (k : Nat), k + j = na → fx_E Γ mX9_mayBe 3 119 119 (fx_is (some (.int (nI (p_sN (fun x => p_can t.1 t.2.1 na x d s) na)))) m) 119 m 17 [some (fx_rf Γ 83), some (.int (nI d)), some (.int s), some (.int (nI (p_sN (fun x => p_can t.1 t.2.1 na x d s) k))), some (.int (nI k))] [] := by
      intro j
      induction j with
      | zero =>
        intro k hk
        refine e_iload dX9_mayBe_17 rfl ?_
        refine e_aload_n dX9_mayBe_19 rfl ?_
        refine e_getv (v := nI na) dX9_mayBe_20 ff_X9_126 rfl (fx_pi_lt (by decide)) (by decide) rfl H.1 ?_
        refine e_icmp_ge 62 dX9_mayBe_23 rfl (fun _ => ?_) (fun h => absurd (nI_le (by omega) (by omega)) h)
        refine e_iload_n dX9_mayBe_62 rfl ?_
        exact e_iret dX9_mayBe_63 rfl rfl rfl ⟨by rw [show k = na by omega], rfl⟩
      | succ j ih =>
        intro k hk
        refine e_iload dX9_mayBe_17 rfl ?_
        refine e_aload_n dX9_mayBe_19 rfl ?_
        refine e_getv (v := nI na) dX9_mayBe_20 ff_X9_126 rfl (fx_pi_lt (by decide)) (by decide) rfl H.1 ?_
        refine e_icmp_ge 62 dX9_mayBe_23 rfl (fun h => absurd h (nI_ge (by omega) (by omega))) (fun _ => ?_)
        refine e_aload_n dX9_mayBe_26 rfl ?_
        refine e_getr (o2 := 91) dX9_mayBe_27 ff_X9_38 rfl (fx_pi_lt (by decide)) (by decide) rfl (hL _ _ _ rfl) ?_
        refine e_iload dX9_mayBe_30 rfl ?_
        refine e_ialdv (j := k) (v := t.1 k 6) dX9_mayBe_32 rfl (fx_pi_lt (by decide)) rfl (by omega) (by decide) (H.2.2.2.1 _ (by omega) 6 (by decide)) ?_
        refine e_bipush dX9_mayBe_33 kcb_99 ?_
        refine e_icmp_ne 56 dX9_mayBe_35 rfl (fun c_p => ?_) (fun c_p => ?_)
        · refine e_iinc (v := nI (k + 1)) dX9_mayBe_56 rfl (fx_inc _) (by decide) rfl ?_
          refine e_goto 17 dX9_mayBe_59 rfl ?_
          rw [← p_sN_no (P := (fun x => p_can t.1 t.2.1 na x d s)) (k := k) (fun h => by first | exact c_p h.1 | exact c_f h.2.1)]
          exact ih (k + 1) (by omega)
        · refine e_aload_n dX9_mayBe_38 rfl ?_
          refine e_iload dX9_mayBe_39 rfl ?_
          refine e_iload_n dX9_mayBe_41 rfl ?_
          refine e_iload_n dX9_mayBe_42 rfl ?_
          refine e_callV1 (μ' := mX9_isFit) (ci := 9) (As := [.int (nI k), .int (nI d), .int s]) dX9_mayBe_43 wl_X9_215 ok_X9_isFit rfl rfl (fx_pi_lt (by decide)) (by decide) (Nat.le_of_ble_eq_true rfl) fx_n1 (s_X9_isFit (m := m) hL H (x := k) (by omega) (d := d) (by omega) s) rfl ?_
          refine e_if_eqB 56 dX9_mayBe_46 rfl (fun c_f => ?_) (fun c_f => ?_)
          · refine e_iinc (v := nI (k + 1)) dX9_mayBe_56 rfl (fx_inc _) (by decide) rfl ?_
            refine e_goto 17 dX9_mayBe_59 rfl ?_
            rw [← p_sN_no (P := (fun x => p_can t.1 t.2.1 na x d s)) (k := k) (fun h => by first | exact c_p h.1 | exact c_f h.2.1)]
            exact ih (k + 1) (by omega)
          · refine e_iload_n dX9_mayBe_49 rfl ?_
            refine e_iconst dX9_mayBe_50 kci_1 ?_
            refine e_iload dX9_mayBe_51 rfl ?_
            refine e_ishl dX9_mayBe_53 ?_
            refine e_iadd dX9_mayBe_54 ?_
            refine e_istore_n dX9_mayBe_55 (by decide) rfl ?_
            refine e_iinc (v := nI (k + 1)) dX9_mayBe_56 rfl (fx_inc _) (by decide) rfl ?_
            refine e_goto 17 dX9_mayBe_59 rfl ?_
            rw [p_ipl (P := (fun x => p_can t.1 t.2.1 na x d s)) (by omega) ⟨c_p, c_f, hno⟩]
            exact ih (k + 1) (by omega)
    exact lp na 0 (by omega)
  · refine e_iconst dX9_mayBe_12 kci_0 ?_
    exact e_iret dX9_mayBe_13 rfl rfl rfl ⟨by rw [p_sN_z (P := (fun x => p_can t.1 t.2.1 na x d s)) (fun k _ h => c_n (by rw [h.2.2]; rfl))]; rfl, rfl⟩
set_option maxRecDepth 100000 in
set_option maxHeartbeats 600000 in
theorem s_X9_isMend {Γ : fx_G} {m : fx_M} (hL : fx_Lay m) {na nd : Nat} {t : p_Sg} (H : fx_MS m na nd t) {x : Nat} (hx : x < na) {d : Nat} (hd : d < nd) (s : Int32) : fx_Ct Γ mX9_isMend 3 119 119 [fx_rf Γ 83, .int (nI x), .int (nI d), .int s] m (fx_is (some (.int (if p_can t.1 t.2.1 na x d s then 1 else 0))) m) := by
  refine fx_Ct.of (j := 0) (by decide) (Nat.le_of_ble_eq_true rfl) (Nat.le_of_ble_eq_true rfl) ?_
  show fx_E Γ mX9_isMend 3 119 119 _ 119 m 0 [some (fx_rf Γ 83), some (.int (nI x)), some (.int (nI d)), some (.int s)] []
  have h9 := H.2.2.2.2.2.1
  have h5 := H.2.2.2.2.2.2.1
  refine e_aload_n dX9_isMend_0 rfl ?_
  refine e_getr (o2 := 91) dX9_isMend_1 ff_X9_38 rfl (fx_pi_lt (by decide)) (by decide) rfl (hL _ _ _ rfl) ?_
  refine e_iload_n dX9_isMend_4 rfl ?_
  refine e_ialdv (j := x) (v := t.1 x 6) dX9_isMend_5 rfl (fx_pi_lt (by decide)) rfl (by omega) (by decide) (H.2.2.2.1 _ (by omega) 6 (by decide)) ?_
  refine e_bipush dX9_isMend_6 kcb_99 ?_
  refine e_icmp_ne 35 dX9_isMend_8 rfl (fun c_p => ?_) (fun c_p => ?_)
  · refine e_iconst dX9_isMend_35 kci_0 ?_
    exact e_iret dX9_isMend_36 rfl rfl rfl ⟨by rw [if_neg (fun h => by first | exact c_p h.1 | exact c_n (by rw [h.2.2]; rfl) | exact c_f h.2.1)], rfl⟩
  · refine e_aload_n dX9_isMend_11 rfl ?_
    refine e_iload_n dX9_isMend_12 rfl ?_
    refine e_iload_n dX9_isMend_13 rfl ?_
    refine e_callV1 (μ' := mX9_armOn) (ci := 9) (As := [.int (nI d), .int s]) dX9_isMend_14 wl_X9_160 ok_X9_armOn rfl rfl (fx_pi_lt (by decide)) (by decide) (Nat.le_of_ble_eq_true rfl) fx_n1 (s_X9_armOn (m := m) hL H (nI d) s) rfl ?_
    refine e_iconst dX9_isMend_17 kci_m1 ?_
    refine e_icmp_ne 35 dX9_isMend_18 rfl (fun c_n => ?_) (fun c_n => ?_)
    · refine e_iconst dX9_isMend_35 kci_0 ?_
      exact e_iret dX9_isMend_36 rfl rfl rfl ⟨by rw [if_neg (fun h => by first | exact c_p h.1 | exact c_n (by rw [h.2.2]; rfl) | exact c_f h.2.1)], rfl⟩
    · refine e_aload_n dX9_isMend_21 rfl ?_
      refine e_iload_n dX9_isMend_22 rfl ?_
      refine e_iload_n dX9_isMend_23 rfl ?_
      refine e_iload_n dX9_isMend_24 rfl ?_
      refine e_callV1 (μ' := mX9_isFit) (ci := 9) (As := [.int (nI x), .int (nI d), .int s]) dX9_isMend_25 wl_X9_215 ok_X9_isFit rfl rfl (fx_pi_lt (by decide)) (by decide) (Nat.le_of_ble_eq_true rfl) fx_n1 (s_X9_isFit (m := m) hL H (x := x) (by omega) (d := d) (by omega) s) rfl ?_
      refine e_if_eqB 35 dX9_isMend_28 rfl (fun c_f => ?_) (fun c_f => ?_)
      · refine e_iconst dX9_isMend_35 kci_0 ?_
        exact e_iret dX9_isMend_36 rfl rfl rfl ⟨by rw [if_neg (fun h => by first | exact c_p h.1 | exact c_n (by rw [h.2.2]; rfl) | exact c_f h.2.1)], rfl⟩
      · refine e_iconst dX9_isMend_31 kci_1 ?_
        refine e_goto 36 dX9_isMend_32 rfl ?_
        exact e_iret dX9_isMend_36 rfl rfl rfl ⟨by rw [if_pos ⟨c_p, c_f, (p_oi_ne (fun x hx => by have := (p_fd_some hx).2.1; omega)).mp c_n⟩], rfl⟩
