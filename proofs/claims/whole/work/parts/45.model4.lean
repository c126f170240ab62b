def fx_mno (m : fx_M) (b : Nat) : fx_M := if b = 0 then m else fx_sI m 84 b (m.1 84 b + 1)
theorem fx_mno_n {m : fx_M} {b : Nat} (h : b ≠ 0) : fx_mno m b = fx_sI m 84 b (m.1 84 b + 1) := if_neg h
set_option maxRecDepth 100000 in
set_option maxHeartbeats 600000 in
theorem s_X9_fits {Γ : fx_G} {m : fx_M} (hL : fx_Lay m) {na nd : Nat} {t : p_Sg} (H : fx_MS m na nd t) (x : Int32) (d : Int32) (s : Int32) : fx_Ct Γ mX9_fits 2 119 119 [fx_rf Γ 83, .int x, .int d, .int s] m (fx_is (some (.int (q_fits t.1 t.2.1 na nd x d s).2)) (fx_mno m (q_fits t.1 t.2.1 na nd x d s).1)) := by
  refine fx_Ct.of (j := 0) (by decide) (Nat.le_of_ble_eq_true rfl) (Nat.le_of_ble_eq_true rfl) ?_
  show fx_E Γ mX9_fits 2 119 119 _ 119 m 0 [some (fx_rf Γ 83), some (.int x), some (.int d), some (.int s)] []
  have h9 := H.2.2.2.2.2.1
  have h5 := H.2.2.2.2.2.2.1
  refine e_aload_n dX9_fits_0 rfl ?_
  refine e_iload_n dX9_fits_1 rfl ?_
  refine e_callV1 (μ' := mX9_isArm) (ci := 9) (As := [.int x]) dX9_fits_2 wl_X9_140 ok_X9_isArm rfl rfl (fx_pi_lt (by decide)) (by decide) (Nat.le_of_ble_eq_true rfl) fx_n1 (s_X9_isArm (m := m) hL H x) rfl ?_
  refine e_if_eqB 16 dX9_fits_5 rfl (fun c_1 => ?_) (fun c_1 => ?_)
  · refine e_aload_n dX9_fits_16 rfl ?_
    refine e_iconst dX9_fits_17 kci_m1 ?_
    refine e_callV1 (μ' := mX9_no) (ci := 9) (As := [.int (-1)]) dX9_fits_18 wl_X9_136 ok_X9_no rfl rfl (fx_pi_lt (by decide)) (by decide) (Nat.le_of_ble_eq_true rfl) fx_n1 (s_X9_no (m := m) hL (b := 1) (z := (-1)) (by decide) (by decide)) rfl ?_
    have hq : q_fits t.1 t.2.1 na nd x d s = (1, (-1)) := by first | (unfold q_fits ; (try dsimp only); (try (first | rw [if_pos c_1] | rw [if_neg c_1] | rw [if_neg (Decidable.not_not.mpr c_1)])); (first | done | rfl | decide)) | (exfalso; first | contradiction | (simp_all; done))
    exact e_iret dX9_fits_21 rfl rfl rfl ⟨by rw [hq], by rw [hq]; exact (fx_mno_n (by first | decide | omega)).symm⟩
  · refine e_aload_n dX9_fits_8 rfl ?_
    refine e_iload_n dX9_fits_9 rfl ?_
    refine e_callV1 (μ' := mX9_isDoll) (ci := 9) (As := [.int d]) dX9_fits_10 wl_X9_184 ok_X9_isDoll rfl rfl (fx_pi_lt (by decide)) (by decide) (Nat.le_of_ble_eq_true rfl) fx_n1 (s_X9_isDoll (m := m) hL H d) rfl ?_
    refine e_if_neB 22 dX9_fits_13 rfl (fun c_2 => ?_) (fun c_2 => ?_)
    · refine e_aload_n dX9_fits_22 rfl ?_
      refine e_iload_n dX9_fits_23 rfl ?_
      refine e_iconst dX9_fits_24 kci_0 ?_
      refine e_iconst dX9_fits_25 kci_1 ?_
      refine e_callV1 (μ' := mX9_isFrom) (ci := 9) (As := [.int s, .int 0, .int 1]) dX9_fits_26 wl_X9_172 ok_X9_isFrom rfl rfl (fx_pi_lt (by decide)) (by decide) (Nat.le_of_ble_eq_true rfl) fx_n1 (s_X9_isFrom (m := m) hL s 0 1) rfl ?_
      refine e_if_neB 39 dX9_fits_29 rfl (fun c_3 => ?_) (fun c_3 => ?_)
      · obtain ⟨y, hy, ey⟩ := p_el_ex c_1 (by omega)
        subst ey
        obtain ⟨z, hz, ez⟩ := p_el_ex c_2 (by omega)
        subst ez
        refine e_aload_n dX9_fits_39 rfl ?_
        refine e_iload_n dX9_fits_40 rfl ?_
        refine e_iload_n dX9_fits_41 rfl ?_
        refine e_iload_n dX9_fits_42 rfl ?_
        refine e_callV1 (μ' := mX9_isFit) (ci := 9) (As := [.int (nI y), .int (nI z), .int s]) dX9_fits_43 wl_X9_215 ok_X9_isFit rfl rfl (fx_pi_lt (by decide)) (by decide) (Nat.le_of_ble_eq_true rfl) fx_n1 (s_X9_isFit (m := m) hL H (x := y) (by omega) (d := z) (by omega) s) rfl ?_
        refine e_if_eqB 53 dX9_fits_46 rfl (fun c_4 => ?_) (fun c_4 => ?_)
        · refine e_iconst dX9_fits_53 kci_0 ?_
          have hq : q_fits t.1 t.2.1 na nd (nI y) (nI z) s = (0, 0) := by first | (unfold q_fits ; (try dsimp only); (try dsimp only); (try simp only [p_ix_n (show y < 2 ^ 31 by omega)]); (try dsimp only); (try simp only [p_ix_n (show z < 2 ^ 31 by omega)]); (try (first | rw [if_pos c_1] | rw [if_neg c_1] | rw [if_neg (Decidable.not_not.mpr c_1)])); (try (first | rw [if_pos c_2] | rw [if_neg c_2] | rw [if_neg (Decidable.not_not.mpr c_2)])); (try (first | rw [if_pos c_3] | rw [if_neg c_3] | rw [if_neg (Decidable.not_not.mpr c_3)])); (try (first | rw [if_pos c_4] | rw [if_neg c_4] | rw [if_neg (Decidable.not_not.mpr c_4)])); (first | done | rfl | decide)) | (exfalso; first | contradiction | (simp_all; done))
          exact e_iret dX9_fits_54 rfl rfl rfl ⟨by rw [hq], by rw [hq]; rfl⟩
        · refine e_iconst dX9_fits_49 kci_1 ?_
          refine e_goto 54 dX9_fits_50 rfl ?_
          have hq : q_fits t.1 t.2.1 na nd (nI y) (nI z) s = (0, 1) := by first | (unfold q_fits ; (try dsimp only); (try dsimp only); (try simp only [p_ix_n (show y < 2 ^ 31 by omega)]); (try dsimp only); (try simp only [p_ix_n (show z < 2 ^ 31 by omega)]); (try (first | rw [if_pos c_1] | rw [if_neg c_1] | rw [if_neg (Decidable.not_not.mpr c_1)])); (try (first | rw [if_pos c_2] | rw [if_neg c_2] | rw [if_neg (Decidable.not_not.mpr c_2)])); (try (first | rw [if_pos c_3] | rw [if_neg c_3] | rw [if_neg (Decidable.not_not.mpr c_3)])); (try (first | rw [if_pos c_4] | rw [if_neg c_4] | rw [if_neg (Decidable.not_not.mpr c_4)])); (first | done | rfl | decide)) | (exfalso; first | contradiction | (simp_all; done))
          exact e_iret dX9_fits_54 rfl rfl rfl ⟨by rw [hq], by rw [hq]; rfl⟩
      · refine e_aload_n dX9_fits_32 rfl ?_
        refine e_bipush dX9_fits_33 kcb_m6 ?_
        refine e_callV1 (μ' := mX9_no) (ci := 9) (As := [.int (-6)]) dX9_fits_35 wl_X9_136 ok_X9_no rfl rfl (fx_pi_lt (by decide)) (by decide) (Nat.le_of_ble_eq_true rfl) fx_n1 (s_X9_no (m := m) hL (b := 6) (z := (-6)) (by decide) (by decide)) rfl ?_
        have hq : q_fits t.1 t.2.1 na nd x d s = (6, (-6)) := by first | (unfold q_fits ; (try dsimp only); (try (first | rw [if_pos c_1] | rw [if_neg c_1] | rw [if_neg (Decidable.not_not.mpr c_1)])); (try (first | rw [if_pos c_2] | rw [if_neg c_2] | rw [if_neg (Decidable.not_not.mpr c_2)])); (try (first | rw [if_pos c_3] | rw [if_neg c_3] | rw [if_neg (Decidable.not_not.mpr c_3)])); (first | done | rfl | decide)) | (exfalso; first | contradiction | (simp_all; done))
        exact e_iret dX9_fits_38 rfl rfl rfl ⟨by rw [hq], by rw [hq]; exact (fx_mno_n (by first | decide | omega)).symm⟩
    · refine e_aload_n dX9_fits_16 rfl ?_
      refine e_iconst dX9_fits_17 kci_m1 ?_
      refine e_callV1 (μ' := mX9_no) (ci := 9) (As := [.int (-1)]) dX9_fits_18 wl_X9_136 ok_X9_no rfl rfl (fx_pi_lt (by decide)) (by decide) (Nat.le_of_ble_eq_true rfl) fx_n1 (s_X9_no (m := m) hL (b := 1) (z := (-1)) (by decide) (by decide)) rfl ?_
      have hq : q_fits t.1 t.2.1 na nd x d s = (1, (-1)) := by first | (unfold q_fits ; (try dsimp only); (try (first | rw [if_pos c_1] | rw [if_neg c_1] | rw [if_neg (Decidable.not_not.mpr c_1)])); (try (first | rw [if_pos c_2] | rw [if_neg c_2] | rw [if_neg (Decidable.not_not.mpr c_2)])); (first | done | rfl | decide)) | (exfalso; first | contradiction | (simp_all; done))
      exact e_iret dX9_fits_21 rfl rfl rfl ⟨by rw [hq], by rw [hq]; exact (fx_mno_n (by first | decide | omega)).symm⟩
set_option maxRecDepth 100000 in
set_option maxHeartbeats 600000 in
theorem s_X9_unlike {Γ : fx_G} {m : fx_M} (hL : fx_Lay m) {na nd : Nat} {t : p_Sg} (H : fx_MS m na nd t) (x : Int32) (d : Int32) : fx_Ct Γ mX9_unlike 3 119 119 [fx_rf Γ 83, .int x, .int d] m (fx_is (some (.int (q_unlike t.1 t.2.1 na nd x d).2)) (fx_mno m (q_unlike t.1 t.2.1 na nd x d).1)) := by
  refine fx_Ct.of (j := 0) (by decide) (Nat.le_of_ble_eq_true rfl) (Nat.le_of_ble_eq_true rfl) ?_
  show fx_E Γ mX9_unlike 3 119 119 _ 119 m 0 [some (fx_rf Γ 83), some (.int x), some (.int d)] []
  have h9 := H.2.2.2.2.2.1
  have h5 := H.2.2.2.2.2.2.1
  refine e_aload_n dX9_unlike_0 rfl ?_
  refine e_iload_n dX9_unlike_1 rfl ?_
  refine e_callV1 (μ' := mX9_isArm) (ci := 9) (As := [.int x]) dX9_unlike_2 wl_X9_140 ok_X9_isArm rfl rfl (fx_pi_lt (by decide)) (by decide) (Nat.le_of_ble_eq_true rfl) fx_n1 (s_X9_isArm (m := m) hL H x) rfl ?_
  refine e_if_eqB 25 dX9_unlike_5 rfl (fun c_1 => ?_) (fun c_1 => ?_)
  · refine e_aload_n dX9_unlike_25 rfl ?_
    refine e_iconst dX9_unlike_26 kci_m1 ?_
    refine e_callV1 (μ' := mX9_no) (ci := 9) (As := [.int (-1)]) dX9_unlike_27 wl_X9_136 ok_X9_no rfl rfl (fx_pi_lt (by decide)) (by decide) (Nat.le_of_ble_eq_true rfl) fx_n1 (s_X9_no (m := m) hL (b := 1) (z := (-1)) (by decide) (by decide)) rfl ?_
    have hq : q_unlike t.1 t.2.1 na nd x d = (1, (-1)) := by first | (unfold q_unlike ; (try dsimp only); (try (first | rw [if_pos c_1] | rw [if_neg c_1] | rw [if_neg (Decidable.not_not.mpr c_1)])); (first | done | rfl | decide)) | (exfalso; first | contradiction | (simp_all; done))
    exact e_iret dX9_unlike_30 rfl rfl rfl ⟨by rw [hq], by rw [hq]; exact (fx_mno_n (by first | decide | omega)).symm⟩
  · refine e_aload_n dX9_unlike_8 rfl ?_
    refine e_iload_n dX9_unlike_9 rfl ?_
    refine e_callV1 (μ' := mX9_isDoll) (ci := 9) (As := [.int d]) dX9_unlike_10 wl_X9_184 ok_X9_isDoll rfl rfl (fx_pi_lt (by decide)) (by decide) (Nat.le_of_ble_eq_true rfl) fx_n1 (s_X9_isDoll (m := m) hL H d) rfl ?_
    refine e_if_eqB 25 dX9_unlike_13 rfl (fun c_2 => ?_) (fun c_2 => ?_)
    · refine e_aload_n dX9_unlike_25 rfl ?_
      refine e_iconst dX9_unlike_26 kci_m1 ?_
      refine e_callV1 (μ' := mX9_no) (ci := 9) (As := [.int (-1)]) dX9_unlike_27 wl_X9_136 ok_X9_no rfl rfl (fx_pi_lt (by decide)) (by decide) (Nat.le_of_ble_eq_true rfl) fx_n1 (s_X9_no (m := m) hL (b := 1) (z := (-1)) (by decide) (by decide)) rfl ?_
      have hq : q_unlike t.1 t.2.1 na nd x d = (1, (-1)) := by first | (unfold q_unlike ; (try dsimp only); (try (first | rw [if_pos c_1] | rw [if_neg c_1] | rw [if_neg (Decidable.not_not.mpr c_1)])); (try (first | rw [if_pos c_2] | rw [if_neg c_2] | rw [if_neg (Decidable.not_not.mpr c_2)])); (first | done | rfl | decide)) | (exfalso; first | contradiction | (simp_all; done))
      exact e_iret dX9_unlike_30 rfl rfl rfl ⟨by rw [hq], by rw [hq]; exact (fx_mno_n (by first | decide | omega)).symm⟩
    · obtain ⟨y, hy, ey⟩ := p_el_ex c_1 (by omega)
      subst ey
      obtain ⟨z, hz, ez⟩ := p_el_ex c_2 (by omega)
      subst ez
      refine e_aload_n dX9_unlike_16 rfl ?_
      refine e_iload_n dX9_unlike_17 rfl ?_
      refine e_iload_n dX9_unlike_18 rfl ?_
      refine e_callV1 (μ' := mX9_differs) (ci := 9) (As := [.int (nI y), .int (nI z)]) dX9_unlike_19 wl_X9_163 ok_X9_differs rfl rfl (fx_pi_lt (by decide)) (by decide) (Nat.le_of_ble_eq_true rfl) fx_n1 (s_X9_differs (m := m) hL H (x := y) (by omega) (d := z) (by omega)) rfl ?_
      refine e_goto 30 dX9_unlike_22 rfl ?_
      have hq : q_unlike t.1 t.2.1 na nd (nI y) (nI z) = (0, p_farA t.1 t.2.1 y z) := by first | (unfold q_unlike ; (try dsimp only); (try dsimp only); (try simp only [p_ix_n (show y < 2 ^ 31 by omega)]); (try dsimp only); (try simp only [p_ix_n (show z < 2 ^ 31 by omega)]); (try (first | rw [if_pos c_1] | rw [if_neg c_1] | rw [if_neg (Decidable.not_not.mpr c_1)])); (try (first | rw [if_pos c_2] | rw [if_neg c_2] | rw [if_neg (Decidable.not_not.mpr c_2)])); (first | done | rfl | decide)) | (exfalso; first | contradiction | (simp_all; done))
      exact e_iret dX9_unlike_30 rfl rfl rfl ⟨by rw [hq], by rw [hq]; rfl⟩
set_option maxRecDepth 100000 in
set_option maxHeartbeats 600000 in
theorem s_X9_on {Γ : fx_G} {m : fx_M} (hL : fx_Lay m) {na nd : Nat} {t : p_Sg} (H : fx_MS m na nd t) (d : Int32) (s : Int32) : fx_Ct Γ mX9_on 2 119 119 [fx_rf Γ 83, .int d, .int s] m (fx_is (some (.int (q_on t.1 na nd d s).2)) (fx_mno m (q_on t.1 na nd d s).1)) := by
  refine fx_Ct.of (j := 0) (by decide) (Nat.le_of_ble_eq_true rfl) (Nat.le_of_ble_eq_true rfl) ?_
  show fx_E Γ mX9_on 2 119 119 _ 119 m 0 [some (fx_rf Γ 83), some (.int d), some (.int s)] []
  have h9 := H.2.2.2.2.2.1
  have h5 := H.2.2.2.2.2.2.1
  refine e_aload_n dX9_on_0 rfl ?_
  refine e_iload_n dX9_on_1 rfl ?_
  refine e_callV1 (μ' := mX9_isDoll) (ci := 9) (As := [.int d]) dX9_on_2 wl_X9_184 ok_X9_isDoll rfl rfl (fx_pi_lt (by decide)) (by decide) (Nat.le_of_ble_eq_true rfl) fx_n1 (s_X9_isDoll (m := m) hL H d) rfl ?_
  refine e_if_neB 14 dX9_on_5 rfl (fun c_1 => ?_) (fun c_1 => ?_)
  · refine e_aload_n dX9_on_14 rfl ?_
    refine e_iload_n dX9_on_15 rfl ?_
    refine e_iconst dX9_on_16 kci_0 ?_
    refine e_iconst dX9_on_17 kci_1 ?_
    refine e_callV1 (μ' := mX9_isFrom) (ci := 9) (As := [.int s, .int 0, .int 1]) dX9_on_18 wl_X9_172 ok_X9_isFrom rfl rfl (fx_pi_lt (by decide)) (by decide) (Nat.le_of_ble_eq_true rfl) fx_n1 (s_X9_isFrom (m := m) hL s 0 1) rfl ?_
    refine e_if_eqB 33 dX9_on_21 rfl (fun c_2 => ?_) (fun c_2 => ?_)
    · refine e_aload_n dX9_on_33 rfl ?_
      refine e_bipush dX9_on_34 kcb_m6 ?_
      refine e_callV1 (μ' := mX9_noTen) (ci := 9) (As := [.int (-6)]) dX9_on_36 wl_X9_190 ok_X9_noTen rfl rfl (fx_pi_lt (by decide)) (by decide) (Nat.le_of_ble_eq_true rfl) fx_n1 (s_X9_noTen (m := m) hL (b := 6) (z := (-6)) (by decide) (by decide)) rfl ?_
      have hq : q_on t.1 na nd d s = (6, (-6) - 10) := by first | (unfold q_on p_bS; (try dsimp only); (try (first | rw [if_pos c_1] | rw [if_neg c_1] | rw [if_neg (Decidable.not_not.mpr c_1)])); (try (first | rw [if_pos c_2] | rw [if_neg c_2] | rw [if_neg (Decidable.not_not.mpr c_2)])); (first | done | rfl | decide)) | (exfalso; first | contradiction | (simp_all; done))
      exact e_iret dX9_on_39 rfl rfl rfl ⟨by rw [hq], by rw [hq]; exact (fx_mno_n (by first | decide | omega)).symm⟩
    · refine e_aload_n dX9_on_24 rfl ?_
      refine e_iload_n dX9_on_25 rfl ?_
      refine e_iload_n dX9_on_26 rfl ?_
      refine e_callV1 (μ' := mX9_armOn) (ci := 9) (As := [.int d, .int s]) dX9_on_27 wl_X9_160 ok_X9_armOn rfl rfl (fx_pi_lt (by decide)) (by decide) (Nat.le_of_ble_eq_true rfl) fx_n1 (s_X9_armOn (m := m) hL H d s) rfl ?_
      refine e_goto 39 dX9_on_30 rfl ?_
      have hq : q_on t.1 na nd d s = (0, p_oi (p_at t.1 na d s)) := by first | (unfold q_on p_bS; (try dsimp only); (try (first | rw [if_pos c_1] | rw [if_neg c_1] | rw [if_neg (Decidable.not_not.mpr c_1)])); (try (first | rw [if_pos c_2] | rw [if_neg c_2] | rw [if_neg (Decidable.not_not.mpr c_2)])); (first | done | rfl | decide)) | (exfalso; first | contradiction | (simp_all; done))
      exact e_iret dX9_on_39 rfl rfl rfl ⟨by rw [hq], by rw [hq]; rfl⟩
  · refine e_aload_n dX9_on_8 rfl ?_
    refine e_iconst dX9_on_9 kci_m1 ?_
    refine e_callV1 (μ' := mX9_noTen) (ci := 9) (As := [.int (-1)]) dX9_on_10 wl_X9_190 ok_X9_noTen rfl rfl (fx_pi_lt (by decide)) (by decide) (Nat.le_of_ble_eq_true rfl) fx_n1 (s_X9_noTen (m := m) hL (b := 1) (z := (-1)) (by decide) (by decide)) rfl ?_
    have hq : q_on t.1 na nd d s = (1, (-1) - 10) := by first | (unfold q_on p_bS; (try dsimp only); (try (first | rw [if_pos c_1] | rw [if_neg c_1] | rw [if_neg (Decidable.not_not.mpr c_1)])); (first | done | rfl | decide)) | (exfalso; first | contradiction | (simp_all; done))
    exact e_iret dX9_on_13 rfl rfl rfl ⟨by rw [hq], by rw [hq]; exact (fx_mno_n (by first | decide | omega)).symm⟩
set_option maxRecDepth 100000 in
set_option maxHeartbeats 600000 in
theorem s_X9_may {Γ : fx_G} {m : fx_M} (hL : fx_Lay m) {na nd : Nat} {t : p_Sg} (H : fx_MS m na nd t) (d : Int32) (s : Int32) : fx_Ct Γ mX9_may 4 119 119 [fx_rf Γ 83, .int d, .int s] m (fx_is (some (.int (q_may t.1 t.2.1 na nd d s).2)) (fx_mno m (q_may t.1 t.2.1 na nd d s).1)) := by
  refine fx_Ct.of (j := 0) (by decide) (Nat.le_of_ble_eq_true rfl) (Nat.le_of_ble_eq_true rfl) ?_
  show fx_E Γ mX9_may 4 119 119 _ 119 m 0 [some (fx_rf Γ 83), some (.int d), some (.int s)] []
  have h9 := H.2.2.2.2.2.1
  have h5 := H.2.2.2.2.2.2.1
  refine e_aload_n dX9_may_0 rfl ?_
  refine e_iload_n dX9_may_1 rfl ?_
  refine e_callV1 (μ' := mX9_isDoll) (ci := 9) (As := [.int d]) dX9_may_2 wl_X9_184 ok_X9_isDoll rfl rfl (fx_pi_lt (by decide)) (by decide) (Nat.le_of_ble_eq_true rfl) fx_n1 (s_X9_isDoll (m := m) hL H d) rfl ?_
  refine e_if_neB 14 dX9_may_5 rfl (fun c_1 => ?_) (fun c_1 => ?_)
  · refine e_aload_n dX9_may_14 rfl ?_
    refine e_iload_n dX9_may_15 rfl ?_
    refine e_iconst dX9_may_16 kci_0 ?_
    refine e_iconst dX9_may_17 kci_1 ?_
    refine e_callV1 (μ' := mX9_isFrom) (ci := 9) (As := [.int s, .int 0, .int 1]) dX9_may_18 wl_X9_172 ok_X9_isFrom rfl rfl (fx_pi_lt (by decide)) (by decide) (Nat.le_of_ble_eq_true rfl) fx_n1 (s_X9_isFrom (m := m) hL s 0 1) rfl ?_
    refine e_if_eqB 33 dX9_may_21 rfl (fun c_2 => ?_) (fun c_2 => ?_)
    · refine e_aload_n dX9_may_33 rfl ?_
      refine e_bipush dX9_may_34 kcb_m6 ?_
      refine e_callV1 (μ' := mX9_no) (ci := 9) (As := [.int (-6)]) dX9_may_36 wl_X9_136 ok_X9_no rfl rfl (fx_pi_lt (by decide)) (by decide) (Nat.le_of_ble_eq_true rfl) fx_n1 (s_X9_no (m := m) hL (b := 6) (z := (-6)) (by decide) (by decide)) rfl ?_
      have hq : q_may t.1 t.2.1 na nd d s = (6, (-6)) := by first | (unfold q_may p_bS; (try dsimp only); (try (first | rw [if_pos c_1] | rw [if_neg c_1] | rw [if_neg (Decidable.not_not.mpr c_1)])); (try (first | rw [if_pos c_2] | rw [if_neg c_2] | rw [if_neg (Decidable.not_not.mpr c_2)])); (first | done | rfl | decide)) | (exfalso; first | contradiction | (simp_all; done))
      exact e_iret dX9_may_39 rfl rfl rfl ⟨by rw [hq], by rw [hq]; exact (fx_mno_n (by first | decide | omega)).symm⟩
    · obtain ⟨y, hy, ey⟩ := p_el_ex c_1 (by omega)
      subst ey
      refine e_aload_n dX9_may_24 rfl ?_
      refine e_iload_n dX9_may_25 rfl ?_
      refine e_iload_n dX9_may_26 rfl ?_
      refine e_callV1 (μ' := mX9_mayBe) (ci := 9) (As := [.int (nI y), .int s]) dX9_may_27 wl_X9_254 ok_X9_mayBe rfl rfl (fx_pi_lt (by decide)) (by decide) (Nat.le_of_ble_eq_true rfl) fx_n1 (s_X9_mayBe (m := m) hL H (d := y) (by omega) s) rfl ?_
      refine e_goto 39 dX9_may_30 rfl ?_
      have hq : q_may t.1 t.2.1 na nd (nI y) s = (0, nI (p_sN (fun x => p_can t.1 t.2.1 na x y s) na)) := by first | (unfold q_may p_bS; (try dsimp only); (try dsimp only); (try simp only [p_ix_n (show y < 2 ^ 31 by omega)]); (try (first | rw [if_pos c_1] | rw [if_neg c_1] | rw [if_neg (Decidable.not_not.mpr c_1)])); (try (first | rw [if_pos c_2] | rw [if_neg c_2] | rw [if_neg (Decidable.not_not.mpr c_2)])); (first | done | rfl | decide)) | (exfalso; first | contradiction | (simp_all; done))
      exact e_iret dX9_may_39 rfl rfl rfl ⟨by rw [hq], by rw [hq]; rfl⟩
  · refine e_aload_n dX9_may_8 rfl ?_
    refine e_iconst dX9_may_9 kci_m1 ?_
    refine e_callV1 (μ' := mX9_no) (ci := 9) (As := [.int (-1)]) dX9_may_10 wl_X9_136 ok_X9_no rfl rfl (fx_pi_lt (by decide)) (by decide) (Nat.le_of_ble_eq_true rfl) fx_n1 (s_X9_no (m := m) hL (b := 1) (z := (-1)) (by decide) (by decide)) rfl ?_
    have hq : q_may t.1 t.2.1 na nd d s = (1, (-1)) := by first | (unfold q_may p_bS; (try dsimp only); (try (first | rw [if_pos c_1] | rw [if_neg c_1] | rw [if_neg (Decidable.not_not.mpr c_1)])); (first | done | rfl | decide)) | (exfalso; first | contradiction | (simp_all; done))
    exact e_iret dX9_may_13 rfl rfl rfl ⟨by rw [hq], by rw [hq]; exact (fx_mno_n (by first | decide | omega)).symm⟩
set_option maxRecDepth 100000 in
set_option maxHeartbeats 600000 in
theorem s_X9_comes {Γ : fx_G} {m : fx_M} (hL : fx_Lay m) {na nd : Nat} {t : p_Sg} (H : fx_MS m na nd t) (d : Int32) (n : Int32) : fx_Ct Γ mX9_comes 1 119 119 [fx_rf Γ 83, .int d, .int n] m (fx_is (some (.int (q_comes t.2.1 nd d n).2)) (fx_mno m (q_comes t.2.1 nd d n).1)) := by
  refine fx_Ct.of (j := 0) (by decide) (Nat.le_of_ble_eq_true rfl) (Nat.le_of_ble_eq_true rfl) ?_
  show fx_E Γ mX9_comes 1 119 119 _ 119 m 0 [some (fx_rf Γ 83), some (.int d), some (.int n)] []
  have h9 := H.2.2.2.2.2.1
  have h5 := H.2.2.2.2.2.2.1
  refine e_aload_n dX9_comes_0 rfl ?_
  refine e_iload_n dX9_comes_1 rfl ?_
  refine e_callV1 (μ' := mX9_isDoll) (ci := 9) (As := [.int d]) dX9_comes_2 wl_X9_184 ok_X9_isDoll rfl rfl (fx_pi_lt (by decide)) (by decide) (Nat.le_of_ble_eq_true rfl) fx_n1 (s_X9_isDoll (m := m) hL H d) rfl ?_
  refine e_if_neB 14 dX9_comes_5 rfl (fun c_1 => ?_) (fun c_1 => ?_)
  · refine e_aload_n dX9_comes_14 rfl ?_
    refine e_iload_n dX9_comes_15 rfl ?_
    refine e_iconst dX9_comes_16 kci_0 ?_
    refine e_bipush dX9_comes_17 kcb_99 ?_
    refine e_callV1 (μ' := mX9_isFrom) (ci := 9) (As := [.int n, .int 0, .int 99]) dX9_comes_19 wl_X9_172 ok_X9_isFrom rfl rfl (fx_pi_lt (by decide)) (by decide) (Nat.le_of_ble_eq_true rfl) fx_n1 (s_X9_isFrom (m := m) hL n 0 99) rfl ?_
    refine e_if_eqB 44 dX9_comes_22 rfl (fun c_2 => ?_) (fun c_2 => ?_)
    · refine e_aload_n dX9_comes_44 rfl ?_
      refine e_bipush dX9_comes_45 kcb_m6 ?_
      refine e_callV1 (μ' := mX9_no) (ci := 9) (As := [.int (-6)]) dX9_comes_47 wl_X9_136 ok_X9_no rfl rfl (fx_pi_lt (by decide)) (by decide) (Nat.le_of_ble_eq_true rfl) fx_n1 (s_X9_no (m := m) hL (b := 6) (z := (-6)) (by decide) (by decide)) rfl ?_
      have hq : q_comes t.2.1 nd d n = (6, (-6)) := by first | (unfold q_comes ; (try dsimp only); (try (first | rw [if_pos c_1] | rw [if_neg c_1] | rw [if_neg (Decidable.not_not.mpr c_1)])); (try (first | rw [if_pos c_2] | rw [if_neg c_2] | rw [if_neg (Decidable.not_not.mpr c_2)])); (first | done | rfl | decide)) | (exfalso; first | contradiction | (simp_all; done))
      exact e_iret dX9_comes_50 rfl rfl rfl ⟨by rw [hq], by rw [hq]; exact (fx_mno_n (by first | decide | omega)).symm⟩
    · obtain ⟨y, hy, ey⟩ := p_el_ex c_1 (by omega)
      subst ey
      refine e_sipush dX9_comes_25 kcs_1000 ?_
      refine e_iload_n dX9_comes_28 rfl ?_
      refine e_imul dX9_comes_29 ?_
      refine e_aload_n dX9_comes_30 rfl ?_
      refine e_getr (o2 := 99) dX9_comes_31 ff_X9_62 rfl (fx_pi_lt (by decide)) (by decide) rfl (hL _ _ _ rfl) ?_
      refine e_iload_n dX9_comes_34 rfl ?_
      refine e_ialdv (j := y) (v := t.2.1 y 7) dX9_comes_35 rfl (fx_pi_lt (by decide)) rfl (by omega) (by decide) (H.2.2.2.2.1 _ (by omega) 7 (by decide)) ?_
      refine e_iload_n dX9_comes_36 rfl ?_
      refine e_iadd dX9_comes_37 ?_
      refine e_iconst dX9_comes_38 kci_1 ?_
      refine e_iadd dX9_comes_39 ?_
      refine e_idiv dX9_comes_40 (p_den (H.2.2.2.2.2.2.2.2 y (by omega)).2.2.2.2.2.2.2 c_2) ?_
      refine e_goto 50 dX9_comes_41 rfl ?_
      have hq : q_comes t.2.1 nd (nI y) n = (0, (1000 * n) / (((t.2.1 y 7) + n) + 1)) := by first | (unfold q_comes ; (try dsimp only); (try dsimp only); (try simp only [p_ix_n (show y < 2 ^ 31 by omega)]); (try (first | rw [if_pos c_1] | rw [if_neg c_1] | rw [if_neg (Decidable.not_not.mpr c_1)])); (try (first | rw [if_pos c_2] | rw [if_neg c_2] | rw [if_neg (Decidable.not_not.mpr c_2)])); (first | done | rfl | decide)) | (exfalso; first | contradiction | (simp_all; done))
      exact e_iret dX9_comes_50 rfl rfl rfl ⟨by rw [hq], by rw [hq]; rfl⟩
  · refine e_aload_n dX9_comes_8 rfl ?_
    refine e_iconst dX9_comes_9 kci_m1 ?_
    refine e_callV1 (μ' := mX9_no) (ci := 9) (As := [.int (-1)]) dX9_comes_10 wl_X9_136 ok_X9_no rfl rfl (fx_pi_lt (by decide)) (by decide) (Nat.le_of_ble_eq_true rfl) fx_n1 (s_X9_no (m := m) hL (b := 1) (z := (-1)) (by decide) (by decide)) rfl ?_
    have hq : q_comes t.2.1 nd d n = (1, (-1)) := by first | (unfold q_comes ; (try dsimp only); (try (first | rw [if_pos c_1] | rw [if_neg c_1] | rw [if_neg (Decidable.not_not.mpr c_1)])); (first | done | rfl | decide)) | (exfalso; first | contradiction | (simp_all; done))
    exact e_iret dX9_comes_13 rfl rfl rfl ⟨by rw [hq], by rw [hq]; exact (fx_mno_n (by first | decide | omega)).symm⟩
set_option maxRecDepth 100000 in
set_option maxHeartbeats 600000 in
theorem s_X9_armOf {Γ : fx_G} {m : fx_M} (hL : fx_Lay m) {na nd : Nat} {t : p_Sg} (H : fx_MS m na nd t) (x w : Int32) : fx_Ct Γ mX9_armOf 2 119 119 [fx_rf Γ 83, .int x, .int w] m (fx_is (some (.int (q_armOf t.1 na x w).2)) (fx_mno m (q_armOf t.1 na x w).1)) := by
  refine fx_Ct.of (j := 0) (by decide) (Nat.le_of_ble_eq_true rfl) (Nat.le_of_ble_eq_true rfl) ?_
  show fx_E Γ mX9_armOf 2 119 119 _ 119 m 0 [some (fx_rf Γ 83), some (.int x), some (.int w)] []
  have h9 := H.2.2.2.2.2.1
  have h5 := H.2.2.2.2.2.2.1
  refine e_aload_n dX9_armOf_0 rfl ?_
  refine e_iload_n dX9_armOf_1 rfl ?_
  refine e_callV1 (μ' := mX9_isArm) (ci := 9) (As := [.int x]) dX9_armOf_2 wl_X9_140 ok_X9_isArm rfl rfl (fx_pi_lt (by decide)) (by decide) (Nat.le_of_ble_eq_true rfl) fx_n1 (s_X9_isArm (m := m) hL H x) rfl ?_
  refine e_if_neB 15 dX9_armOf_5 rfl (fun c_1 => ?_) (fun c_1 => ?_)
  · obtain ⟨y, hy, ey⟩ := p_el_ex c_1 (by omega)
    subst ey
    refine e_iload_n dX9_armOf_15 rfl ?_
    by_cases c_2 : w = 0
    · refine e_tableIn (off := 52) 68 dX9_armOf_16 (by rw [c_2]; decide) (by rw [c_2]; decide) (by rw [c_2]; decide) rfl ?_
      refine e_aload_n dX9_armOf_68 rfl ?_
      refine e_getr (o2 := 85) dX9_armOf_69 ff_X9_20 rfl (fx_pi_lt (by decide)) (by decide) rfl (hL _ _ _ rfl) ?_
      refine e_iload_n dX9_armOf_72 rfl ?_
      refine e_ialdv (j := y) (v := t.1 y 0) dX9_armOf_73 rfl (fx_pi_lt (by decide)) rfl (by omega) (by decide) (H.2.2.2.1 _ (by omega) 0 (by decide)) ?_
      have hq : q_armOf t.1 na (nI y) w = (0, t.1 y 0) := by subst c_2; unfold q_armOf p_fig; (try dsimp only); (try dsimp only); (try simp only [p_ix_n (show y < 2 ^ 31 by omega)]); rw [if_neg (Decidable.not_not.mpr c_1)]; (first | rfl | (simp; done) | (split <;> simp_all))
      exact e_iret dX9_armOf_74 rfl rfl rfl ⟨by rw [hq], by rw [hq]; rfl⟩
    by_cases c_3 : w = 1
    · refine e_tableIn (off := 59) 75 dX9_armOf_16 (by rw [c_3]; decide) (by rw [c_3]; decide) (by rw [c_3]; decide) rfl ?_
      refine e_aload_n dX9_armOf_75 rfl ?_
      refine e_getr (o2 := 86) dX9_armOf_76 ff_X9_23 rfl (fx_pi_lt (by decide)) (by decide) rfl (hL _ _ _ rfl) ?_
      refine e_iload_n dX9_armOf_79 rfl ?_
      refine e_ialdv (j := y) (v := t.1 y 1) dX9_armOf_80 rfl (fx_pi_lt (by decide)) rfl (by omega) (by decide) (H.2.2.2.1 _ (by omega) 1 (by decide)) ?_
      have hq : q_armOf t.1 na (nI y) w = (0, t.1 y 1) := by subst c_3; unfold q_armOf p_fig; (try dsimp only); (try dsimp only); (try simp only [p_ix_n (show y < 2 ^ 31 by omega)]); rw [if_neg (Decidable.not_not.mpr c_1)]; (first | rfl | (simp; done) | (split <;> simp_all))
      exact e_iret dX9_armOf_81 rfl rfl rfl ⟨by rw [hq], by rw [hq]; rfl⟩
    by_cases c_4 : w = 2
    · refine e_tableIn (off := 66) 82 dX9_armOf_16 (by rw [c_4]; decide) (by rw [c_4]; decide) (by rw [c_4]; decide) rfl ?_
      refine e_aload_n dX9_armOf_82 rfl ?_
      refine e_getr (o2 := 87) dX9_armOf_83 ff_X9_26 rfl (fx_pi_lt (by decide)) (by decide) rfl (hL _ _ _ rfl) ?_
      refine e_iload_n dX9_armOf_86 rfl ?_
      refine e_ialdv (j := y) (v := t.1 y 2) dX9_armOf_87 rfl (fx_pi_lt (by decide)) rfl (by omega) (by decide) (H.2.2.2.1 _ (by omega) 2 (by decide)) ?_
      have hq : q_armOf t.1 na (nI y) w = (0, t.1 y 2) := by subst c_4; unfold q_armOf p_fig; (try dsimp only); (try dsimp only); (try simp only [p_ix_n (show y < 2 ^ 31 by omega)]); rw [if_neg (Decidable.not_not.mpr c_1)]; (first | rfl | (simp; done) | (split <;> simp_all))
      exact e_iret dX9_armOf_88 rfl rfl rfl ⟨by rw [hq], by rw [hq]; rfl⟩
    by_cases c_5 : w = 3
    · refine e_tableIn (off := 73) 89 dX9_armOf_16 (by rw [c_5]; decide) (by rw [c_5]; decide) (by rw [c_5]; decide) rfl ?_
      refine e_aload_n dX9_armOf_89 rfl ?_
      refine e_getr (o2 := 88) dX9_armOf_90 ff_X9_29 rfl (fx_pi_lt (by decide)) (by decide) rfl (hL _ _ _ rfl) ?_
      refine e_iload_n dX9_armOf_93 rfl ?_
      refine e_ialdv (j := y) (v := t.1 y 3) dX9_armOf_94 rfl (fx_pi_lt (by decide)) rfl (by omega) (by decide) (H.2.2.2.1 _ (by omega) 3 (by decide)) ?_
      have hq : q_armOf t.1 na (nI y) w = (0, t.1 y 3) := by subst c_5; unfold q_armOf p_fig; (try dsimp only); (try dsimp only); (try simp only [p_ix_n (show y < 2 ^ 31 by omega)]); rw [if_neg (Decidable.not_not.mpr c_1)]; (first | rfl | (simp; done) | (split <;> simp_all))
      exact e_iret dX9_armOf_95 rfl rfl rfl ⟨by rw [hq], by rw [hq]; rfl⟩
    by_cases c_6 : w = 4
    · refine e_tableIn (off := 80) 96 dX9_armOf_16 (by rw [c_6]; decide) (by rw [c_6]; decide) (by rw [c_6]; decide) rfl ?_
      refine e_aload_n dX9_armOf_96 rfl ?_
      refine e_getr (o2 := 89) dX9_armOf_97 ff_X9_32 rfl (fx_pi_lt (by decide)) (by decide) rfl (hL _ _ _ rfl) ?_
      refine e_iload_n dX9_armOf_100 rfl ?_
      refine e_ialdv (j := y) (v := t.1 y 4) dX9_armOf_101 rfl (fx_pi_lt (by decide)) rfl (by omega) (by decide) (H.2.2.2.1 _ (by omega) 4 (by decide)) ?_
      have hq : q_armOf t.1 na (nI y) w = (0, t.1 y 4) := by subst c_6; unfold q_armOf p_fig; (try dsimp only); (try dsimp only); (try simp only [p_ix_n (show y < 2 ^ 31 by omega)]); rw [if_neg (Decidable.not_not.mpr c_1)]; (first | rfl | (simp; done) | (split <;> simp_all))
      exact e_iret dX9_armOf_102 rfl rfl rfl ⟨by rw [hq], by rw [hq]; rfl⟩
    by_cases c_7 : w = 5
    · refine e_tableIn (off := 87) 103 dX9_armOf_16 (by rw [c_7]; decide) (by rw [c_7]; decide) (by rw [c_7]; decide) rfl ?_
      refine e_aload_n dX9_armOf_103 rfl ?_
      refine e_getr (o2 := 90) dX9_armOf_104 ff_X9_35 rfl (fx_pi_lt (by decide)) (by decide) rfl (hL _ _ _ rfl) ?_
      refine e_iload_n dX9_armOf_107 rfl ?_
      refine e_ialdv (j := y) (v := t.1 y 5) dX9_armOf_108 rfl (fx_pi_lt (by decide)) rfl (by omega) (by decide) (H.2.2.2.1 _ (by omega) 5 (by decide)) ?_
      have hq : q_armOf t.1 na (nI y) w = (0, t.1 y 5) := by subst c_7; unfold q_armOf p_fig; (try dsimp only); (try dsimp only); (try simp only [p_ix_n (show y < 2 ^ 31 by omega)]); rw [if_neg (Decidable.not_not.mpr c_1)]; (first | rfl | (simp; done) | (split <;> simp_all))
      exact e_iret dX9_armOf_109 rfl rfl rfl ⟨by rw [hq], by rw [hq]; rfl⟩
    by_cases c_8 : w = 6
    · refine e_tableIn (off := 94) 110 dX9_armOf_16 (by rw [c_8]; decide) (by rw [c_8]; decide) (by rw [c_8]; decide) rfl ?_
      refine e_aload_n dX9_armOf_110 rfl ?_
      refine e_iload_n dX9_armOf_111 rfl ?_
      refine e_callV1 (μ' := mX9_shadeSeen) (ci := 9) (As := [.int (nI y)]) dX9_armOf_112 wl_X9_150 ok_X9_shadeSeen rfl rfl (fx_pi_lt (by decide)) (by decide) (Nat.le_of_ble_eq_true rfl) fx_n1 (s_X9_shadeSeen (m := m) hL H (x := y) (by omega)) rfl ?_
      have hq : q_armOf t.1 na (nI y) w = (0, p_shade (t.1 y) (t.1 y 4)) := by subst c_8; unfold q_armOf p_fig; (try dsimp only); (try dsimp only); (try simp only [p_ix_n (show y < 2 ^ 31 by omega)]); rw [if_neg (Decidable.not_not.mpr c_1)]; (first | rfl | (simp; done) | (split <;> simp_all))
      exact e_iret dX9_armOf_115 rfl rfl rfl ⟨by rw [hq], by rw [hq]; rfl⟩
    by_cases c_9 : w = 7
    · refine e_tableIn (off := 100) 116 dX9_armOf_16 (by rw [c_9]; decide) (by rw [c_9]; decide) (by rw [c_9]; decide) rfl ?_
      refine e_aload_n dX9_armOf_116 rfl ?_
      refine e_iload_n dX9_armOf_117 rfl ?_
      refine e_callV1 (μ' := mX9_wearSeen) (ci := 9) (As := [.int (nI y)]) dX9_armOf_118 wl_X9_147 ok_X9_wearSeen rfl rfl (fx_pi_lt (by decide)) (by decide) (Nat.le_of_ble_eq_true rfl) fx_n1 (s_X9_wearSeen (m := m) hL H (x := y) (by omega)) rfl ?_
      have hq : q_armOf t.1 na (nI y) w = (0, p_wear (t.1 y) (t.1 y 5)) := by subst c_9; unfold q_armOf p_fig; (try dsimp only); (try dsimp only); (try simp only [p_ix_n (show y < 2 ^ 31 by omega)]); rw [if_neg (Decidable.not_not.mpr c_1)]; (first | rfl | (simp; done) | (split <;> simp_all))
      exact e_iret dX9_armOf_121 rfl rfl rfl ⟨by rw [hq], by rw [hq]; rfl⟩
    by_cases c_10 : w = 8
    · refine e_tableIn (off := 106) 122 dX9_armOf_16 (by rw [c_10]; decide) (by rw [c_10]; decide) (by rw [c_10]; decide) rfl ?_
      refine e_aload_n dX9_armOf_122 rfl ?_
      refine e_getr (o2 := 91) dX9_armOf_123 ff_X9_38 rfl (fx_pi_lt (by decide)) (by decide) rfl (hL _ _ _ rfl) ?_
      refine e_iload_n dX9_armOf_126 rfl ?_
      refine e_ialdv (j := y) (v := t.1 y 6) dX9_armOf_127 rfl (fx_pi_lt (by decide)) rfl (by omega) (by decide) (H.2.2.2.1 _ (by omega) 6 (by decide)) ?_
      have hq : q_armOf t.1 na (nI y) w = (0, t.1 y 6) := by subst c_10; unfold q_armOf p_fig; (try dsimp only); (try dsimp only); (try simp only [p_ix_n (show y < 2 ^ 31 by omega)]); rw [if_neg (Decidable.not_not.mpr c_1)]; (first | rfl | (simp; done) | (split <;> simp_all))
      exact e_iret dX9_armOf_128 rfl rfl rfl ⟨by rw [hq], by rw [hq]; rfl⟩
    have tc_2 := lv_neT c_2 (show (0 : Int32).toInt = 0 by decide)
    have tc_3 := lv_neT c_3 (show (1 : Int32).toInt = 1 by decide)
    have tc_4 := lv_neT c_4 (show (2 : Int32).toInt = 2 by decide)
    have tc_5 := lv_neT c_5 (show (3 : Int32).toInt = 3 by decide)
    have tc_6 := lv_neT c_6 (show (4 : Int32).toInt = 4 by decide)
    have tc_7 := lv_neT c_7 (show (5 : Int32).toInt = 5 by decide)
    have tc_8 := lv_neT c_8 (show (6 : Int32).toInt = 6 by decide)
    have tc_9 := lv_neT c_9 (show (7 : Int32).toInt = 7 by decide)
    have tc_10 := lv_neT c_10 (show (8 : Int32).toInt = 8 by decide)
    refine e_tableOut 129 dX9_armOf_16 (by omega) rfl ?_
    refine e_aload_n dX9_armOf_129 rfl ?_
    refine e_bipush dX9_armOf_130 kcb_m5 ?_
    refine e_callV1 (μ' := mX9_no) (ci := 9) (As := [.int (-5)]) dX9_armOf_132 wl_X9_136 ok_X9_no rfl rfl (fx_pi_lt (by decide)) (by decide) (Nat.le_of_ble_eq_true rfl) fx_n1 (s_X9_no (m := m) hL (b := 5) (z := (-5)) (by decide) (by decide)) rfl ?_
    have hw : ¬ p_in w 0 8 := fun h => by
      obtain ⟨j, hj, ej⟩ := p_in_ex (hi := 8) h (by decide)
      subst ej
      have : j = 0 ∨ j = 1 ∨ j = 2 ∨ j = 3 ∨ j = 4 ∨ j = 5 ∨ j = 6 ∨ j = 7 ∨ j = 8 := by omega
      rcases this with rfl | rfl | rfl | rfl | rfl | rfl | rfl | rfl | rfl <;> (first | exact c_2 rfl | exact c_3 rfl | exact c_4 rfl | exact c_5 rfl | exact c_6 rfl | exact c_7 rfl | exact c_8 rfl | exact c_9 rfl | exact c_10 rfl)
    have hq : q_armOf t.1 na (nI y) w = (5, (-5)) := by unfold q_armOf; rw [if_neg (Decidable.not_not.mpr c_1), if_pos hw]; (first | done | rfl)
    exact e_iret dX9_armOf_135 rfl rfl rfl ⟨by rw [hq], by rw [hq]; exact (fx_mno_n (by decide)).symm⟩
  · refine e_aload_n dX9_armOf_8 rfl ?_
    refine e_bipush dX9_armOf_9 kcb_m5 ?_
    refine e_callV1 (μ' := mX9_no) (ci := 9) (As := [.int (-5)]) dX9_armOf_11 wl_X9_136 ok_X9_no rfl rfl (fx_pi_lt (by decide)) (by decide) (Nat.le_of_ble_eq_true rfl) fx_n1 (s_X9_no (m := m) hL (b := 5) (z := (-5)) (by decide) (by decide)) rfl ?_
    have hq : q_armOf t.1 na x w = (5, (-5)) := by unfold q_armOf; (try (first | rw [if_pos c_1] | rw [if_neg c_1] | rw [if_neg (Decidable.not_not.mpr c_1)])); (first | done | rfl)
    exact e_iret dX9_armOf_14 rfl rfl rfl ⟨by rw [hq], by rw [hq]; exact (fx_mno_n (by decide)).symm⟩
set_option maxRecDepth 100000 in
set_option maxHeartbeats 600000 in
theorem s_X9_dollOf {Γ : fx_G} {m : fx_M} (hL : fx_Lay m) {na nd : Nat} {t : p_Sg} (H : fx_MS m na nd t) (d w : Int32) : fx_Ct Γ mX9_dollOf 5 119 119 [fx_rf Γ 83, .int d, .int w] m (fx_is (some (.int (q_dollOf t.1 t.2.1 na nd d w).2)) (fx_mno m (q_dollOf t.1 t.2.1 na nd d w).1)) := by
  refine fx_Ct.of (j := 0) (by decide) (Nat.le_of_ble_eq_true rfl) (Nat.le_of_ble_eq_true rfl) ?_
  show fx_E Γ mX9_dollOf 5 119 119 _ 119 m 0 [some (fx_rf Γ 83), some (.int d), some (.int w)] []
  have h9 := H.2.2.2.2.2.1
  have h5 := H.2.2.2.2.2.2.1
  refine e_aload_n dX9_dollOf_0 rfl ?_
  refine e_iload_n dX9_dollOf_1 rfl ?_
  refine e_callV1 (μ' := mX9_isDoll) (ci := 9) (As := [.int d]) dX9_dollOf_2 wl_X9_184 ok_X9_isDoll rfl rfl (fx_pi_lt (by decide)) (by decide) (Nat.le_of_ble_eq_true rfl) fx_n1 (s_X9_isDoll (m := m) hL H d) rfl ?_
  refine e_if_neB 15 dX9_dollOf_5 rfl (fun c_1 => ?_) (fun c_1 => ?_)
  · obtain ⟨y, hy, ey⟩ := p_el_ex c_1 (by omega)
    subst ey
    refine e_iload_n dX9_dollOf_15 rfl ?_
    by_cases c_2 : w = 0
    · refine e_tableIn (off := 52) 68 dX9_dollOf_16 (by rw [c_2]; decide) (by rw [c_2]; decide) (by rw [c_2]; decide) rfl ?_
      refine e_aload_n dX9_dollOf_68 rfl ?_
      refine e_getr (o2 := 92) dX9_dollOf_69 ff_X9_41 rfl (fx_pi_lt (by decide)) (by decide) rfl (hL _ _ _ rfl) ?_
      refine e_iload_n dX9_dollOf_72 rfl ?_
      refine e_ialdv (j := y) (v := t.2.1 y 0) dX9_dollOf_73 rfl (fx_pi_lt (by decide)) rfl (by omega) (by decide) (H.2.2.2.2.1 _ (by omega) 0 (by decide)) ?_
      have hq : q_dollOf t.1 t.2.1 na nd (nI y) w = (0, t.2.1 y 0) := by subst c_2; unfold q_dollOf p_figD; (try dsimp only); (try dsimp only); (try simp only [p_ix_n (show y < 2 ^ 31 by omega)]); rw [if_neg (Decidable.not_not.mpr c_1)]; (first | rfl | (simp; done) | (split <;> simp_all))
      exact e_iret dX9_dollOf_74 rfl rfl rfl ⟨by rw [hq], by rw [hq]; rfl⟩
    by_cases c_3 : w = 1
    · refine e_tableIn (off := 59) 75 dX9_dollOf_16 (by rw [c_3]; decide) (by rw [c_3]; decide) (by rw [c_3]; decide) rfl ?_
      refine e_aload_n dX9_dollOf_75 rfl ?_
      refine e_getr (o2 := 93) dX9_dollOf_76 ff_X9_44 rfl (fx_pi_lt (by decide)) (by decide) rfl (hL _ _ _ rfl) ?_
      refine e_iload_n dX9_dollOf_79 rfl ?_
      refine e_ialdv (j := y) (v := t.2.1 y 1) dX9_dollOf_80 rfl (fx_pi_lt (by decide)) rfl (by omega) (by decide) (H.2.2.2.2.1 _ (by omega) 1 (by decide)) ?_
      have hq : q_dollOf t.1 t.2.1 na nd (nI y) w = (0, t.2.1 y 1) := by subst c_3; unfold q_dollOf p_figD; (try dsimp only); (try dsimp only); (try simp only [p_ix_n (show y < 2 ^ 31 by omega)]); rw [if_neg (Decidable.not_not.mpr c_1)]; (first | rfl | (simp; done) | (split <;> simp_all))
      exact e_iret dX9_dollOf_81 rfl rfl rfl ⟨by rw [hq], by rw [hq]; rfl⟩
    by_cases c_4 : w = 2
    · refine e_tableIn (off := 66) 82 dX9_dollOf_16 (by rw [c_4]; decide) (by rw [c_4]; decide) (by rw [c_4]; decide) rfl ?_
      refine e_aload_n dX9_dollOf_82 rfl ?_
      refine e_getr (o2 := 94) dX9_dollOf_83 ff_X9_47 rfl (fx_pi_lt (by decide)) (by decide) rfl (hL _ _ _ rfl) ?_
      refine e_iload_n dX9_dollOf_86 rfl ?_
      refine e_ialdv (j := y) (v := t.2.1 y 2) dX9_dollOf_87 rfl (fx_pi_lt (by decide)) rfl (by omega) (by decide) (H.2.2.2.2.1 _ (by omega) 2 (by decide)) ?_
      have hq : q_dollOf t.1 t.2.1 na nd (nI y) w = (0, t.2.1 y 2) := by subst c_4; unfold q_dollOf p_figD; (try dsimp only); (try dsimp only); (try simp only [p_ix_n (show y < 2 ^ 31 by omega)]); rw [if_neg (Decidable.not_not.mpr c_1)]; (first | rfl | (simp; done) | (split <;> simp_all))
      exact e_iret dX9_dollOf_88 rfl rfl rfl ⟨by rw [hq], by rw [hq]; rfl⟩
    by_cases c_5 : w = 3
    · refine e_tableIn (off := 73) 89 dX9_dollOf_16 (by rw [c_5]; decide) (by rw [c_5]; decide) (by rw [c_5]; decide) rfl ?_
      refine e_aload_n dX9_dollOf_89 rfl ?_
      refine e_getr (o2 := 95) dX9_dollOf_90 ff_X9_50 rfl (fx_pi_lt (by decide)) (by decide) rfl (hL _ _ _ rfl) ?_
      refine e_iload_n dX9_dollOf_93 rfl ?_
      refine e_ialdv (j := y) (v := t.2.1 y 3) dX9_dollOf_94 rfl (fx_pi_lt (by decide)) rfl (by omega) (by decide) (H.2.2.2.2.1 _ (by omega) 3 (by decide)) ?_
      have hq : q_dollOf t.1 t.2.1 na nd (nI y) w = (0, t.2.1 y 3) := by subst c_5; unfold q_dollOf p_figD; (try dsimp only); (try dsimp only); (try simp only [p_ix_n (show y < 2 ^ 31 by omega)]); rw [if_neg (Decidable.not_not.mpr c_1)]; (first | rfl | (simp; done) | (split <;> simp_all))
      exact e_iret dX9_dollOf_95 rfl rfl rfl ⟨by rw [hq], by rw [hq]; rfl⟩
    by_cases c_6 : w = 4
    · refine e_tableIn (off := 80) 96 dX9_dollOf_16 (by rw [c_6]; decide) (by rw [c_6]; decide) (by rw [c_6]; decide) rfl ?_
      refine e_aload_n dX9_dollOf_96 rfl ?_
      refine e_getr (o2 := 96) dX9_dollOf_97 ff_X9_53 rfl (fx_pi_lt (by decide)) (by decide) rfl (hL _ _ _ rfl) ?_
      refine e_iload_n dX9_dollOf_100 rfl ?_
      refine e_ialdv (j := y) (v := t.2.1 y 4) dX9_dollOf_101 rfl (fx_pi_lt (by decide)) rfl (by omega) (by decide) (H.2.2.2.2.1 _ (by omega) 4 (by decide)) ?_
      have hq : q_dollOf t.1 t.2.1 na nd (nI y) w = (0, t.2.1 y 4) := by subst c_6; unfold q_dollOf p_figD; (try dsimp only); (try dsimp only); (try simp only [p_ix_n (show y < 2 ^ 31 by omega)]); rw [if_neg (Decidable.not_not.mpr c_1)]; (first | rfl | (simp; done) | (split <;> simp_all))
      exact e_iret dX9_dollOf_102 rfl rfl rfl ⟨by rw [hq], by rw [hq]; rfl⟩
    by_cases c_7 : w = 5
    · refine e_tableIn (off := 87) 103 dX9_dollOf_16 (by rw [c_7]; decide) (by rw [c_7]; decide) (by rw [c_7]; decide) rfl ?_
      refine e_aload_n dX9_dollOf_103 rfl ?_
      refine e_getr (o2 := 97) dX9_dollOf_104 ff_X9_56 rfl (fx_pi_lt (by decide)) (by decide) rfl (hL _ _ _ rfl) ?_
      refine e_iload_n dX9_dollOf_107 rfl ?_
      refine e_ialdv (j := y) (v := t.2.1 y 5) dX9_dollOf_108 rfl (fx_pi_lt (by decide)) rfl (by omega) (by decide) (H.2.2.2.2.1 _ (by omega) 5 (by decide)) ?_
      have hq : q_dollOf t.1 t.2.1 na nd (nI y) w = (0, t.2.1 y 5) := by subst c_7; unfold q_dollOf p_figD; (try dsimp only); (try dsimp only); (try simp only [p_ix_n (show y < 2 ^ 31 by omega)]); rw [if_neg (Decidable.not_not.mpr c_1)]; (first | rfl | (simp; done) | (split <;> simp_all))
      exact e_iret dX9_dollOf_109 rfl rfl rfl ⟨by rw [hq], by rw [hq]; rfl⟩
    by_cases c_8 : w = 6
    · refine e_tableIn (off := 94) 110 dX9_dollOf_16 (by rw [c_8]; decide) (by rw [c_8]; decide) (by rw [c_8]; decide) rfl ?_
      refine e_aload_n dX9_dollOf_110 rfl ?_
      refine e_getr (o2 := 98) dX9_dollOf_111 ff_X9_59 rfl (fx_pi_lt (by decide)) (by decide) rfl (hL _ _ _ rfl) ?_
      refine e_iload_n dX9_dollOf_114 rfl ?_
      refine e_ialdv (j := y) (v := t.2.1 y 6) dX9_dollOf_115 rfl (fx_pi_lt (by decide)) rfl (by omega) (by decide) (H.2.2.2.2.1 _ (by omega) 6 (by decide)) ?_
      have hq : q_dollOf t.1 t.2.1 na nd (nI y) w = (0, t.2.1 y 6) := by subst c_8; unfold q_dollOf p_figD; (try dsimp only); (try dsimp only); (try simp only [p_ix_n (show y < 2 ^ 31 by omega)]); rw [if_neg (Decidable.not_not.mpr c_1)]; (first | rfl | (simp; done) | (split <;> simp_all))
      exact e_iret dX9_dollOf_116 rfl rfl rfl ⟨by rw [hq], by rw [hq]; rfl⟩
    by_cases c_9 : w = 7
    · refine e_tableIn (off := 101) 117 dX9_dollOf_16 (by rw [c_9]; decide) (by rw [c_9]; decide) (by rw [c_9]; decide) rfl ?_
      refine e_aload_n dX9_dollOf_117 rfl ?_
      refine e_getr (o2 := 99) dX9_dollOf_118 ff_X9_62 rfl (fx_pi_lt (by decide)) (by decide) rfl (hL _ _ _ rfl) ?_
      refine e_iload_n dX9_dollOf_121 rfl ?_
      refine e_ialdv (j := y) (v := t.2.1 y 7) dX9_dollOf_122 rfl (fx_pi_lt (by decide)) rfl (by omega) (by decide) (H.2.2.2.2.1 _ (by omega) 7 (by decide)) ?_
      have hq : q_dollOf t.1 t.2.1 na nd (nI y) w = (0, t.2.1 y 7) := by subst c_9; unfold q_dollOf p_figD; (try dsimp only); (try dsimp only); (try simp only [p_ix_n (show y < 2 ^ 31 by omega)]); rw [if_neg (Decidable.not_not.mpr c_1)]; (first | rfl | (simp; done) | (split <;> simp_all))
      exact e_iret dX9_dollOf_123 rfl rfl rfl ⟨by rw [hq], by rw [hq]; rfl⟩
    by_cases c_10 : w = 8
    · refine e_tableIn (off := 108) 124 dX9_dollOf_16 (by rw [c_10]; decide) (by rw [c_10]; decide) (by rw [c_10]; decide) rfl ?_
      refine e_aload_n dX9_dollOf_124 rfl ?_
      refine e_iload_n dX9_dollOf_125 rfl ?_
      refine e_callV1 (μ' := mX9_isHer) (ci := 9) (As := [.int (nI y)]) dX9_dollOf_126 wl_X9_187 ok_X9_isHer rfl rfl (fx_pi_lt (by decide)) (by decide) (Nat.le_of_ble_eq_true rfl) fx_n1 (s_X9_isHer (m := m) hL H (d := y) (by omega)) rfl ?_
      refine e_if_eqB 136 dX9_dollOf_129 rfl (fun a_h => ?_) (fun a_h => ?_)
      · refine e_iconst dX9_dollOf_136 kci_0 ?_
        have hq : q_dollOf t.1 t.2.1 na nd (nI y) w = (0, 0) := by subst c_10; unfold q_dollOf; (try dsimp only); (try dsimp only); (try simp only [p_ix_n (show y < 2 ^ 31 by omega)]); rw [if_neg (Decidable.not_not.mpr c_1)]; simp [a_h]; (try decide)
        exact e_iret dX9_dollOf_137 rfl rfl rfl ⟨by rw [hq], by rw [hq]; rfl⟩
      · refine e_iconst dX9_dollOf_132 kci_1 ?_
        refine e_goto 137 dX9_dollOf_133 rfl ?_
        have hq : q_dollOf t.1 t.2.1 na nd (nI y) w = (0, 1) := by subst c_10; unfold q_dollOf; (try dsimp only); (try dsimp only); (try simp only [p_ix_n (show y < 2 ^ 31 by omega)]); rw [if_neg (Decidable.not_not.mpr c_1)]; simp [a_h]; (try decide)
        exact e_iret dX9_dollOf_137 rfl rfl rfl ⟨by rw [hq], by rw [hq]; rfl⟩
    have tc_2 := lv_neT c_2 (show (0 : Int32).toInt = 0 by decide)
    have tc_3 := lv_neT c_3 (show (1 : Int32).toInt = 1 by decide)
    have tc_4 := lv_neT c_4 (show (2 : Int32).toInt = 2 by decide)
    have tc_5 := lv_neT c_5 (show (3 : Int32).toInt = 3 by decide)
    have tc_6 := lv_neT c_6 (show (4 : Int32).toInt = 4 by decide)
    have tc_7 := lv_neT c_7 (show (5 : Int32).toInt = 5 by decide)
    have tc_8 := lv_neT c_8 (show (6 : Int32).toInt = 6 by decide)
    have tc_9 := lv_neT c_9 (show (7 : Int32).toInt = 7 by decide)
    have tc_10 := lv_neT c_10 (show (8 : Int32).toInt = 8 by decide)
    refine e_tableOut 138 dX9_dollOf_16 (by omega) rfl ?_
    refine e_aload_n dX9_dollOf_138 rfl ?_
    refine e_bipush dX9_dollOf_139 kcb_m5 ?_
    refine e_callV1 (μ' := mX9_no) (ci := 9) (As := [.int (-5)]) dX9_dollOf_141 wl_X9_136 ok_X9_no rfl rfl (fx_pi_lt (by decide)) (by decide) (Nat.le_of_ble_eq_true rfl) fx_n1 (s_X9_no (m := m) hL (b := 5) (z := (-5)) (by decide) (by decide)) rfl ?_
    have hw : ¬ p_in w 0 8 := fun h => by
      obtain ⟨j, hj, ej⟩ := p_in_ex (hi := 8) h (by decide)
      subst ej
      have : j = 0 ∨ j = 1 ∨ j = 2 ∨ j = 3 ∨ j = 4 ∨ j = 5 ∨ j = 6 ∨ j = 7 ∨ j = 8 := by omega
      rcases this with rfl | rfl | rfl | rfl | rfl | rfl | rfl | rfl | rfl <;> (first | exact c_2 rfl | exact c_3 rfl | exact c_4 rfl | exact c_5 rfl | exact c_6 rfl | exact c_7 rfl | exact c_8 rfl | exact c_9 rfl | exact c_10 rfl)
    have hq : q_dollOf t.1 t.2.1 na nd (nI y) w = (5, (-5)) := by unfold q_dollOf; rw [if_neg (Decidable.not_not.mpr c_1), if_pos hw]; (first | done | rfl)
    exact e_iret dX9_dollOf_144 rfl rfl rfl ⟨by rw [hq], by rw [hq]; exact (fx_mno_n (by decide)).symm⟩
  · refine e_aload_n dX9_dollOf_8 rfl ?_
    refine e_bipush dX9_dollOf_9 kcb_m5 ?_
    refine e_callV1 (μ' := mX9_no) (ci := 9) (As := [.int (-5)]) dX9_dollOf_11 wl_X9_136 ok_X9_no rfl rfl (fx_pi_lt (by decide)) (by decide) (Nat.le_of_ble_eq_true rfl) fx_n1 (s_X9_no (m := m) hL (b := 5) (z := (-5)) (by decide) (by decide)) rfl ?_
    have hq : q_dollOf t.1 t.2.1 na nd d w = (5, (-5)) := by unfold q_dollOf; (try (first | rw [if_pos c_1] | rw [if_neg c_1] | rw [if_neg (Decidable.not_not.mpr c_1)])); (first | done | rfl)
    exact e_iret dX9_dollOf_14 rfl rfl rfl ⟨by rw [hq], by rw [hq]; exact (fx_mno_n (by decide)).symm⟩
set_option maxRecDepth 100000 in
set_option maxHeartbeats 600000 in
theorem s_X9_arm {Γ : fx_G} {m : fx_M} (hL : fx_Lay m) {na nd : Nat} {t : p_Sg} (H : fx_MS m na nd t) (h8 : na ≤ 8) (k : Int32) (a : Int32) (s : Int32) (z : Int32) (h : Int32) (w : Int32) : fx_Ct Γ mX9_arm 1 119 119 [fx_rf Γ 83, .int k, .int a, .int s, .int z, .int h, .int w] m (fun r m' => r = some (.int (q_arm na k a s z h w).2) ∧ ((q_arm na k a s z h w).1 ≠ 0 → m' = fx_mno m (q_arm na k a s z h w).1) ∧ ((q_arm na k a s z h w).1 = 0 → fx_MS m' (na + 1) nd (p_ua t.1 na (p_recA (fun i => if i = 0 then k else if i = 1 then a else if i = 2 then s else if i = 3 then z else if i = 4 then h else if i = 5 then w else 0)), t.2.1, t.2.2) ∧ fx_KF m m')) := by
  refine fx_Ct.of (j := 0) (by decide) (Nat.le_of_ble_eq_true rfl) (Nat.le_of_ble_eq_true rfl) ?_
  show fx_E Γ mX9_arm 1 119 119 _ 119 m 0 [some (fx_rf Γ 83), some (.int k), some (.int a), some (.int s), some (.int z), some (.int h), some (.int w)] []
  have h9 := H.2.2.2.2.2.1
  have h5 := H.2.2.2.2.2.2.1
  refine e_iload_n dX9_arm_0 rfl ?_
  refine e_if_lt 10 dX9_arm_1 rfl (fun c_1 => ?_) (fun c_1 => ?_)
  · have c_k : ¬ p_in k 0 6 := by rintro ⟨h1, h2⟩; first | exact absurd h1 (Int32.not_le.mpr c_1) | exact c_1 h2
    refine e_aload_n dX9_arm_10 rfl ?_
    refine e_iconst dX9_arm_11 kci_m1 ?_
    refine e_callV1 (μ' := mX9_no) (ci := 9) (As := [.int (-1)]) dX9_arm_12 wl_X9_136 ok_X9_no rfl rfl (fx_pi_lt (by decide)) (by decide) (Nat.le_of_ble_eq_true rfl) fx_n1 (s_X9_no (m := m) hL (b := 1) (z := (-1)) (by decide) (by decide)) rfl ?_
    have hq : q_arm na k a s z h w = (1, (-1)) := by first | (unfold q_arm ; (try dsimp only); (try (first | rw [if_pos c_1] | rw [if_neg c_1] | rw [if_neg (Decidable.not_not.mpr c_1)])); (try (first | rw [if_pos c_k] | rw [if_neg c_k] | rw [if_neg (Decidable.not_not.mpr c_k)])); (first | done | rfl | decide)) | (exfalso; first | contradiction | (simp_all; done))
    exact e_iret dX9_arm_15 rfl rfl rfl ⟨by rw [hq], fun _ => by rw [hq]; exact (fx_mno_n (by decide)).symm, fun h => by rw [hq] at h; cases h⟩
  · refine e_iload_n dX9_arm_4 rfl ?_
    refine e_bipush dX9_arm_5 kcb_6 ?_
    refine e_icmp_le 16 dX9_arm_7 rfl (fun c_2 => ?_) (fun c_2 => ?_)
    · have c_k : p_in k 0 6 := ⟨Int32.not_lt.mp c_1, c_2⟩
      refine e_aload_n dX9_arm_16 rfl ?_
      refine e_iload_n dX9_arm_17 rfl ?_
      refine e_callV1 (μ' := mX9_isNine) (ci := 9) (As := [.int a]) dX9_arm_18 wl_X9_169 ok_X9_isNine rfl rfl (fx_pi_lt (by decide)) (by decide) (Nat.le_of_ble_eq_true rfl) fx_n1 (s_X9_isNine (m := m) hL a) rfl ?_
      refine e_if_eqB 61 dX9_arm_21 rfl (fun c_3 => ?_) (fun c_3 => ?_)
      · refine e_aload_n dX9_arm_61 rfl ?_
        refine e_bipush dX9_arm_62 kcb_m6 ?_
        refine e_callV1 (μ' := mX9_no) (ci := 9) (As := [.int (-6)]) dX9_arm_64 wl_X9_136 ok_X9_no rfl rfl (fx_pi_lt (by decide)) (by decide) (Nat.le_of_ble_eq_true rfl) fx_n1 (s_X9_no (m := m) hL (b := 6) (z := (-6)) (by decide) (by decide)) rfl ?_
        have hq : q_arm na k a s z h w = (6, (-6)) := by first | (unfold q_arm ; (try dsimp only); (try (first | rw [if_pos c_1] | rw [if_neg c_1] | rw [if_neg (Decidable.not_not.mpr c_1)])); (try (first | rw [if_pos c_2] | rw [if_neg c_2] | rw [if_neg (Decidable.not_not.mpr c_2)])); (try (first | rw [if_pos c_k] | rw [if_neg c_k] | rw [if_neg (Decidable.not_not.mpr c_k)])); (try (first | rw [if_pos c_3] | rw [if_neg c_3] | rw [if_neg (Decidable.not_not.mpr c_3)])); (first | done | rfl | decide)) | (exfalso; first | contradiction | (simp_all; done))
        exact e_iret dX9_arm_67 rfl rfl rfl ⟨by rw [hq], fun _ => by rw [hq]; exact (fx_mno_n (by decide)).symm, fun h => by rw [hq] at h; cases h⟩
      · refine e_aload_n dX9_arm_24 rfl ?_
        refine e_iload_n dX9_arm_25 rfl ?_
        refine e_iconst dX9_arm_26 kci_0 ?_
        refine e_iconst dX9_arm_27 kci_1 ?_
        refine e_callV1 (μ' := mX9_isFrom) (ci := 9) (As := [.int s, .int 0, .int 1]) dX9_arm_28 wl_X9_172 ok_X9_isFrom rfl rfl (fx_pi_lt (by decide)) (by decide) (Nat.le_of_ble_eq_true rfl) fx_n1 (s_X9_isFrom (m := m) hL s 0 1) rfl ?_
        refine e_if_eqB 61 dX9_arm_31 rfl (fun c_4 => ?_) (fun c_4 => ?_)
        · refine e_aload_n dX9_arm_61 rfl ?_
          refine e_bipush dX9_arm_62 kcb_m6 ?_
          refine e_callV1 (μ' := mX9_no) (ci := 9) (As := [.int (-6)]) dX9_arm_64 wl_X9_136 ok_X9_no rfl rfl (fx_pi_lt (by decide)) (by decide) (Nat.le_of_ble_eq_true rfl) fx_n1 (s_X9_no (m := m) hL (b := 6) (z := (-6)) (by decide) (by decide)) rfl ?_
          have hq : q_arm na k a s z h w = (6, (-6)) := by first | (unfold q_arm ; (try dsimp only); (try (first | rw [if_pos c_1] | rw [if_neg c_1] | rw [if_neg (Decidable.not_not.mpr c_1)])); (try (first | rw [if_pos c_2] | rw [if_neg c_2] | rw [if_neg (Decidable.not_not.mpr c_2)])); (try (first | rw [if_pos c_k] | rw [if_neg c_k] | rw [if_neg (Decidable.not_not.mpr c_k)])); (try (first | rw [if_pos c_3] | rw [if_neg c_3] | rw [if_neg (Decidable.not_not.mpr c_3)])); (try (first | rw [if_pos c_4] | rw [if_neg c_4] | rw [if_neg (Decidable.not_not.mpr c_4)])); (first | done | rfl | decide)) | (exfalso; first | contradiction | (simp_all; done))
          exact e_iret dX9_arm_67 rfl rfl rfl ⟨by rw [hq], fun _ => by rw [hq]; exact (fx_mno_n (by decide)).symm, fun h => by rw [hq] at h; cases h⟩
        · refine e_aload_n dX9_arm_34 rfl ?_
          refine e_iload dX9_arm_35 rfl ?_
          refine e_callV1 (μ' := mX9_isNine) (ci := 9) (As := [.int z]) dX9_arm_37 wl_X9_169 ok_X9_isNine rfl rfl (fx_pi_lt (by decide)) (by decide) (Nat.le_of_ble_eq_true rfl) fx_n1 (s_X9_isNine (m := m) hL z) rfl ?_
          refine e_if_eqB 61 dX9_arm_40 rfl (fun c_5 => ?_) (fun c_5 => ?_)
          · refine e_aload_n dX9_arm_61 rfl ?_
            refine e_bipush dX9_arm_62 kcb_m6 ?_
            refine e_callV1 (μ' := mX9_no) (ci := 9) (As := [.int (-6)]) dX9_arm_64 wl_X9_136 ok_X9_no rfl rfl (fx_pi_lt (by decide)) (by decide) (Nat.le_of_ble_eq_true rfl) fx_n1 (s_X9_no (m := m) hL (b := 6) (z := (-6)) (by decide) (by decide)) rfl ?_
            have hq : q_arm na k a s z h w = (6, (-6)) := by first | (unfold q_arm ; (try dsimp only); (try (first | rw [if_pos c_1] | rw [if_neg c_1] | rw [if_neg (Decidable.not_not.mpr c_1)])); (try (first | rw [if_pos c_2] | rw [if_neg c_2] | rw [if_neg (Decidable.not_not.mpr c_2)])); (try (first | rw [if_pos c_k] | rw [if_neg c_k] | rw [if_neg (Decidable.not_not.mpr c_k)])); (try (first | rw [if_pos c_3] | rw [if_neg c_3] | rw [if_neg (Decidable.not_not.mpr c_3)])); (try (first | rw [if_pos c_4] | rw [if_neg c_4] | rw [if_neg (Decidable.not_not.mpr c_4)])); (try (first | rw [if_pos c_5] | rw [if_neg c_5] | rw [if_neg (Decidable.not_not.mpr c_5)])); (first | done | rfl | decide)) | (exfalso; first | contradiction | (simp_all; done))
            exact e_iret dX9_arm_67 rfl rfl rfl ⟨by rw [hq], fun _ => by rw [hq]; exact (fx_mno_n (by decide)).symm, fun h => by rw [hq] at h; cases h⟩
          · refine e_aload_n dX9_arm_43 rfl ?_
            refine e_iload dX9_arm_44 rfl ?_
            refine e_callV1 (μ' := mX9_isNine) (ci := 9) (As := [.int h]) dX9_arm_46 wl_X9_169 ok_X9_isNine rfl rfl (fx_pi_lt (by decide)) (by decide) (Nat.le_of_ble_eq_true rfl) fx_n1 (s_X9_isNine (m := m) hL h) rfl ?_
            refine e_if_eqB 61 dX9_arm_49 rfl (fun c_6 => ?_) (fun c_6 => ?_)
            · refine e_aload_n dX9_arm_61 rfl ?_
              refine e_bipush dX9_arm_62 kcb_m6 ?_
              refine e_callV1 (μ' := mX9_no) (ci := 9) (As := [.int (-6)]) dX9_arm_64 wl_X9_136 ok_X9_no rfl rfl (fx_pi_lt (by decide)) (by decide) (Nat.le_of_ble_eq_true rfl) fx_n1 (s_X9_no (m := m) hL (b := 6) (z := (-6)) (by decide) (by decide)) rfl ?_
              have hq : q_arm na k a s z h w = (6, (-6)) := by first | (unfold q_arm ; (try dsimp only); (try (first | rw [if_pos c_1] | rw [if_neg c_1] | rw [if_neg (Decidable.not_not.mpr c_1)])); (try (first | rw [if_pos c_2] | rw [if_neg c_2] | rw [if_neg (Decidable.not_not.mpr c_2)])); (try (first | rw [if_pos c_k] | rw [if_neg c_k] | rw [if_neg (Decidable.not_not.mpr c_k)])); (try (first | rw [if_pos c_3] | rw [if_neg c_3] | rw [if_neg (Decidable.not_not.mpr c_3)])); (try (first | rw [if_pos c_4] | rw [if_neg c_4] | rw [if_neg (Decidable.not_not.mpr c_4)])); (try (first | rw [if_pos c_5] | rw [if_neg c_5] | rw [if_neg (Decidable.not_not.mpr c_5)])); (try (first | rw [if_pos c_6] | rw [if_neg c_6] | rw [if_neg (Decidable.not_not.mpr c_6)])); (first | done | rfl | decide)) | (exfalso; first | contradiction | (simp_all; done))
              exact e_iret dX9_arm_67 rfl rfl rfl ⟨by rw [hq], fun _ => by rw [hq]; exact (fx_mno_n (by decide)).symm, fun h => by rw [hq] at h; cases h⟩
            · refine e_aload_n dX9_arm_52 rfl ?_
              refine e_iload dX9_arm_53 rfl ?_
              refine e_callV1 (μ' := mX9_isNine) (ci := 9) (As := [.int w]) dX9_arm_55 wl_X9_169 ok_X9_isNine rfl rfl (fx_pi_lt (by decide)) (by decide) (Nat.le_of_ble_eq_true rfl) fx_n1 (s_X9_isNine (m := m) hL w) rfl ?_
              refine e_if_neB 68 dX9_arm_58 rfl (fun c_7 => ?_) (fun c_7 => ?_)
              · refine e_aload_n dX9_arm_68 rfl ?_
                refine e_getv (v := nI na) dX9_arm_69 ff_X9_126 rfl (fx_pi_lt (by decide)) (by decide) rfl H.1 ?_
                refine e_bipush dX9_arm_72 kcb_8 ?_
                refine e_icmp_ne 86 dX9_arm_74 rfl (fun a_8 => ?_) (fun a_8 => ?_)
                · have c_8 : na < 8 := by have q : na ≠ 8 := fun e => a_8 (by rw [e]; rfl); omega
                  refine e_aload_n dX9_arm_86 rfl ?_
                  refine e_iload_n dX9_arm_87 rfl ?_
                  refine e_iload_n dX9_arm_88 rfl ?_
                  refine e_iload_n dX9_arm_89 rfl ?_
                  refine e_iload dX9_arm_90 rfl ?_
                  refine e_iload dX9_arm_92 rfl ?_
                  refine e_iload dX9_arm_94 rfl ?_
                  refine e_callV1 (μ' := mX9_addsArm) (ci := 9) (As := [.int k, .int a, .int s, .int z, .int h, .int w]) dX9_arm_96 wl_X9_176 ok_X9_addsArm rfl rfl (fx_pi_lt (by decide)) (by decide) (Nat.le_of_ble_eq_true rfl) fx_n1 (s_X9_addsArm (m := m) hL H (by omega) k a s z h w) rfl ?_
                  have hq : q_arm na k a s z h w = (0, nI na) := by first | (unfold q_arm ; (try dsimp only); (try (first | rw [if_pos c_1] | rw [if_neg c_1] | rw [if_neg (Decidable.not_not.mpr c_1)])); (try (first | rw [if_pos c_2] | rw [if_neg c_2] | rw [if_neg (Decidable.not_not.mpr c_2)])); (try (first | rw [if_pos c_k] | rw [if_neg c_k] | rw [if_neg (Decidable.not_not.mpr c_k)])); (try (first | rw [if_pos c_3] | rw [if_neg c_3] | rw [if_neg (Decidable.not_not.mpr c_3)])); (try (first | rw [if_pos c_4] | rw [if_neg c_4] | rw [if_neg (Decidable.not_not.mpr c_4)])); (try (first | rw [if_pos c_5] | rw [if_neg c_5] | rw [if_neg (Decidable.not_not.mpr c_5)])); (try (first | rw [if_pos c_6] | rw [if_neg c_6] | rw [if_neg (Decidable.not_not.mpr c_6)])); (try (first | rw [if_pos c_7] | rw [if_neg c_7] | rw [if_neg (Decidable.not_not.mpr c_7)])); (try (first | rw [if_pos a_8] | rw [if_neg a_8] | rw [if_neg (Decidable.not_not.mpr a_8)])); (try (first | rw [if_pos c_8] | rw [if_neg c_8] | rw [if_neg (Decidable.not_not.mpr c_8)])); (first | done | rfl | decide)) | (exfalso; first | contradiction | (simp_all; done))
                  exact e_iret dX9_arm_99 rfl rfl rfl ⟨by rw [hq], fun h => absurd (congrArg Prod.fst hq) h, fun _ => H.arm (by omega) (fun i => if i = 0 then k else if i = 1 then a else if i = 2 then s else if i = 3 then z else if i = 4 then h else if i = 5 then w else 0) ⟨c_k, by assumption, by assumption, by assumption, by assumption, by assumption⟩⟩
                · have c_8 : ¬ na < 8 := fun q => by have := (nI_eq (a := na) (b := 8) (by omega) (by decide)).mp a_8; omega
                  refine e_aload_n dX9_arm_77 rfl ?_
                  refine e_bipush dX9_arm_78 kcb_m7 ?_
                  refine e_callV1 (μ' := mX9_no) (ci := 9) (As := [.int (-7)]) dX9_arm_80 wl_X9_136 ok_X9_no rfl rfl (fx_pi_lt (by decide)) (by decide) (Nat.le_of_ble_eq_true rfl) fx_n1 (s_X9_no (m := m) hL (b := 7) (z := (-7)) (by decide) (by decide)) rfl ?_
                  refine e_goto 99 dX9_arm_83 rfl ?_
                  have hq : q_arm na k a s z h w = (7, (-7)) := by first | (unfold q_arm ; (try dsimp only); (try (first | rw [if_pos c_1] | rw [if_neg c_1] | rw [if_neg (Decidable.not_not.mpr c_1)])); (try (first | rw [if_pos c_2] | rw [if_neg c_2] | rw [if_neg (Decidable.not_not.mpr c_2)])); (try (first | rw [if_pos c_k] | rw [if_neg c_k] | rw [if_neg (Decidable.not_not.mpr c_k)])); (try (first | rw [if_pos c_3] | rw [if_neg c_3] | rw [if_neg (Decidable.not_not.mpr c_3)])); (try (first | rw [if_pos c_4] | rw [if_neg c_4] | rw [if_neg (Decidable.not_not.mpr c_4)])); (try (first | rw [if_pos c_5] | rw [if_neg c_5] | rw [if_neg (Decidable.not_not.mpr c_5)])); (try (first | rw [if_pos c_6] | rw [if_neg c_6] | rw [if_neg (Decidable.not_not.mpr c_6)])); (try (first | rw [if_pos c_7] | rw [if_neg c_7] | rw [if_neg (Decidable.not_not.mpr c_7)])); (try (first | rw [if_pos a_8] | rw [if_neg a_8] | rw [if_neg (Decidable.not_not.mpr a_8)])); (try (first | rw [if_pos c_8] | rw [if_neg c_8] | rw [if_neg (Decidable.not_not.mpr c_8)])); (first | done | rfl | decide)) | (exfalso; first | contradiction | (simp_all; done))
                  exact e_iret dX9_arm_99 rfl rfl rfl ⟨by rw [hq], fun _ => by rw [hq]; exact (fx_mno_n (by decide)).symm, fun h => by rw [hq] at h; cases h⟩
              · refine e_aload_n dX9_arm_61 rfl ?_
                refine e_bipush dX9_arm_62 kcb_m6 ?_
                refine e_callV1 (μ' := mX9_no) (ci := 9) (As := [.int (-6)]) dX9_arm_64 wl_X9_136 ok_X9_no rfl rfl (fx_pi_lt (by decide)) (by decide) (Nat.le_of_ble_eq_true rfl) fx_n1 (s_X9_no (m := m) hL (b := 6) (z := (-6)) (by decide) (by decide)) rfl ?_
                have hq : q_arm na k a s z h w = (6, (-6)) := by first | (unfold q_arm ; (try dsimp only); (try (first | rw [if_pos c_1] | rw [if_neg c_1] | rw [if_neg (Decidable.not_not.mpr c_1)])); (try (first | rw [if_pos c_2] | rw [if_neg c_2] | rw [if_neg (Decidable.not_not.mpr c_2)])); (try (first | rw [if_pos c_k] | rw [if_neg c_k] | rw [if_neg (Decidable.not_not.mpr c_k)])); (try (first | rw [if_pos c_3] | rw [if_neg c_3] | rw [if_neg (Decidable.not_not.mpr c_3)])); (try (first | rw [if_pos c_4] | rw [if_neg c_4] | rw [if_neg (Decidable.not_not.mpr c_4)])); (try (first | rw [if_pos c_5] | rw [if_neg c_5] | rw [if_neg (Decidable.not_not.mpr c_5)])); (try (first | rw [if_pos c_6] | rw [if_neg c_6] | rw [if_neg (Decidable.not_not.mpr c_6)])); (try (first | rw [if_pos c_7] | rw [if_neg c_7] | rw [if_neg (Decidable.not_not.mpr c_7)])); (first | done | rfl | decide)) | (exfalso; first | contradiction | (simp_all; done))
                exact e_iret dX9_arm_67 rfl rfl rfl ⟨by rw [hq], fun _ => by rw [hq]; exact (fx_mno_n (by decide)).symm, fun h => by rw [hq] at h; cases h⟩
    · have c_k : ¬ p_in k 0 6 := by rintro ⟨h1, h2⟩; first | exact absurd h1 (Int32.not_le.mpr c_2) | exact c_2 h2
      refine e_aload_n dX9_arm_10 rfl ?_
      refine e_iconst dX9_arm_11 kci_m1 ?_
      refine e_callV1 (μ' := mX9_no) (ci := 9) (As := [.int (-1)]) dX9_arm_12 wl_X9_136 ok_X9_no rfl rfl (fx_pi_lt (by decide)) (by decide) (Nat.le_of_ble_eq_true rfl) fx_n1 (s_X9_no (m := m) hL (b := 1) (z := (-1)) (by decide) (by decide)) rfl ?_
      have hq : q_arm na k a s z h w = (1, (-1)) := by first | (unfold q_arm ; (try dsimp only); (try (first | rw [if_pos c_1] | rw [if_neg c_1] | rw [if_neg (Decidable.not_not.mpr c_1)])); (try (first | rw [if_pos c_2] | rw [if_neg c_2] | rw [if_neg (Decidable.not_not.mpr c_2)])); (try (first | rw [if_pos c_k] | rw [if_neg c_k] | rw [if_neg (Decidable.not_not.mpr c_k)])); (first | done | rfl | decide)) | (exfalso; first | contradiction | (simp_all; done))
      exact e_iret dX9_arm_15 rfl rfl rfl ⟨by rw [hq], fun _ => by rw [hq]; exact (fx_mno_n (by decide)).symm, fun h => by rw [hq] at h; cases h⟩
set_option maxRecDepth 100000 in
set_option maxHeartbeats 600000 in
theorem s_X9_doll {Γ : fx_G} {m : fx_M} (hL : fx_Lay m) {na nd : Nat} {t : p_Sg} (H : fx_MS m na nd t) (z : Int32) (h : Int32) (w : Int32) (v : Int32) (n : Int32) (t2 : Int32) (b : Int32) : fx_Ct Γ mX9_doll 1 119 119 [fx_rf Γ 83, .int z, .int h, .int w, .int v, .int n, .int t2, .int b] m (fun r m' => r = some (.int (q_doll nd z h w v n t2 b).2) ∧ ((q_doll nd z h w v n t2 b).1 ≠ 0 → m' = fx_mno m (q_doll nd z h w v n t2 b).1) ∧ ((q_doll nd z h w v n t2 b).1 = 0 → fx_MS m' na (nd + 1) (t.1, p_ua t.2.1 nd (p_recD (fun i => if i = 0 then z else if i = 1 then h else if i = 2 then w else if i = 3 then v else if i = 4 then n else if i = 5 then t2 else if i = 6 then b else 0)), t.2.2) ∧ fx_KF m m')) := by
  refine fx_Ct.of (j := 0) (by decide) (Nat.le_of_ble_eq_true rfl) (Nat.le_of_ble_eq_true rfl) ?_
  show fx_E Γ mX9_doll 1 119 119 _ 119 m 0 [some (fx_rf Γ 83), some (.int z), some (.int h), some (.int w), some (.int v), some (.int n), some (.int t2), some (.int b)] []
  have h9 := H.2.2.2.2.2.1
  have h5 := H.2.2.2.2.2.2.1
  refine e_aload_n dX9_doll_0 rfl ?_
  refine e_iload_n dX9_doll_1 rfl ?_
  refine e_callV1 (μ' := mX9_isNine) (ci := 9) (As := [.int z]) dX9_doll_2 wl_X9_169 ok_X9_isNine rfl rfl (fx_pi_lt (by decide)) (by decide) (Nat.le_of_ble_eq_true rfl) fx_n1 (s_X9_isNine (m := m) hL z) rfl ?_
  refine e_if_eqB 68 dX9_doll_5 rfl (fun c_1 => ?_) (fun c_1 => ?_)
  · refine e_aload_n dX9_doll_68 rfl ?_
    refine e_bipush dX9_doll_69 kcb_m6 ?_
    refine e_callV1 (μ' := mX9_no) (ci := 9) (As := [.int (-6)]) dX9_doll_71 wl_X9_136 ok_X9_no rfl rfl (fx_pi_lt (by decide)) (by decide) (Nat.le_of_ble_eq_true rfl) fx_n1 (s_X9_no (m := m) hL (b := 6) (z := (-6)) (by decide) (by decide)) rfl ?_
    have hq : q_doll nd z h w v n t2 b = (6, (-6)) := by first | (unfold q_doll ; (try dsimp only); (try (first | rw [if_pos c_1] | rw [if_neg c_1] | rw [if_neg (Decidable.not_not.mpr c_1)])); (first | done | rfl | decide)) | (exfalso; first | contradiction | (simp_all; done))
    exact e_iret dX9_doll_74 rfl rfl rfl ⟨by rw [hq], fun _ => by rw [hq]; exact (fx_mno_n (by decide)).symm, fun h => by rw [hq] at h; cases h⟩
  · refine e_aload_n dX9_doll_8 rfl ?_
    refine e_iload_n dX9_doll_9 rfl ?_
    refine e_callV1 (μ' := mX9_isNine) (ci := 9) (As := [.int h]) dX9_doll_10 wl_X9_169 ok_X9_isNine rfl rfl (fx_pi_lt (by decide)) (by decide) (Nat.le_of_ble_eq_true rfl) fx_n1 (s_X9_isNine (m := m) hL h) rfl ?_
    refine e_if_eqB 68 dX9_doll_13 rfl (fun c_2 => ?_) (fun c_2 => ?_)
    · refine e_aload_n dX9_doll_68 rfl ?_
      refine e_bipush dX9_doll_69 kcb_m6 ?_
      refine e_callV1 (μ' := mX9_no) (ci := 9) (As := [.int (-6)]) dX9_doll_71 wl_X9_136 ok_X9_no rfl rfl (fx_pi_lt (by decide)) (by decide) (Nat.le_of_ble_eq_true rfl) fx_n1 (s_X9_no (m := m) hL (b := 6) (z := (-6)) (by decide) (by decide)) rfl ?_
      have hq : q_doll nd z h w v n t2 b = (6, (-6)) := by first | (unfold q_doll ; (try dsimp only); (try (first | rw [if_pos c_1] | rw [if_neg c_1] | rw [if_neg (Decidable.not_not.mpr c_1)])); (try (first | rw [if_pos c_2] | rw [if_neg c_2] | rw [if_neg (Decidable.not_not.mpr c_2)])); (first | done | rfl | decide)) | (exfalso; first | contradiction | (simp_all; done))
      exact e_iret dX9_doll_74 rfl rfl rfl ⟨by rw [hq], fun _ => by rw [hq]; exact (fx_mno_n (by decide)).symm, fun h => by rw [hq] at h; cases h⟩
    · refine e_aload_n dX9_doll_16 rfl ?_
      refine e_iload_n dX9_doll_17 rfl ?_
      refine e_callV1 (μ' := mX9_isNine) (ci := 9) (As := [.int w]) dX9_doll_18 wl_X9_169 ok_X9_isNine rfl rfl (fx_pi_lt (by decide)) (by decide) (Nat.le_of_ble_eq_true rfl) fx_n1 (s_X9_isNine (m := m) hL w) rfl ?_
      refine e_if_eqB 68 dX9_doll_21 rfl (fun c_3 => ?_) (fun c_3 => ?_)
      · refine e_aload_n dX9_doll_68 rfl ?_
        refine e_bipush dX9_doll_69 kcb_m6 ?_
        refine e_callV1 (μ' := mX9_no) (ci := 9) (As := [.int (-6)]) dX9_doll_71 wl_X9_136 ok_X9_no rfl rfl (fx_pi_lt (by decide)) (by decide) (Nat.le_of_ble_eq_true rfl) fx_n1 (s_X9_no (m := m) hL (b := 6) (z := (-6)) (by decide) (by decide)) rfl ?_
        have hq : q_doll nd z h w v n t2 b = (6, (-6)) := by first | (unfold q_doll ; (try dsimp only); (try (first | rw [if_pos c_1] | rw [if_neg c_1] | rw [if_neg (Decidable.not_not.mpr c_1)])); (try (first | rw [if_pos c_2] | rw [if_neg c_2] | rw [if_neg (Decidable.not_not.mpr c_2)])); (try (first | rw [if_pos c_3] | rw [if_neg c_3] | rw [if_neg (Decidable.not_not.mpr c_3)])); (first | done | rfl | decide)) | (exfalso; first | contradiction | (simp_all; done))
        exact e_iret dX9_doll_74 rfl rfl rfl ⟨by rw [hq], fun _ => by rw [hq]; exact (fx_mno_n (by decide)).symm, fun h => by rw [hq] at h; cases h⟩
      · refine e_aload_n dX9_doll_24 rfl ?_
        refine e_iload dX9_doll_25 rfl ?_
        refine e_iconst dX9_doll_27 kci_0 ?_
        refine e_iconst dX9_doll_28 kci_2 ?_
        refine e_callV1 (μ' := mX9_isFrom) (ci := 9) (As := [.int v, .int 0, .int 2]) dX9_doll_29 wl_X9_172 ok_X9_isFrom rfl rfl (fx_pi_lt (by decide)) (by decide) (Nat.le_of_ble_eq_true rfl) fx_n1 (s_X9_isFrom (m := m) hL v 0 2) rfl ?_
        refine e_if_eqB 68 dX9_doll_32 rfl (fun c_4 => ?_) (fun c_4 => ?_)
        · refine e_aload_n dX9_doll_68 rfl ?_
          refine e_bipush dX9_doll_69 kcb_m6 ?_
          refine e_callV1 (μ' := mX9_no) (ci := 9) (As := [.int (-6)]) dX9_doll_71 wl_X9_136 ok_X9_no rfl rfl (fx_pi_lt (by decide)) (by decide) (Nat.le_of_ble_eq_true rfl) fx_n1 (s_X9_no (m := m) hL (b := 6) (z := (-6)) (by decide) (by decide)) rfl ?_
          have hq : q_doll nd z h w v n t2 b = (6, (-6)) := by first | (unfold q_doll ; (try dsimp only); (try (first | rw [if_pos c_1] | rw [if_neg c_1] | rw [if_neg (Decidable.not_not.mpr c_1)])); (try (first | rw [if_pos c_2] | rw [if_neg c_2] | rw [if_neg (Decidable.not_not.mpr c_2)])); (try (first | rw [if_pos c_3] | rw [if_neg c_3] | rw [if_neg (Decidable.not_not.mpr c_3)])); (try (first | rw [if_pos c_4] | rw [if_neg c_4] | rw [if_neg (Decidable.not_not.mpr c_4)])); (first | done | rfl | decide)) | (exfalso; first | contradiction | (simp_all; done))
          exact e_iret dX9_doll_74 rfl rfl rfl ⟨by rw [hq], fun _ => by rw [hq]; exact (fx_mno_n (by decide)).symm, fun h => by rw [hq] at h; cases h⟩
        · refine e_aload_n dX9_doll_35 rfl ?_
          refine e_iload dX9_doll_36 rfl ?_
          refine e_iconst dX9_doll_38 kci_1 ?_
          refine e_bipush dX9_doll_39 kcb_99 ?_
          refine e_callV1 (μ' := mX9_isFrom) (ci := 9) (As := [.int n, .int 1, .int 99]) dX9_doll_41 wl_X9_172 ok_X9_isFrom rfl rfl (fx_pi_lt (by decide)) (by decide) (Nat.le_of_ble_eq_true rfl) fx_n1 (s_X9_isFrom (m := m) hL n 1 99) rfl ?_
          refine e_if_eqB 68 dX9_doll_44 rfl (fun c_5 => ?_) (fun c_5 => ?_)
          · refine e_aload_n dX9_doll_68 rfl ?_
            refine e_bipush dX9_doll_69 kcb_m6 ?_
            refine e_callV1 (μ' := mX9_no) (ci := 9) (As := [.int (-6)]) dX9_doll_71 wl_X9_136 ok_X9_no rfl rfl (fx_pi_lt (by decide)) (by decide) (Nat.le_of_ble_eq_true rfl) fx_n1 (s_X9_no (m := m) hL (b := 6) (z := (-6)) (by decide) (by decide)) rfl ?_
            have hq : q_doll nd z h w v n t2 b = (6, (-6)) := by first | (unfold q_doll ; (try dsimp only); (try (first | rw [if_pos c_1] | rw [if_neg c_1] | rw [if_neg (Decidable.not_not.mpr c_1)])); (try (first | rw [if_pos c_2] | rw [if_neg c_2] | rw [if_neg (Decidable.not_not.mpr c_2)])); (try (first | rw [if_pos c_3] | rw [if_neg c_3] | rw [if_neg (Decidable.not_not.mpr c_3)])); (try (first | rw [if_pos c_4] | rw [if_neg c_4] | rw [if_neg (Decidable.not_not.mpr c_4)])); (try (first | rw [if_pos c_5] | rw [if_neg c_5] | rw [if_neg (Decidable.not_not.mpr c_5)])); (first | done | rfl | decide)) | (exfalso; first | contradiction | (simp_all; done))
            exact e_iret dX9_doll_74 rfl rfl rfl ⟨by rw [hq], fun _ => by rw [hq]; exact (fx_mno_n (by decide)).symm, fun h => by rw [hq] at h; cases h⟩
          · refine e_aload_n dX9_doll_47 rfl ?_
            refine e_iload dX9_doll_48 rfl ?_
            refine e_callV1 (μ' := mX9_isNine) (ci := 9) (As := [.int t2]) dX9_doll_50 wl_X9_169 ok_X9_isNine rfl rfl (fx_pi_lt (by decide)) (by decide) (Nat.le_of_ble_eq_true rfl) fx_n1 (s_X9_isNine (m := m) hL t2) rfl ?_
            refine e_if_eqB 68 dX9_doll_53 rfl (fun c_6 => ?_) (fun c_6 => ?_)
            · refine e_aload_n dX9_doll_68 rfl ?_
              refine e_bipush dX9_doll_69 kcb_m6 ?_
              refine e_callV1 (μ' := mX9_no) (ci := 9) (As := [.int (-6)]) dX9_doll_71 wl_X9_136 ok_X9_no rfl rfl (fx_pi_lt (by decide)) (by decide) (Nat.le_of_ble_eq_true rfl) fx_n1 (s_X9_no (m := m) hL (b := 6) (z := (-6)) (by decide) (by decide)) rfl ?_
              have hq : q_doll nd z h w v n t2 b = (6, (-6)) := by first | (unfold q_doll ; (try dsimp only); (try (first | rw [if_pos c_1] | rw [if_neg c_1] | rw [if_neg (Decidable.not_not.mpr c_1)])); (try (first | rw [if_pos c_2] | rw [if_neg c_2] | rw [if_neg (Decidable.not_not.mpr c_2)])); (try (first | rw [if_pos c_3] | rw [if_neg c_3] | rw [if_neg (Decidable.not_not.mpr c_3)])); (try (first | rw [if_pos c_4] | rw [if_neg c_4] | rw [if_neg (Decidable.not_not.mpr c_4)])); (try (first | rw [if_pos c_5] | rw [if_neg c_5] | rw [if_neg (Decidable.not_not.mpr c_5)])); (try (first | rw [if_pos c_6] | rw [if_neg c_6] | rw [if_neg (Decidable.not_not.mpr c_6)])); (first | done | rfl | decide)) | (exfalso; first | contradiction | (simp_all; done))
              exact e_iret dX9_doll_74 rfl rfl rfl ⟨by rw [hq], fun _ => by rw [hq]; exact (fx_mno_n (by decide)).symm, fun h => by rw [hq] at h; cases h⟩
            · refine e_aload_n dX9_doll_56 rfl ?_
              refine e_iload dX9_doll_57 rfl ?_
              refine e_iconst dX9_doll_59 kci_0 ?_
              refine e_bipush dX9_doll_60 kcb_40 ?_
              refine e_callV1 (μ' := mX9_isFrom) (ci := 9) (As := [.int b, .int 0, .int 40]) dX9_doll_62 wl_X9_172 ok_X9_isFrom rfl rfl (fx_pi_lt (by decide)) (by decide) (Nat.le_of_ble_eq_true rfl) fx_n1 (s_X9_isFrom (m := m) hL b 0 40) rfl ?_
              refine e_if_neB 75 dX9_doll_65 rfl (fun c_7 => ?_) (fun c_7 => ?_)
              · refine e_aload_n dX9_doll_75 rfl ?_
                refine e_getv (v := nI nd) dX9_doll_76 ff_X9_129 rfl (fx_pi_lt (by decide)) (by decide) rfl H.2.1 ?_
                refine e_iconst dX9_doll_79 kci_5 ?_
                refine e_icmp_ne 92 dX9_doll_80 rfl (fun a_8 => ?_) (fun a_8 => ?_)
                · have c_8 : nd < 5 := by have q : nd ≠ 5 := fun e => a_8 (by rw [e]; rfl); omega
                  refine e_aload_n dX9_doll_92 rfl ?_
                  refine e_iload_n dX9_doll_93 rfl ?_
                  refine e_iload_n dX9_doll_94 rfl ?_
                  refine e_iload_n dX9_doll_95 rfl ?_
                  refine e_iload dX9_doll_96 rfl ?_
                  refine e_iload dX9_doll_98 rfl ?_
                  refine e_iload dX9_doll_100 rfl ?_
                  refine e_iload dX9_doll_102 rfl ?_
                  refine e_callV1 (μ' := mX9_addsDoll) (ci := 9) (As := [.int z, .int h, .int w, .int v, .int n, .int t2, .int b]) dX9_doll_104 wl_X9_180 ok_X9_addsDoll rfl rfl (fx_pi_lt (by decide)) (by decide) (Nat.le_of_ble_eq_true rfl) fx_n1 (s_X9_addsDoll (m := m) hL H (by omega) z h w v n t2 b) rfl ?_
                  have hq : q_doll nd z h w v n t2 b = (0, nI nd) := by first | (unfold q_doll ; (try dsimp only); (try (first | rw [if_pos c_1] | rw [if_neg c_1] | rw [if_neg (Decidable.not_not.mpr c_1)])); (try (first | rw [if_pos c_2] | rw [if_neg c_2] | rw [if_neg (Decidable.not_not.mpr c_2)])); (try (first | rw [if_pos c_3] | rw [if_neg c_3] | rw [if_neg (Decidable.not_not.mpr c_3)])); (try (first | rw [if_pos c_4] | rw [if_neg c_4] | rw [if_neg (Decidable.not_not.mpr c_4)])); (try (first | rw [if_pos c_5] | rw [if_neg c_5] | rw [if_neg (Decidable.not_not.mpr c_5)])); (try (first | rw [if_pos c_6] | rw [if_neg c_6] | rw [if_neg (Decidable.not_not.mpr c_6)])); (try (first | rw [if_pos c_7] | rw [if_neg c_7] | rw [if_neg (Decidable.not_not.mpr c_7)])); (try (first | rw [if_pos a_8] | rw [if_neg a_8] | rw [if_neg (Decidable.not_not.mpr a_8)])); (try (first | rw [if_pos c_8] | rw [if_neg c_8] | rw [if_neg (Decidable.not_not.mpr c_8)])); (first | done | rfl | decide)) | (exfalso; first | contradiction | (simp_all; done))
                  exact e_iret dX9_doll_107 rfl rfl rfl ⟨by rw [hq], fun h => absurd (congrArg Prod.fst hq) h, fun _ => H.doll (by omega) (fun i => if i = 0 then z else if i = 1 then h else if i = 2 then w else if i = 3 then v else if i = 4 then n else if i = 5 then t2 else if i = 6 then b else 0) ⟨by assumption, by assumption, by assumption, by assumption, by assumption, by assumption, by assumption, (show p_in (0 : Int32) 0 99 from ⟨by decide, by decide⟩)⟩⟩
                · have c_8 : ¬ nd < 5 := fun q => by have := (nI_eq (a := nd) (b := 5) (by omega) (by decide)).mp a_8; omega
                  refine e_aload_n dX9_doll_83 rfl ?_
                  refine e_bipush dX9_doll_84 kcb_m7 ?_
                  refine e_callV1 (μ' := mX9_no) (ci := 9) (As := [.int (-7)]) dX9_doll_86 wl_X9_136 ok_X9_no rfl rfl (fx_pi_lt (by decide)) (by decide) (Nat.le_of_ble_eq_true rfl) fx_n1 (s_X9_no (m := m) hL (b := 7) (z := (-7)) (by decide) (by decide)) rfl ?_
                  refine e_goto 107 dX9_doll_89 rfl ?_
                  have hq : q_doll nd z h w v n t2 b = (7, (-7)) := by first | (unfold q_doll ; (try dsimp only); (try (first | rw [if_pos c_1] | rw [if_neg c_1] | rw [if_neg (Decidable.not_not.mpr c_1)])); (try (first | rw [if_pos c_2] | rw [if_neg c_2] | rw [if_neg (Decidable.not_not.mpr c_2)])); (try (first | rw [if_pos c_3] | rw [if_neg c_3] | rw [if_neg (Decidable.not_not.mpr c_3)])); (try (first | rw [if_pos c_4] | rw [if_neg c_4] | rw [if_neg (Decidable.not_not.mpr c_4)])); (try (first | rw [if_pos c_5] | rw [if_neg c_5] | rw [if_neg (Decidable.not_not.mpr c_5)])); (try (first | rw [if_pos c_6] | rw [if_neg c_6] | rw [if_neg (Decidable.not_not.mpr c_6)])); (try (first | rw [if_pos c_7] | rw [if_neg c_7] | rw [if_neg (Decidable.not_not.mpr c_7)])); (try (first | rw [if_pos a_8] | rw [if_neg a_8] | rw [if_neg (Decidable.not_not.mpr a_8)])); (try (first | rw [if_pos c_8] | rw [if_neg c_8] | rw [if_neg (Decidable.not_not.mpr c_8)])); (first | done | rfl | decide)) | (exfalso; first | contradiction | (simp_all; done))
                  exact e_iret dX9_doll_107 rfl rfl rfl ⟨by rw [hq], fun _ => by rw [hq]; exact (fx_mno_n (by decide)).symm, fun h => by rw [hq] at h; cases h⟩
              · refine e_aload_n dX9_doll_68 rfl ?_
                refine e_bipush dX9_doll_69 kcb_m6 ?_
                refine e_callV1 (μ' := mX9_no) (ci := 9) (As := [.int (-6)]) dX9_doll_71 wl_X9_136 ok_X9_no rfl rfl (fx_pi_lt (by decide)) (by decide) (Nat.le_of_ble_eq_true rfl) fx_n1 (s_X9_no (m := m) hL (b := 6) (z := (-6)) (by decide) (by decide)) rfl ?_
                have hq : q_doll nd z h w v n t2 b = (6, (-6)) := by first | (unfold q_doll ; (try dsimp only); (try (first | rw [if_pos c_1] | rw [if_neg c_1] | rw [if_neg (Decidable.not_not.mpr c_1)])); (try (first | rw [if_pos c_2] | rw [if_neg c_2] | rw [if_neg (Decidable.not_not.mpr c_2)])); (try (first | rw [if_pos c_3] | rw [if_neg c_3] | rw [if_neg (Decidable.not_not.mpr c_3)])); (try (first | rw [if_pos c_4] | rw [if_neg c_4] | rw [if_neg (Decidable.not_not.mpr c_4)])); (try (first | rw [if_pos c_5] | rw [if_neg c_5] | rw [if_neg (Decidable.not_not.mpr c_5)])); (try (first | rw [if_pos c_6] | rw [if_neg c_6] | rw [if_neg (Decidable.not_not.mpr c_6)])); (try (first | rw [if_pos c_7] | rw [if_neg c_7] | rw [if_neg (Decidable.not_not.mpr c_7)])); (first | done | rfl | decide)) | (exfalso; first | contradiction | (simp_all; done))
                exact e_iret dX9_doll_74 rfl rfl rfl ⟨by rw [hq], fun _ => by rw [hq]; exact (fx_mno_n (by decide)).symm, fun h => by rw [hq] at h; cases h⟩
set_option maxRecDepth 100000 in
set_option maxHeartbeats 600000 in
theorem s_X9_dye {Γ : fx_G} {m : fx_M} (hL : fx_Lay m) {na nd : Nat} {t : p_Sg} (H : fx_MS m na nd t) (x : Int32) (w : Int32) (v : Int32) : fx_Ct Γ mX9_dye 1 119 119 [fx_rf Γ 83, .int x, .int w, .int v] m (fun r m' => r = some (.int (q_dye t.1 na x w v).2) ∧ ((q_dye t.1 na x w v).1 ≠ 0 → m' = fx_mno m (q_dye t.1 na x w v).1) ∧ ((q_dye t.1 na x w v).1 = 0 → fx_MS m' na nd (p_ua t.1 (p_ix x) (p_u (t.1 (p_ix x)) (p_dyI w) v), t.2.1, t.2.2) ∧ fx_KF m m')) := by
  refine fx_Ct.of (j := 1) (by decide) (Nat.le_of_ble_eq_true rfl) (Nat.le_of_ble_eq_true rfl) ?_
  show fx_E Γ mX9_dye 1 119 119 _ 119 m 0 [some (fx_rf Γ 83), some (.int x), some (.int w), some (.int v), none] []
  have h9 := H.2.2.2.2.2.1
  have h5 := H.2.2.2.2.2.2.1
  refine e_aload_n dX9_dye_0 rfl ?_
  refine e_iload_n dX9_dye_1 rfl ?_
  refine e_callV1 (μ' := mX9_isArm) (ci := 9) (As := [.int x]) dX9_dye_2 wl_X9_140 ok_X9_isArm rfl rfl (fx_pi_lt (by decide)) (by decide) (Nat.le_of_ble_eq_true rfl) fx_n1 (s_X9_isArm (m := m) hL H x) rfl ?_
  refine e_if_neB 14 dX9_dye_5 rfl (fun c_1 => ?_) (fun c_1 => ?_)
  · refine e_iload_n dX9_dye_14 rfl ?_
    refine e_if_lt 31 dX9_dye_15 rfl (fun a_1 => ?_) (fun a_1 => ?_)
    · have c_i : ¬ p_in w 0 1 := by rintro ⟨h1, h2⟩; first | exact absurd h1 (Int32.not_le.mpr a_1) | exact absurd h2 (Int32.not_le.mpr a_2)
      refine e_aload_n dX9_dye_31 rfl ?_
      refine e_bipush dX9_dye_32 kcb_m6 ?_
      refine e_callV1 (μ' := mX9_no) (ci := 9) (As := [.int (-6)]) dX9_dye_34 wl_X9_136 ok_X9_no rfl rfl (fx_pi_lt (by decide)) (by decide) (Nat.le_of_ble_eq_true rfl) fx_n1 (s_X9_no (m := m) hL (b := 6) (z := (-6)) (by decide) (by decide)) rfl ?_
      have hq : q_dye t.1 na x w v = (6, (-6)) := by first | (unfold q_dye ; (try dsimp only); (try (first | rw [if_pos c_1] | rw [if_neg c_1] | rw [if_neg (Decidable.not_not.mpr c_1)])); (try (first | rw [if_pos a_1] | rw [if_neg a_1] | rw [if_neg (Decidable.not_not.mpr a_1)])); (try (first | rw [if_pos c_i] | rw [if_neg c_i] | rw [if_neg (Decidable.not_not.mpr c_i)])); (first | done | rfl | decide)) | (exfalso; first | contradiction | (simp_all; done))
      exact e_iret dX9_dye_37 rfl rfl rfl ⟨by rw [hq], fun _ => by rw [hq]; exact (fx_mno_n (by decide)).symm, fun h => by rw [hq] at h; cases h⟩
    · refine e_iload_n dX9_dye_18 rfl ?_
      refine e_iconst dX9_dye_19 kci_1 ?_
      refine e_icmp_gt 31 dX9_dye_20 rfl (fun a_2 => ?_) (fun a_2 => ?_)
      · have c_i : ¬ p_in w 0 1 := by rintro ⟨h1, h2⟩; first | exact absurd h1 (Int32.not_le.mpr a_1) | exact absurd h2 (Int32.not_le.mpr a_2)
        refine e_aload_n dX9_dye_31 rfl ?_
        refine e_bipush dX9_dye_32 kcb_m6 ?_
        refine e_callV1 (μ' := mX9_no) (ci := 9) (As := [.int (-6)]) dX9_dye_34 wl_X9_136 ok_X9_no rfl rfl (fx_pi_lt (by decide)) (by decide) (Nat.le_of_ble_eq_true rfl) fx_n1 (s_X9_no (m := m) hL (b := 6) (z := (-6)) (by decide) (by decide)) rfl ?_
        have hq : q_dye t.1 na x w v = (6, (-6)) := by first | (unfold q_dye ; (try dsimp only); (try (first | rw [if_pos c_1] | rw [if_neg c_1] | rw [if_neg (Decidable.not_not.mpr c_1)])); (try (first | rw [if_pos a_1] | rw [if_neg a_1] | rw [if_neg (Decidable.not_not.mpr a_1)])); (try (first | rw [if_pos a_2] | rw [if_neg a_2] | rw [if_neg (Decidable.not_not.mpr a_2)])); (try (first | rw [if_pos c_i] | rw [if_neg c_i] | rw [if_neg (Decidable.not_not.mpr c_i)])); (first | done | rfl | decide)) | (exfalso; first | contradiction | (simp_all; done))
        exact e_iret dX9_dye_37 rfl rfl rfl ⟨by rw [hq], fun _ => by rw [hq]; exact (fx_mno_n (by decide)).symm, fun h => by rw [hq] at h; cases h⟩
      · have c_i : p_in w 0 1 := ⟨Int32.not_lt.mp a_1, Int32.not_lt.mp a_2⟩
        refine e_aload_n dX9_dye_23 rfl ?_
        refine e_iload_n dX9_dye_24 rfl ?_
        refine e_callV1 (μ' := mX9_isNine) (ci := 9) (As := [.int v]) dX9_dye_25 wl_X9_169 ok_X9_isNine rfl rfl (fx_pi_lt (by decide)) (by decide) (Nat.le_of_ble_eq_true rfl) fx_n1 (s_X9_isNine (m := m) hL v) rfl ?_
        refine e_if_neB 38 dX9_dye_28 rfl (fun c_f => ?_) (fun c_f => ?_)
        · obtain ⟨y, hy, ey⟩ := p_el_ex c_1 (by omega)
          subst ey
          refine e_iload_n dX9_dye_38 rfl ?_
          refine e_if_ne 51 dX9_dye_39 rfl (fun c_w => ?_) (fun c_w => ?_)
          · refine e_aload_n dX9_dye_51 rfl ?_
            refine e_getr (o2 := 90) dX9_dye_52 ff_X9_35 rfl (fx_pi_lt (by decide)) (by decide) rfl (hL _ _ _ rfl) ?_
            refine e_iload_n dX9_dye_55 rfl ?_
            refine e_ialdv (j := y) (v := t.1 y 5) dX9_dye_56 rfl (fx_pi_lt (by decide)) rfl (by omega) (by decide) (H.2.2.2.1 _ (by omega) 5 (by decide)) ?_
            refine e_istore dX9_dye_57 (by decide) rfl ?_
            refine e_iload_n dX9_dye_59 rfl ?_
            refine e_if_ne 73 dX9_dye_60 rfl (fun c_w2 => ?_) (fun c_w2 => ?_)
            · refine e_aload_n dX9_dye_73 rfl ?_
              refine e_getr (o2 := 90) dX9_dye_74 ff_X9_35 rfl (fx_pi_lt (by decide)) (by decide) rfl (hL _ _ _ rfl) ?_
              refine e_iload_n dX9_dye_77 rfl ?_
              refine e_iload_n dX9_dye_78 rfl ?_
              refine e_iast (j := y) dX9_dye_79 rfl (fx_pi_lt (by decide)) rfl (by omega) (by decide) ?_
              refine e_iload dX9_dye_80 rfl ?_
              have hq : q_dye t.1 na (nI y) w v = (0, t.1 y 5) := by first | (unfold q_dye ; (try dsimp only); (try dsimp only); (try simp only [p_ix_n (show y < 2 ^ 31 by omega)]); (try (first | rw [if_pos c_1] | rw [if_neg c_1] | rw [if_neg (Decidable.not_not.mpr c_1)])); (try (first | rw [if_pos a_1] | rw [if_neg a_1] | rw [if_neg (Decidable.not_not.mpr a_1)])); (try (first | rw [if_pos a_2] | rw [if_neg a_2] | rw [if_neg (Decidable.not_not.mpr a_2)])); (try (first | rw [if_pos c_i] | rw [if_neg c_i] | rw [if_neg (Decidable.not_not.mpr c_i)])); (try (first | rw [if_pos c_f] | rw [if_neg c_f] | rw [if_neg (Decidable.not_not.mpr c_f)])); (try (first | rw [if_pos c_w] | rw [if_neg c_w] | rw [if_neg (Decidable.not_not.mpr c_w)])); (try (first | rw [if_pos c_w2] | rw [if_neg c_w2] | rw [if_neg (Decidable.not_not.mpr c_w2)])); (first | done | rfl | decide)) | (exfalso; first | contradiction | (simp_all; done))
              have hgA := H.2.2.2.2.2.2.2.1 y hy
              exact e_iret dX9_dye_82 rfl rfl rfl ⟨by rw [hq], fun h => absurd (congrArg Prod.fst hq) h, fun _ => by rw [p_ix_n (show y < 2 ^ 31 by omega)]; first | contradiction | (rw [show p_dyI w = 4 from if_pos c_w]; exact ⟨H.sA (j := 4) hy (by decide) (hgA.mono (Or.inl rfl) c_f), (fx_KF.refl m).sI (by omega)⟩) | (rw [show p_dyI w = 5 from if_neg c_w]; exact ⟨H.sA (j := 5) hy (by decide) (hgA.mono (Or.inr rfl) c_f), (fx_KF.refl m).sI (by omega)⟩)⟩
            · refine e_aload_n dX9_dye_63 rfl ?_
              refine e_getr (o2 := 89) dX9_dye_64 ff_X9_32 rfl (fx_pi_lt (by decide)) (by decide) rfl (hL _ _ _ rfl) ?_
              refine e_iload_n dX9_dye_67 rfl ?_
              refine e_iload_n dX9_dye_68 rfl ?_
              refine e_iast (j := y) dX9_dye_69 rfl (fx_pi_lt (by decide)) rfl (by omega) (by decide) ?_
              refine e_goto 80 dX9_dye_70 rfl ?_
              refine e_iload dX9_dye_80 rfl ?_
              have hq : q_dye t.1 na (nI y) w v = (0, t.1 y 5) := by first | (unfold q_dye ; (try dsimp only); (try dsimp only); (try simp only [p_ix_n (show y < 2 ^ 31 by omega)]); (try (first | rw [if_pos c_1] | rw [if_neg c_1] | rw [if_neg (Decidable.not_not.mpr c_1)])); (try (first | rw [if_pos a_1] | rw [if_neg a_1] | rw [if_neg (Decidable.not_not.mpr a_1)])); (try (first | rw [if_pos a_2] | rw [if_neg a_2] | rw [if_neg (Decidable.not_not.mpr a_2)])); (try (first | rw [if_pos c_i] | rw [if_neg c_i] | rw [if_neg (Decidable.not_not.mpr c_i)])); (try (first | rw [if_pos c_f] | rw [if_neg c_f] | rw [if_neg (Decidable.not_not.mpr c_f)])); (try (first | rw [if_pos c_w] | rw [if_neg c_w] | rw [if_neg (Decidable.not_not.mpr c_w)])); (try (first | rw [if_pos c_w2] | rw [if_neg c_w2] | rw [if_neg (Decidable.not_not.mpr c_w2)])); (first | done | rfl | decide)) | (exfalso; first | contradiction | (simp_all; done))
              have hgA := H.2.2.2.2.2.2.2.1 y hy
              exact e_iret dX9_dye_82 rfl rfl rfl ⟨by rw [hq], fun h => absurd (congrArg Prod.fst hq) h, fun _ => by rw [p_ix_n (show y < 2 ^ 31 by omega)]; first | contradiction | (rw [show p_dyI w = 4 from if_pos c_w]; exact ⟨H.sA (j := 4) hy (by decide) (hgA.mono (Or.inl rfl) c_f), (fx_KF.refl m).sI (by omega)⟩) | (rw [show p_dyI w = 5 from if_neg c_w]; exact ⟨H.sA (j := 5) hy (by decide) (hgA.mono (Or.inr rfl) c_f), (fx_KF.refl m).sI (by omega)⟩)⟩
          · refine e_aload_n dX9_dye_42 rfl ?_
            refine e_getr (o2 := 89) dX9_dye_43 ff_X9_32 rfl (fx_pi_lt (by decide)) (by decide) rfl (hL _ _ _ rfl) ?_
            refine e_iload_n dX9_dye_46 rfl ?_
            refine e_ialdv (j := y) (v := t.1 y 4) dX9_dye_47 rfl (fx_pi_lt (by decide)) rfl (by omega) (by decide) (H.2.2.2.1 _ (by omega) 4 (by decide)) ?_
            refine e_goto 57 dX9_dye_48 rfl ?_
            refine e_istore dX9_dye_57 (by decide) rfl ?_
            refine e_iload_n dX9_dye_59 rfl ?_
            refine e_if_ne 73 dX9_dye_60 rfl (fun c_w2 => ?_) (fun c_w2 => ?_)
            · refine e_aload_n dX9_dye_73 rfl ?_
              refine e_getr (o2 := 90) dX9_dye_74 ff_X9_35 rfl (fx_pi_lt (by decide)) (by decide) rfl (hL _ _ _ rfl) ?_
              refine e_iload_n dX9_dye_77 rfl ?_
              refine e_iload_n dX9_dye_78 rfl ?_
              refine e_iast (j := y) dX9_dye_79 rfl (fx_pi_lt (by decide)) rfl (by omega) (by decide) ?_
              refine e_iload dX9_dye_80 rfl ?_
              have hq : q_dye t.1 na (nI y) w v = (0, t.1 y 4) := by first | (unfold q_dye ; (try dsimp only); (try dsimp only); (try simp only [p_ix_n (show y < 2 ^ 31 by omega)]); (try (first | rw [if_pos c_1] | rw [if_neg c_1] | rw [if_neg (Decidable.not_not.mpr c_1)])); (try (first | rw [if_pos a_1] | rw [if_neg a_1] | rw [if_neg (Decidable.not_not.mpr a_1)])); (try (first | rw [if_pos a_2] | rw [if_neg a_2] | rw [if_neg (Decidable.not_not.mpr a_2)])); (try (first | rw [if_pos c_i] | rw [if_neg c_i] | rw [if_neg (Decidable.not_not.mpr c_i)])); (try (first | rw [if_pos c_f] | rw [if_neg c_f] | rw [if_neg (Decidable.not_not.mpr c_f)])); (try (first | rw [if_pos c_w] | rw [if_neg c_w] | rw [if_neg (Decidable.not_not.mpr c_w)])); (try (first | rw [if_pos c_w2] | rw [if_neg c_w2] | rw [if_neg (Decidable.not_not.mpr c_w2)])); (first | done | rfl | decide)) | (exfalso; first | contradiction | (simp_all; done))
              have hgA := H.2.2.2.2.2.2.2.1 y hy
              exact e_iret dX9_dye_82 rfl rfl rfl ⟨by rw [hq], fun h => absurd (congrArg Prod.fst hq) h, fun _ => by rw [p_ix_n (show y < 2 ^ 31 by omega)]; first | contradiction | (rw [show p_dyI w = 4 from if_pos c_w]; exact ⟨H.sA (j := 4) hy (by decide) (hgA.mono (Or.inl rfl) c_f), (fx_KF.refl m).sI (by omega)⟩) | (rw [show p_dyI w = 5 from if_neg c_w]; exact ⟨H.sA (j := 5) hy (by decide) (hgA.mono (Or.inr rfl) c_f), (fx_KF.refl m).sI (by omega)⟩)⟩
            · refine e_aload_n dX9_dye_63 rfl ?_
              refine e_getr (o2 := 89) dX9_dye_64 ff_X9_32 rfl (fx_pi_lt (by decide)) (by decide) rfl (hL _ _ _ rfl) ?_
              refine e_iload_n dX9_dye_67 rfl ?_
              refine e_iload_n dX9_dye_68 rfl ?_
              refine e_iast (j := y) dX9_dye_69 rfl (fx_pi_lt (by decide)) rfl (by omega) (by decide) ?_
              refine e_goto 80 dX9_dye_70 rfl ?_
              refine e_iload dX9_dye_80 rfl ?_
              have hq : q_dye t.1 na (nI y) w v = (0, t.1 y 4) := by first | (unfold q_dye ; (try dsimp only); (try dsimp only); (try simp only [p_ix_n (show y < 2 ^ 31 by omega)]); (try (first | rw [if_pos c_1] | rw [if_neg c_1] | rw [if_neg (Decidable.not_not.mpr c_1)])); (try (first | rw [if_pos a_1] | rw [if_neg a_1] | rw [if_neg (Decidable.not_not.mpr a_1)])); (try (first | rw [if_pos a_2] | rw [if_neg a_2] | rw [if_neg (Decidable.not_not.mpr a_2)])); (try (first | rw [if_pos c_i] | rw [if_neg c_i] | rw [if_neg (Decidable.not_not.mpr c_i)])); (try (first | rw [if_pos c_f] | rw [if_neg c_f] | rw [if_neg (Decidable.not_not.mpr c_f)])); (try (first | rw [if_pos c_w] | rw [if_neg c_w] | rw [if_neg (Decidable.not_not.mpr c_w)])); (try (first | rw [if_pos c_w2] | rw [if_neg c_w2] | rw [if_neg (Decidable.not_not.mpr c_w2)])); (first | done | rfl | decide)) | (exfalso; first | contradiction | (simp_all; done))
              have hgA := H.2.2.2.2.2.2.2.1 y hy
              exact e_iret dX9_dye_82 rfl rfl rfl ⟨by rw [hq], fun h => absurd (congrArg Prod.fst hq) h, fun _ => by rw [p_ix_n (show y < 2 ^ 31 by omega)]; first | contradiction | (rw [show p_dyI w = 4 from if_pos c_w]; exact ⟨H.sA (j := 4) hy (by decide) (hgA.mono (Or.inl rfl) c_f), (fx_KF.refl m).sI (by omega)⟩) | (rw [show p_dyI w = 5 from if_neg c_w]; exact ⟨H.sA (j := 5) hy (by decide) (hgA.mono (Or.inr rfl) c_f), (fx_KF.refl m).sI (by omega)⟩)⟩
        · refine e_aload_n dX9_dye_31 rfl ?_
          refine e_bipush dX9_dye_32 kcb_m6 ?_
          refine e_callV1 (μ' := mX9_no) (ci := 9) (As := [.int (-6)]) dX9_dye_34 wl_X9_136 ok_X9_no rfl rfl (fx_pi_lt (by decide)) (by decide) (Nat.le_of_ble_eq_true rfl) fx_n1 (s_X9_no (m := m) hL (b := 6) (z := (-6)) (by decide) (by decide)) rfl ?_
          have hq : q_dye t.1 na x w v = (6, (-6)) := by first | (unfold q_dye ; (try dsimp only); (try (first | rw [if_pos c_1] | rw [if_neg c_1] | rw [if_neg (Decidable.not_not.mpr c_1)])); (try (first | rw [if_pos a_1] | rw [if_neg a_1] | rw [if_neg (Decidable.not_not.mpr a_1)])); (try (first | rw [if_pos a_2] | rw [if_neg a_2] | rw [if_neg (Decidable.not_not.mpr a_2)])); (try (first | rw [if_pos c_i] | rw [if_neg c_i] | rw [if_neg (Decidable.not_not.mpr c_i)])); (try (first | rw [if_pos c_f] | rw [if_neg c_f] | rw [if_neg (Decidable.not_not.mpr c_f)])); (first | done | rfl | decide)) | (exfalso; first | contradiction | (simp_all; done))
          exact e_iret dX9_dye_37 rfl rfl rfl ⟨by rw [hq], fun _ => by rw [hq]; exact (fx_mno_n (by decide)).symm, fun h => by rw [hq] at h; cases h⟩
  · refine e_aload_n dX9_dye_8 rfl ?_
    refine e_iconst dX9_dye_9 kci_m1 ?_
    refine e_callV1 (μ' := mX9_no) (ci := 9) (As := [.int (-1)]) dX9_dye_10 wl_X9_136 ok_X9_no rfl rfl (fx_pi_lt (by decide)) (by decide) (Nat.le_of_ble_eq_true rfl) fx_n1 (s_X9_no (m := m) hL (b := 1) (z := (-1)) (by decide) (by decide)) rfl ?_
    have hq : q_dye t.1 na x w v = (1, (-1)) := by first | (unfold q_dye ; (try dsimp only); (try (first | rw [if_pos c_1] | rw [if_neg c_1] | rw [if_neg (Decidable.not_not.mpr c_1)])); (first | done | rfl | decide)) | (exfalso; first | contradiction | (simp_all; done))
    exact e_iret dX9_dye_13 rfl rfl rfl ⟨by rw [hq], fun _ => by rw [hq]; exact (fx_mno_n (by decide)).symm, fun h => by rw [hq] at h; cases h⟩
