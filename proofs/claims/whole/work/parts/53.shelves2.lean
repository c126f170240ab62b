set_option maxRecDepth 100000 in
set_option maxHeartbeats 600000 in
theorem s_X9_says {Γ : fx_G} {m : fx_M} (hL : fx_Lay m) {na nd : Nat} {t : p_Sg} (H : fx_MS m na nd t) {u : p_Sh} (HS : fx_MSh m na u) (s w : Int32) : fx_Ct Γ mX9_says 2 119 119 [fx_rf Γ 83, .int s, .int w] m (fx_is (some (.int (q_says t.1 na u.1 u.2.1 s w).2)) (fx_mno m (q_says t.1 na u.1 u.2.1 s w).1)) := by
  refine fx_Ct.of (j := 1) (by decide) (Nat.le_of_ble_eq_true rfl) (Nat.le_of_ble_eq_true rfl) ?_
  show fx_E Γ mX9_says 2 119 119 _ 119 m 0 [some (fx_rf Γ 83), some (.int s), some (.int w), none] []
  have h9 := H.2.2.2.2.2.1
  have h5 := H.2.2.2.2.2.2.1
  refine e_aload_n dX9_says_0 rfl ?_
  refine e_iload_n dX9_says_1 rfl ?_
  refine e_callV1 (μ' := mX9_isShelf) (ci := 9) (As := [.int s]) dX9_says_2 wl_X9_132 ok_X9_isShelf rfl rfl (fx_pi_lt (by decide)) (by decide) (Nat.le_of_ble_eq_true rfl) fx_n1 (s_X9_isShelf (m := m) hL s) rfl ?_
  refine e_if_eqB 18 dX9_says_5 rfl (fun c_s => ?_) (fun c_s => ?_)
  · refine e_aload_n dX9_says_18 rfl ?_
    refine e_iconst dX9_says_19 kci_m1 ?_
    refine e_callV1 (μ' := mX9_no) (ci := 9) (As := [.int (-1)]) dX9_says_20 wl_X9_136 ok_X9_no rfl rfl (fx_pi_lt (by decide)) (by decide) (Nat.le_of_ble_eq_true rfl) fx_n1 (s_X9_no (m := m) hL (b := 1) (z := (-1)) (by decide) (by decide)) rfl ?_
    have hq : q_says t.1 na u.1 u.2.1 s w = (1, -1) := by unfold q_says; first | exact if_pos c_s | (rw [if_neg (Decidable.not_not.mpr c_s)]; exact if_pos (by rintro ⟨h1, h2⟩; first | exact absurd h1 (Int32.not_le.mpr a_1) | exact a_2 h2 | exact absurd h2 (Int32.not_le.mpr a_2)))
    exact e_iret dX9_says_23 rfl rfl rfl ⟨by rw [hq], by rw [hq]; exact (fx_mno_n (by decide)).symm⟩
  · obtain ⟨k, hk, ek⟩ := p_in_ex7 c_s
    subst ek
    refine e_iload_n dX9_says_8 rfl ?_
    refine e_if_lt 18 dX9_says_9 rfl (fun a_1 => ?_) (fun a_1 => ?_)
    · refine e_aload_n dX9_says_18 rfl ?_
      refine e_iconst dX9_says_19 kci_m1 ?_
      refine e_callV1 (μ' := mX9_no) (ci := 9) (As := [.int (-1)]) dX9_says_20 wl_X9_136 ok_X9_no rfl rfl (fx_pi_lt (by decide)) (by decide) (Nat.le_of_ble_eq_true rfl) fx_n1 (s_X9_no (m := m) hL (b := 1) (z := (-1)) (by decide) (by decide)) rfl ?_
      have hq : q_says t.1 na u.1 u.2.1 (nI k) w = (1, -1) := by unfold q_says; first | exact if_pos c_s | (rw [if_neg (Decidable.not_not.mpr c_s)]; exact if_pos (by rintro ⟨h1, h2⟩; first | exact absurd h1 (Int32.not_le.mpr a_1) | exact a_2 h2 | exact absurd h2 (Int32.not_le.mpr a_2)))
      exact e_iret dX9_says_23 rfl rfl rfl ⟨by rw [hq], by rw [hq]; exact (fx_mno_n (by decide)).symm⟩
    · refine e_iload_n dX9_says_12 rfl ?_
      refine e_bipush dX9_says_13 kcb_6 ?_
      refine e_icmp_le 24 dX9_says_15 rfl (fun a_2 => ?_) (fun a_2 => ?_)
      · have c_w : p_in w 0 6 := ⟨Int32.not_lt.mp a_1, a_2⟩
        refine e_aload_n dX9_says_24 rfl ?_
        refine e_getr (o2 := 100) dX9_says_25 ff_X9_65 rfl (fx_pi_lt (by decide)) (by decide) rfl (hL _ _ _ rfl) ?_
        refine e_iload_n dX9_says_28 rfl ?_
        refine e_ialdv (j := k) (v := p_hld (u.1 k) (u.2.1 k)) dX9_says_29 rfl (fx_pi_lt (by decide)) rfl (by omega) (by decide) (HS _ (by omega)).1 ?_
        refine e_iconst dX9_says_30 kci_1 ?_
        refine e_icmp_ne 41 dX9_says_31 rfl (fun c_1 => ?_) (fun c_1 => ?_)
        · refine e_aload_n dX9_says_41 rfl ?_
          refine e_getr (o2 := 100) dX9_says_42 ff_X9_65 rfl (fx_pi_lt (by decide)) (by decide) rfl (hL _ _ _ rfl) ?_
          refine e_iload_n dX9_says_45 rfl ?_
          refine e_ialdv (j := k) (v := p_hld (u.1 k) (u.2.1 k)) dX9_says_46 rfl (fx_pi_lt (by decide)) rfl (by omega) (by decide) (HS _ (by omega)).1 ?_
          refine e_if_ne 57 dX9_says_47 rfl (fun c_0 => ?_) (fun c_0 => ?_)
          · have hso := Decidable.not_not.mp (mt p_hld1.mpr c_1)
            have hsa : u.2.1 k ≠ -1 := fun e => c_0 (p_hld0.mpr ⟨hso, e⟩)
            have hsx := (((HS k hk).2.2 hso).2 hsa)
            obtain ⟨y, hy, ey⟩ := p_el_ex hsx.1 (by omega)
            have hrd : m.1 103 k = nI y := hsx.2.trans ey
            have hpx : p_el (u.2.1 k) (nI na) := hsx.1
            refine e_aload_n dX9_says_57 rfl ?_
            refine e_getr (o2 := 103) dX9_says_58 ff_X9_74 rfl (fx_pi_lt (by decide)) (by decide) rfl (hL _ _ _ rfl) ?_
            refine e_iload_n dX9_says_61 rfl ?_
            refine e_iald (j := k) dX9_says_62 rfl (fx_pi_lt (by decide)) rfl (by omega) (by decide) ?_
            rw [hrd]
            refine e_istore_n dX9_says_63 (by decide) rfl ?_
            refine e_aload_n dX9_says_64 rfl ?_
            refine e_aload_n dX9_says_65 rfl ?_
            refine e_getr (o2 := 85) dX9_says_66 ff_X9_20 rfl (fx_pi_lt (by decide)) (by decide) rfl (hL _ _ _ rfl) ?_
            refine e_iload_n dX9_says_69 rfl ?_
            refine e_ialdv (j := y) (v := t.1 y 0) dX9_says_70 rfl (fx_pi_lt (by decide)) rfl (by omega) (by decide) (H.2.2.2.1 _ (by omega) 0 (by decide)) ?_
            refine e_iload_n dX9_says_71 rfl ?_
            refine e_callV1 (μ' := mX9_isUnder) (ci := 9) (As := [.int (t.1 y 0), .int w]) dX9_says_72 wl_X9_143 ok_X9_isUnder rfl rfl (fx_pi_lt (by decide)) (by decide) (Nat.le_of_ble_eq_true rfl) fx_n1 (s_X9_isUnder (m := m) hL (t.1 y 0) w) rfl ?_
            refine e_if_neB 85 dX9_says_75 rfl (fun c_u => ?_) (fun c_u => ?_)
            · refine e_iload_n dX9_says_85 rfl ?_
              by_cases c_1 : w = 0
              · refine e_tableIn (off := 38) 124 dX9_says_86 (by rw [c_1]; decide) (by rw [c_1]; decide) (by rw [c_1]; decide) rfl ?_
                refine e_aload_n dX9_says_124 rfl ?_
                refine e_getr (o2 := 88) dX9_says_125 ff_X9_29 rfl (fx_pi_lt (by decide)) (by decide) rfl (hL _ _ _ rfl) ?_
                refine e_iload_n dX9_says_128 rfl ?_
                refine e_ialdv (j := y) (v := t.1 y 3) dX9_says_129 rfl (fx_pi_lt (by decide)) rfl (by omega) (by decide) (H.2.2.2.1 _ (by omega) 3 (by decide)) ?_
                have hq : q_says t.1 na u.1 u.2.1 (nI k) w = (0, p_says (t.1 y) w) := by unfold q_says; rw [if_neg (Decidable.not_not.mpr c_s), if_neg (Decidable.not_not.mpr c_w), p_ix_n (show k < 2 ^ 31 by omega), if_neg (Decidable.not_not.mpr hso), if_neg (Decidable.not_not.mpr hpx), ey, p_ix_n (show y < 2 ^ 31 by omega), if_pos c_u]
                have hv : p_says (t.1 y) w = t.1 y 3 := by unfold p_says; (first | (subst c_u; rfl) | (simp [*]; done) | (simp_all; done))
                exact e_iret dX9_says_130 rfl rfl rfl ⟨by rw [hq, hv], by rw [hq]; rfl⟩
              by_cases c_2 : w = 1
              · refine e_tableIn (off := 58) 144 dX9_says_86 (by rw [c_2]; decide) (by rw [c_2]; decide) (by rw [c_2]; decide) rfl ?_
                refine e_aload_n dX9_says_144 rfl ?_
                refine e_iload_n dX9_says_145 rfl ?_
                refine e_callV1 (μ' := mX9_shadeSeen) (ci := 9) (As := [.int (nI y)]) dX9_says_146 wl_X9_150 ok_X9_shadeSeen rfl rfl (fx_pi_lt (by decide)) (by decide) (Nat.le_of_ble_eq_true rfl) fx_n1 (s_X9_shadeSeen (m := m) hL H (x := y) (by omega)) rfl ?_
                have hq : q_says t.1 na u.1 u.2.1 (nI k) w = (0, p_says (t.1 y) w) := by unfold q_says; rw [if_neg (Decidable.not_not.mpr c_s), if_neg (Decidable.not_not.mpr c_w), p_ix_n (show k < 2 ^ 31 by omega), if_neg (Decidable.not_not.mpr hso), if_neg (Decidable.not_not.mpr hpx), ey, p_ix_n (show y < 2 ^ 31 by omega), if_pos c_u]
                have hv : p_says (t.1 y) w = p_shade (t.1 y) (t.1 y 4) := by unfold p_says; (first | (subst c_2; rfl) | (simp [*]; done) | (simp_all; done))
                exact e_iret dX9_says_149 rfl rfl rfl ⟨by rw [hq, hv], by rw [hq]; rfl⟩
              by_cases c_3 : w = 2
              · refine e_tableIn (off := 45) 131 dX9_says_86 (by rw [c_3]; decide) (by rw [c_3]; decide) (by rw [c_3]; decide) rfl ?_
                refine e_aload_n dX9_says_131 rfl ?_
                refine e_iload_n dX9_says_132 rfl ?_
                refine e_callV1 (μ' := mX9_wearSeen) (ci := 9) (As := [.int (nI y)]) dX9_says_133 wl_X9_147 ok_X9_wearSeen rfl rfl (fx_pi_lt (by decide)) (by decide) (Nat.le_of_ble_eq_true rfl) fx_n1 (s_X9_wearSeen (m := m) hL H (x := y) (by omega)) rfl ?_
                have hq : q_says t.1 na u.1 u.2.1 (nI k) w = (0, p_says (t.1 y) w) := by unfold q_says; rw [if_neg (Decidable.not_not.mpr c_s), if_neg (Decidable.not_not.mpr c_w), p_ix_n (show k < 2 ^ 31 by omega), if_neg (Decidable.not_not.mpr hso), if_neg (Decidable.not_not.mpr hpx), ey, p_ix_n (show y < 2 ^ 31 by omega), if_pos c_u]
                have hv : p_says (t.1 y) w = p_wear (t.1 y) (t.1 y 5) := by unfold p_says; (first | (subst c_3; rfl) | (simp [*]; done) | (simp_all; done))
                exact e_iret dX9_says_136 rfl rfl rfl ⟨by rw [hq, hv], by rw [hq]; rfl⟩
              by_cases c_4 : w = 3
              · refine e_tableIn (off := 58) 144 dX9_says_86 (by rw [c_4]; decide) (by rw [c_4]; decide) (by rw [c_4]; decide) rfl ?_
                refine e_aload_n dX9_says_144 rfl ?_
                refine e_iload_n dX9_says_145 rfl ?_
                refine e_callV1 (μ' := mX9_shadeSeen) (ci := 9) (As := [.int (nI y)]) dX9_says_146 wl_X9_150 ok_X9_shadeSeen rfl rfl (fx_pi_lt (by decide)) (by decide) (Nat.le_of_ble_eq_true rfl) fx_n1 (s_X9_shadeSeen (m := m) hL H (x := y) (by omega)) rfl ?_
                have hq : q_says t.1 na u.1 u.2.1 (nI k) w = (0, p_says (t.1 y) w) := by unfold q_says; rw [if_neg (Decidable.not_not.mpr c_s), if_neg (Decidable.not_not.mpr c_w), p_ix_n (show k < 2 ^ 31 by omega), if_neg (Decidable.not_not.mpr hso), if_neg (Decidable.not_not.mpr hpx), ey, p_ix_n (show y < 2 ^ 31 by omega), if_pos c_u]
                have hv : p_says (t.1 y) w = p_shade (t.1 y) (t.1 y 4) := by unfold p_says; (first | (subst c_4; rfl) | (simp [*]; done) | (simp_all; done))
                exact e_iret dX9_says_149 rfl rfl rfl ⟨by rw [hq, hv], by rw [hq]; rfl⟩
              by_cases c_5 : w = 4
              · refine e_tableIn (off := 51) 137 dX9_says_86 (by rw [c_5]; decide) (by rw [c_5]; decide) (by rw [c_5]; decide) rfl ?_
                refine e_aload_n dX9_says_137 rfl ?_
                refine e_getr (o2 := 87) dX9_says_138 ff_X9_26 rfl (fx_pi_lt (by decide)) (by decide) rfl (hL _ _ _ rfl) ?_
                refine e_iload_n dX9_says_141 rfl ?_
                refine e_ialdv (j := y) (v := t.1 y 2) dX9_says_142 rfl (fx_pi_lt (by decide)) rfl (by omega) (by decide) (H.2.2.2.1 _ (by omega) 2 (by decide)) ?_
                have hq : q_says t.1 na u.1 u.2.1 (nI k) w = (0, p_says (t.1 y) w) := by unfold q_says; rw [if_neg (Decidable.not_not.mpr c_s), if_neg (Decidable.not_not.mpr c_w), p_ix_n (show k < 2 ^ 31 by omega), if_neg (Decidable.not_not.mpr hso), if_neg (Decidable.not_not.mpr hpx), ey, p_ix_n (show y < 2 ^ 31 by omega), if_pos c_u]
                have hv : p_says (t.1 y) w = t.1 y 2 := by unfold p_says; (first | (subst c_5; rfl) | (simp [*]; done) | (simp_all; done))
                exact e_iret dX9_says_143 rfl rfl rfl ⟨by rw [hq, hv], by rw [hq]; rfl⟩
              by_cases c_6 : w = 5
              · refine e_tableIn (off := 45) 131 dX9_says_86 (by rw [c_6]; decide) (by rw [c_6]; decide) (by rw [c_6]; decide) rfl ?_
                refine e_aload_n dX9_says_131 rfl ?_
                refine e_iload_n dX9_says_132 rfl ?_
                refine e_callV1 (μ' := mX9_wearSeen) (ci := 9) (As := [.int (nI y)]) dX9_says_133 wl_X9_147 ok_X9_wearSeen rfl rfl (fx_pi_lt (by decide)) (by decide) (Nat.le_of_ble_eq_true rfl) fx_n1 (s_X9_wearSeen (m := m) hL H (x := y) (by omega)) rfl ?_
                have hq : q_says t.1 na u.1 u.2.1 (nI k) w = (0, p_says (t.1 y) w) := by unfold q_says; rw [if_neg (Decidable.not_not.mpr c_s), if_neg (Decidable.not_not.mpr c_w), p_ix_n (show k < 2 ^ 31 by omega), if_neg (Decidable.not_not.mpr hso), if_neg (Decidable.not_not.mpr hpx), ey, p_ix_n (show y < 2 ^ 31 by omega), if_pos c_u]
                have hv : p_says (t.1 y) w = p_wear (t.1 y) (t.1 y 5) := by unfold p_says; (first | (subst c_6; rfl) | (simp [*]; done) | (simp_all; done))
                exact e_iret dX9_says_136 rfl rfl rfl ⟨by rw [hq, hv], by rw [hq]; rfl⟩
              have tc_1 := lv_neT c_1 (show (0 : Int32).toInt = 0 by decide)
              have tc_2 := lv_neT c_2 (show (1 : Int32).toInt = 1 by decide)
              have tc_3 := lv_neT c_3 (show (2 : Int32).toInt = 2 by decide)
              have tc_4 := lv_neT c_4 (show (3 : Int32).toInt = 3 by decide)
              have tc_5 := lv_neT c_5 (show (4 : Int32).toInt = 4 by decide)
              have tc_6 := lv_neT c_6 (show (5 : Int32).toInt = 5 by decide)
              refine e_tableOut 144 dX9_says_86 (by omega) rfl ?_
              refine e_aload_n dX9_says_144 rfl ?_
              refine e_iload_n dX9_says_145 rfl ?_
              refine e_callV1 (μ' := mX9_shadeSeen) (ci := 9) (As := [.int (nI y)]) dX9_says_146 wl_X9_150 ok_X9_shadeSeen rfl rfl (fx_pi_lt (by decide)) (by decide) (Nat.le_of_ble_eq_true rfl) fx_n1 (s_X9_shadeSeen (m := m) hL H (x := y) (by omega)) rfl ?_
              have hq : q_says t.1 na u.1 u.2.1 (nI k) w = (0, p_says (t.1 y) w) := by unfold q_says; rw [if_neg (Decidable.not_not.mpr c_s), if_neg (Decidable.not_not.mpr c_w), p_ix_n (show k < 2 ^ 31 by omega), if_neg (Decidable.not_not.mpr hso), if_neg (Decidable.not_not.mpr hpx), ey, p_ix_n (show y < 2 ^ 31 by omega), if_pos c_u]
              have hv : p_says (t.1 y) w = p_shade (t.1 y) (t.1 y 4) := by unfold p_says; (first | (subst c_6; rfl) | (simp [*]; done) | (simp_all; done))
              exact e_iret dX9_says_149 rfl rfl rfl ⟨by rw [hq, hv], by rw [hq]; rfl⟩
            · refine e_aload_n dX9_says_78 rfl ?_
              refine e_bipush dX9_says_79 kcb_m2 ?_
              refine e_callV1 (μ' := mX9_no) (ci := 9) (As := [.int (-2)]) dX9_says_81 wl_X9_136 ok_X9_no rfl rfl (fx_pi_lt (by decide)) (by decide) (Nat.le_of_ble_eq_true rfl) fx_n1 (s_X9_no (m := m) hL (b := 2) (z := (-2)) (by decide) (by decide)) rfl ?_
              have hq : q_says t.1 na u.1 u.2.1 (nI k) w = (2, -2) := by unfold q_says; rw [if_neg (Decidable.not_not.mpr c_s), if_neg (Decidable.not_not.mpr c_w), p_ix_n (show k < 2 ^ 31 by omega), if_neg (Decidable.not_not.mpr hso), if_neg (Decidable.not_not.mpr hpx), ey, p_ix_n (show y < 2 ^ 31 by omega), if_neg c_u]; rfl
              exact e_iret dX9_says_84 rfl rfl rfl ⟨by rw [hq], by rw [hq]; exact (fx_mno_n (by decide)).symm⟩
          · refine e_aload_n dX9_says_50 rfl ?_
            refine e_bipush dX9_says_51 kcb_m3 ?_
            refine e_callV1 (μ' := mX9_no) (ci := 9) (As := [.int (-3)]) dX9_says_53 wl_X9_136 ok_X9_no rfl rfl (fx_pi_lt (by decide)) (by decide) (Nat.le_of_ble_eq_true rfl) fx_n1 (s_X9_no (m := m) hL (b := 3) (z := (-3)) (by decide) (by decide)) rfl ?_
            have hq : q_says t.1 na u.1 u.2.1 (nI k) w = (3, -3) := by unfold q_says; rw [if_neg (Decidable.not_not.mpr c_s), if_neg (Decidable.not_not.mpr c_w), p_ix_n (show k < 2 ^ 31 by omega), if_neg (Decidable.not_not.mpr (p_hld0.mp c_0).1), (p_hld0.mp c_0).2, if_pos (fun h => absurd h.1 (by decide))]; rfl
            exact e_iret dX9_says_56 rfl rfl rfl ⟨by rw [hq], by rw [hq]; exact (fx_mno_n (by decide)).symm⟩
        · refine e_aload_n dX9_says_34 rfl ?_
          refine e_bipush dX9_says_35 kcb_m2 ?_
          refine e_callV1 (μ' := mX9_no) (ci := 9) (As := [.int (-2)]) dX9_says_37 wl_X9_136 ok_X9_no rfl rfl (fx_pi_lt (by decide)) (by decide) (Nat.le_of_ble_eq_true rfl) fx_n1 (s_X9_no (m := m) hL (b := 2) (z := (-2)) (by decide) (by decide)) rfl ?_
          have hq : q_says t.1 na u.1 u.2.1 (nI k) w = (2, -2) := by unfold q_says; rw [if_neg (Decidable.not_not.mpr c_s), if_neg (Decidable.not_not.mpr c_w), p_ix_n (show k < 2 ^ 31 by omega), if_pos (p_hld1.mp c_1)]; rfl
          exact e_iret dX9_says_40 rfl rfl rfl ⟨by rw [hq], by rw [hq]; exact (fx_mno_n (by decide)).symm⟩
      · refine e_aload_n dX9_says_18 rfl ?_
        refine e_iconst dX9_says_19 kci_m1 ?_
        refine e_callV1 (μ' := mX9_no) (ci := 9) (As := [.int (-1)]) dX9_says_20 wl_X9_136 ok_X9_no rfl rfl (fx_pi_lt (by decide)) (by decide) (Nat.le_of_ble_eq_true rfl) fx_n1 (s_X9_no (m := m) hL (b := 1) (z := (-1)) (by decide) (by decide)) rfl ?_
        have hq : q_says t.1 na u.1 u.2.1 (nI k) w = (1, -1) := by unfold q_says; first | exact if_pos c_s | (rw [if_neg (Decidable.not_not.mpr c_s)]; exact if_pos (by rintro ⟨h1, h2⟩; first | exact absurd h1 (Int32.not_le.mpr a_1) | exact a_2 h2 | exact absurd h2 (Int32.not_le.mpr a_2)))
        exact e_iret dX9_says_23 rfl rfl rfl ⟨by rw [hq], by rw [hq]; exact (fx_mno_n (by decide)).symm⟩
def p_shS (u : p_Sh) (k : Nat) (x : Int32) : p_Sh := (p_u u.1 k (-1), p_u u.2.1 k x, (fun a => if a = k then 0 else u.2.2.1 a), u.2.2.2)
def p_shR (u : p_Sh) (k : Nat) (o : Int32) (n : Nat) : p_Sh := (p_u u.1 k o, p_u u.2.1 k (-1), (fun a => if a = k then n else u.2.2.1 a), fun a b => if a = k then 0 else u.2.2.2 a b)
def p_shE (u : p_Sh) (k y : Nat) (v : Int64) : p_Sh := (u.1, u.2.1, u.2.2.1, fun a b => if a = k ∧ b = y then v else u.2.2.2 a b)
theorem fx_MSh.show {m : fx_M} {na k : Nat} {u : p_Sh} {x : Int32} (H : fx_MSh m na u) (_ : k < 8) (hx : x ≠ -1 → p_el x (nI na)) : fx_MSh (fx_sI (fx_sI m 100 k (p_hld (-1) x)) 103 k x) na (p_shS u k x) := fun j hj => by
  by_cases c : j = k
  · subst c
    refine ⟨?_, fun h => absurd (show (p_shS u j x).1 j = -1 by simp [p_shS, p_u]) h, fun _ => ⟨by simp [p_shS], fun h => ?_⟩⟩
    · rw [fx_sI_n _ _ _ (by decide), fx_rd0]; simp [p_shS, p_u]
    · rw [fx_rd0]
      have e : (p_shS u j x).2.1 j = x := by simp [p_shS, p_u]
      rw [e] at h ⊢
      exact ⟨hx h, rfl⟩
  · refine (H j hj).cg (fun o a b => ?_) (fun i hi => rfl) (by simp [p_shS, p_u, c]) (by simp [p_shS, p_u, c]) (by simp [p_shS, c]) (by simp [p_shS])
    by_cases d : o = 103
    · subst d; rw [fx_rd2 (Ne.symm c), fx_sI_n _ _ _ (by decide)]
    · rw [fx_sI_n _ _ _ d]
      by_cases e : o = 100
      · subst e; rw [fx_rd2 (Ne.symm c)]
      · rw [fx_sI_n _ _ _ e]
set_option maxRecDepth 100000 in
set_option maxHeartbeats 600000 in
theorem s_X9_show {Γ : fx_G} {m : fx_M} (hL : fx_Lay m) {na nd : Nat} {t : p_Sg} (H : fx_MS m na nd t) {u : p_Sh} (HS : fx_MSh m na u) (s x : Int32) : fx_Ct Γ mX9_show 1 119 119 [fx_rf Γ 83, .int s, .int x] m (fun r m' => r = some (.int (q_show na s x).2) ∧ ((q_show na s x).1 ≠ 0 → m' = fx_mno m (q_show na s x).1) ∧ ((q_show na s x).1 = 0 → fx_MSh m' na (p_shS u (p_ix s) x) ∧ fx_KQ m m')) := by
  refine fx_Ct.of (j := 0) (by decide) (Nat.le_of_ble_eq_true rfl) (Nat.le_of_ble_eq_true rfl) ?_
  show fx_E Γ mX9_show 1 119 119 _ 119 m 0 [some (fx_rf Γ 83), some (.int s), some (.int x)] []
  have h9 := H.2.2.2.2.2.1
  have h5 := H.2.2.2.2.2.2.1
  refine e_aload_n dX9_show_0 rfl ?_
  refine e_iload_n dX9_show_1 rfl ?_
  refine e_callV1 (μ' := mX9_isShelf) (ci := 9) (As := [.int s]) dX9_show_2 wl_X9_132 ok_X9_isShelf rfl rfl (fx_pi_lt (by decide)) (by decide) (Nat.le_of_ble_eq_true rfl) fx_n1 (s_X9_isShelf (m := m) hL s) rfl ?_
  refine e_if_eqB 21 dX9_show_5 rfl (fun c_s => ?_) (fun c_s => ?_)
  · refine e_aload_n dX9_show_21 rfl ?_
    refine e_iconst dX9_show_22 kci_m1 ?_
    refine e_callV1 (μ' := mX9_no) (ci := 9) (As := [.int (-1)]) dX9_show_23 wl_X9_136 ok_X9_no rfl rfl (fx_pi_lt (by decide)) (by decide) (Nat.le_of_ble_eq_true rfl) fx_n1 (s_X9_no (m := m) hL (b := 1) (z := (-1)) (by decide) (by decide)) rfl ?_
    have hq : q_show na s x = (1, -1) := by unfold q_show; first | exact if_pos c_s | (rw [if_neg (Decidable.not_not.mpr c_s), if_neg c_x, if_pos c_a]; rfl)
    exact e_iret dX9_show_26 rfl rfl rfl ⟨by rw [hq], fun _ => by rw [hq]; exact (fx_mno_n (by decide)).symm, fun h => by rw [hq] at h; cases h⟩
  · obtain ⟨k, hk, ek⟩ := p_in_ex7 c_s
    subst ek
    refine e_iload_n dX9_show_8 rfl ?_
    refine e_iconst dX9_show_9 kci_m1 ?_
    refine e_icmp_eq 27 dX9_show_10 rfl (fun c_x => ?_) (fun c_x => ?_)
    · refine e_aload_n dX9_show_27 rfl ?_
      refine e_getr (o2 := 100) dX9_show_28 ff_X9_65 rfl (fx_pi_lt (by decide)) (by decide) rfl (hL _ _ _ rfl) ?_
      refine e_iload_n dX9_show_31 rfl ?_
      refine e_iload_n dX9_show_32 rfl ?_
      refine e_iconst dX9_show_33 kci_m1 ?_
      refine e_icmp_ne 41 dX9_show_34 rfl (fun h => absurd h (not_not_intro c_x)) (fun _ => ?_)
      refine e_iconst dX9_show_37 kci_0 ?_
      refine e_goto 42 dX9_show_38 rfl ?_
      refine e_iast (j := k) dX9_show_42 rfl (fx_pi_lt (by decide)) rfl (by omega) (by decide) ?_
      refine e_aload_n dX9_show_43 rfl ?_
      refine e_getr (o2 := 103) dX9_show_44 ff_X9_74 rfl (fx_pi_lt (by decide)) (by decide) rfl (hL _ _ _ rfl) ?_
      refine e_iload_n dX9_show_47 rfl ?_
      refine e_iload_n dX9_show_48 rfl ?_
      refine e_iast (j := k) dX9_show_49 rfl (fx_pi_lt (by decide)) rfl (by omega) (by decide) ?_
      refine e_iload_n dX9_show_50 rfl ?_
      refine e_iconst dX9_show_51 kci_m1 ?_
      refine e_icmp_ne 59 dX9_show_52 rfl (fun h => absurd h (not_not_intro c_x)) (fun _ => ?_)
      refine e_iconst dX9_show_55 kci_0 ?_
      refine e_goto 60 dX9_show_56 rfl ?_
      have hq : q_show na (nI k) x = (0, 0) := by unfold q_show; rw [if_neg (Decidable.not_not.mpr c_s)]; rw [if_pos c_x]
      exact e_iret dX9_show_60 rfl rfl rfl ⟨by rw [hq], fun h => absurd (congrArg Prod.fst hq) h, fun _ => by rw [p_ix_n (show k < 2 ^ 31 by omega)]; exact ⟨by have g := HS.show (x := x) hk (fun h => absurd c_x h); rw [show p_hld (-1) x = 0 from p_hld0.mpr ⟨rfl, c_x⟩] at g; exact g, ((fx_KQ.refl m).sI (by omega)).sI (by omega)⟩⟩
    · refine e_aload_n dX9_show_13 rfl ?_
      refine e_iload_n dX9_show_14 rfl ?_
      refine e_callV1 (μ' := mX9_isArm) (ci := 9) (As := [.int x]) dX9_show_15 wl_X9_140 ok_X9_isArm rfl rfl (fx_pi_lt (by decide)) (by decide) (Nat.le_of_ble_eq_true rfl) fx_n1 (s_X9_isArm (m := m) hL H x) rfl ?_
      refine e_if_neB 27 dX9_show_18 rfl (fun c_a => ?_) (fun c_a => ?_)
      · refine e_aload_n dX9_show_27 rfl ?_
        refine e_getr (o2 := 100) dX9_show_28 ff_X9_65 rfl (fx_pi_lt (by decide)) (by decide) rfl (hL _ _ _ rfl) ?_
        refine e_iload_n dX9_show_31 rfl ?_
        refine e_iload_n dX9_show_32 rfl ?_
        refine e_iconst dX9_show_33 kci_m1 ?_
        refine e_icmp_ne 41 dX9_show_34 rfl (fun _ => ?_) (fun h => absurd h c_x)
        refine e_iconst dX9_show_41 kci_2 ?_
        refine e_iast (j := k) dX9_show_42 rfl (fx_pi_lt (by decide)) rfl (by omega) (by decide) ?_
        refine e_aload_n dX9_show_43 rfl ?_
        refine e_getr (o2 := 103) dX9_show_44 ff_X9_74 rfl (fx_pi_lt (by decide)) (by decide) rfl (hL _ _ _ rfl) ?_
        refine e_iload_n dX9_show_47 rfl ?_
        refine e_iload_n dX9_show_48 rfl ?_
        refine e_iast (j := k) dX9_show_49 rfl (fx_pi_lt (by decide)) rfl (by omega) (by decide) ?_
        refine e_iload_n dX9_show_50 rfl ?_
        refine e_iconst dX9_show_51 kci_m1 ?_
        refine e_icmp_ne 59 dX9_show_52 rfl (fun _ => ?_) (fun h => absurd h c_x)
        refine e_iconst dX9_show_59 kci_1 ?_
        have hq : q_show na (nI k) x = (0, 1) := by unfold q_show; rw [if_neg (Decidable.not_not.mpr c_s)]; rw [if_neg c_x, if_neg (Decidable.not_not.mpr c_a)]
        exact e_iret dX9_show_60 rfl rfl rfl ⟨by rw [hq], fun h => absurd (congrArg Prod.fst hq) h, fun _ => by rw [p_ix_n (show k < 2 ^ 31 by omega)]; exact ⟨by have g := HS.show (x := x) hk (fun _ => c_a); rw [show p_hld (-1) x = 2 from p_hld2.mpr ⟨rfl, c_x⟩] at g; exact g, ((fx_KQ.refl m).sI (by omega)).sI (by omega)⟩⟩
      · refine e_aload_n dX9_show_21 rfl ?_
        refine e_iconst dX9_show_22 kci_m1 ?_
        refine e_callV1 (μ' := mX9_no) (ci := 9) (As := [.int (-1)]) dX9_show_23 wl_X9_136 ok_X9_no rfl rfl (fx_pi_lt (by decide)) (by decide) (Nat.le_of_ble_eq_true rfl) fx_n1 (s_X9_no (m := m) hL (b := 1) (z := (-1)) (by decide) (by decide)) rfl ?_
        have hq : q_show na (nI k) x = (1, -1) := by unfold q_show; first | exact if_pos c_s | (rw [if_neg (Decidable.not_not.mpr c_s), if_neg c_x, if_pos c_a]; rfl)
        exact e_iret dX9_show_26 rfl rfl rfl ⟨by rw [hq], fun _ => by rw [hq]; exact (fx_mno_n (by decide)).symm, fun h => by rw [hq] at h; cases h⟩
def fx_zC (m : fx_M) (k c : Nat) : fx_M := (m.1, fun a b => if a = 104 ∧ 160 * k ≤ b ∧ b < 160 * k + c then 0 else m.2.1 a b, m.2.2)
theorem fx_zC_0 (m : fx_M) (k : Nat) : fx_zC m k 0 = m := by
  refine Prod.ext rfl (Prod.ext (funext fun a => funext fun b => ?_) rfl)
  show (if a = 104 ∧ 160 * k ≤ b ∧ b < 160 * k + 0 then 0 else m.2.1 a b) = _
  rw [if_neg (by omega)]
theorem fx_zC_s (m : fx_M) (k c : Nat) : fx_sJ (fx_zC m k c) 104 (160 * k + c) 0 = fx_zC m k (c + 1) := by
  refine Prod.ext rfl (Prod.ext (funext fun a => funext fun b => ?_) rfl)
  show (if a = 104 then (if b = 160 * k + c then 0 else (if a = 104 ∧ 160 * k ≤ b ∧ b < 160 * k + c then 0 else m.2.1 a b)) else (if a = 104 ∧ 160 * k ≤ b ∧ b < 160 * k + c then 0 else m.2.1 a b)) = (if a = 104 ∧ 160 * k ≤ b ∧ b < 160 * k + (c + 1) then 0 else m.2.1 a b)
  by_cases h : a = 104
  · by_cases g : b = 160 * k + c
    · rw [if_pos h, if_pos g, if_pos ⟨h, by omega, by omega⟩]
    · rw [if_pos h, if_neg g]
      by_cases f : 160 * k ≤ b ∧ b < 160 * k + c
      · rw [if_pos ⟨h, f⟩, if_pos ⟨h, f.1, by omega⟩]
      · rw [if_neg (fun q => f q.2), if_neg (fun q => f ⟨q.2.1, by omega⟩)]
  · rw [if_neg h, if_neg (fun q => h q.1), if_neg (fun q => h q.1)]
def fx_mR (m : fx_M) (k : Nat) (o n : Int32) : fx_M := fx_sI (fx_sI (fx_sI m 100 k 1) 101 k o) 102 k n
theorem fx_MSh.row {m : fx_M} {na k n : Nat} {u : p_Sh} {o : Int32} (H : fx_MSh m na u) (hk : k < 8) (hn : n ≤ 160) (ho : p_in o 0 3) : fx_MSh (fx_zC (fx_mR m k o (nI n)) k 160) na (p_shR u k o n) ∧ fx_KQ m (fx_zC (fx_mR m k o (nI n)) k 160) := by
  have ho1 : o ≠ -1 := p_ne1 ho
  refine ⟨fun j hj => ?_, ?_⟩
  · by_cases c : j = k
    · subst c
      have e1 : (p_shR u j o n).1 j = o := by simp [p_shR, p_u]
      have e2 : (p_shR u j o n).2.1 j = -1 := by simp [p_shR, p_u]
      have e3 : (p_shR u j o n).2.2.1 j = n := by simp [p_shR]
      unfold fx_MSk
      rw [e1, e2, e3]
      refine ⟨?_, fun _ => ⟨rfl, ho, ?_, ?_, hn, fun i hi => ?_⟩, fun h => absurd h ho1⟩
      · rw [show p_hld o (-1) = 1 from p_hld1.mpr ho1]
        show (fx_mR m j o (nI n)).1 100 j = 1
        unfold fx_mR
        rw [fx_sI_n _ _ _ (by decide), fx_sI_n _ _ _ (by decide), fx_rd0]
      · show (fx_mR m j o (nI n)).1 101 j = o
        unfold fx_mR
        rw [fx_sI_n _ _ _ (by decide), fx_rd0]
      · show (fx_mR m j o (nI n)).1 102 j = nI n
        unfold fx_mR
        rw [fx_rd0]
      · show (if (104 : Nat) = 104 ∧ 160 * j ≤ 160 * j + i ∧ 160 * j + i < 160 * j + 160 then (0 : Int64) else _) = (if j = j then 0 else _)
        rw [if_pos ⟨rfl, by omega, by omega⟩, if_pos rfl]
    · refine (H j hj).cg (fun o2 a b => ?_) (fun i hi => ?_) (by simp [p_shR, p_u, c]) (by simp [p_shR, p_u, c]) (by simp [p_shR, c]) (by simp [p_shR, c])
      · show (fx_mR m k o (nI n)).1 o2 j = m.1 o2 j
        unfold fx_mR
        simp only [fx_sI]
        by_cases d : o2 = 100 <;> by_cases e : o2 = 101 <;> by_cases f : o2 = 102 <;> simp [c, d, e, f]
      · show (if (104 : Nat) = 104 ∧ 160 * k ≤ 160 * j + i ∧ 160 * j + i < 160 * k + 160 then (0 : Int64) else m.2.1 104 (160 * j + i)) = m.2.1 104 (160 * j + i)
        rw [if_neg (by omega)]
  · refine ⟨rfl, (((((fx_KQ.refl m).sI (o := 100) (k := k) (v := 1) (by omega)).sI (o := 101) (k := k) (v := o) (by omega)).sI (o := 102) (k := k) (v := nI n) (by omega)).2.1), fun a ha => funext fun b => ?_⟩
    show (if a = 104 ∧ _ then (0 : Int64) else m.2.1 a b) = m.2.1 a b
    rw [if_neg (fun q => ha (Or.inl q.1))]
set_option maxRecDepth 100000 in
set_option maxHeartbeats 600000 in
theorem s_X9_row {Γ : fx_G} {m : fx_M} (hL : fx_Lay m) {na : Nat} {u : p_Sh} (HS : fx_MSh m na u) (s o n : Int32) : fx_Ct Γ mX9_row 1 119 119 [fx_rf Γ 83, .int s, .int o, .int n] m (fun r m' => r = some (.int (q_row s o n).2) ∧ ((q_row s o n).1 ≠ 0 → m' = fx_mno m (q_row s o n).1) ∧ ((q_row s o n).1 = 0 → fx_MSh m' na (p_shR u (p_ix s) o (p_ix n)) ∧ fx_KQ m m')) := by
  refine fx_Ct.of (j := 1) (by decide) (Nat.le_of_ble_eq_true rfl) (Nat.le_of_ble_eq_true rfl) ?_
  show fx_E Γ mX9_row 1 119 119 _ 119 m 0 [some (fx_rf Γ 83), some (.int s), some (.int o), some (.int n), none] []
  refine e_aload_n dX9_row_0 rfl ?_
  refine e_iload_n dX9_row_1 rfl ?_
  refine e_callV1 (μ' := mX9_isShelf) (ci := 9) (As := [.int s]) dX9_row_2 wl_X9_132 ok_X9_isShelf rfl rfl (fx_pi_lt (by decide)) (by decide) (Nat.le_of_ble_eq_true rfl) fx_n1 (s_X9_isShelf (m := m) hL s) rfl ?_
  refine e_if_neB 14 dX9_row_5 rfl (fun c_s => ?_) (fun c_s => ?_)
  · obtain ⟨k, hk, ek⟩ := p_in_ex7 c_s
    subst ek
    refine e_iload_n dX9_row_14 rfl ?_
    refine e_if_ge 25 dX9_row_15 rfl (fun c_n => ?_) (fun c_n => ?_)
    · refine e_iload_n dX9_row_25 rfl ?_
      refine e_if_lt 34 dX9_row_26 rfl (fun a_1 => ?_) (fun a_1 => ?_)
      · have c_o : ¬ p_in o 0 3 := by rintro ⟨h1, h2⟩; first | exact absurd h1 (Int32.not_le.mpr a_1) | exact a_2 h2 | exact absurd h2 (Int32.not_le.mpr a_2)
        refine e_aload_n dX9_row_34 rfl ?_
        refine e_bipush dX9_row_35 kcb_m6 ?_
        refine e_callV1 (μ' := mX9_no) (ci := 9) (As := [.int (-6)]) dX9_row_37 wl_X9_136 ok_X9_no rfl rfl (fx_pi_lt (by decide)) (by decide) (Nat.le_of_ble_eq_true rfl) fx_n1 (s_X9_no (m := m) hL (b := 6) (z := (-6)) (by decide) (by decide)) rfl ?_
        have hq : q_row (nI k) o n = (6, -6) := by unfold q_row; rw [if_neg (Decidable.not_not.mpr c_s), if_neg (Decidable.not_not.mpr c_n), if_pos c_o]; rfl
        exact e_iret dX9_row_40 rfl rfl rfl ⟨by rw [hq], fun _ => by rw [hq]; exact (fx_mno_n (by decide)).symm, fun h => by rw [hq] at h; cases h⟩
      · refine e_iload_n dX9_row_29 rfl ?_
        refine e_iconst dX9_row_30 kci_3 ?_
        refine e_icmp_le 41 dX9_row_31 rfl (fun a_2 => ?_) (fun a_2 => ?_)
        · have c_o : p_in o 0 3 := ⟨Int32.not_lt.mp a_1, a_2⟩
          refine e_iload_n dX9_row_41 rfl ?_
          refine e_sipush dX9_row_42 kcs_160 ?_
          refine e_icmp_le 55 dX9_row_45 rfl (fun c_7 => ?_) (fun c_7 => ?_)
          · refine e_aload_n dX9_row_55 rfl ?_
            refine e_getr (o2 := 100) dX9_row_56 ff_X9_65 rfl (fx_pi_lt (by decide)) (by decide) rfl (hL _ _ _ rfl) ?_
            refine e_iload_n dX9_row_59 rfl ?_
            refine e_iconst dX9_row_60 kci_1 ?_
            refine e_iast (j := k) dX9_row_61 rfl (fx_pi_lt (by decide)) rfl (by omega) (by decide) ?_
            refine e_aload_n dX9_row_62 rfl ?_
            refine e_getr (o2 := 101) dX9_row_63 ff_X9_68 rfl (fx_pi_lt (by decide)) (by decide) rfl (hL _ _ _ rfl) ?_
            refine e_iload_n dX9_row_66 rfl ?_
            refine e_iload_n dX9_row_67 rfl ?_
            refine e_iast (j := k) dX9_row_68 rfl (fx_pi_lt (by decide)) rfl (by omega) (by decide) ?_
            refine e_aload_n dX9_row_69 rfl ?_
            refine e_getr (o2 := 102) dX9_row_70 ff_X9_71 rfl (fx_pi_lt (by decide)) (by decide) rfl (hL _ _ _ rfl) ?_
            refine e_iload_n dX9_row_73 rfl ?_
            refine e_iload_n dX9_row_74 rfl ?_
            refine e_iast (j := k) dX9_row_75 rfl (fx_pi_lt (by decide)) rfl (by omega) (by decide) ?_
            refine e_iconst dX9_row_76 kci_0 ?_
            refine e_istore dX9_row_77 (by decide) rfl ?_
            obtain ⟨w, hw, ew⟩ := p_in_ex (v := n) (hi := 160) ⟨c_n, c_7⟩ (by decide)
            subst ew
            have lp : ∀ (j : Nat) (c : Nat), c + j = 160 → fx_E Γ mX9_row 1 119 119 (fun r m' => r = some (.int (q_row (nI k) o (nI w)).2) ∧ ((q_row (nI k) o (nI w)).1 ≠ 0 → m' = fx_mno m (q_row (nI k) o (nI w)).1) ∧ ((q_row (nI k) o (nI w)).1 = 0 → fx_MSh m' na (p_shR u (p_ix (nI k)) o (p_ix (nI w))) ∧ fx_KQ m m')) 119 (fx_zC (fx_mR m k o (nI w)) k c) 79 [some (fx_rf Γ 83), some (.int (nI k)), some (.int o), some (.int (nI w)), some (.int (nI c))] [] := by
              intro j
              induction j with
              | zero =>
                intro c hc
                refine e_iload dX9_row_79 rfl ?_
                refine e_sipush dX9_row_81 kcs_160 ?_
                refine e_icmp_ge 107 dX9_row_84 rfl (fun _ => ?_) (fun h => absurd (nI_le (a := 160) (by omega) (by omega)) h)
                refine e_iconst dX9_row_107 kci_1 ?_
                have hg := HS.row (n := w) (o := o) hk hw c_o
                have hcc : c = 160 := by omega
                subst hcc
                have hq : q_row (nI k) o (nI w) = (0, 1) := by unfold q_row; rw [if_neg (Decidable.not_not.mpr c_s), if_neg (Decidable.not_not.mpr c_n), if_neg (Decidable.not_not.mpr c_o), if_neg (Decidable.not_not.mpr c_7)]
                exact e_iret dX9_row_108 rfl rfl rfl ⟨by rw [hq], fun h => absurd (congrArg Prod.fst hq) h, fun _ => by rw [p_ix_n (show k < 2 ^ 31 by omega), p_ix_n (show w < 2 ^ 31 by omega)]; exact hg⟩
              | succ j ih =>
                intro c hc
                refine e_iload dX9_row_79 rfl ?_
                refine e_sipush dX9_row_81 kcs_160 ?_
                refine e_icmp_ge 107 dX9_row_84 rfl (fun h => absurd h (nI_ge (b := 160) (by omega) (by decide))) (fun _ => ?_)
                refine e_aload_n dX9_row_87 rfl ?_
                refine e_getr (o2 := 104) dX9_row_88 ff_X9_77 rfl (fx_pi_lt (by decide)) (by decide) rfl (hL _ _ _ rfl) ?_
                refine e_sipush dX9_row_91 kcs_160 ?_
                refine e_iload_n dX9_row_94 rfl ?_
                refine e_imul dX9_row_95 ?_
                refine e_iload dX9_row_96 rfl ?_
                refine e_iadd dX9_row_98 ?_
                refine e_lconst (v := 0) dX9_row_99 rfl ?_
                refine e_last (j := 160 * k + c) dX9_row_100 rfl (fx_pi_lt (by decide)) (i_cell k c) (by omega) (by decide) ?_
                refine e_iinc (v := nI (c + 1)) dX9_row_101 rfl (fx_inc _) (by decide) rfl ?_
                refine e_goto 79 dX9_row_104 rfl ?_
                rw [fx_zC_s]
                exact ih (c + 1) (by omega)
            have e0 := lp 160 0 (by omega)
            rw [fx_zC_0] at e0
            exact e0
          · refine e_aload_n dX9_row_48 rfl ?_
            refine e_bipush dX9_row_49 kcb_m7 ?_
            refine e_callV1 (μ' := mX9_no) (ci := 9) (As := [.int (-7)]) dX9_row_51 wl_X9_136 ok_X9_no rfl rfl (fx_pi_lt (by decide)) (by decide) (Nat.le_of_ble_eq_true rfl) fx_n1 (s_X9_no (m := m) hL (b := 7) (z := (-7)) (by decide) (by decide)) rfl ?_
            have hq : q_row (nI k) o n = (7, -7) := by unfold q_row; rw [if_neg (Decidable.not_not.mpr c_s), if_neg (Decidable.not_not.mpr c_n), if_neg (Decidable.not_not.mpr c_o), if_pos c_7]; rfl
            exact e_iret dX9_row_54 rfl rfl rfl ⟨by rw [hq], fun _ => by rw [hq]; exact (fx_mno_n (by decide)).symm, fun h => by rw [hq] at h; cases h⟩
        · have c_o : ¬ p_in o 0 3 := by rintro ⟨h1, h2⟩; first | exact absurd h1 (Int32.not_le.mpr a_1) | exact a_2 h2 | exact absurd h2 (Int32.not_le.mpr a_2)
          refine e_aload_n dX9_row_34 rfl ?_
          refine e_bipush dX9_row_35 kcb_m6 ?_
          refine e_callV1 (μ' := mX9_no) (ci := 9) (As := [.int (-6)]) dX9_row_37 wl_X9_136 ok_X9_no rfl rfl (fx_pi_lt (by decide)) (by decide) (Nat.le_of_ble_eq_true rfl) fx_n1 (s_X9_no (m := m) hL (b := 6) (z := (-6)) (by decide) (by decide)) rfl ?_
          have hq : q_row (nI k) o n = (6, -6) := by unfold q_row; rw [if_neg (Decidable.not_not.mpr c_s), if_neg (Decidable.not_not.mpr c_n), if_pos c_o]; rfl
          exact e_iret dX9_row_40 rfl rfl rfl ⟨by rw [hq], fun _ => by rw [hq]; exact (fx_mno_n (by decide)).symm, fun h => by rw [hq] at h; cases h⟩
    · refine e_aload_n dX9_row_18 rfl ?_
      refine e_bipush dX9_row_19 kcb_m4 ?_
      refine e_callV1 (μ' := mX9_no) (ci := 9) (As := [.int (-4)]) dX9_row_21 wl_X9_136 ok_X9_no rfl rfl (fx_pi_lt (by decide)) (by decide) (Nat.le_of_ble_eq_true rfl) fx_n1 (s_X9_no (m := m) hL (b := 4) (z := (-4)) (by decide) (by decide)) rfl ?_
      have hq : q_row (nI k) o n = (4, -4) := by unfold q_row; rw [if_neg (Decidable.not_not.mpr c_s), if_pos c_n]; rfl
      exact e_iret dX9_row_24 rfl rfl rfl ⟨by rw [hq], fun _ => by rw [hq]; exact (fx_mno_n (by decide)).symm, fun h => by rw [hq] at h; cases h⟩
  · refine e_aload_n dX9_row_8 rfl ?_
    refine e_iconst dX9_row_9 kci_m1 ?_
    refine e_callV1 (μ' := mX9_no) (ci := 9) (As := [.int (-1)]) dX9_row_10 wl_X9_136 ok_X9_no rfl rfl (fx_pi_lt (by decide)) (by decide) (Nat.le_of_ble_eq_true rfl) fx_n1 (s_X9_no (m := m) hL (b := 1) (z := (-1)) (by decide) (by decide)) rfl ?_
    have hq : q_row s o n = (1, -1) := by unfold q_row; exact if_pos c_s
    exact e_iret dX9_row_13 rfl rfl rfl ⟨by rw [hq], fun _ => by rw [hq]; exact (fx_mno_n (by decide)).symm, fun h => by rw [hq] at h; cases h⟩
