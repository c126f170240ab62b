theorem p_osome {o : Option Nat} {n : Nat} (h : ¬ p_oi o = -1) (ho : ∀ x, o = some x → x < n) : ∃ b, o = some b ∧ b < n := by
  cases o with
  | none => exact absurd rfl h
  | some b => exact ⟨b, rfl, ho b rfl⟩
theorem fx_TF.ran0 (m : fx_M) : fx_TF m (fx_sI m 83 49 0) := ⟨rfl, fun o h1 h2 => fx_sI_n _ _ _ h1, fun j hj => fx_rd2 (Ne.symm hj)⟩
theorem p_w2 {w : Int32} (h : p_in w 0 2) (h0 : ¬ w = 0) (h1 : ¬ w = 1) : w = 2 := by
  obtain ⟨j, hj, ej⟩ := p_in_ex (v := w) (hi := 2) h (by decide)
  subst ej
  have : j = 0 ∨ j = 1 ∨ j = 2 := by omega
  rcases this with rfl | rfl | rfl
  · exact absurd rfl h0
  · exact absurd rfl h1
  · rfl
set_option maxRecDepth 100000 in
set_option maxHeartbeats 600000 in
theorem s_X9_act {Γ : fx_G} {m : fx_M} (hL : fx_Lay m) {na nd : Nat} {t : p_Sg} (H : fx_MS m na nd t) (x mv x2 : Int32) : fx_Ct Γ mX9_act 4 119 119 [fx_rf Γ 83, .int x, .int mv, .int x2] m (fun r m' => r = some (.int (q_act t.1 na x mv x2)) ∧ fx_TF m m' ∧ fx_trM m' (q_actT t.1 na x mv)) := by
  refine fx_Ct.of (j := 0) (by decide) (Nat.le_of_ble_eq_true rfl) (Nat.le_of_ble_eq_true rfl) ?_
  show fx_E Γ mX9_act 4 119 119 _ 119 m 0 [some (fx_rf Γ 83), some (.int x), some (.int mv), some (.int x2)] []
  have h9 := H.2.2.2.2.2.1
  have h5 := H.2.2.2.2.2.2.1
  refine e_aload_n dX9_act_0 rfl ?_
  refine e_iconst dX9_act_1 kci_0 ?_
  refine e_put dX9_act_2 ff_X9_309 rfl (fx_pi_lt (by decide)) (by decide) rfl (Or.inl rfl) ?_
  obtain ⟨m0, hm0⟩ : ∃ z, z = fx_sI m 83 49 0 := ⟨_, rfl⟩
  have hL0 : fx_Lay m0 := by rw [hm0]; exact hL
  have H0 : fx_MS m0 na nd t := by rw [hm0]; exact H.sO (o := 83) (k := 49) (v := 0) (by decide) (by decide)
  have T0 : fx_trM m0 [] := by rw [hm0]; exact ⟨fx_rd0, fun i v hi => by simp at hi⟩
  rw [← hm0]
  refine e_aload_n dX9_act_5 rfl ?_
  refine e_iload_n dX9_act_6 rfl ?_
  refine e_callV1 (μ' := mX9_isArm) (ci := 9) (As := [.int x]) dX9_act_7 wl_X9_140 ok_X9_isArm rfl rfl (fx_pi_lt (by decide)) (by decide) (Nat.le_of_ble_eq_true rfl) fx_n1 (s_X9_isArm (m := m0) hL0 H0 x) rfl ?_
  refine e_if_eqB 22 dX9_act_10 rfl (fun c_x => ?_) (fun c_x => ?_)
  · subst hm0
    refine e_iconst dX9_act_22 kci_0 ?_
    have hq : q_act t.1 na x mv x2 = 0 := by unfold q_act; exact if_pos c_x
    have hT : q_actT t.1 na x mv = [] := by unfold q_actT; exact if_pos c_x
    exact e_iret dX9_act_23 rfl rfl rfl ⟨by rw [hq], fx_TF.ran0 m, by rw [hT]; exact T0⟩
  · refine e_iload_n dX9_act_13 rfl ?_
    refine e_if_lt 22 dX9_act_14 rfl (fun a_1 => ?_) (fun a_1 => ?_)
    · subst hm0
      refine e_iconst dX9_act_22 kci_0 ?_
      have hq : q_act t.1 na x mv x2 = 0 := by unfold q_act; rw [if_neg (Decidable.not_not.mpr c_x), if_pos (by rintro ⟨h1, h2⟩; first | exact absurd h1 (Int32.not_le.mpr a_1) | exact a_2 h2)]
      have hT : q_actT t.1 na x mv = [] := by unfold q_actT; rw [if_neg (Decidable.not_not.mpr c_x), if_pos (by rintro ⟨h1, h2⟩; first | exact absurd h1 (Int32.not_le.mpr a_1) | exact a_2 h2)]
      exact e_iret dX9_act_23 rfl rfl rfl ⟨by rw [hq], fx_TF.ran0 m, by rw [hT]; exact T0⟩
    · refine e_iload_n dX9_act_17 rfl ?_
      refine e_iconst dX9_act_18 kci_2 ?_
      refine e_icmp_le 24 dX9_act_19 rfl (fun a_2 => ?_) (fun a_2 => ?_)
      · have c_mv : p_in mv 0 2 := ⟨Int32.not_lt.mp a_1, a_2⟩
        obtain ⟨y, hy, ey⟩ := p_el_ex c_x (by omega)
        subst ey
        have gA := H.2.2.2.2.2.2.2.1 y hy
        obtain ⟨K, hK6, hK⟩ := p_in_ex (hi := 6) gA.1 (by decide)
        have hK7 : K < 7 := by omega
        refine e_iload_n dX9_act_24 rfl ?_
        refine e_if_ne 37 dX9_act_25 rfl (fun c_0 => ?_) (fun c_0 => ?_)
        · refine e_iload_n dX9_act_37 rfl ?_
          refine e_iconst dX9_act_38 kci_1 ?_
          refine e_icmp_ne 51 dX9_act_39 rfl (fun c_1 => ?_) (fun c_1 => ?_)
          · refine e_aload_n dX9_act_51 rfl ?_
            refine e_iload_n dX9_act_52 rfl ?_
            refine e_iload_n dX9_act_53 rfl ?_
            refine e_callV (μ' := mX9_dropping) (ci := 9) (As := [.int (nI y), .int x2]) dX9_act_54 wl_X9_322 ok_X9_dropping rfl rfl (fx_pi_lt (by decide)) (by decide) (Nat.le_of_ble_eq_true rfl) fx_n1 (s_X9_dropping (m := m0) hL0 H0 hy hK7 hK T0 x2) rfl (fun r_ m_ hpost => ?_)
            revert r_ m_
            intro r_ m1 hpost
            obtain ⟨rfl, g1, t1⟩ := hpost
            have e2m : mv = 2 := p_w2 c_mv c_0 c_1
            subst e2m
            have hq : q_act t.1 na (nI y) 2 x2 = p_do K K (nI y) (t.1 y 1) x2 := by unfold q_act; rw [if_neg (Decidable.not_not.mpr c_x), if_neg (Decidable.not_not.mpr c_mv), p_ix_n (show y < 2 ^ 31 by omega), hK, p_ix_n (show K < 2 ^ 31 by omega)]; rfl
            have hT : q_actT t.1 na (nI y) 2 = p_doT K K := by unfold q_actT; rw [if_neg (Decidable.not_not.mpr c_x), if_neg (Decidable.not_not.mpr c_mv), p_ix_n (show y < 2 ^ 31 by omega), hK, p_ix_n (show K < 2 ^ 31 by omega)]; rfl
            exact e_iret dX9_act_57 rfl rfl rfl ⟨by rw [hq], (fx_TF.ran0 m).trans (by rw [← hm0]; exact g1), by rw [hT]; exact t1⟩
          · refine e_aload_n dX9_act_42 rfl ?_
            refine e_iload_n dX9_act_43 rfl ?_
            refine e_iload_n dX9_act_44 rfl ?_
            refine e_callV (μ' := mX9_waving) (ci := 9) (As := [.int (nI y), .int x2]) dX9_act_45 wl_X9_319 ok_X9_waving rfl rfl (fx_pi_lt (by decide)) (by decide) (Nat.le_of_ble_eq_true rfl) fx_n1 (s_X9_waving (m := m0) hL0 H0 hy hK7 hK T0 x2) rfl (fun r_ m_ hpost => ?_)
            revert r_ m_
            intro r_ m1 hpost
            obtain ⟨rfl, g1, t1⟩ := hpost
            refine e_goto 57 dX9_act_48 rfl ?_
            subst c_1
            have hq : q_act t.1 na (nI y) 1 x2 = p_wa K K (nI y) (t.1 y 1) x2 := by unfold q_act; rw [if_neg (Decidable.not_not.mpr c_x), if_neg (Decidable.not_not.mpr c_mv), p_ix_n (show y < 2 ^ 31 by omega), hK, p_ix_n (show K < 2 ^ 31 by omega)]; rfl
            have hT : q_actT t.1 na (nI y) 1 = p_waT K K := by unfold q_actT; rw [if_neg (Decidable.not_not.mpr c_x), if_neg (Decidable.not_not.mpr c_mv), p_ix_n (show y < 2 ^ 31 by omega), hK, p_ix_n (show K < 2 ^ 31 by omega)]; rfl
            exact e_iret dX9_act_57 rfl rfl rfl ⟨by rw [hq], (fx_TF.ran0 m).trans (by rw [← hm0]; exact g1), by rw [hT]; exact t1⟩
        · refine e_aload_n dX9_act_28 rfl ?_
          refine e_iload_n dX9_act_29 rfl ?_
          refine e_iload_n dX9_act_30 rfl ?_
          refine e_callV (μ' := mX9_bending) (ci := 9) (As := [.int (nI y), .int x2]) dX9_act_31 wl_X9_316 ok_X9_bending rfl rfl (fx_pi_lt (by decide)) (by decide) (Nat.le_of_ble_eq_true rfl) fx_n1 (s_X9_bending (m := m0) hL0 H0 hy hK7 hK T0 x2) rfl (fun r_ m_ hpost => ?_)
          revert r_ m_
          intro r_ m1 hpost
          obtain ⟨rfl, g1, t1⟩ := hpost
          refine e_goto 57 dX9_act_34 rfl ?_
          subst c_0
          have hq : q_act t.1 na (nI y) 0 x2 = p_be K (nI y) (t.1 y 1) x2 := by unfold q_act; rw [if_neg (Decidable.not_not.mpr c_x), if_neg (Decidable.not_not.mpr c_mv), p_ix_n (show y < 2 ^ 31 by omega), hK, p_ix_n (show K < 2 ^ 31 by omega)]; rfl
          have hT : q_actT t.1 na (nI y) 0 = p_beT K := by unfold q_actT; rw [if_neg (Decidable.not_not.mpr c_x), if_neg (Decidable.not_not.mpr c_mv), p_ix_n (show y < 2 ^ 31 by omega), hK, p_ix_n (show K < 2 ^ 31 by omega)]; rfl
          exact e_iret dX9_act_57 rfl rfl rfl ⟨by rw [hq], (fx_TF.ran0 m).trans (by rw [← hm0]; exact g1), by rw [hT]; exact t1⟩
      · subst hm0
        refine e_iconst dX9_act_22 kci_0 ?_
        have hq : q_act t.1 na x mv x2 = 0 := by unfold q_act; rw [if_neg (Decidable.not_not.mpr c_x), if_pos (by rintro ⟨h1, h2⟩; first | exact absurd h1 (Int32.not_le.mpr a_1) | exact a_2 h2)]
        have hT : q_actT t.1 na x mv = [] := by unfold q_actT; rw [if_neg (Decidable.not_not.mpr c_x), if_pos (by rintro ⟨h1, h2⟩; first | exact absurd h1 (Int32.not_le.mpr a_1) | exact a_2 h2)]
        exact e_iret dX9_act_23 rfl rfl rfl ⟨by rw [hq], fx_TF.ran0 m, by rw [hT]; exact T0⟩
set_option maxRecDepth 100000 in
set_option maxHeartbeats 600000 in
theorem s_X9_trace {Γ : fx_G} {m : fx_M} (hL : fx_Lay m) (i : Int32) : fx_Ct Γ mX9_trace 0 119 119 [fx_rf Γ 83, .int i] m (fx_is (some (.int (p_bod (m.1 118) (m.1 83 49) i))) m) := by
  refine fx_Ct.of (j := 0) (by decide) (Nat.le_of_ble_eq_true rfl) (Nat.le_of_ble_eq_true rfl) ?_
  show fx_E Γ mX9_trace 0 119 119 _ 119 m 0 [some (fx_rf Γ 83), some (.int i)] []
  refine e_iload_n dX9_trace_0 rfl ?_
  refine e_if_lt 27 dX9_trace_1 rfl (fun a_1 => ?_) (fun a_1 => ?_)
  · refine e_iconst dX9_trace_27 kci_m1 ?_
    exact e_iret dX9_trace_28 rfl rfl rfl ⟨by rw [p_bod, if_neg (by rintro ⟨h1, h2, h3⟩; first | exact absurd h1 (Int32.not_le.mpr a_1) | exact absurd h3 (Int32.not_lt.mpr a_2) | exact absurd h2 (Int32.not_lt.mpr a_3))], rfl⟩
  · refine e_iload_n dX9_trace_4 rfl ?_
    refine e_bipush dX9_trace_5 kcb_20 ?_
    refine e_icmp_ge 27 dX9_trace_7 rfl (fun a_2 => ?_) (fun a_2 => ?_)
    · refine e_iconst dX9_trace_27 kci_m1 ?_
      exact e_iret dX9_trace_28 rfl rfl rfl ⟨by rw [p_bod, if_neg (by rintro ⟨h1, h2, h3⟩; first | exact absurd h1 (Int32.not_le.mpr a_1) | exact absurd h3 (Int32.not_lt.mpr a_2) | exact absurd h2 (Int32.not_lt.mpr a_3))], rfl⟩
    · refine e_iload_n dX9_trace_10 rfl ?_
      refine e_aload_n dX9_trace_11 rfl ?_
      refine e_get dX9_trace_12 ff_X9_309 rfl (fx_pi_lt (by decide)) (by decide) rfl ?_
      refine e_icmp_ge 27 dX9_trace_15 rfl (fun a_3 => ?_) (fun a_3 => ?_)
      · refine e_iconst dX9_trace_27 kci_m1 ?_
        exact e_iret dX9_trace_28 rfl rfl rfl ⟨by rw [p_bod, if_neg (by rintro ⟨h1, h2, h3⟩; first | exact absurd h1 (Int32.not_le.mpr a_1) | exact absurd h3 (Int32.not_lt.mpr a_2) | exact absurd h2 (Int32.not_lt.mpr a_3))], rfl⟩
      · refine e_aload_n dX9_trace_18 rfl ?_
        refine e_getr (o2 := 118) dX9_trace_19 ff_X9_123 rfl (fx_pi_lt (by decide)) (by decide) rfl (hL _ _ _ rfl) ?_
        refine e_iload_n dX9_trace_22 rfl ?_
        obtain ⟨k, hk20, ek⟩ := p_in_ex (v := i) (hi := 19) ⟨Int32.not_lt.mp a_1, (by have := Int32.lt_iff_toInt_lt.mp (Int32.not_le.mp a_2); rw [Int32.le_iff_toInt_le]; have e1 : (20 : Int32).toInt = 20 := rfl; have e2 : (nI 19).toInt = 19 := rfl; (try rw [e1] at this); rw [e2]; omega)⟩ (by decide)
        subst ek
        refine e_iald (j := k) dX9_trace_23 rfl (fx_pi_lt (by decide)) rfl (by omega) (by decide) ?_
        refine e_goto 28 dX9_trace_24 rfl ?_
        exact e_iret dX9_trace_28 rfl rfl rfl ⟨by rw [p_bod, if_pos ⟨Int32.not_lt.mp a_1, Int32.not_le.mp a_3, Int32.not_le.mp a_2⟩, nI_clamp (by omega)], rfl⟩
theorem p_stI2 {w : Int32} (h1 : ¬ w < 11) (h2 : ¬ 17 < w) : ∃ k : Nat, 1 ≤ k ∧ k ≤ 7 ∧ w = nI (10 + k) ∧ w - 10 = nI k ∧ p_stC w := by
  have e11 : (11 : Int32).toInt = 11 := rfl
  have e17 : (17 : Int32).toInt = 17 := rfl
  have e10 : (10 : Int32).toInt = 10 := rfl
  have e7 : (7 : Int32).toInt = 7 := rfl
  have g1 := mt Int32.lt_iff_toInt_lt.mpr h1
  have g2 := mt Int32.lt_iff_toInt_lt.mpr h2
  rw [e11] at g1
  rw [e17] at g2
  have hs : (w - 10).toInt = w.toInt - 10 := by rw [fb_subI (by rw [e10]; omega) (by rw [e10]; omega), e10]
  have a1 : ¬ w ≤ 10 := by rw [Int32.le_iff_toInt_le, e10]; omega
  have a2 : ¬ 7 < w - 10 := by rw [Int32.lt_iff_toInt_lt, e7, hs]; omega
  obtain ⟨k, k1, k7, ew, ek⟩ := p_stI a1 a2
  exact ⟨k, k1, k7, ew, ek, a1, a2⟩
theorem p_stN {w : Int32} (h : w < 11 ∨ 17 < w) : ¬ p_stC w := by
  rintro ⟨h1, h2⟩
  have e11 : (11 : Int32).toInt = 11 := rfl
  have e17 : (17 : Int32).toInt = 17 := rfl
  have e10 : (10 : Int32).toInt = 10 := rfl
  have e7 : (7 : Int32).toInt = 7 := rfl
  obtain ⟨k, k1, k7, ew, _⟩ := p_stI h1 h2
  rw [Int32.lt_iff_toInt_lt, Int32.lt_iff_toInt_lt, ew, nI_toInt (by omega), e11, e17] at h
  omega
set_option maxRecDepth 100000 in
set_option maxHeartbeats 600000 in
theorem s_X9_status {Γ : fx_G} {m : fx_M} (hL : fx_Lay m) {na nd : Nat} {t : p_Sg} (H : fx_MS m na nd t) (w : Int32) : fx_Ct Γ mX9_status 3 119 119 [fx_rf Γ 83, .int w] m (fx_is (some (.int (q_status t.1 na nd t.2.2 (m.1 84) (m.1 83 49) w))) m) := by
  refine fx_Ct.of (j := 0) (by decide) (Nat.le_of_ble_eq_true rfl) (Nat.le_of_ble_eq_true rfl) ?_
  show fx_E Γ mX9_status 3 119 119 _ 119 m 0 [some (fx_rf Γ 83), some (.int w)] []
  have h9 := H.2.2.2.2.2.1
  have h5 := H.2.2.2.2.2.2.1
  refine e_iload_n dX9_status_0 rfl ?_
  refine e_bipush dX9_status_1 kcb_11 ?_
  refine e_icmp_lt 22 dX9_status_3 rfl (fun a_1 => ?_) (fun a_1 => ?_)
  · refine e_iload_n dX9_status_22 rfl ?_
    by_cases c_1 : w = 0
    · refine e_tableIn (off := 49) 72 dX9_status_23 (by rw [c_1]; decide) (by rw [c_1]; decide) (by rw [c_1]; decide) rfl ?_
      refine e_aload_n dX9_status_72 rfl ?_
      refine e_getv (v := nI na) dX9_status_73 ff_X9_126 rfl (fx_pi_lt (by decide)) (by decide) rfl H.1 ?_
      have hq : q_status t.1 na nd t.2.2 (m.1 84) (m.1 83 49) w = nI na := by unfold q_status; rw [if_neg (p_stN (by first | exact Or.inl (by assumption) | exact Or.inr (by assumption)))]; (try dsimp only); (try (first | rw [if_pos c_1] | rw [if_neg c_1])); (try rfl)
      exact e_iret dX9_status_76 rfl rfl rfl ⟨by rw [hq], rfl⟩
    by_cases c_2 : w = 1
    · refine e_tableIn (off := 54) 77 dX9_status_23 (by rw [c_2]; decide) (by rw [c_2]; decide) (by rw [c_2]; decide) rfl ?_
      refine e_aload_n dX9_status_77 rfl ?_
      refine e_getv (v := nI nd) dX9_status_78 ff_X9_129 rfl (fx_pi_lt (by decide)) (by decide) rfl H.2.1 ?_
      have hq : q_status t.1 na nd t.2.2 (m.1 84) (m.1 83 49) w = nI nd := by unfold q_status; rw [if_neg (p_stN (by first | exact Or.inl (by assumption) | exact Or.inr (by assumption)))]; (try dsimp only); (try (first | rw [if_pos c_1] | rw [if_neg c_1])); (try (first | rw [if_pos c_2] | rw [if_neg c_2])); (try rfl)
      exact e_iret dX9_status_81 rfl rfl rfl ⟨by rw [hq], rfl⟩
    by_cases c_3 : w = 2
    · refine e_tableIn (off := 59) 82 dX9_status_23 (by rw [c_3]; decide) (by rw [c_3]; decide) (by rw [c_3]; decide) rfl ?_
      refine e_aload_n dX9_status_82 rfl ?_
      refine e_callV1 (μ' := mX9_inDrawer) (ci := 9) (As := []) dX9_status_83 wl_X9_329 ok_X9_inDrawer rfl rfl (fx_pi_lt (by decide)) (by decide) (Nat.le_of_ble_eq_true rfl) fx_n1 (s_X9_inDrawer (m := m) hL H) rfl ?_
      have hq : q_status t.1 na nd t.2.2 (m.1 84) (m.1 83 49) w = p_fold (p_ct (fun x => t.1 x 6 = 99)) na 0 0 := by unfold q_status; rw [if_neg (p_stN (by first | exact Or.inl (by assumption) | exact Or.inr (by assumption)))]; (try dsimp only); (try (first | rw [if_pos c_1] | rw [if_neg c_1])); (try (first | rw [if_pos c_2] | rw [if_neg c_2])); (try (first | rw [if_pos c_3] | rw [if_neg c_3])); (try rfl)
      exact e_iret dX9_status_86 rfl rfl rfl ⟨by rw [hq], rfl⟩
    by_cases c_4 : w = 3
    · refine e_tableIn (off := 64) 87 dX9_status_23 (by rw [c_4]; decide) (by rw [c_4]; decide) (by rw [c_4]; decide) rfl ?_
      refine e_aload_n dX9_status_87 rfl ?_
      refine e_callV1 (μ' := mX9_withBoth) (ci := 9) (As := []) dX9_status_88 wl_X9_299 ok_X9_withBoth rfl rfl (fx_pi_lt (by decide)) (by decide) (Nat.le_of_ble_eq_true rfl) fx_n1 (s_X9_withBoth (m := m) hL H) rfl ?_
      have hq : q_status t.1 na nd t.2.2 (m.1 84) (m.1 83 49) w = p_wb t.1 na nd := by unfold q_status; rw [if_neg (p_stN (by first | exact Or.inl (by assumption) | exact Or.inr (by assumption)))]; (try dsimp only); (try (first | rw [if_pos c_1] | rw [if_neg c_1])); (try (first | rw [if_pos c_2] | rw [if_neg c_2])); (try (first | rw [if_pos c_3] | rw [if_neg c_3])); (try (first | rw [if_pos c_4] | rw [if_neg c_4])); (try rfl)
      exact e_iret dX9_status_91 rfl rfl rfl ⟨by rw [hq], rfl⟩
    by_cases c_5 : w = 4
    · refine e_tableIn (off := 69) 92 dX9_status_23 (by rw [c_5]; decide) (by rw [c_5]; decide) (by rw [c_5]; decide) rfl ?_
      refine e_aload_n dX9_status_92 rfl ?_
      refine e_getv (v := t.2.2 0) dX9_status_93 ff_X9_235 rfl (fx_pi_lt (by decide)) (by decide) rfl (H.2.2.1 0 (by decide)) ?_
      have hq : q_status t.1 na nd t.2.2 (m.1 84) (m.1 83 49) w = t.2.2 0 := by unfold q_status; rw [if_neg (p_stN (by first | exact Or.inl (by assumption) | exact Or.inr (by assumption)))]; (try dsimp only); (try (first | rw [if_pos c_1] | rw [if_neg c_1])); (try (first | rw [if_pos c_2] | rw [if_neg c_2])); (try (first | rw [if_pos c_3] | rw [if_neg c_3])); (try (first | rw [if_pos c_4] | rw [if_neg c_4])); (try (first | rw [if_pos c_5] | rw [if_neg c_5])); (try rfl)
      exact e_iret dX9_status_96 rfl rfl rfl ⟨by rw [hq], rfl⟩
    by_cases c_6 : w = 5
    · refine e_tableIn (off := 74) 97 dX9_status_23 (by rw [c_6]; decide) (by rw [c_6]; decide) (by rw [c_6]; decide) rfl ?_
      refine e_aload_n dX9_status_97 rfl ?_
      refine e_getv (v := t.2.2 1) dX9_status_98 ff_X9_238 rfl (fx_pi_lt (by decide)) (by decide) rfl (H.2.2.1 1 (by decide)) ?_
      have hq : q_status t.1 na nd t.2.2 (m.1 84) (m.1 83 49) w = t.2.2 1 := by unfold q_status; rw [if_neg (p_stN (by first | exact Or.inl (by assumption) | exact Or.inr (by assumption)))]; (try dsimp only); (try (first | rw [if_pos c_1] | rw [if_neg c_1])); (try (first | rw [if_pos c_2] | rw [if_neg c_2])); (try (first | rw [if_pos c_3] | rw [if_neg c_3])); (try (first | rw [if_pos c_4] | rw [if_neg c_4])); (try (first | rw [if_pos c_5] | rw [if_neg c_5])); (try (first | rw [if_pos c_6] | rw [if_neg c_6])); (try rfl)
      exact e_iret dX9_status_101 rfl rfl rfl ⟨by rw [hq], rfl⟩
    by_cases c_7 : w = 6
    · refine e_tableIn (off := 79) 102 dX9_status_23 (by rw [c_7]; decide) (by rw [c_7]; decide) (by rw [c_7]; decide) rfl ?_
      refine e_aload_n dX9_status_102 rfl ?_
      refine e_getv (v := t.2.2 2) dX9_status_103 ff_X9_241 rfl (fx_pi_lt (by decide)) (by decide) rfl (H.2.2.1 2 (by decide)) ?_
      have hq : q_status t.1 na nd t.2.2 (m.1 84) (m.1 83 49) w = t.2.2 2 := by unfold q_status; rw [if_neg (p_stN (by first | exact Or.inl (by assumption) | exact Or.inr (by assumption)))]; (try dsimp only); (try (first | rw [if_pos c_1] | rw [if_neg c_1])); (try (first | rw [if_pos c_2] | rw [if_neg c_2])); (try (first | rw [if_pos c_3] | rw [if_neg c_3])); (try (first | rw [if_pos c_4] | rw [if_neg c_4])); (try (first | rw [if_pos c_5] | rw [if_neg c_5])); (try (first | rw [if_pos c_6] | rw [if_neg c_6])); (try (first | rw [if_pos c_7] | rw [if_neg c_7])); (try rfl)
      exact e_iret dX9_status_106 rfl rfl rfl ⟨by rw [hq], rfl⟩
    by_cases c_8 : w = 7
    · refine e_tableIn (off := 84) 107 dX9_status_23 (by rw [c_8]; decide) (by rw [c_8]; decide) (by rw [c_8]; decide) rfl ?_
      refine e_aload_n dX9_status_107 rfl ?_
      refine e_getv (v := t.2.2 3) dX9_status_108 ff_X9_7 rfl (fx_pi_lt (by decide)) (by decide) rfl (H.2.2.1 3 (by decide)) ?_
      have hq : q_status t.1 na nd t.2.2 (m.1 84) (m.1 83 49) w = t.2.2 3 := by unfold q_status; rw [if_neg (p_stN (by first | exact Or.inl (by assumption) | exact Or.inr (by assumption)))]; (try dsimp only); (try (first | rw [if_pos c_1] | rw [if_neg c_1])); (try (first | rw [if_pos c_2] | rw [if_neg c_2])); (try (first | rw [if_pos c_3] | rw [if_neg c_3])); (try (first | rw [if_pos c_4] | rw [if_neg c_4])); (try (first | rw [if_pos c_5] | rw [if_neg c_5])); (try (first | rw [if_pos c_6] | rw [if_neg c_6])); (try (first | rw [if_pos c_7] | rw [if_neg c_7])); (try (first | rw [if_pos c_8] | rw [if_neg c_8])); (try rfl)
      exact e_iret dX9_status_111 rfl rfl rfl ⟨by rw [hq], rfl⟩
    by_cases c_9 : w = 8
    · refine e_tableIn (off := 89) 112 dX9_status_23 (by rw [c_9]; decide) (by rw [c_9]; decide) (by rw [c_9]; decide) rfl ?_
      refine e_aload_n dX9_status_112 rfl ?_
      refine e_get dX9_status_113 ff_X9_309 rfl (fx_pi_lt (by decide)) (by decide) rfl ?_
      have hq : q_status t.1 na nd t.2.2 (m.1 84) (m.1 83 49) w = m.1 83 49 := by unfold q_status; rw [if_neg (p_stN (by first | exact Or.inl (by assumption) | exact Or.inr (by assumption)))]; (try dsimp only); (try (first | rw [if_pos c_1] | rw [if_neg c_1])); (try (first | rw [if_pos c_2] | rw [if_neg c_2])); (try (first | rw [if_pos c_3] | rw [if_neg c_3])); (try (first | rw [if_pos c_4] | rw [if_neg c_4])); (try (first | rw [if_pos c_5] | rw [if_neg c_5])); (try (first | rw [if_pos c_6] | rw [if_neg c_6])); (try (first | rw [if_pos c_7] | rw [if_neg c_7])); (try (first | rw [if_pos c_8] | rw [if_neg c_8])); (try (first | rw [if_pos c_9] | rw [if_neg c_9])); (try rfl)
      exact e_iret dX9_status_116 rfl rfl rfl ⟨by rw [hq], rfl⟩
    have tc_1 := lv_neT c_1 (show (0 : Int32).toInt = 0 by decide)
    have tc_2 := lv_neT c_2 (show (1 : Int32).toInt = 1 by decide)
    have tc_3 := lv_neT c_3 (show (2 : Int32).toInt = 2 by decide)
    have tc_4 := lv_neT c_4 (show (3 : Int32).toInt = 3 by decide)
    have tc_5 := lv_neT c_5 (show (4 : Int32).toInt = 4 by decide)
    have tc_6 := lv_neT c_6 (show (5 : Int32).toInt = 5 by decide)
    have tc_7 := lv_neT c_7 (show (6 : Int32).toInt = 6 by decide)
    have tc_8 := lv_neT c_8 (show (7 : Int32).toInt = 7 by decide)
    have tc_9 := lv_neT c_9 (show (8 : Int32).toInt = 8 by decide)
    refine e_tableOut 117 dX9_status_23 (by omega) rfl ?_
    refine e_iconst dX9_status_117 kci_m1 ?_
    have hq : q_status t.1 na nd t.2.2 (m.1 84) (m.1 83 49) w = (-1) := by unfold q_status; rw [if_neg (p_stN (by first | exact Or.inl (by assumption) | exact Or.inr (by assumption)))]; (try dsimp only); (try (first | rw [if_pos c_1] | rw [if_neg c_1])); (try (first | rw [if_pos c_2] | rw [if_neg c_2])); (try (first | rw [if_pos c_3] | rw [if_neg c_3])); (try (first | rw [if_pos c_4] | rw [if_neg c_4])); (try (first | rw [if_pos c_5] | rw [if_neg c_5])); (try (first | rw [if_pos c_6] | rw [if_neg c_6])); (try (first | rw [if_pos c_7] | rw [if_neg c_7])); (try (first | rw [if_pos c_8] | rw [if_neg c_8])); (try (first | rw [if_pos c_9] | rw [if_neg c_9])); (try rfl)
    exact e_iret dX9_status_118 rfl rfl rfl ⟨by rw [hq], rfl⟩
  · refine e_iload_n dX9_status_6 rfl ?_
    refine e_bipush dX9_status_7 kcb_17 ?_
    refine e_icmp_gt 22 dX9_status_9 rfl (fun a_2 => ?_) (fun a_2 => ?_)
    · refine e_iload_n dX9_status_22 rfl ?_
      by_cases c_10 : w = 0
      · refine e_tableIn (off := 49) 72 dX9_status_23 (by rw [c_10]; decide) (by rw [c_10]; decide) (by rw [c_10]; decide) rfl ?_
        refine e_aload_n dX9_status_72 rfl ?_
        refine e_getv (v := nI na) dX9_status_73 ff_X9_126 rfl (fx_pi_lt (by decide)) (by decide) rfl H.1 ?_
        have hq : q_status t.1 na nd t.2.2 (m.1 84) (m.1 83 49) w = nI na := by unfold q_status; rw [if_neg (p_stN (by first | exact Or.inl (by assumption) | exact Or.inr (by assumption)))]; (try dsimp only); (try (first | rw [if_pos c_10] | rw [if_neg c_10])); (try rfl)
        exact e_iret dX9_status_76 rfl rfl rfl ⟨by rw [hq], rfl⟩
      by_cases c_11 : w = 1
      · refine e_tableIn (off := 54) 77 dX9_status_23 (by rw [c_11]; decide) (by rw [c_11]; decide) (by rw [c_11]; decide) rfl ?_
        refine e_aload_n dX9_status_77 rfl ?_
        refine e_getv (v := nI nd) dX9_status_78 ff_X9_129 rfl (fx_pi_lt (by decide)) (by decide) rfl H.2.1 ?_
        have hq : q_status t.1 na nd t.2.2 (m.1 84) (m.1 83 49) w = nI nd := by unfold q_status; rw [if_neg (p_stN (by first | exact Or.inl (by assumption) | exact Or.inr (by assumption)))]; (try dsimp only); (try (first | rw [if_pos c_10] | rw [if_neg c_10])); (try (first | rw [if_pos c_11] | rw [if_neg c_11])); (try rfl)
        exact e_iret dX9_status_81 rfl rfl rfl ⟨by rw [hq], rfl⟩
      by_cases c_12 : w = 2
      · refine e_tableIn (off := 59) 82 dX9_status_23 (by rw [c_12]; decide) (by rw [c_12]; decide) (by rw [c_12]; decide) rfl ?_
        refine e_aload_n dX9_status_82 rfl ?_
        refine e_callV1 (μ' := mX9_inDrawer) (ci := 9) (As := []) dX9_status_83 wl_X9_329 ok_X9_inDrawer rfl rfl (fx_pi_lt (by decide)) (by decide) (Nat.le_of_ble_eq_true rfl) fx_n1 (s_X9_inDrawer (m := m) hL H) rfl ?_
        have hq : q_status t.1 na nd t.2.2 (m.1 84) (m.1 83 49) w = p_fold (p_ct (fun x => t.1 x 6 = 99)) na 0 0 := by unfold q_status; rw [if_neg (p_stN (by first | exact Or.inl (by assumption) | exact Or.inr (by assumption)))]; (try dsimp only); (try (first | rw [if_pos c_10] | rw [if_neg c_10])); (try (first | rw [if_pos c_11] | rw [if_neg c_11])); (try (first | rw [if_pos c_12] | rw [if_neg c_12])); (try rfl)
        exact e_iret dX9_status_86 rfl rfl rfl ⟨by rw [hq], rfl⟩
      by_cases c_13 : w = 3
      · refine e_tableIn (off := 64) 87 dX9_status_23 (by rw [c_13]; decide) (by rw [c_13]; decide) (by rw [c_13]; decide) rfl ?_
        refine e_aload_n dX9_status_87 rfl ?_
        refine e_callV1 (μ' := mX9_withBoth) (ci := 9) (As := []) dX9_status_88 wl_X9_299 ok_X9_withBoth rfl rfl (fx_pi_lt (by decide)) (by decide) (Nat.le_of_ble_eq_true rfl) fx_n1 (s_X9_withBoth (m := m) hL H) rfl ?_
        have hq : q_status t.1 na nd t.2.2 (m.1 84) (m.1 83 49) w = p_wb t.1 na nd := by unfold q_status; rw [if_neg (p_stN (by first | exact Or.inl (by assumption) | exact Or.inr (by assumption)))]; (try dsimp only); (try (first | rw [if_pos c_10] | rw [if_neg c_10])); (try (first | rw [if_pos c_11] | rw [if_neg c_11])); (try (first | rw [if_pos c_12] | rw [if_neg c_12])); (try (first | rw [if_pos c_13] | rw [if_neg c_13])); (try rfl)
        exact e_iret dX9_status_91 rfl rfl rfl ⟨by rw [hq], rfl⟩
      by_cases c_14 : w = 4
      · refine e_tableIn (off := 69) 92 dX9_status_23 (by rw [c_14]; decide) (by rw [c_14]; decide) (by rw [c_14]; decide) rfl ?_
        refine e_aload_n dX9_status_92 rfl ?_
        refine e_getv (v := t.2.2 0) dX9_status_93 ff_X9_235 rfl (fx_pi_lt (by decide)) (by decide) rfl (H.2.2.1 0 (by decide)) ?_
        have hq : q_status t.1 na nd t.2.2 (m.1 84) (m.1 83 49) w = t.2.2 0 := by unfold q_status; rw [if_neg (p_stN (by first | exact Or.inl (by assumption) | exact Or.inr (by assumption)))]; (try dsimp only); (try (first | rw [if_pos c_10] | rw [if_neg c_10])); (try (first | rw [if_pos c_11] | rw [if_neg c_11])); (try (first | rw [if_pos c_12] | rw [if_neg c_12])); (try (first | rw [if_pos c_13] | rw [if_neg c_13])); (try (first | rw [if_pos c_14] | rw [if_neg c_14])); (try rfl)
        exact e_iret dX9_status_96 rfl rfl rfl ⟨by rw [hq], rfl⟩
      by_cases c_15 : w = 5
      · refine e_tableIn (off := 74) 97 dX9_status_23 (by rw [c_15]; decide) (by rw [c_15]; decide) (by rw [c_15]; decide) rfl ?_
        refine e_aload_n dX9_status_97 rfl ?_
        refine e_getv (v := t.2.2 1) dX9_status_98 ff_X9_238 rfl (fx_pi_lt (by decide)) (by decide) rfl (H.2.2.1 1 (by decide)) ?_
        have hq : q_status t.1 na nd t.2.2 (m.1 84) (m.1 83 49) w = t.2.2 1 := by unfold q_status; rw [if_neg (p_stN (by first | exact Or.inl (by assumption) | exact Or.inr (by assumption)))]; (try dsimp only); (try (first | rw [if_pos c_10] | rw [if_neg c_10])); (try (first | rw [if_pos c_11] | rw [if_neg c_11])); (try (first | rw [if_pos c_12] | rw [if_neg c_12])); (try (first | rw [if_pos c_13] | rw [if_neg c_13])); (try (first | rw [if_pos c_14] | rw [if_neg c_14])); (try (first | rw [if_pos c_15] | rw [if_neg c_15])); (try rfl)
        exact e_iret dX9_status_101 rfl rfl rfl ⟨by rw [hq], rfl⟩
      by_cases c_16 : w = 6
      · refine e_tableIn (off := 79) 102 dX9_status_23 (by rw [c_16]; decide) (by rw [c_16]; decide) (by rw [c_16]; decide) rfl ?_
        refine e_aload_n dX9_status_102 rfl ?_
        refine e_getv (v := t.2.2 2) dX9_status_103 ff_X9_241 rfl (fx_pi_lt (by decide)) (by decide) rfl (H.2.2.1 2 (by decide)) ?_
        have hq : q_status t.1 na nd t.2.2 (m.1 84) (m.1 83 49) w = t.2.2 2 := by unfold q_status; rw [if_neg (p_stN (by first | exact Or.inl (by assumption) | exact Or.inr (by assumption)))]; (try dsimp only); (try (first | rw [if_pos c_10] | rw [if_neg c_10])); (try (first | rw [if_pos c_11] | rw [if_neg c_11])); (try (first | rw [if_pos c_12] | rw [if_neg c_12])); (try (first | rw [if_pos c_13] | rw [if_neg c_13])); (try (first | rw [if_pos c_14] | rw [if_neg c_14])); (try (first | rw [if_pos c_15] | rw [if_neg c_15])); (try (first | rw [if_pos c_16] | rw [if_neg c_16])); (try rfl)
        exact e_iret dX9_status_106 rfl rfl rfl ⟨by rw [hq], rfl⟩
      by_cases c_17 : w = 7
      · refine e_tableIn (off := 84) 107 dX9_status_23 (by rw [c_17]; decide) (by rw [c_17]; decide) (by rw [c_17]; decide) rfl ?_
        refine e_aload_n dX9_status_107 rfl ?_
        refine e_getv (v := t.2.2 3) dX9_status_108 ff_X9_7 rfl (fx_pi_lt (by decide)) (by decide) rfl (H.2.2.1 3 (by decide)) ?_
        have hq : q_status t.1 na nd t.2.2 (m.1 84) (m.1 83 49) w = t.2.2 3 := by unfold q_status; rw [if_neg (p_stN (by first | exact Or.inl (by assumption) | exact Or.inr (by assumption)))]; (try dsimp only); (try (first | rw [if_pos c_10] | rw [if_neg c_10])); (try (first | rw [if_pos c_11] | rw [if_neg c_11])); (try (first | rw [if_pos c_12] | rw [if_neg c_12])); (try (first | rw [if_pos c_13] | rw [if_neg c_13])); (try (first | rw [if_pos c_14] | rw [if_neg c_14])); (try (first | rw [if_pos c_15] | rw [if_neg c_15])); (try (first | rw [if_pos c_16] | rw [if_neg c_16])); (try (first | rw [if_pos c_17] | rw [if_neg c_17])); (try rfl)
        exact e_iret dX9_status_111 rfl rfl rfl ⟨by rw [hq], rfl⟩
      by_cases c_18 : w = 8
      · refine e_tableIn (off := 89) 112 dX9_status_23 (by rw [c_18]; decide) (by rw [c_18]; decide) (by rw [c_18]; decide) rfl ?_
        refine e_aload_n dX9_status_112 rfl ?_
        refine e_get dX9_status_113 ff_X9_309 rfl (fx_pi_lt (by decide)) (by decide) rfl ?_
        have hq : q_status t.1 na nd t.2.2 (m.1 84) (m.1 83 49) w = m.1 83 49 := by unfold q_status; rw [if_neg (p_stN (by first | exact Or.inl (by assumption) | exact Or.inr (by assumption)))]; (try dsimp only); (try (first | rw [if_pos c_10] | rw [if_neg c_10])); (try (first | rw [if_pos c_11] | rw [if_neg c_11])); (try (first | rw [if_pos c_12] | rw [if_neg c_12])); (try (first | rw [if_pos c_13] | rw [if_neg c_13])); (try (first | rw [if_pos c_14] | rw [if_neg c_14])); (try (first | rw [if_pos c_15] | rw [if_neg c_15])); (try (first | rw [if_pos c_16] | rw [if_neg c_16])); (try (first | rw [if_pos c_17] | rw [if_neg c_17])); (try (first | rw [if_pos c_18] | rw [if_neg c_18])); (try rfl)
        exact e_iret dX9_status_116 rfl rfl rfl ⟨by rw [hq], rfl⟩
      have tc_10 := lv_neT c_10 (show (0 : Int32).toInt = 0 by decide)
      have tc_11 := lv_neT c_11 (show (1 : Int32).toInt = 1 by decide)
      have tc_12 := lv_neT c_12 (show (2 : Int32).toInt = 2 by decide)
      have tc_13 := lv_neT c_13 (show (3 : Int32).toInt = 3 by decide)
      have tc_14 := lv_neT c_14 (show (4 : Int32).toInt = 4 by decide)
      have tc_15 := lv_neT c_15 (show (5 : Int32).toInt = 5 by decide)
      have tc_16 := lv_neT c_16 (show (6 : Int32).toInt = 6 by decide)
      have tc_17 := lv_neT c_17 (show (7 : Int32).toInt = 7 by decide)
      have tc_18 := lv_neT c_18 (show (8 : Int32).toInt = 8 by decide)
      refine e_tableOut 117 dX9_status_23 (by omega) rfl ?_
      refine e_iconst dX9_status_117 kci_m1 ?_
      have hq : q_status t.1 na nd t.2.2 (m.1 84) (m.1 83 49) w = (-1) := by unfold q_status; rw [if_neg (p_stN (by first | exact Or.inl (by assumption) | exact Or.inr (by assumption)))]; (try dsimp only); (try (first | rw [if_pos c_10] | rw [if_neg c_10])); (try (first | rw [if_pos c_11] | rw [if_neg c_11])); (try (first | rw [if_pos c_12] | rw [if_neg c_12])); (try (first | rw [if_pos c_13] | rw [if_neg c_13])); (try (first | rw [if_pos c_14] | rw [if_neg c_14])); (try (first | rw [if_pos c_15] | rw [if_neg c_15])); (try (first | rw [if_pos c_16] | rw [if_neg c_16])); (try (first | rw [if_pos c_17] | rw [if_neg c_17])); (try (first | rw [if_pos c_18] | rw [if_neg c_18])); (try rfl)
      exact e_iret dX9_status_118 rfl rfl rfl ⟨by rw [hq], rfl⟩
    · obtain ⟨k, hk1, hk7, ew, ek, hst⟩ := p_stI2 a_1 a_2
      refine e_aload_n dX9_status_12 rfl ?_
      refine e_getr (o2 := 84) dX9_status_13 ff_X9_16 rfl (fx_pi_lt (by decide)) (by decide) rfl (hL _ _ _ rfl) ?_
      refine e_iload_n dX9_status_16 rfl ?_
      refine e_bipush dX9_status_17 kcb_10 ?_
      refine e_isub dX9_status_19 ?_
      rw [ek]
      refine e_iald (j := k) dX9_status_20 rfl (fx_pi_lt (by decide)) rfl (by omega) (by decide) ?_
      have hq : q_status t.1 na nd t.2.2 (m.1 84) (m.1 83 49) w = m.1 84 k := by unfold q_status; rw [if_pos hst, ek]; simp only [p_ix, nI_clamp (show k < 2 ^ 31 by omega)]
      exact e_iret dX9_status_21 rfl rfl rfl ⟨by rw [hq], rfl⟩
set_option maxRecDepth 100000 in
set_option maxHeartbeats 600000 in
theorem s_X9_best {Γ : fx_G} {m : fx_M} (hL : fx_Lay m) {na nd : Nat} {t : p_Sg} (H : fx_MS m na nd t) (d : Int32) (s : Int32) : fx_Ct Γ mX9_best 5 119 119 [fx_rf Γ 83, .int d, .int s] m (fx_is (some (.int (q_best t.1 t.2.1 na nd d s).2)) (fx_mno m (q_best t.1 t.2.1 na nd d s).1)) := by
  refine fx_Ct.of (j := 3) (by decide) (Nat.le_of_ble_eq_true rfl) (Nat.le_of_ble_eq_true rfl) ?_
  show fx_E Γ mX9_best 5 119 119 _ 119 m 0 [some (fx_rf Γ 83), some (.int d), some (.int s), none, none, none] []
  have h9 := H.2.2.2.2.2.1
  have h5 := H.2.2.2.2.2.2.1
  refine e_aload_n dX9_best_0 rfl ?_
  refine e_iload_n dX9_best_1 rfl ?_
  refine e_callV1 (μ' := mX9_isDoll) (ci := 9) (As := [.int d]) dX9_best_2 wl_X9_184 ok_X9_isDoll rfl rfl (fx_pi_lt (by decide)) (by decide) (Nat.le_of_ble_eq_true rfl) fx_n1 (s_X9_isDoll (m := m) hL H d) rfl ?_
  refine e_if_neB 14 dX9_best_5 rfl (fun c_1 => ?_) (fun c_1 => ?_)
  · refine e_aload_n dX9_best_14 rfl ?_
    refine e_iload_n dX9_best_15 rfl ?_
    refine e_iconst dX9_best_16 kci_0 ?_
    refine e_iconst dX9_best_17 kci_1 ?_
    refine e_callV1 (μ' := mX9_isFrom) (ci := 9) (As := [.int s, .int 0, .int 1]) dX9_best_18 wl_X9_172 ok_X9_isFrom rfl rfl (fx_pi_lt (by decide)) (by decide) (Nat.le_of_ble_eq_true rfl) fx_n1 (s_X9_isFrom (m := m) hL s 0 1) rfl ?_
    refine e_if_neB 31 dX9_best_21 rfl (fun c_2 => ?_) (fun c_2 => ?_)
    · obtain ⟨y, hy, ey⟩ := p_el_ex c_1 (by omega)
      subst ey
      refine e_aload_n dX9_best_31 rfl ?_
      refine e_iload_n dX9_best_32 rfl ?_
      refine e_iload_n dX9_best_33 rfl ?_
      refine e_callV1 (μ' := mX9_mayBe) (ci := 9) (As := [.int (nI y), .int s]) dX9_best_34 wl_X9_254 ok_X9_mayBe rfl rfl (fx_pi_lt (by decide)) (by decide) (Nat.le_of_ble_eq_true rfl) fx_n1 (s_X9_mayBe (m := m) hL H (d := y) (by omega) s) rfl ?_
      refine e_istore_n dX9_best_37 (by decide) rfl ?_
      refine e_iconst dX9_best_38 kci_m1 ?_
      refine e_istore dX9_best_39 (by decide) rfl ?_
      refine e_iconst dX9_best_41 kci_0 ?_
      refine e_istore dX9_best_42 (by decide) rfl ?_
      have hB : p_sN (fun x => p_can t.1 t.2.1 na x y s) na < 2 ^ 31 := Nat.lt_of_lt_of_le (p_sN_lt _ na) (Nat.pow_le_pow_right (by decide) (by omega))
      have lp : ∀ (j : Nat) (k : Nat) (o : Option Nat), k + j = na → (∀ x, o = some x → x < na) → q_best t.1 t.2.1 na nd (nI y) s = (0, p_oi (p_fold (p_bst (fun x => (p_sN (fun x => p_can t.1 t.2.1 na x y s) na).testBit x = true) (fun x => p_farA t.1 t.2.1 x y)) j k o)) → fx_E Γ mX9_best 5 119 119 (fx_is (some (.int (q_best t.1 t.2.1 na nd (nI y) s).2)) (fx_mno m (q_best t.1 t.2.1 na nd (nI y) s).1)) 119 m 44 [some (fx_rf Γ 83), some (.int (nI y)), some (.int s), some (.int (nI (p_sN (fun x => p_can t.1 t.2.1 na x y s) na))), some (.int (p_oi o)), some (.int (nI k))] [] := by
        intro j
        induction j with
        | zero =>
          intro k o hk ho hq
          refine e_iload dX9_best_44 rfl ?_
          refine e_aload_n dX9_best_46 rfl ?_
          refine e_getv (v := nI na) dX9_best_47 ff_X9_126 rfl (fx_pi_lt (by decide)) (by decide) rfl H.1 ?_
          refine e_icmp_ge 98 dX9_best_50 rfl (fun _ => ?_) (fun h => absurd (nI_le (by omega) (by omega)) h)
          refine e_iload dX9_best_98 rfl ?_
          exact e_iret dX9_best_100 rfl rfl rfl ⟨by rw [hq]; rfl, by rw [hq]; rfl⟩
        | succ j ih =>
          intro k o hk ho hq
          refine e_iload dX9_best_44 rfl ?_
          refine e_aload_n dX9_best_46 rfl ?_
          refine e_getv (v := nI na) dX9_best_47 ff_X9_126 rfl (fx_pi_lt (by decide)) (by decide) rfl H.1 ?_
          refine e_icmp_ge 98 dX9_best_50 rfl (fun h => absurd h (nI_ge (by omega) (by omega))) (fun _ => ?_)
          refine e_iload_n dX9_best_53 rfl ?_
          refine e_iload dX9_best_54 rfl ?_
          refine e_ishr dX9_best_56 ?_
          refine e_iconst dX9_best_57 kci_1 ?_
          refine e_iand dX9_best_58 ?_
          refine e_if_ne 65 dX9_best_59 rfl (fun c_b => ?_) (fun c_b => ?_)
          · refine e_iload dX9_best_65 rfl ?_
            refine e_iconst dX9_best_67 kci_m1 ?_
            refine e_icmp_eq 88 dX9_best_68 rfl (fun c_o => ?_) (fun c_o => ?_)
            · refine e_iload dX9_best_88 rfl ?_
              refine e_istore dX9_best_90 (by decide) rfl ?_
              refine e_iinc (v := nI (k + 1)) dX9_best_92 rfl (fx_inc _) (by decide) rfl ?_
              refine e_goto 44 dX9_best_95 rfl ?_
              have e : p_bst (fun x => (p_sN (fun x => p_can t.1 t.2.1 na x y s) na).testBit x = true) (fun x => p_farA t.1 t.2.1 x y) k o = some k := by first | exact p_bs_none (i_bit1 hB (by omega) c_b) ((p_oi_ne (fun x hx => by have := ho x hx; omega)).mp c_o) | exact p_bs_lt (i_bit1 hB (by omega) c_b) rfl (Int32.not_le.mp c_l)
              rw [p_fold_s e] at hq
              refine e_weak (lv2 := [some (fx_rf Γ 83), some (.int (nI y)), some (.int s), some (.int (nI (p_sN (fun x => p_can t.1 t.2.1 na x y s) na))), some (.int (p_oi (some k))), some (.int (nI (k + 1)))]) ⟨rfl, rfl, rfl, rfl, rfl, rfl, trivial⟩ ?_
              exact ih (k + 1) (some k) (by omega) (fun x hx => by cases hx; omega) hq
            · obtain ⟨b, rfl, hb⟩ : ∃ b, o = some b ∧ b < na := p_osome c_o ho
              refine e_aload_n dX9_best_71 rfl ?_
              refine e_iload dX9_best_72 rfl ?_
              refine e_iload_n dX9_best_74 rfl ?_
              refine e_callV1 (μ' := mX9_differs) (ci := 9) (As := [.int (nI k), .int (nI y)]) dX9_best_75 wl_X9_163 ok_X9_differs rfl rfl (fx_pi_lt (by decide)) (by decide) (Nat.le_of_ble_eq_true rfl) fx_n1 (s_X9_differs (m := m) hL H (x := k) (by omega) (d := y) (by omega)) rfl ?_
              refine e_aload_n dX9_best_78 rfl ?_
              refine e_iload dX9_best_79 rfl ?_
              refine e_iload_n dX9_best_81 rfl ?_
              refine e_callV1 (μ' := mX9_differs) (ci := 9) (As := [.int (nI b), .int (nI y)]) dX9_best_82 wl_X9_163 ok_X9_differs rfl rfl (fx_pi_lt (by decide)) (by decide) (Nat.le_of_ble_eq_true rfl) fx_n1 (s_X9_differs (m := m) hL H (x := b) (by omega) (d := y) (by omega)) rfl ?_
              refine e_icmp_ge 92 dX9_best_85 rfl (fun c_l => ?_) (fun c_l => ?_)
              · refine e_iinc (v := nI (k + 1)) dX9_best_92 rfl (fx_inc _) (by decide) rfl ?_
                refine e_goto 44 dX9_best_95 rfl ?_
                have e : p_bst (fun x => (p_sN (fun x => p_can t.1 t.2.1 na x y s) na).testBit x = true) (fun x => p_farA t.1 t.2.1 x y) k (some b) = some b := p_bs_ge (i_bit1 hB (by omega) c_b) rfl (Int32.not_lt.mpr c_l)
                rw [p_fold_s e] at hq
                refine e_weak (lv2 := [some (fx_rf Γ 83), some (.int (nI y)), some (.int s), some (.int (nI (p_sN (fun x => p_can t.1 t.2.1 na x y s) na))), some (.int (p_oi (some b))), some (.int (nI (k + 1)))]) ⟨rfl, rfl, rfl, rfl, rfl, rfl, trivial⟩ ?_
                exact ih (k + 1) (some b) (by omega) ho hq
              · refine e_iload dX9_best_88 rfl ?_
                refine e_istore dX9_best_90 (by decide) rfl ?_
                refine e_iinc (v := nI (k + 1)) dX9_best_92 rfl (fx_inc _) (by decide) rfl ?_
                refine e_goto 44 dX9_best_95 rfl ?_
                have e : p_bst (fun x => (p_sN (fun x => p_can t.1 t.2.1 na x y s) na).testBit x = true) (fun x => p_farA t.1 t.2.1 x y) k (some b) = some k := by first | exact p_bs_none (i_bit1 hB (by omega) c_b) ((p_oi_ne (fun x hx => by have := ho x hx; omega)).mp c_o) | exact p_bs_lt (i_bit1 hB (by omega) c_b) rfl (Int32.not_le.mp c_l)
                rw [p_fold_s e] at hq
                refine e_weak (lv2 := [some (fx_rf Γ 83), some (.int (nI y)), some (.int s), some (.int (nI (p_sN (fun x => p_can t.1 t.2.1 na x y s) na))), some (.int (p_oi (some k))), some (.int (nI (k + 1)))]) ⟨rfl, rfl, rfl, rfl, rfl, rfl, trivial⟩ ?_
                exact ih (k + 1) (some k) (by omega) (fun x hx => by cases hx; omega) hq
          · refine e_goto 92 dX9_best_62 rfl ?_
            refine e_iinc (v := nI (k + 1)) dX9_best_92 rfl (fx_inc _) (by decide) rfl ?_
            refine e_goto 44 dX9_best_95 rfl ?_
            have e : p_bst (fun x => (p_sN (fun x => p_can t.1 t.2.1 na x y s) na).testBit x = true) (fun x => p_farA t.1 t.2.1 x y) k o = o := p_bs_no (fun h => by rw [(i_bit0 hB (by omega)).mp c_b] at h; cases h)
            rw [p_fold_s e] at hq
            exact ih (k + 1) o (by omega) ho hq
      exact lp na 0 none (by omega) (fun x hx => by cases hx) (by unfold q_best p_bS; rw [if_neg (Decidable.not_not.mpr c_1), if_pos c_2, if_pos rfl, p_ix_n (show y < 2 ^ 31 by omega)])
    · refine e_aload_n dX9_best_24 rfl ?_
      refine e_bipush dX9_best_25 kcb_m6 ?_
      refine e_callV1 (μ' := mX9_noTen) (ci := 9) (As := [.int (-6)]) dX9_best_27 wl_X9_190 ok_X9_noTen rfl rfl (fx_pi_lt (by decide)) (by decide) (Nat.le_of_ble_eq_true rfl) fx_n1 (s_X9_noTen (m := m) hL (b := 6) (z := (-6)) (by decide) (by decide)) rfl ?_
      have hq : q_best t.1 t.2.1 na nd d s = (6, (-6) - 10) := by first | (unfold q_best p_bS; (try dsimp only); (try (first | rw [if_pos c_1] | rw [if_neg c_1] | rw [if_neg (Decidable.not_not.mpr c_1)])); (try (first | rw [if_pos c_2] | rw [if_neg c_2] | rw [if_neg (Decidable.not_not.mpr c_2)])); (first | done | rfl | decide)) | (exfalso; first | contradiction | (simp_all; done))
      exact e_iret dX9_best_30 rfl rfl rfl ⟨by rw [hq], by rw [hq]; exact (fx_mno_n (by first | decide | omega)).symm⟩
  · refine e_aload_n dX9_best_8 rfl ?_
    refine e_iconst dX9_best_9 kci_m1 ?_
    refine e_callV1 (μ' := mX9_noTen) (ci := 9) (As := [.int (-1)]) dX9_best_10 wl_X9_190 ok_X9_noTen rfl rfl (fx_pi_lt (by decide)) (by decide) (Nat.le_of_ble_eq_true rfl) fx_n1 (s_X9_noTen (m := m) hL (b := 1) (z := (-1)) (by decide) (by decide)) rfl ?_
    have hq : q_best t.1 t.2.1 na nd d s = (1, (-1) - 10) := by first | (unfold q_best p_bS; (try dsimp only); (try (first | rw [if_pos c_1] | rw [if_neg c_1] | rw [if_neg (Decidable.not_not.mpr c_1)])); (first | done | rfl | decide)) | (exfalso; first | contradiction | (simp_all; done))
    exact e_iret dX9_best_13 rfl rfl rfl ⟨by rw [hq], by rw [hq]; exact (fx_mno_n (by first | decide | omega)).symm⟩
