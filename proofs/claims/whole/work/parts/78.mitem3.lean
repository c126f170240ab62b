set_option maxRecDepth 100000 in
set_option maxHeartbeats 600000 in
theorem s_X9_item42 {Γ : fx_G} {m : fx_M} (hL : fx_Lay m) {na nd : Nat} {t : p_Sg} {k n p : Nat} {tx : Nat → Int32} (H : fx_MS m na nd t) (R : fx_MR m k n tx p) (W : fx_WC m) (hA : p_spI tx n [97, 114, 109] 3 0 p = none → na < 8) (hD : p_spI tx n [100, 111, 108, 108] 4 0 p = none → nd < 5) : fx_E Γ mX9_item 4 119 119 (fx_IP k n tx m (p_it tx n p na nd t)) 119 m 42 [some (fx_rf Γ 83), none, none, none] [] := by
  have h9 := H.2.2.2.2.2.1
  have h5 := H.2.2.2.2.2.2.1
  have hn := R.2.2.2.2.1
  have hk := R.2.2.2.1
  have hp := R.2.2.2.2.2.1
  refine e_aload_n dX9_item_42 rfl ?_
  refine e_callV (μ' := mX9_word) (ci := 9) (As := []) dX9_item_43 wl_X9_221 ok_X9_word rfl rfl (fx_pi_lt (by decide)) (by decide) (Nat.le_of_ble_eq_true rfl) fx_n1 (s_X9_word (m := m) hL R W) rfl (fun r_ m_ hpost => ?_)
  revert r_ m_
  intro r_ m1 hpost
  obtain ⟨⟨ow, pw⟩, hWD⟩ : ∃ x, x = p_wd tx n p [(0, [97, 114, 109, 32]), (1, [100, 111, 108, 108, 32]), (2, [111, 110, 32]), (3, [111, 102, 102, 32]), (4, [108, 105, 101, 115, 32])] p := ⟨_, rfl⟩
  have hWI := p_wd_it (tx := tx) (n := n) (p := p) (na := na) (nd := nd) (t := t) hA hD
  rw [← hWD] at hpost hWI
  obtain ⟨rfl, Kz1, hw1, hn1⟩ := hpost
  have K1 := Kz1.kt
  have hL1 := K1.lay hL
  have H1 := Kz1.ms H
  have W1 := K1.wc W
  refine e_istore_n dX9_item_46 (by decide) rfl ?_
  refine e_iload_n dX9_item_47 rfl ?_
  refine e_iconst dX9_item_48 kci_m1 ?_
  refine e_icmp_ne 54 dX9_item_49 rfl (fun c_w => ?_) (fun c_w => ?_)
  · rcases hWI with ⟨f, hf, hi⟩ | ⟨hf, hb, hr, hi⟩ | ⟨hf, hb, hr, hi⟩ | ⟨hf, hb, hi⟩ | ⟨hf, hb, hi⟩ | ⟨hf, hb, hi⟩
    · exact absurd (by cases hf; rfl) c_w
    · cases hf
      refine e_iconst dX9_item_54 kci_0 ?_
      refine e_istore_n dX9_item_55 (by decide) rfl ?_
      refine e_iload_n dX9_item_56 rfl ?_
      refine e_aload_n dX9_item_57 rfl ?_
      refine e_getr (o2 := 107) dX9_item_58 ff_X9_87 rfl (fx_pi_lt (by decide)) (by decide) rfl (hL1 _ _ _ rfl) ?_
      refine e_iload_n dX9_item_61 rfl ?_
      refine e_ialdv (j := 0) (v := 6) dX9_item_62 rfl (fx_pi_lt (by decide)) rfl (by decide) (by decide) (W1.2.1 0 (by decide)) ?_
      refine e_icmp_ge 165 dX9_item_63 rfl (fun h => absurd h (by decide)) (fun _ => ?_)
      refine e_iload_n dX9_item_66 rfl ?_
      refine e_if_le 120 dX9_item_67 rfl (fun _ => ?_) (fun h => absurd (by decide) h)
      have R1 : fx_MR m1 k n tx (p + 3 + 1) := K1.mr R (hw1 _ rfl).1 (hw1 _ rfl).2
      rw [hi]
      have e := s_X9_itemL0 (Γ := Γ) (w0 := p) (q0 := p + 3) hL (by omega) 5 0 m1 rfl K1 H1 R1 W1 hb (fun x hx => absurd hx (Nat.not_lt_zero _)) rfl
      exact e
    · cases hf
      refine e_iconst dX9_item_54 kci_0 ?_
      refine e_istore_n dX9_item_55 (by decide) rfl ?_
      refine e_iload_n dX9_item_56 rfl ?_
      refine e_aload_n dX9_item_57 rfl ?_
      refine e_getr (o2 := 107) dX9_item_58 ff_X9_87 rfl (fx_pi_lt (by decide)) (by decide) rfl (hL1 _ _ _ rfl) ?_
      refine e_iload_n dX9_item_61 rfl ?_
      refine e_ialdv (j := 1) (v := 7) dX9_item_62 rfl (fx_pi_lt (by decide)) rfl (by decide) (by decide) (W1.2.1 1 (by decide)) ?_
      refine e_icmp_ge 165 dX9_item_63 rfl (fun h => absurd h (by decide)) (fun _ => ?_)
      refine e_iload_n dX9_item_66 rfl ?_
      refine e_if_le 120 dX9_item_67 rfl (fun _ => ?_) (fun h => absurd (by decide) h)
      have R1 : fx_MR m1 k n tx (p + 4 + 1) := K1.mr R (hw1 _ rfl).1 (hw1 _ rfl).2
      rw [hi]
      have e := s_X9_itemL1 (Γ := Γ) (w0 := p) (q0 := p + 4) hL (by omega) 6 0 m1 rfl K1 H1 R1 W1 hb (fun x hx => absurd hx (Nat.not_lt_zero _)) rfl
      exact e
    · cases hf
      refine e_iconst dX9_item_54 kci_0 ?_
      refine e_istore_n dX9_item_55 (by decide) rfl ?_
      refine e_iload_n dX9_item_56 rfl ?_
      refine e_aload_n dX9_item_57 rfl ?_
      refine e_getr (o2 := 107) dX9_item_58 ff_X9_87 rfl (fx_pi_lt (by decide)) (by decide) rfl (hL1 _ _ _ rfl) ?_
      refine e_iload_n dX9_item_61 rfl ?_
      refine e_ialdv (j := 2) (v := 2) dX9_item_62 rfl (fx_pi_lt (by decide)) rfl (by decide) (by decide) (W1.2.1 2 (by decide)) ?_
      refine e_icmp_ge 165 dX9_item_63 rfl (fun h => absurd h (by decide)) (fun _ => ?_)
      refine e_iload_n dX9_item_66 rfl ?_
      refine e_if_le 120 dX9_item_67 rfl (fun _ => ?_) (fun h => absurd (by decide) h)
      have R1 : fx_MR m1 k n tx (p + 2 + 1) := K1.mr R (hw1 _ rfl).1 (hw1 _ rfl).2
      rw [hi]
      have e := s_X9_itemL2 (Γ := Γ) hL1 H1 R1 W1 hb
      exact fx_E.post (fun r mm h => ⟨h.1, K1.trans h.2.1, h.2.2⟩) e
    · cases hf
      refine e_iconst dX9_item_54 kci_0 ?_
      refine e_istore_n dX9_item_55 (by decide) rfl ?_
      refine e_iload_n dX9_item_56 rfl ?_
      refine e_aload_n dX9_item_57 rfl ?_
      refine e_getr (o2 := 107) dX9_item_58 ff_X9_87 rfl (fx_pi_lt (by decide)) (by decide) rfl (hL1 _ _ _ rfl) ?_
      refine e_iload_n dX9_item_61 rfl ?_
      refine e_ialdv (j := 3) (v := 1) dX9_item_62 rfl (fx_pi_lt (by decide)) rfl (by decide) (by decide) (W1.2.1 3 (by decide)) ?_
      refine e_icmp_ge 165 dX9_item_63 rfl (fun h => absurd h (by decide)) (fun _ => ?_)
      refine e_iload_n dX9_item_66 rfl ?_
      refine e_if_le 120 dX9_item_67 rfl (fun _ => ?_) (fun h => absurd (by decide) h)
      have R1 : fx_MR m1 k n tx (p + 3 + 1) := K1.mr R (hw1 _ rfl).1 (hw1 _ rfl).2
      rw [hi]
      have e := s_X9_itemL3 (Γ := Γ) hL1 H1 R1 W1 hb
      exact fx_E.post (fun r mm h => ⟨h.1, K1.trans h.2.1, h.2.2⟩) e
    · cases hf
      refine e_iconst dX9_item_54 kci_0 ?_
      refine e_istore_n dX9_item_55 (by decide) rfl ?_
      refine e_iload_n dX9_item_56 rfl ?_
      refine e_aload_n dX9_item_57 rfl ?_
      refine e_getr (o2 := 107) dX9_item_58 ff_X9_87 rfl (fx_pi_lt (by decide)) (by decide) rfl (hL1 _ _ _ rfl) ?_
      refine e_iload_n dX9_item_61 rfl ?_
      refine e_ialdv (j := 4) (v := 2) dX9_item_62 rfl (fx_pi_lt (by decide)) rfl (by decide) (by decide) (W1.2.1 4 (by decide)) ?_
      refine e_icmp_ge 165 dX9_item_63 rfl (fun h => absurd h (by decide)) (fun _ => ?_)
      refine e_iload_n dX9_item_66 rfl ?_
      refine e_if_le 120 dX9_item_67 rfl (fun _ => ?_) (fun h => absurd (by decide) h)
      have R1 : fx_MR m1 k n tx (p + 4 + 1) := K1.mr R (hw1 _ rfl).1 (hw1 _ rfl).2
      rw [hi]
      have e := s_X9_itemL4 (Γ := Γ) hL1 H1 R1 W1 hb
      exact fx_E.post (fun r mm h => ⟨h.1, K1.trans h.2.1, h.2.2⟩) e
  · refine e_iconst dX9_item_52 kci_0 ?_
    have c_w : p_oi ow = -1 := c_w
    obtain ⟨f, hf, hi⟩ := hWI.resolve_right (fun h => by rcases h with ⟨hf, _⟩ | ⟨hf, _⟩ | ⟨hf, _⟩ | ⟨hf, _⟩ | ⟨hf, _⟩ <;> cases hf <;> first | exact nI_nm1 (b := 0) (by decide) c_w | exact nI_nm1 (b := 1) (by decide) c_w | exact nI_nm1 (b := 2) (by decide) c_w | exact nI_nm1 (b := 3) (by decide) c_w | exact nI_nm1 (b := 4) (by decide) c_w)
    cases hf
    exact e_iret dX9_item_53 rfl rfl rfl (fx_IP.no hi K1 (hn1 rfl))
theorem p_spI_0 {tx : Nat → Int32} {n p j : Nat} {w : List Int32} (h : p_spI tx n w (j + 1) 0 p = none) : p_tc tx n p = w.getD 0 0 := by
  unfold p_spI at h
  split at h
  · assumption
  · cases h
theorem p_it_fa {tx : Nat → Int32} {n p na nd : Nat} {t : p_Sg} (h : p_spI tx n [97, 114, 109] 3 0 p = none) (h8 : ¬ na < 8) : (p_it tx n p na nd t).1 = some p := by
  have h0 : p_tc tx n p = 97 := p_spI_0 h
  unfold p_it
  rw [if_pos h0, h]
  simp only []
  unfold p_armI
  rw [if_pos h8]
theorem p_it_fd {tx : Nat → Int32} {n p na nd : Nat} {t : p_Sg} (h : p_spI tx n [100, 111, 108, 108] 4 0 p = none) (h5 : ¬ nd < 5) : (p_it tx n p na nd t).1 = some p := by
  have h0 : p_tc tx n p = 100 := p_spI_0 h
  unfold p_it
  rw [if_neg (show ¬ p_tc tx n p = 97 by rw [h0]; decide), if_pos h0, h]
  simp only []
  unfold p_dollI
  rw [if_pos h5]
set_option maxRecDepth 100000 in
set_option maxHeartbeats 600000 in
theorem s_X9_item {Γ : fx_G} {m : fx_M} (hL : fx_Lay m) {na nd : Nat} {t : p_Sg} (H : fx_MS m na nd t) {k n p : Nat} {tx : Nat → Int32} (R : fx_MR m k n tx p) (W : fx_WC m) (h8b : na ≤ 8) : fx_Ct Γ mX9_item 4 119 119 [fx_rf Γ 83] m (fx_IP k n tx m (p_it tx n p na nd t)) := by
  refine fx_Ct.of (j := 3) (by decide) (Nat.le_of_ble_eq_true rfl) (Nat.le_of_ble_eq_true rfl) ?_
  show fx_E Γ mX9_item 4 119 119 _ 119 m 0 [some (fx_rf Γ 83), none, none, none] []
  have h9 := H.2.2.2.2.2.1
  have h5 := H.2.2.2.2.2.2.1
  have hn := R.2.2.2.2.1
  have hp := R.2.2.2.2.2.1
  refine e_aload_n dX9_item_0 rfl ?_
  refine e_iconst dX9_item_1 kci_0 ?_
  refine e_callV1 (μ' := mX9_stands) (ci := 9) (As := [.int 0]) dX9_item_2 wl_X9_218 ok_X9_stands rfl rfl (fx_pi_lt (by decide)) (by decide) (Nat.le_of_ble_eq_true rfl) fx_n1 (s_X9_stands0 (m := m) hL R W) rfl ?_
  refine e_if_eqB 17 dX9_item_5 rfl (fun c_a => ?_) (fun c_a => ?_)
  · refine e_aload_n dX9_item_17 rfl ?_
    refine e_iconst dX9_item_18 kci_1 ?_
    refine e_callV1 (μ' := mX9_stands) (ci := 9) (As := [.int 1]) dX9_item_19 wl_X9_218 ok_X9_stands rfl rfl (fx_pi_lt (by decide)) (by decide) (Nat.le_of_ble_eq_true rfl) fx_n1 (s_X9_stands1 (m := m) hL R W) rfl ?_
    refine e_if_eqB 42 dX9_item_22 rfl (fun c_d => ?_) (fun c_d => ?_)
    · exact s_X9_item42 hL H R W (fun h => absurd h c_a) (fun h => absurd h c_d)
    · refine e_aload_n dX9_item_25 rfl ?_
      refine e_getv (v := nI nd) dX9_item_26 ff_X9_129 rfl (fx_pi_lt (by decide)) (by decide) rfl H.2.1 ?_
      refine e_iconst dX9_item_29 kci_5 ?_
      refine e_icmp_ne 42 dX9_item_30 rfl (fun c_5 => ?_) (fun c_5 => ?_)
      · exact s_X9_item42 hL H R W (fun h => absurd h c_a) (fun h => by have c5 := c_5; have : ¬ nd = 5 := fun e => c5 (by rw [e]; rfl); omega)
      · refine e_aload_n dX9_item_33 rfl ?_
        refine e_aload_n dX9_item_34 rfl ?_
        refine e_getv (v := nI p) dX9_item_35 ff_X9_196 rfl (fx_pi_lt (by decide)) (by decide) rfl R.2.2.1 ?_
        refine e_callV1 (μ' := mX9_wrong) (ci := 9) (As := [.int (nI p)]) dX9_item_38 wl_X9_212 ok_X9_wrong rfl rfl (fx_pi_lt (by decide)) (by decide) (Nat.le_of_ble_eq_true rfl) fx_n1 (s_X9_wrong (m := m) hL (nI p)) rfl ?_
        have e5 : nd = 5 := (nI_eq (b := 5) (by omega) (by decide)).mp c_5
        have hE : (p_it tx n p na nd t).1 = some p := p_it_fd c_d (by omega)
        exact e_iret dX9_item_41 rfl rfl rfl (fx_IP.no hE ((fx_KT.refl m).sI (by omega)) fx_rd0)
  · refine e_aload_n dX9_item_8 rfl ?_
    refine e_getv (v := nI na) dX9_item_9 ff_X9_126 rfl (fx_pi_lt (by decide)) (by decide) rfl H.1 ?_
    refine e_bipush dX9_item_12 kcb_8 ?_
    refine e_icmp_eq 33 dX9_item_14 rfl (fun c_8 => ?_) (fun c_8 => ?_)
    · refine e_aload_n dX9_item_33 rfl ?_
      refine e_aload_n dX9_item_34 rfl ?_
      refine e_getv (v := nI p) dX9_item_35 ff_X9_196 rfl (fx_pi_lt (by decide)) (by decide) rfl R.2.2.1 ?_
      refine e_callV1 (μ' := mX9_wrong) (ci := 9) (As := [.int (nI p)]) dX9_item_38 wl_X9_212 ok_X9_wrong rfl rfl (fx_pi_lt (by decide)) (by decide) (Nat.le_of_ble_eq_true rfl) fx_n1 (s_X9_wrong (m := m) hL (nI p)) rfl ?_
      have e8 : na = 8 := (nI_eq (b := 8) (by omega) (by decide)).mp c_8
      have hE : (p_it tx n p na nd t).1 = some p := p_it_fa c_a (by omega)
      exact e_iret dX9_item_41 rfl rfl rfl (fx_IP.no hE ((fx_KT.refl m).sI (by omega)) fx_rd0)
    · refine e_aload_n dX9_item_17 rfl ?_
      refine e_iconst dX9_item_18 kci_1 ?_
      refine e_callV1 (μ' := mX9_stands) (ci := 9) (As := [.int 1]) dX9_item_19 wl_X9_218 ok_X9_stands rfl rfl (fx_pi_lt (by decide)) (by decide) (Nat.le_of_ble_eq_true rfl) fx_n1 (s_X9_stands1 (m := m) hL R W) rfl ?_
      refine e_if_eqB 42 dX9_item_22 rfl (fun c_d => ?_) (fun c_d => ?_)
      · exact s_X9_item42 hL H R W (fun h => by have c8 := c_8; have : ¬ na = 8 := fun e => c8 (by rw [e]; rfl); omega) (fun h => absurd h c_d)
      · refine e_aload_n dX9_item_25 rfl ?_
        refine e_getv (v := nI nd) dX9_item_26 ff_X9_129 rfl (fx_pi_lt (by decide)) (by decide) rfl H.2.1 ?_
        refine e_iconst dX9_item_29 kci_5 ?_
        refine e_icmp_ne 42 dX9_item_30 rfl (fun c_5 => ?_) (fun c_5 => ?_)
        · exact s_X9_item42 hL H R W (fun h => by have c8 := c_8; have : ¬ na = 8 := fun e => c8 (by rw [e]; rfl); omega) (fun h => by have c5 := c_5; have : ¬ nd = 5 := fun e => c5 (by rw [e]; rfl); omega)
        · refine e_aload_n dX9_item_33 rfl ?_
          refine e_aload_n dX9_item_34 rfl ?_
          refine e_getv (v := nI p) dX9_item_35 ff_X9_196 rfl (fx_pi_lt (by decide)) (by decide) rfl R.2.2.1 ?_
          refine e_callV1 (μ' := mX9_wrong) (ci := 9) (As := [.int (nI p)]) dX9_item_38 wl_X9_212 ok_X9_wrong rfl rfl (fx_pi_lt (by decide)) (by decide) (Nat.le_of_ble_eq_true rfl) fx_n1 (s_X9_wrong (m := m) hL (nI p)) rfl ?_
          have e5 : nd = 5 := (nI_eq (b := 5) (by omega) (by decide)).mp c_5
          have hE : (p_it tx n p na nd t).1 = some p := p_it_fd c_d (by omega)
          exact e_iret dX9_item_41 rfl rfl rfl (fx_IP.no hE ((fx_KT.refl m).sI (by omega)) fx_rd0)
