def q_mQue (mi te : Nat → Int32) (nd : Nat) (s : p_Qs) (i : Int32) : Nat × Int32 := if ¬ p_in i (-1) (nI nd - 1) then p_no 5 else (0, if i = -1 then (p_qs mi te nd nd 0 0 0 (-1, s.2)).1 else (p_qs mi te nd nd 0 0 0 (-1, s.2)).2.2 (p_ix i))
theorem p_in_m {x : Int32} {n : Nat} (h : n < 2 ^ 31) (h1 : p_in x (-1) (nI n - 1)) (h2 : ¬ x = -1) : p_el x (nI n) := by
  rw [← p_in_el h]
  refine ⟨?_, h1.2⟩
  have a := Int32.le_iff_toInt_le.mp h1.1
  rw [show (-1 : Int32).toInt = -1 from rfl] at a
  have b : x.toInt ≠ -1 := fun e => h2 (Int32.toInt_inj.mp (by rw [e]; rfl))
  rw [Int32.le_iff_toInt_le, show (0 : Int32).toInt = 0 from rfl]
  omega
theorem fx_KW.l {m m' : fx_M} {v : Int32} (h : fx_KW m m') : fx_KW m (fx_sI m' 83 47 v) := ⟨h.1, fun o h1 h2 h3 => by rw [fx_sI_n _ _ _ h1]; exact h.2.1 o h1 h2 h3, fun j hj => by rw [fx_rd2 (Ne.symm hj)]; exact h.2.2 j hj⟩
theorem p_stq_l {m : fx_M} {v : Int32} : p_stq (fx_sI m 83 47 v) = (v, (p_stq m).2) := by
  unfold p_stq
  rw [fx_rd0, fx_sI_n _ _ _ (by decide), fx_sI_n _ _ _ (by decide)]
set_option maxRecDepth 100000 in
set_option maxHeartbeats 600000 in
theorem s_X9_queue {Γ : fx_G} {m : fx_M} (hL : fx_Lay m) {na nd : Nat} {t : p_Sg} (H : fx_MS m na nd t) (i : Int32) : fx_Ct Γ mX9_queue 6 119 119 [fx_rf Γ 83, .int i] m (fun r m' => r = some (.int (q_mQue (fun d => t.2.1 d 4) (fun d => t.2.1 d 5) nd (p_stq m) i).2) ∧ fx_KW (fx_mno m (q_mQue (fun d => t.2.1 d 4) (fun d => t.2.1 d 5) nd (p_stq m) i).1) m') := by
  refine fx_Ct.of (j := 0) (by decide) (Nat.le_of_ble_eq_true rfl) (Nat.le_of_ble_eq_true rfl) ?_
  show fx_E Γ mX9_queue 6 119 119 _ 119 m 0 [some (fx_rf Γ 83), some (.int i)] []
  have h9 := H.2.2.2.2.2.1
  have h5 := H.2.2.2.2.2.2.1
  refine e_aload_n dX9_queue_0 rfl ?_
  refine e_iload_n dX9_queue_1 rfl ?_
  refine e_iconst dX9_queue_2 kci_m1 ?_
  refine e_aload_n dX9_queue_3 rfl ?_
  refine e_getv (v := nI nd) dX9_queue_4 ff_X9_129 rfl (fx_pi_lt (by decide)) (by decide) rfl H.2.1 ?_
  refine e_iconst dX9_queue_7 kci_1 ?_
  refine e_isub dX9_queue_8 ?_
  refine e_callV1 (μ' := mX9_isFrom) (ci := 9) (As := [.int i, .int (-1), .int ((nI nd) - 1)]) dX9_queue_9 wl_X9_172 ok_X9_isFrom rfl rfl (fx_pi_lt (by decide)) (by decide) (Nat.le_of_ble_eq_true rfl) fx_n1 (s_X9_isFrom (m := m) hL i (-1) ((nI nd) - 1)) rfl ?_
  refine e_if_neB 22 dX9_queue_12 rfl (fun c_i => ?_) (fun c_i => ?_)
  · refine e_aload_n dX9_queue_22 rfl ?_
    refine e_iconst dX9_queue_23 kci_m1 ?_
    refine e_put dX9_queue_24 ff_X9_266 rfl (fx_pi_lt (by decide)) (by decide) rfl (Or.inl rfl) ?_
    rcases (by omega : nd = 0 ∨ nd = 1 ∨ nd = 2 ∨ nd = 3 ∨ nd = 4 ∨ nd = 5) with rfl | rfl | rfl | rfl | rfl | rfl
    · have hLs : fx_Lay (fx_sI m 83 47 (-1)) := (fx_KW.refl m).l.lay hL
      have Hs : fx_MS (fx_sI m 83 47 (-1)) na 0 t := (fx_KW.refl m).l.ms H
      refine e_aload_n dX9_queue_27 rfl ?_
      refine e_iconst dX9_queue_28 kci_0 ?_
      refine e_iconst dX9_queue_29 kci_0 ?_
      refine e_iconst dX9_queue_30 kci_0 ?_
      refine e_iconst dX9_queue_31 kci_0 ?_
      refine e_callV (μ' := mX9_queues) (ci := 9) (As := [.int 0, .int 0, .int 0, .int 0]) dX9_queue_32 wl_X9_269 ok_X9_queues rfl rfl (fx_pi_lt (by decide)) (by decide) (Nat.le_of_ble_eq_true rfl) fx_n1 (s_X9_queues0 (m := (fx_sI m 83 47 (-1))) hLs Hs (g := 0) (Nat.two_pow_pos _) 0 0) rfl (fun r_ m_ hpost => ?_)
      revert r_ m_
      intro r_ m2 hpost
      obtain ⟨rfl, e2, K2⟩ := hpost
      rw [p_stq_l] at e2
      have KK := (fx_KW.refl m).l (v := -1) |>.trans K2
      have hL2 := KK.lay hL
      refine e_iload_n dX9_queue_35 rfl ?_
      refine e_iconst dX9_queue_36 kci_m1 ?_
      refine e_icmp_ne 47 dX9_queue_37 rfl (fun c_1 => ?_) (fun c_1 => ?_)
      · obtain ⟨y, hy, ey⟩ := p_el_ex (p_in_m (by omega) c_i c_1) (by omega)
        subst ey
        refine e_aload_n dX9_queue_47 rfl ?_
        refine e_getr (o2 := 117) dX9_queue_48 ff_X9_120 rfl (fx_pi_lt (by decide)) (by decide) rfl (hL2 _ _ _ rfl) ?_
        refine e_iload_n dX9_queue_51 rfl ?_
        refine e_iald (j := y) dX9_queue_52 rfl (fx_pi_lt (by decide)) rfl (by omega) (by decide) ?_
        have hq : q_mQue (fun d => t.2.1 d 4) (fun d => t.2.1 d 5) 0 (p_stq m) (nI y) = (0, m2.1 117 y) := by unfold q_mQue; rw [if_neg (Decidable.not_not.mpr c_i), if_neg c_1, p_ix_n (show y < 2 ^ 31 by omega)]; rw [← e2]; rfl
        exact e_iret dX9_queue_53 rfl rfl rfl ⟨by rw [hq], by rw [hq]; exact KK⟩
      · refine e_aload_n dX9_queue_40 rfl ?_
        refine e_get dX9_queue_41 ff_X9_266 rfl (fx_pi_lt (by decide)) (by decide) rfl ?_
        refine e_goto 53 dX9_queue_44 rfl ?_
        have hq : q_mQue (fun d => t.2.1 d 4) (fun d => t.2.1 d 5) 0 (p_stq m) i = (0, m2.1 83 47) := by unfold q_mQue; rw [if_neg (Decidable.not_not.mpr c_i), if_pos c_1]; rw [← e2]; rfl
        exact e_iret dX9_queue_53 rfl rfl rfl ⟨by rw [hq], by rw [hq]; exact KK⟩
    · have hLs : fx_Lay (fx_sI m 83 47 (-1)) := (fx_KW.refl m).l.lay hL
      have Hs : fx_MS (fx_sI m 83 47 (-1)) na 1 t := (fx_KW.refl m).l.ms H
      refine e_aload_n dX9_queue_27 rfl ?_
      refine e_iconst dX9_queue_28 kci_0 ?_
      refine e_iconst dX9_queue_29 kci_0 ?_
      refine e_iconst dX9_queue_30 kci_0 ?_
      refine e_iconst dX9_queue_31 kci_0 ?_
      refine e_callV (μ' := mX9_queues) (ci := 9) (As := [.int 0, .int 0, .int 0, .int 0]) dX9_queue_32 wl_X9_269 ok_X9_queues rfl rfl (fx_pi_lt (by decide)) (by decide) (Nat.le_of_ble_eq_true rfl) fx_n1 (s_X9_queues1 (m := (fx_sI m 83 47 (-1))) hLs Hs (q := 0) (by omega) (g := 0) (Nat.two_pow_pos _) 0 0) rfl (fun r_ m_ hpost => ?_)
      revert r_ m_
      intro r_ m2 hpost
      obtain ⟨rfl, e2, K2⟩ := hpost
      rw [p_stq_l] at e2
      have KK := (fx_KW.refl m).l (v := -1) |>.trans K2
      have hL2 := KK.lay hL
      refine e_iload_n dX9_queue_35 rfl ?_
      refine e_iconst dX9_queue_36 kci_m1 ?_
      refine e_icmp_ne 47 dX9_queue_37 rfl (fun c_1 => ?_) (fun c_1 => ?_)
      · obtain ⟨y, hy, ey⟩ := p_el_ex (p_in_m (by omega) c_i c_1) (by omega)
        subst ey
        refine e_aload_n dX9_queue_47 rfl ?_
        refine e_getr (o2 := 117) dX9_queue_48 ff_X9_120 rfl (fx_pi_lt (by decide)) (by decide) rfl (hL2 _ _ _ rfl) ?_
        refine e_iload_n dX9_queue_51 rfl ?_
        refine e_iald (j := y) dX9_queue_52 rfl (fx_pi_lt (by decide)) rfl (by omega) (by decide) ?_
        have hq : q_mQue (fun d => t.2.1 d 4) (fun d => t.2.1 d 5) 1 (p_stq m) (nI y) = (0, m2.1 117 y) := by unfold q_mQue; rw [if_neg (Decidable.not_not.mpr c_i), if_neg c_1, p_ix_n (show y < 2 ^ 31 by omega)]; rw [← e2]; rfl
        exact e_iret dX9_queue_53 rfl rfl rfl ⟨by rw [hq], by rw [hq]; exact KK⟩
      · refine e_aload_n dX9_queue_40 rfl ?_
        refine e_get dX9_queue_41 ff_X9_266 rfl (fx_pi_lt (by decide)) (by decide) rfl ?_
        refine e_goto 53 dX9_queue_44 rfl ?_
        have hq : q_mQue (fun d => t.2.1 d 4) (fun d => t.2.1 d 5) 1 (p_stq m) i = (0, m2.1 83 47) := by unfold q_mQue; rw [if_neg (Decidable.not_not.mpr c_i), if_pos c_1]; rw [← e2]; rfl
        exact e_iret dX9_queue_53 rfl rfl rfl ⟨by rw [hq], by rw [hq]; exact KK⟩
    · have hLs : fx_Lay (fx_sI m 83 47 (-1)) := (fx_KW.refl m).l.lay hL
      have Hs : fx_MS (fx_sI m 83 47 (-1)) na 2 t := (fx_KW.refl m).l.ms H
      refine e_aload_n dX9_queue_27 rfl ?_
      refine e_iconst dX9_queue_28 kci_0 ?_
      refine e_iconst dX9_queue_29 kci_0 ?_
      refine e_iconst dX9_queue_30 kci_0 ?_
      refine e_iconst dX9_queue_31 kci_0 ?_
      refine e_callV (μ' := mX9_queues) (ci := 9) (As := [.int 0, .int 0, .int 0, .int 0]) dX9_queue_32 wl_X9_269 ok_X9_queues rfl rfl (fx_pi_lt (by decide)) (by decide) (Nat.le_of_ble_eq_true rfl) fx_n1 (s_X9_queues2 (m := (fx_sI m 83 47 (-1))) hLs Hs (q := 0) (by omega) (g := 0) (Nat.two_pow_pos _) 0 0) rfl (fun r_ m_ hpost => ?_)
      revert r_ m_
      intro r_ m2 hpost
      obtain ⟨rfl, e2, K2⟩ := hpost
      rw [p_stq_l] at e2
      have KK := (fx_KW.refl m).l (v := -1) |>.trans K2
      have hL2 := KK.lay hL
      refine e_iload_n dX9_queue_35 rfl ?_
      refine e_iconst dX9_queue_36 kci_m1 ?_
      refine e_icmp_ne 47 dX9_queue_37 rfl (fun c_1 => ?_) (fun c_1 => ?_)
      · obtain ⟨y, hy, ey⟩ := p_el_ex (p_in_m (by omega) c_i c_1) (by omega)
        subst ey
        refine e_aload_n dX9_queue_47 rfl ?_
        refine e_getr (o2 := 117) dX9_queue_48 ff_X9_120 rfl (fx_pi_lt (by decide)) (by decide) rfl (hL2 _ _ _ rfl) ?_
        refine e_iload_n dX9_queue_51 rfl ?_
        refine e_iald (j := y) dX9_queue_52 rfl (fx_pi_lt (by decide)) rfl (by omega) (by decide) ?_
        have hq : q_mQue (fun d => t.2.1 d 4) (fun d => t.2.1 d 5) 2 (p_stq m) (nI y) = (0, m2.1 117 y) := by unfold q_mQue; rw [if_neg (Decidable.not_not.mpr c_i), if_neg c_1, p_ix_n (show y < 2 ^ 31 by omega)]; rw [← e2]; rfl
        exact e_iret dX9_queue_53 rfl rfl rfl ⟨by rw [hq], by rw [hq]; exact KK⟩
      · refine e_aload_n dX9_queue_40 rfl ?_
        refine e_get dX9_queue_41 ff_X9_266 rfl (fx_pi_lt (by decide)) (by decide) rfl ?_
        refine e_goto 53 dX9_queue_44 rfl ?_
        have hq : q_mQue (fun d => t.2.1 d 4) (fun d => t.2.1 d 5) 2 (p_stq m) i = (0, m2.1 83 47) := by unfold q_mQue; rw [if_neg (Decidable.not_not.mpr c_i), if_pos c_1]; rw [← e2]; rfl
        exact e_iret dX9_queue_53 rfl rfl rfl ⟨by rw [hq], by rw [hq]; exact KK⟩
    · have hLs : fx_Lay (fx_sI m 83 47 (-1)) := (fx_KW.refl m).l.lay hL
      have Hs : fx_MS (fx_sI m 83 47 (-1)) na 3 t := (fx_KW.refl m).l.ms H
      refine e_aload_n dX9_queue_27 rfl ?_
      refine e_iconst dX9_queue_28 kci_0 ?_
      refine e_iconst dX9_queue_29 kci_0 ?_
      refine e_iconst dX9_queue_30 kci_0 ?_
      refine e_iconst dX9_queue_31 kci_0 ?_
      refine e_callV (μ' := mX9_queues) (ci := 9) (As := [.int 0, .int 0, .int 0, .int 0]) dX9_queue_32 wl_X9_269 ok_X9_queues rfl rfl (fx_pi_lt (by decide)) (by decide) (Nat.le_of_ble_eq_true rfl) fx_n1 (s_X9_queues3 (m := (fx_sI m 83 47 (-1))) hLs Hs (q := 0) (by omega) (g := 0) (Nat.two_pow_pos _) 0 0) rfl (fun r_ m_ hpost => ?_)
      revert r_ m_
      intro r_ m2 hpost
      obtain ⟨rfl, e2, K2⟩ := hpost
      rw [p_stq_l] at e2
      have KK := (fx_KW.refl m).l (v := -1) |>.trans K2
      have hL2 := KK.lay hL
      refine e_iload_n dX9_queue_35 rfl ?_
      refine e_iconst dX9_queue_36 kci_m1 ?_
      refine e_icmp_ne 47 dX9_queue_37 rfl (fun c_1 => ?_) (fun c_1 => ?_)
      · obtain ⟨y, hy, ey⟩ := p_el_ex (p_in_m (by omega) c_i c_1) (by omega)
        subst ey
        refine e_aload_n dX9_queue_47 rfl ?_
        refine e_getr (o2 := 117) dX9_queue_48 ff_X9_120 rfl (fx_pi_lt (by decide)) (by decide) rfl (hL2 _ _ _ rfl) ?_
        refine e_iload_n dX9_queue_51 rfl ?_
        refine e_iald (j := y) dX9_queue_52 rfl (fx_pi_lt (by decide)) rfl (by omega) (by decide) ?_
        have hq : q_mQue (fun d => t.2.1 d 4) (fun d => t.2.1 d 5) 3 (p_stq m) (nI y) = (0, m2.1 117 y) := by unfold q_mQue; rw [if_neg (Decidable.not_not.mpr c_i), if_neg c_1, p_ix_n (show y < 2 ^ 31 by omega)]; rw [← e2]; rfl
        exact e_iret dX9_queue_53 rfl rfl rfl ⟨by rw [hq], by rw [hq]; exact KK⟩
      · refine e_aload_n dX9_queue_40 rfl ?_
        refine e_get dX9_queue_41 ff_X9_266 rfl (fx_pi_lt (by decide)) (by decide) rfl ?_
        refine e_goto 53 dX9_queue_44 rfl ?_
        have hq : q_mQue (fun d => t.2.1 d 4) (fun d => t.2.1 d 5) 3 (p_stq m) i = (0, m2.1 83 47) := by unfold q_mQue; rw [if_neg (Decidable.not_not.mpr c_i), if_pos c_1]; rw [← e2]; rfl
        exact e_iret dX9_queue_53 rfl rfl rfl ⟨by rw [hq], by rw [hq]; exact KK⟩
    · have hLs : fx_Lay (fx_sI m 83 47 (-1)) := (fx_KW.refl m).l.lay hL
      have Hs : fx_MS (fx_sI m 83 47 (-1)) na 4 t := (fx_KW.refl m).l.ms H
      refine e_aload_n dX9_queue_27 rfl ?_
      refine e_iconst dX9_queue_28 kci_0 ?_
      refine e_iconst dX9_queue_29 kci_0 ?_
      refine e_iconst dX9_queue_30 kci_0 ?_
      refine e_iconst dX9_queue_31 kci_0 ?_
      refine e_callV (μ' := mX9_queues) (ci := 9) (As := [.int 0, .int 0, .int 0, .int 0]) dX9_queue_32 wl_X9_269 ok_X9_queues rfl rfl (fx_pi_lt (by decide)) (by decide) (Nat.le_of_ble_eq_true rfl) fx_n1 (s_X9_queues4 (m := (fx_sI m 83 47 (-1))) hLs Hs (q := 0) (by omega) (g := 0) (Nat.two_pow_pos _) 0 0) rfl (fun r_ m_ hpost => ?_)
      revert r_ m_
      intro r_ m2 hpost
      obtain ⟨rfl, e2, K2⟩ := hpost
      rw [p_stq_l] at e2
      have KK := (fx_KW.refl m).l (v := -1) |>.trans K2
      have hL2 := KK.lay hL
      refine e_iload_n dX9_queue_35 rfl ?_
      refine e_iconst dX9_queue_36 kci_m1 ?_
      refine e_icmp_ne 47 dX9_queue_37 rfl (fun c_1 => ?_) (fun c_1 => ?_)
      · obtain ⟨y, hy, ey⟩ := p_el_ex (p_in_m (by omega) c_i c_1) (by omega)
        subst ey
        refine e_aload_n dX9_queue_47 rfl ?_
        refine e_getr (o2 := 117) dX9_queue_48 ff_X9_120 rfl (fx_pi_lt (by decide)) (by decide) rfl (hL2 _ _ _ rfl) ?_
        refine e_iload_n dX9_queue_51 rfl ?_
        refine e_iald (j := y) dX9_queue_52 rfl (fx_pi_lt (by decide)) rfl (by omega) (by decide) ?_
        have hq : q_mQue (fun d => t.2.1 d 4) (fun d => t.2.1 d 5) 4 (p_stq m) (nI y) = (0, m2.1 117 y) := by unfold q_mQue; rw [if_neg (Decidable.not_not.mpr c_i), if_neg c_1, p_ix_n (show y < 2 ^ 31 by omega)]; rw [← e2]; rfl
        exact e_iret dX9_queue_53 rfl rfl rfl ⟨by rw [hq], by rw [hq]; exact KK⟩
      · refine e_aload_n dX9_queue_40 rfl ?_
        refine e_get dX9_queue_41 ff_X9_266 rfl (fx_pi_lt (by decide)) (by decide) rfl ?_
        refine e_goto 53 dX9_queue_44 rfl ?_
        have hq : q_mQue (fun d => t.2.1 d 4) (fun d => t.2.1 d 5) 4 (p_stq m) i = (0, m2.1 83 47) := by unfold q_mQue; rw [if_neg (Decidable.not_not.mpr c_i), if_pos c_1]; rw [← e2]; rfl
        exact e_iret dX9_queue_53 rfl rfl rfl ⟨by rw [hq], by rw [hq]; exact KK⟩
    · have hLs : fx_Lay (fx_sI m 83 47 (-1)) := (fx_KW.refl m).l.lay hL
      have Hs : fx_MS (fx_sI m 83 47 (-1)) na 5 t := (fx_KW.refl m).l.ms H
      refine e_aload_n dX9_queue_27 rfl ?_
      refine e_iconst dX9_queue_28 kci_0 ?_
      refine e_iconst dX9_queue_29 kci_0 ?_
      refine e_iconst dX9_queue_30 kci_0 ?_
      refine e_iconst dX9_queue_31 kci_0 ?_
      refine e_callV (μ' := mX9_queues) (ci := 9) (As := [.int 0, .int 0, .int 0, .int 0]) dX9_queue_32 wl_X9_269 ok_X9_queues rfl rfl (fx_pi_lt (by decide)) (by decide) (Nat.le_of_ble_eq_true rfl) fx_n1 (s_X9_queues5 (m := (fx_sI m 83 47 (-1))) hLs Hs (q := 0) (by omega) (g := 0) (Nat.two_pow_pos _) 0 0) rfl (fun r_ m_ hpost => ?_)
      revert r_ m_
      intro r_ m2 hpost
      obtain ⟨rfl, e2, K2⟩ := hpost
      rw [p_stq_l] at e2
      have KK := (fx_KW.refl m).l (v := -1) |>.trans K2
      have hL2 := KK.lay hL
      refine e_iload_n dX9_queue_35 rfl ?_
      refine e_iconst dX9_queue_36 kci_m1 ?_
      refine e_icmp_ne 47 dX9_queue_37 rfl (fun c_1 => ?_) (fun c_1 => ?_)
      · obtain ⟨y, hy, ey⟩ := p_el_ex (p_in_m (by omega) c_i c_1) (by omega)
        subst ey
        refine e_aload_n dX9_queue_47 rfl ?_
        refine e_getr (o2 := 117) dX9_queue_48 ff_X9_120 rfl (fx_pi_lt (by decide)) (by decide) rfl (hL2 _ _ _ rfl) ?_
        refine e_iload_n dX9_queue_51 rfl ?_
        refine e_iald (j := y) dX9_queue_52 rfl (fx_pi_lt (by decide)) rfl (by omega) (by decide) ?_
        have hq : q_mQue (fun d => t.2.1 d 4) (fun d => t.2.1 d 5) 5 (p_stq m) (nI y) = (0, m2.1 117 y) := by unfold q_mQue; rw [if_neg (Decidable.not_not.mpr c_i), if_neg c_1, p_ix_n (show y < 2 ^ 31 by omega)]; rw [← e2]; rfl
        exact e_iret dX9_queue_53 rfl rfl rfl ⟨by rw [hq], by rw [hq]; exact KK⟩
      · refine e_aload_n dX9_queue_40 rfl ?_
        refine e_get dX9_queue_41 ff_X9_266 rfl (fx_pi_lt (by decide)) (by decide) rfl ?_
        refine e_goto 53 dX9_queue_44 rfl ?_
        have hq : q_mQue (fun d => t.2.1 d 4) (fun d => t.2.1 d 5) 5 (p_stq m) i = (0, m2.1 83 47) := by unfold q_mQue; rw [if_neg (Decidable.not_not.mpr c_i), if_pos c_1]; rw [← e2]; rfl
        exact e_iret dX9_queue_53 rfl rfl rfl ⟨by rw [hq], by rw [hq]; exact KK⟩
  · refine e_aload_n dX9_queue_15 rfl ?_
    refine e_bipush dX9_queue_16 kcb_m5 ?_
    refine e_callV1 (μ' := mX9_no) (ci := 9) (As := [.int (-5)]) dX9_queue_18 wl_X9_136 ok_X9_no rfl rfl (fx_pi_lt (by decide)) (by decide) (Nat.le_of_ble_eq_true rfl) fx_n1 (s_X9_no (m := m) hL (b := 5) (z := (-5)) (by decide) (by decide)) rfl ?_
    have hq : q_mQue (fun d => t.2.1 d 4) (fun d => t.2.1 d 5) nd (p_stq m) i = (5, -5) := by unfold q_mQue; rw [if_pos c_i]; rfl
    exact e_iret dX9_queue_21 rfl rfl rfl ⟨by rw [hq], by rw [hq, show fx_mno m (5, (-5 : Int32)).1 = _ from fx_mno_n (by decide)]; exact fx_KW.refl _⟩
