theorem p_gD.u3 {D : Nat → Int32} {v : Int32} (h : p_gD D) (hv : p_in v 0 2) : p_gD (p_u D 3 v) := ⟨h.1, h.2.1, h.2.2.1, hv, h.2.2.2.2.1, h.2.2.2.2.2.1, h.2.2.2.2.2.2.1, h.2.2.2.2.2.2.2⟩
theorem p_gD.u5 {D : Nat → Int32} {v : Int32} (h : p_gD D) (hv : p_in v 0 9) : p_gD (p_u D 5 v) := ⟨h.1, h.2.1, h.2.2.1, h.2.2.2.1, h.2.2.2.2.1, hv, h.2.2.2.2.2.2.1, h.2.2.2.2.2.2.2⟩
theorem p_gD.u6 {D : Nat → Int32} {v : Int32} (h : p_gD D) (hv : p_in v 0 40) : p_gD (p_u D 6 v) := ⟨h.1, h.2.1, h.2.2.1, h.2.2.2.1, h.2.2.2.2.1, h.2.2.2.2.2.1, hv, h.2.2.2.2.2.2.2⟩
theorem p_gD.u7 {D : Nat → Int32} {v : Int32} (h : p_gD D) (hv : p_in v 0 99) : p_gD (p_u D 7 v) := ⟨h.1, h.2.1, h.2.2.1, h.2.2.2.1, h.2.2.2.2.1, h.2.2.2.2.2.1, h.2.2.2.2.2.2.1, hv⟩
theorem q_tell_no {D : Nat → Nat → Int32} {nd : Nat} {d w v : Int32} (h : p_el d (nI nd)) (h2 : ¬ p_in v 0 (p_mostD w)) : q_tell D nd d w v = p_no 6 := by
  unfold q_tell
  rw [if_neg (Decidable.not_not.mpr h)]
  by_cases c : v < 0
  · rw [if_pos c]
  · rw [if_neg c, if_pos (fun q => h2 ⟨Int32.not_lt.mp c, q⟩)]
theorem q_tell_ok {D : Nat → Nat → Int32} {nd : Nat} {d w v : Int32} (h : p_el d (nI nd)) (h2 : p_in v 0 (p_mostD w)) : q_tell D nd d w v = (0, D (p_ix d) (p_retI w)) := by
  unfold q_tell
  rw [if_neg (Decidable.not_not.mpr h), if_neg (Int32.not_lt.mpr h2.1), if_neg (Decidable.not_not.mpr h2.2)]
theorem p_w3 {w : Int32} (a_lt : ¬ w < 0) (a_gt : ¬ 3 < w) : ¬ w = 0 → ¬ w = 1 → ¬ w = 2 → w = 3 := fun h0 h1 h2 => by
  obtain ⟨j, hj, ej⟩ := p_in_ex (v := w) (hi := 3) ⟨Int32.not_lt.mp a_lt, Int32.not_lt.mp a_gt⟩ (by decide)
  subst ej
  have : j = 0 ∨ j = 1 ∨ j = 2 ∨ j = 3 := by omega
  rcases this with rfl | rfl | rfl | rfl
  · exact absurd rfl h0
  · exact absurd rfl h1
  · exact absurd rfl h2
  · rfl
theorem p_in_m1 {v : Int32} : ¬ p_in v 0 (-1) := fun h => absurd (Int32.le_trans h.1 h.2) (by decide)
set_option maxRecDepth 100000 in
set_option maxHeartbeats 600000 in
theorem s_X9_tell {Γ : fx_G} {m : fx_M} (hL : fx_Lay m) {na nd : Nat} {t : p_Sg} (H : fx_MS m na nd t) (d w v : Int32) : fx_Ct Γ mX9_tell 1 119 119 [fx_rf Γ 83, .int d, .int w, .int v] m (fun r m' => r = some (.int (q_tell t.2.1 nd d w v).2) ∧ ((q_tell t.2.1 nd d w v).1 ≠ 0 → m' = fx_mno m (q_tell t.2.1 nd d w v).1) ∧ ((q_tell t.2.1 nd d w v).1 = 0 → fx_MS m' na nd (t.1, p_ua t.2.1 (p_ix d) (p_u (t.2.1 (p_ix d)) (p_retI w) v), t.2.2) ∧ fx_KF m m')) := by
  refine fx_Ct.of (j := 2) (by decide) (Nat.le_of_ble_eq_true rfl) (Nat.le_of_ble_eq_true rfl) ?_
  show fx_E Γ mX9_tell 1 119 119 _ 119 m 0 [some (fx_rf Γ 83), some (.int d), some (.int w), some (.int v), none, none] []
  have h9 := H.2.2.2.2.2.1
  have h5 := H.2.2.2.2.2.2.1
  refine e_aload_n dX9_tell_0 rfl ?_
  refine e_iload_n dX9_tell_1 rfl ?_
  refine e_callV1 (μ' := mX9_isDoll) (ci := 9) (As := [.int d]) dX9_tell_2 wl_X9_184 ok_X9_isDoll rfl rfl (fx_pi_lt (by decide)) (by decide) (Nat.le_of_ble_eq_true rfl) fx_n1 (s_X9_isDoll (m := m) hL H d) rfl ?_
  refine e_if_neB 14 dX9_tell_5 rfl (fun c_1 => ?_) (fun c_1 => ?_)
  · refine e_iload_n dX9_tell_14 rfl ?_
    refine e_if_ne 22 dX9_tell_15 rfl (fun b_0 => ?_) (fun b_0 => ?_)
    · refine e_iload_n dX9_tell_22 rfl ?_
      refine e_iconst dX9_tell_23 kci_1 ?_
      refine e_icmp_ne 32 dX9_tell_24 rfl (fun b_1 => ?_) (fun b_1 => ?_)
      · refine e_iload_n dX9_tell_32 rfl ?_
        refine e_iconst dX9_tell_33 kci_2 ?_
        refine e_icmp_ne 42 dX9_tell_34 rfl (fun b_2 => ?_) (fun b_2 => ?_)
        · refine e_bipush dX9_tell_42 kcb_99 ?_
          refine e_istore dX9_tell_44 (by decide) rfl ?_
          refine e_iload_n dX9_tell_46 rfl ?_
          refine e_if_lt 66 dX9_tell_47 rfl (fun a_lt => ?_) (fun a_lt => ?_)
          · refine e_aload_n dX9_tell_66 rfl ?_
            refine e_bipush dX9_tell_67 kcb_m6 ?_
            refine e_callV1 (μ' := mX9_no) (ci := 9) (As := [.int (-6)]) dX9_tell_69 wl_X9_136 ok_X9_no rfl rfl (fx_pi_lt (by decide)) (by decide) (Nat.le_of_ble_eq_true rfl) fx_n1 (s_X9_no (m := m) hL (b := 6) (z := (-6)) (by decide) (by decide)) rfl ?_
            have hm : ¬ p_in v 0 (p_mostD w) := by first | contradiction | (rw [show p_mostD w = -1 from by (first | (have e0 : ¬ w = 0 := fun e => by subst e; revert a_lt; decide); (have e1 : ¬ w = 1 := fun e => by subst e; revert a_lt; decide); (have e2 : ¬ w = 2 := fun e => by subst e; revert a_lt; decide); (have e3 : ¬ w = 3 := fun e => by subst e; revert a_lt; decide); simp [p_mostD, e0, e1, e2, e3]; done | (have e0 : ¬ w = 0 := fun e => by subst e; revert a_gt; decide); (have e1 : ¬ w = 1 := fun e => by subst e; revert a_gt; decide); (have e2 : ¬ w = 2 := fun e => by subst e; revert a_gt; decide); (have e3 : ¬ w = 3 := fun e => by subst e; revert a_gt; decide); simp [p_mostD, e0, e1, e2, e3]; done)]; exact p_in_m1) | (rw [hmo]; exact c_f)
            have hq : q_tell t.2.1 nd d w v = (6, -6) := q_tell_no (by assumption) hm
            exact e_iret dX9_tell_72 rfl rfl rfl ⟨by rw [hq], fun _ => by rw [hq]; exact (fx_mno_n (by decide)).symm, fun h => by rw [hq] at h; cases h⟩
          · refine e_iload_n dX9_tell_50 rfl ?_
            refine e_iconst dX9_tell_51 kci_3 ?_
            refine e_icmp_gt 66 dX9_tell_52 rfl (fun a_gt => ?_) (fun a_gt => ?_)
            · refine e_aload_n dX9_tell_66 rfl ?_
              refine e_bipush dX9_tell_67 kcb_m6 ?_
              refine e_callV1 (μ' := mX9_no) (ci := 9) (As := [.int (-6)]) dX9_tell_69 wl_X9_136 ok_X9_no rfl rfl (fx_pi_lt (by decide)) (by decide) (Nat.le_of_ble_eq_true rfl) fx_n1 (s_X9_no (m := m) hL (b := 6) (z := (-6)) (by decide) (by decide)) rfl ?_
              have hm : ¬ p_in v 0 (p_mostD w) := by first | contradiction | (rw [show p_mostD w = -1 from by (first | (have e0 : ¬ w = 0 := fun e => by subst e; revert a_lt; decide); (have e1 : ¬ w = 1 := fun e => by subst e; revert a_lt; decide); (have e2 : ¬ w = 2 := fun e => by subst e; revert a_lt; decide); (have e3 : ¬ w = 3 := fun e => by subst e; revert a_lt; decide); simp [p_mostD, e0, e1, e2, e3]; done | (have e0 : ¬ w = 0 := fun e => by subst e; revert a_gt; decide); (have e1 : ¬ w = 1 := fun e => by subst e; revert a_gt; decide); (have e2 : ¬ w = 2 := fun e => by subst e; revert a_gt; decide); (have e3 : ¬ w = 3 := fun e => by subst e; revert a_gt; decide); simp [p_mostD, e0, e1, e2, e3]; done)]; exact p_in_m1) | (rw [hmo]; exact c_f)
              have hq : q_tell t.2.1 nd d w v = (6, -6) := q_tell_no (by assumption) hm
              exact e_iret dX9_tell_72 rfl rfl rfl ⟨by rw [hq], fun _ => by rw [hq]; exact (fx_mno_n (by decide)).symm, fun h => by rw [hq] at h; cases h⟩
            · have hw3 := p_w3 a_lt a_gt
              have hmo : p_mostD w = 99 := by first | (simp [p_mostD, *]; done) | (rw [hw3 (by assumption) (by assumption) (by assumption)]; rfl)
              refine e_aload_n dX9_tell_55 rfl ?_
              refine e_iload_n dX9_tell_56 rfl ?_
              refine e_iconst dX9_tell_57 kci_0 ?_
              refine e_iload dX9_tell_58 rfl ?_
              refine e_callV1 (μ' := mX9_isFrom) (ci := 9) (As := [.int v, .int 0, .int 99]) dX9_tell_60 wl_X9_172 ok_X9_isFrom rfl rfl (fx_pi_lt (by decide)) (by decide) (Nat.le_of_ble_eq_true rfl) fx_n1 (s_X9_isFrom (m := m) hL v 0 99) rfl ?_
              refine e_if_neB 73 dX9_tell_63 rfl (fun c_f => ?_) (fun c_f => ?_)
              · obtain ⟨y, hy, ey⟩ := p_el_ex c_1 (by omega)
                subst ey
                refine e_iload_n dX9_tell_73 rfl ?_
                refine e_if_ne 86 dX9_tell_74 rfl (fun d_0 => ?_) (fun d_0 => ?_)
                · refine e_iload_n dX9_tell_86 rfl ?_
                  refine e_iconst dX9_tell_87 kci_1 ?_
                  refine e_icmp_ne 100 dX9_tell_88 rfl (fun d_1 => ?_) (fun d_1 => ?_)
                  · refine e_iload_n dX9_tell_100 rfl ?_
                    refine e_iconst dX9_tell_101 kci_2 ?_
                    refine e_icmp_ne 114 dX9_tell_102 rfl (fun d_2 => ?_) (fun d_2 => ?_)
                    · refine e_aload_n dX9_tell_114 rfl ?_
                      refine e_getr (o2 := 99) dX9_tell_115 ff_X9_62 rfl (fx_pi_lt (by decide)) (by decide) rfl (hL _ _ _ rfl) ?_
                      refine e_iload_n dX9_tell_118 rfl ?_
                      refine e_ialdv (j := y) (v := t.2.1 y 7) dX9_tell_119 rfl (fx_pi_lt (by decide)) rfl (by omega) (by decide) (H.2.2.2.2.1 _ (by omega) 7 (by decide)) ?_
                      refine e_istore dX9_tell_120 (by decide) rfl ?_
                      refine e_iload_n dX9_tell_122 rfl ?_
                      refine e_if_ne 136 dX9_tell_123 rfl (fun e_0 => ?_) (fun e_0 => ?_)
                      · refine e_iload_n dX9_tell_136 rfl ?_
                        refine e_iconst dX9_tell_137 kci_1 ?_
                        refine e_icmp_ne 151 dX9_tell_138 rfl (fun e_1 => ?_) (fun e_1 => ?_)
                        · refine e_iload_n dX9_tell_151 rfl ?_
                          refine e_iconst dX9_tell_152 kci_2 ?_
                          refine e_icmp_ne 166 dX9_tell_153 rfl (fun e_2 => ?_) (fun e_2 => ?_)
                          · refine e_aload_n dX9_tell_166 rfl ?_
                            refine e_getr (o2 := 99) dX9_tell_167 ff_X9_62 rfl (fx_pi_lt (by decide)) (by decide) rfl (hL _ _ _ rfl) ?_
                            refine e_iload_n dX9_tell_170 rfl ?_
                            refine e_iload_n dX9_tell_171 rfl ?_
                            refine e_iast (j := y) dX9_tell_172 rfl (fx_pi_lt (by decide)) rfl (by omega) (by decide) ?_
                            refine e_iload dX9_tell_173 rfl ?_
                            have hq : q_tell t.2.1 nd (nI y) w v = (0, t.2.1 (p_ix (nI y)) (p_retI w)) := q_tell_ok (by assumption) (by rw [hmo]; exact c_f)
                            have hgD := H.2.2.2.2.2.2.2.2 y hy
                            exact e_iret dX9_tell_175 rfl rfl rfl ⟨by rw [hq, p_ix_n (show y < 2 ^ 31 by omega)]; first | contradiction | (simp [p_retI, *]; done), fun h => absurd (congrArg Prod.fst hq) h, fun _ => by rw [p_ix_n (show y < 2 ^ 31 by omega)]; first | contradiction | (rw [show p_retI w = 3 from by simp [p_retI, *]]; exact ⟨H.sD (j := 3) hy (by decide) (hgD.u3 c_f), (fx_KF.refl m).sI (by omega)⟩) | (rw [show p_retI w = 5 from by simp [p_retI, *]]; exact ⟨H.sD (j := 5) hy (by decide) (hgD.u5 c_f), (fx_KF.refl m).sI (by omega)⟩) | (rw [show p_retI w = 6 from by simp [p_retI, *]]; exact ⟨H.sD (j := 6) hy (by decide) (hgD.u6 c_f), (fx_KF.refl m).sI (by omega)⟩) | (rw [show p_retI w = 7 from by simp [p_retI, *]]; exact ⟨H.sD (j := 7) hy (by decide) (hgD.u7 c_f), (fx_KF.refl m).sI (by omega)⟩)⟩
                          · refine e_aload_n dX9_tell_156 rfl ?_
                            refine e_getr (o2 := 98) dX9_tell_157 ff_X9_59 rfl (fx_pi_lt (by decide)) (by decide) rfl (hL _ _ _ rfl) ?_
                            refine e_iload_n dX9_tell_160 rfl ?_
                            refine e_iload_n dX9_tell_161 rfl ?_
                            refine e_iast (j := y) dX9_tell_162 rfl (fx_pi_lt (by decide)) rfl (by omega) (by decide) ?_
                            refine e_goto 173 dX9_tell_163 rfl ?_
                            refine e_iload dX9_tell_173 rfl ?_
                            have hq : q_tell t.2.1 nd (nI y) w v = (0, t.2.1 (p_ix (nI y)) (p_retI w)) := q_tell_ok (by assumption) (by rw [hmo]; exact c_f)
                            have hgD := H.2.2.2.2.2.2.2.2 y hy
                            exact e_iret dX9_tell_175 rfl rfl rfl ⟨by rw [hq, p_ix_n (show y < 2 ^ 31 by omega)]; first | contradiction | (simp [p_retI, *]; done), fun h => absurd (congrArg Prod.fst hq) h, fun _ => by rw [p_ix_n (show y < 2 ^ 31 by omega)]; first | contradiction | (rw [show p_retI w = 3 from by simp [p_retI, *]]; exact ⟨H.sD (j := 3) hy (by decide) (hgD.u3 c_f), (fx_KF.refl m).sI (by omega)⟩) | (rw [show p_retI w = 5 from by simp [p_retI, *]]; exact ⟨H.sD (j := 5) hy (by decide) (hgD.u5 c_f), (fx_KF.refl m).sI (by omega)⟩) | (rw [show p_retI w = 6 from by simp [p_retI, *]]; exact ⟨H.sD (j := 6) hy (by decide) (hgD.u6 c_f), (fx_KF.refl m).sI (by omega)⟩) | (rw [show p_retI w = 7 from by simp [p_retI, *]]; exact ⟨H.sD (j := 7) hy (by decide) (hgD.u7 c_f), (fx_KF.refl m).sI (by omega)⟩)⟩
                        · refine e_aload_n dX9_tell_141 rfl ?_
                          refine e_getr (o2 := 97) dX9_tell_142 ff_X9_56 rfl (fx_pi_lt (by decide)) (by decide) rfl (hL _ _ _ rfl) ?_
                          refine e_iload_n dX9_tell_145 rfl ?_
                          refine e_iload_n dX9_tell_146 rfl ?_
                          refine e_iast (j := y) dX9_tell_147 rfl (fx_pi_lt (by decide)) rfl (by omega) (by decide) ?_
                          refine e_goto 173 dX9_tell_148 rfl ?_
                          refine e_iload dX9_tell_173 rfl ?_
                          have hq : q_tell t.2.1 nd (nI y) w v = (0, t.2.1 (p_ix (nI y)) (p_retI w)) := q_tell_ok (by assumption) (by rw [hmo]; exact c_f)
                          have hgD := H.2.2.2.2.2.2.2.2 y hy
                          exact e_iret dX9_tell_175 rfl rfl rfl ⟨by rw [hq, p_ix_n (show y < 2 ^ 31 by omega)]; first | contradiction | (simp [p_retI, *]; done), fun h => absurd (congrArg Prod.fst hq) h, fun _ => by rw [p_ix_n (show y < 2 ^ 31 by omega)]; first | contradiction | (rw [show p_retI w = 3 from by simp [p_retI, *]]; exact ⟨H.sD (j := 3) hy (by decide) (hgD.u3 c_f), (fx_KF.refl m).sI (by omega)⟩) | (rw [show p_retI w = 5 from by simp [p_retI, *]]; exact ⟨H.sD (j := 5) hy (by decide) (hgD.u5 c_f), (fx_KF.refl m).sI (by omega)⟩) | (rw [show p_retI w = 6 from by simp [p_retI, *]]; exact ⟨H.sD (j := 6) hy (by decide) (hgD.u6 c_f), (fx_KF.refl m).sI (by omega)⟩) | (rw [show p_retI w = 7 from by simp [p_retI, *]]; exact ⟨H.sD (j := 7) hy (by decide) (hgD.u7 c_f), (fx_KF.refl m).sI (by omega)⟩)⟩
                      · refine e_aload_n dX9_tell_126 rfl ?_
                        refine e_getr (o2 := 95) dX9_tell_127 ff_X9_50 rfl (fx_pi_lt (by decide)) (by decide) rfl (hL _ _ _ rfl) ?_
                        refine e_iload_n dX9_tell_130 rfl ?_
                        refine e_iload_n dX9_tell_131 rfl ?_
                        refine e_iast (j := y) dX9_tell_132 rfl (fx_pi_lt (by decide)) rfl (by omega) (by decide) ?_
                        refine e_goto 173 dX9_tell_133 rfl ?_
                        refine e_iload dX9_tell_173 rfl ?_
                        have hq : q_tell t.2.1 nd (nI y) w v = (0, t.2.1 (p_ix (nI y)) (p_retI w)) := q_tell_ok (by assumption) (by rw [hmo]; exact c_f)
                        have hgD := H.2.2.2.2.2.2.2.2 y hy
                        exact e_iret dX9_tell_175 rfl rfl rfl ⟨by rw [hq, p_ix_n (show y < 2 ^ 31 by omega)]; first | contradiction | (simp [p_retI, *]; done), fun h => absurd (congrArg Prod.fst hq) h, fun _ => by rw [p_ix_n (show y < 2 ^ 31 by omega)]; first | contradiction | (rw [show p_retI w = 3 from by simp [p_retI, *]]; exact ⟨H.sD (j := 3) hy (by decide) (hgD.u3 c_f), (fx_KF.refl m).sI (by omega)⟩) | (rw [show p_retI w = 5 from by simp [p_retI, *]]; exact ⟨H.sD (j := 5) hy (by decide) (hgD.u5 c_f), (fx_KF.refl m).sI (by omega)⟩) | (rw [show p_retI w = 6 from by simp [p_retI, *]]; exact ⟨H.sD (j := 6) hy (by decide) (hgD.u6 c_f), (fx_KF.refl m).sI (by omega)⟩) | (rw [show p_retI w = 7 from by simp [p_retI, *]]; exact ⟨H.sD (j := 7) hy (by decide) (hgD.u7 c_f), (fx_KF.refl m).sI (by omega)⟩)⟩
                    · refine e_aload_n dX9_tell_105 rfl ?_
                      refine e_getr (o2 := 98) dX9_tell_106 ff_X9_59 rfl (fx_pi_lt (by decide)) (by decide) rfl (hL _ _ _ rfl) ?_
                      refine e_iload_n dX9_tell_109 rfl ?_
                      refine e_ialdv (j := y) (v := t.2.1 y 6) dX9_tell_110 rfl (fx_pi_lt (by decide)) rfl (by omega) (by decide) (H.2.2.2.2.1 _ (by omega) 6 (by decide)) ?_
                      refine e_goto 120 dX9_tell_111 rfl ?_
                      refine e_istore dX9_tell_120 (by decide) rfl ?_
                      refine e_iload_n dX9_tell_122 rfl ?_
                      refine e_if_ne 136 dX9_tell_123 rfl (fun e_0 => ?_) (fun e_0 => ?_)
                      · refine e_iload_n dX9_tell_136 rfl ?_
                        refine e_iconst dX9_tell_137 kci_1 ?_
                        refine e_icmp_ne 151 dX9_tell_138 rfl (fun e_1 => ?_) (fun e_1 => ?_)
                        · refine e_iload_n dX9_tell_151 rfl ?_
                          refine e_iconst dX9_tell_152 kci_2 ?_
                          refine e_icmp_ne 166 dX9_tell_153 rfl (fun e_2 => ?_) (fun e_2 => ?_)
                          · refine e_aload_n dX9_tell_166 rfl ?_
                            refine e_getr (o2 := 99) dX9_tell_167 ff_X9_62 rfl (fx_pi_lt (by decide)) (by decide) rfl (hL _ _ _ rfl) ?_
                            refine e_iload_n dX9_tell_170 rfl ?_
                            refine e_iload_n dX9_tell_171 rfl ?_
                            refine e_iast (j := y) dX9_tell_172 rfl (fx_pi_lt (by decide)) rfl (by omega) (by decide) ?_
                            refine e_iload dX9_tell_173 rfl ?_
                            have hq : q_tell t.2.1 nd (nI y) w v = (0, t.2.1 (p_ix (nI y)) (p_retI w)) := q_tell_ok (by assumption) (by rw [hmo]; exact c_f)
                            have hgD := H.2.2.2.2.2.2.2.2 y hy
                            exact e_iret dX9_tell_175 rfl rfl rfl ⟨by rw [hq, p_ix_n (show y < 2 ^ 31 by omega)]; first | contradiction | (simp [p_retI, *]; done), fun h => absurd (congrArg Prod.fst hq) h, fun _ => by rw [p_ix_n (show y < 2 ^ 31 by omega)]; first | contradiction | (rw [show p_retI w = 3 from by simp [p_retI, *]]; exact ⟨H.sD (j := 3) hy (by decide) (hgD.u3 c_f), (fx_KF.refl m).sI (by omega)⟩) | (rw [show p_retI w = 5 from by simp [p_retI, *]]; exact ⟨H.sD (j := 5) hy (by decide) (hgD.u5 c_f), (fx_KF.refl m).sI (by omega)⟩) | (rw [show p_retI w = 6 from by simp [p_retI, *]]; exact ⟨H.sD (j := 6) hy (by decide) (hgD.u6 c_f), (fx_KF.refl m).sI (by omega)⟩) | (rw [show p_retI w = 7 from by simp [p_retI, *]]; exact ⟨H.sD (j := 7) hy (by decide) (hgD.u7 c_f), (fx_KF.refl m).sI (by omega)⟩)⟩
                          · refine e_aload_n dX9_tell_156 rfl ?_
                            refine e_getr (o2 := 98) dX9_tell_157 ff_X9_59 rfl (fx_pi_lt (by decide)) (by decide) rfl (hL _ _ _ rfl) ?_
                            refine e_iload_n dX9_tell_160 rfl ?_
                            refine e_iload_n dX9_tell_161 rfl ?_
                            refine e_iast (j := y) dX9_tell_162 rfl (fx_pi_lt (by decide)) rfl (by omega) (by decide) ?_
                            refine e_goto 173 dX9_tell_163 rfl ?_
                            refine e_iload dX9_tell_173 rfl ?_
                            have hq : q_tell t.2.1 nd (nI y) w v = (0, t.2.1 (p_ix (nI y)) (p_retI w)) := q_tell_ok (by assumption) (by rw [hmo]; exact c_f)
                            have hgD := H.2.2.2.2.2.2.2.2 y hy
                            exact e_iret dX9_tell_175 rfl rfl rfl ⟨by rw [hq, p_ix_n (show y < 2 ^ 31 by omega)]; first | contradiction | (simp [p_retI, *]; done), fun h => absurd (congrArg Prod.fst hq) h, fun _ => by rw [p_ix_n (show y < 2 ^ 31 by omega)]; first | contradiction | (rw [show p_retI w = 3 from by simp [p_retI, *]]; exact ⟨H.sD (j := 3) hy (by decide) (hgD.u3 c_f), (fx_KF.refl m).sI (by omega)⟩) | (rw [show p_retI w = 5 from by simp [p_retI, *]]; exact ⟨H.sD (j := 5) hy (by decide) (hgD.u5 c_f), (fx_KF.refl m).sI (by omega)⟩) | (rw [show p_retI w = 6 from by simp [p_retI, *]]; exact ⟨H.sD (j := 6) hy (by decide) (hgD.u6 c_f), (fx_KF.refl m).sI (by omega)⟩) | (rw [show p_retI w = 7 from by simp [p_retI, *]]; exact ⟨H.sD (j := 7) hy (by decide) (hgD.u7 c_f), (fx_KF.refl m).sI (by omega)⟩)⟩
                        · refine e_aload_n dX9_tell_141 rfl ?_
                          refine e_getr (o2 := 97) dX9_tell_142 ff_X9_56 rfl (fx_pi_lt (by decide)) (by decide) rfl (hL _ _ _ rfl) ?_
                          refine e_iload_n dX9_tell_145 rfl ?_
                          refine e_iload_n dX9_tell_146 rfl ?_
                          refine e_iast (j := y) dX9_tell_147 rfl (fx_pi_lt (by decide)) rfl (by omega) (by decide) ?_
                          refine e_goto 173 dX9_tell_148 rfl ?_
                          refine e_iload dX9_tell_173 rfl ?_
                          have hq : q_tell t.2.1 nd (nI y) w v = (0, t.2.1 (p_ix (nI y)) (p_retI w)) := q_tell_ok (by assumption) (by rw [hmo]; exact c_f)
                          have hgD := H.2.2.2.2.2.2.2.2 y hy
                          exact e_iret dX9_tell_175 rfl rfl rfl ⟨by rw [hq, p_ix_n (show y < 2 ^ 31 by omega)]; first | contradiction | (simp [p_retI, *]; done), fun h => absurd (congrArg Prod.fst hq) h, fun _ => by rw [p_ix_n (show y < 2 ^ 31 by omega)]; first | contradiction | (rw [show p_retI w = 3 from by simp [p_retI, *]]; exact ⟨H.sD (j := 3) hy (by decide) (hgD.u3 c_f), (fx_KF.refl m).sI (by omega)⟩) | (rw [show p_retI w = 5 from by simp [p_retI, *]]; exact ⟨H.sD (j := 5) hy (by decide) (hgD.u5 c_f), (fx_KF.refl m).sI (by omega)⟩) | (rw [show p_retI w = 6 from by simp [p_retI, *]]; exact ⟨H.sD (j := 6) hy (by decide) (hgD.u6 c_f), (fx_KF.refl m).sI (by omega)⟩) | (rw [show p_retI w = 7 from by simp [p_retI, *]]; exact ⟨H.sD (j := 7) hy (by decide) (hgD.u7 c_f), (fx_KF.refl m).sI (by omega)⟩)⟩
                      · refine e_aload_n dX9_tell_126 rfl ?_
                        refine e_getr (o2 := 95) dX9_tell_127 ff_X9_50 rfl (fx_pi_lt (by decide)) (by decide) rfl (hL _ _ _ rfl) ?_
                        refine e_iload_n dX9_tell_130 rfl ?_
                        refine e_iload_n dX9_tell_131 rfl ?_
                        refine e_iast (j := y) dX9_tell_132 rfl (fx_pi_lt (by decide)) rfl (by omega) (by decide) ?_
                        refine e_goto 173 dX9_tell_133 rfl ?_
                        refine e_iload dX9_tell_173 rfl ?_
                        have hq : q_tell t.2.1 nd (nI y) w v = (0, t.2.1 (p_ix (nI y)) (p_retI w)) := q_tell_ok (by assumption) (by rw [hmo]; exact c_f)
                        have hgD := H.2.2.2.2.2.2.2.2 y hy
                        exact e_iret dX9_tell_175 rfl rfl rfl ⟨by rw [hq, p_ix_n (show y < 2 ^ 31 by omega)]; first | contradiction | (simp [p_retI, *]; done), fun h => absurd (congrArg Prod.fst hq) h, fun _ => by rw [p_ix_n (show y < 2 ^ 31 by omega)]; first | contradiction | (rw [show p_retI w = 3 from by simp [p_retI, *]]; exact ⟨H.sD (j := 3) hy (by decide) (hgD.u3 c_f), (fx_KF.refl m).sI (by omega)⟩) | (rw [show p_retI w = 5 from by simp [p_retI, *]]; exact ⟨H.sD (j := 5) hy (by decide) (hgD.u5 c_f), (fx_KF.refl m).sI (by omega)⟩) | (rw [show p_retI w = 6 from by simp [p_retI, *]]; exact ⟨H.sD (j := 6) hy (by decide) (hgD.u6 c_f), (fx_KF.refl m).sI (by omega)⟩) | (rw [show p_retI w = 7 from by simp [p_retI, *]]; exact ⟨H.sD (j := 7) hy (by decide) (hgD.u7 c_f), (fx_KF.refl m).sI (by omega)⟩)⟩
                  · refine e_aload_n dX9_tell_91 rfl ?_
                    refine e_getr (o2 := 97) dX9_tell_92 ff_X9_56 rfl (fx_pi_lt (by decide)) (by decide) rfl (hL _ _ _ rfl) ?_
                    refine e_iload_n dX9_tell_95 rfl ?_
                    refine e_ialdv (j := y) (v := t.2.1 y 5) dX9_tell_96 rfl (fx_pi_lt (by decide)) rfl (by omega) (by decide) (H.2.2.2.2.1 _ (by omega) 5 (by decide)) ?_
                    refine e_goto 120 dX9_tell_97 rfl ?_
                    refine e_istore dX9_tell_120 (by decide) rfl ?_
                    refine e_iload_n dX9_tell_122 rfl ?_
                    refine e_if_ne 136 dX9_tell_123 rfl (fun e_0 => ?_) (fun e_0 => ?_)
                    · refine e_iload_n dX9_tell_136 rfl ?_
                      refine e_iconst dX9_tell_137 kci_1 ?_
                      refine e_icmp_ne 151 dX9_tell_138 rfl (fun e_1 => ?_) (fun e_1 => ?_)
                      · refine e_iload_n dX9_tell_151 rfl ?_
                        refine e_iconst dX9_tell_152 kci_2 ?_
                        refine e_icmp_ne 166 dX9_tell_153 rfl (fun e_2 => ?_) (fun e_2 => ?_)
                        · refine e_aload_n dX9_tell_166 rfl ?_
                          refine e_getr (o2 := 99) dX9_tell_167 ff_X9_62 rfl (fx_pi_lt (by decide)) (by decide) rfl (hL _ _ _ rfl) ?_
                          refine e_iload_n dX9_tell_170 rfl ?_
                          refine e_iload_n dX9_tell_171 rfl ?_
                          refine e_iast (j := y) dX9_tell_172 rfl (fx_pi_lt (by decide)) rfl (by omega) (by decide) ?_
                          refine e_iload dX9_tell_173 rfl ?_
                          have hq : q_tell t.2.1 nd (nI y) w v = (0, t.2.1 (p_ix (nI y)) (p_retI w)) := q_tell_ok (by assumption) (by rw [hmo]; exact c_f)
                          have hgD := H.2.2.2.2.2.2.2.2 y hy
                          exact e_iret dX9_tell_175 rfl rfl rfl ⟨by rw [hq, p_ix_n (show y < 2 ^ 31 by omega)]; first | contradiction | (simp [p_retI, *]; done), fun h => absurd (congrArg Prod.fst hq) h, fun _ => by rw [p_ix_n (show y < 2 ^ 31 by omega)]; first | contradiction | (rw [show p_retI w = 3 from by simp [p_retI, *]]; exact ⟨H.sD (j := 3) hy (by decide) (hgD.u3 c_f), (fx_KF.refl m).sI (by omega)⟩) | (rw [show p_retI w = 5 from by simp [p_retI, *]]; exact ⟨H.sD (j := 5) hy (by decide) (hgD.u5 c_f), (fx_KF.refl m).sI (by omega)⟩) | (rw [show p_retI w = 6 from by simp [p_retI, *]]; exact ⟨H.sD (j := 6) hy (by decide) (hgD.u6 c_f), (fx_KF.refl m).sI (by omega)⟩) | (rw [show p_retI w = 7 from by simp [p_retI, *]]; exact ⟨H.sD (j := 7) hy (by decide) (hgD.u7 c_f), (fx_KF.refl m).sI (by omega)⟩)⟩
                        · refine e_aload_n dX9_tell_156 rfl ?_
                          refine e_getr (o2 := 98) dX9_tell_157 ff_X9_59 rfl (fx_pi_lt (by decide)) (by decide) rfl (hL _ _ _ rfl) ?_
                          refine e_iload_n dX9_tell_160 rfl ?_
                          refine e_iload_n dX9_tell_161 rfl ?_
                          refine e_iast (j := y) dX9_tell_162 rfl (fx_pi_lt (by decide)) rfl (by omega) (by decide) ?_
                          refine e_goto 173 dX9_tell_163 rfl ?_
                          refine e_iload dX9_tell_173 rfl ?_
                          have hq : q_tell t.2.1 nd (nI y) w v = (0, t.2.1 (p_ix (nI y)) (p_retI w)) := q_tell_ok (by assumption) (by rw [hmo]; exact c_f)
                          have hgD := H.2.2.2.2.2.2.2.2 y hy
                          exact e_iret dX9_tell_175 rfl rfl rfl ⟨by rw [hq, p_ix_n (show y < 2 ^ 31 by omega)]; first | contradiction | (simp [p_retI, *]; done), fun h => absurd (congrArg Prod.fst hq) h, fun _ => by rw [p_ix_n (show y < 2 ^ 31 by omega)]; first | contradiction | (rw [show p_retI w = 3 from by simp [p_retI, *]]; exact ⟨H.sD (j := 3) hy (by decide) (hgD.u3 c_f), (fx_KF.refl m).sI (by omega)⟩) | (rw [show p_retI w = 5 from by simp [p_retI, *]]; exact ⟨H.sD (j := 5) hy (by decide) (hgD.u5 c_f), (fx_KF.refl m).sI (by omega)⟩) | (rw [show p_retI w = 6 from by simp [p_retI, *]]; exact ⟨H.sD (j := 6) hy (by decide) (hgD.u6 c_f), (fx_KF.refl m).sI (by omega)⟩) | (rw [show p_retI w = 7 from by simp [p_retI, *]]; exact ⟨H.sD (j := 7) hy (by decide) (hgD.u7 c_f), (fx_KF.refl m).sI (by omega)⟩)⟩
                      · refine e_aload_n dX9_tell_141 rfl ?_
                        refine e_getr (o2 := 97) dX9_tell_142 ff_X9_56 rfl (fx_pi_lt (by decide)) (by decide) rfl (hL _ _ _ rfl) ?_
                        refine e_iload_n dX9_tell_145 rfl ?_
                        refine e_iload_n dX9_tell_146 rfl ?_
                        refine e_iast (j := y) dX9_tell_147 rfl (fx_pi_lt (by decide)) rfl (by omega) (by decide) ?_
                        refine e_goto 173 dX9_tell_148 rfl ?_
                        refine e_iload dX9_tell_173 rfl ?_
                        have hq : q_tell t.2.1 nd (nI y) w v = (0, t.2.1 (p_ix (nI y)) (p_retI w)) := q_tell_ok (by assumption) (by rw [hmo]; exact c_f)
                        have hgD := H.2.2.2.2.2.2.2.2 y hy
                        exact e_iret dX9_tell_175 rfl rfl rfl ⟨by rw [hq, p_ix_n (show y < 2 ^ 31 by omega)]; first | contradiction | (simp [p_retI, *]; done), fun h => absurd (congrArg Prod.fst hq) h, fun _ => by rw [p_ix_n (show y < 2 ^ 31 by omega)]; first | contradiction | (rw [show p_retI w = 3 from by simp [p_retI, *]]; exact ⟨H.sD (j := 3) hy (by decide) (hgD.u3 c_f), (fx_KF.refl m).sI (by omega)⟩) | (rw [show p_retI w = 5 from by simp [p_retI, *]]; exact ⟨H.sD (j := 5) hy (by decide) (hgD.u5 c_f), (fx_KF.refl m).sI (by omega)⟩) | (rw [show p_retI w = 6 from by simp [p_retI, *]]; exact ⟨H.sD (j := 6) hy (by decide) (hgD.u6 c_f), (fx_KF.refl m).sI (by omega)⟩) | (rw [show p_retI w = 7 from by simp [p_retI, *]]; exact ⟨H.sD (j := 7) hy (by decide) (hgD.u7 c_f), (fx_KF.refl m).sI (by omega)⟩)⟩
                    · refine e_aload_n dX9_tell_126 rfl ?_
                      refine e_getr (o2 := 95) dX9_tell_127 ff_X9_50 rfl (fx_pi_lt (by decide)) (by decide) rfl (hL _ _ _ rfl) ?_
                      refine e_iload_n dX9_tell_130 rfl ?_
                      refine e_iload_n dX9_tell_131 rfl ?_
                      refine e_iast (j := y) dX9_tell_132 rfl (fx_pi_lt (by decide)) rfl (by omega) (by decide) ?_
                      refine e_goto 173 dX9_tell_133 rfl ?_
                      refine e_iload dX9_tell_173 rfl ?_
                      have hq : q_tell t.2.1 nd (nI y) w v = (0, t.2.1 (p_ix (nI y)) (p_retI w)) := q_tell_ok (by assumption) (by rw [hmo]; exact c_f)
                      have hgD := H.2.2.2.2.2.2.2.2 y hy
                      exact e_iret dX9_tell_175 rfl rfl rfl ⟨by rw [hq, p_ix_n (show y < 2 ^ 31 by omega)]; first | contradiction | (simp [p_retI, *]; done), fun h => absurd (congrArg Prod.fst hq) h, fun _ => by rw [p_ix_n (show y < 2 ^ 31 by omega)]; first | contradiction | (rw [show p_retI w = 3 from by simp [p_retI, *]]; exact ⟨H.sD (j := 3) hy (by decide) (hgD.u3 c_f), (fx_KF.refl m).sI (by omega)⟩) | (rw [show p_retI w = 5 from by simp [p_retI, *]]; exact ⟨H.sD (j := 5) hy (by decide) (hgD.u5 c_f), (fx_KF.refl m).sI (by omega)⟩) | (rw [show p_retI w = 6 from by simp [p_retI, *]]; exact ⟨H.sD (j := 6) hy (by decide) (hgD.u6 c_f), (fx_KF.refl m).sI (by omega)⟩) | (rw [show p_retI w = 7 from by simp [p_retI, *]]; exact ⟨H.sD (j := 7) hy (by decide) (hgD.u7 c_f), (fx_KF.refl m).sI (by omega)⟩)⟩
                · refine e_aload_n dX9_tell_77 rfl ?_
                  refine e_getr (o2 := 95) dX9_tell_78 ff_X9_50 rfl (fx_pi_lt (by decide)) (by decide) rfl (hL _ _ _ rfl) ?_
                  refine e_iload_n dX9_tell_81 rfl ?_
                  refine e_ialdv (j := y) (v := t.2.1 y 3) dX9_tell_82 rfl (fx_pi_lt (by decide)) rfl (by omega) (by decide) (H.2.2.2.2.1 _ (by omega) 3 (by decide)) ?_
                  refine e_goto 120 dX9_tell_83 rfl ?_
                  refine e_istore dX9_tell_120 (by decide) rfl ?_
                  refine e_iload_n dX9_tell_122 rfl ?_
                  refine e_if_ne 136 dX9_tell_123 rfl (fun e_0 => ?_) (fun e_0 => ?_)
                  · refine e_iload_n dX9_tell_136 rfl ?_
                    refine e_iconst dX9_tell_137 kci_1 ?_
                    refine e_icmp_ne 151 dX9_tell_138 rfl (fun e_1 => ?_) (fun e_1 => ?_)
                    · refine e_iload_n dX9_tell_151 rfl ?_
                      refine e_iconst dX9_tell_152 kci_2 ?_
                      refine e_icmp_ne 166 dX9_tell_153 rfl (fun e_2 => ?_) (fun e_2 => ?_)
                      · refine e_aload_n dX9_tell_166 rfl ?_
                        refine e_getr (o2 := 99) dX9_tell_167 ff_X9_62 rfl (fx_pi_lt (by decide)) (by decide) rfl (hL _ _ _ rfl) ?_
                        refine e_iload_n dX9_tell_170 rfl ?_
                        refine e_iload_n dX9_tell_171 rfl ?_
                        refine e_iast (j := y) dX9_tell_172 rfl (fx_pi_lt (by decide)) rfl (by omega) (by decide) ?_
                        refine e_iload dX9_tell_173 rfl ?_
                        have hq : q_tell t.2.1 nd (nI y) w v = (0, t.2.1 (p_ix (nI y)) (p_retI w)) := q_tell_ok (by assumption) (by rw [hmo]; exact c_f)
                        have hgD := H.2.2.2.2.2.2.2.2 y hy
                        exact e_iret dX9_tell_175 rfl rfl rfl ⟨by rw [hq, p_ix_n (show y < 2 ^ 31 by omega)]; first | contradiction | (simp [p_retI, *]; done), fun h => absurd (congrArg Prod.fst hq) h, fun _ => by rw [p_ix_n (show y < 2 ^ 31 by omega)]; first | contradiction | (rw [show p_retI w = 3 from by simp [p_retI, *]]; exact ⟨H.sD (j := 3) hy (by decide) (hgD.u3 c_f), (fx_KF.refl m).sI (by omega)⟩) | (rw [show p_retI w = 5 from by simp [p_retI, *]]; exact ⟨H.sD (j := 5) hy (by decide) (hgD.u5 c_f), (fx_KF.refl m).sI (by omega)⟩) | (rw [show p_retI w = 6 from by simp [p_retI, *]]; exact ⟨H.sD (j := 6) hy (by decide) (hgD.u6 c_f), (fx_KF.refl m).sI (by omega)⟩) | (rw [show p_retI w = 7 from by simp [p_retI, *]]; exact ⟨H.sD (j := 7) hy (by decide) (hgD.u7 c_f), (fx_KF.refl m).sI (by omega)⟩)⟩
                      · refine e_aload_n dX9_tell_156 rfl ?_
                        refine e_getr (o2 := 98) dX9_tell_157 ff_X9_59 rfl (fx_pi_lt (by decide)) (by decide) rfl (hL _ _ _ rfl) ?_
                        refine e_iload_n dX9_tell_160 rfl ?_
                        refine e_iload_n dX9_tell_161 rfl ?_
                        refine e_iast (j := y) dX9_tell_162 rfl (fx_pi_lt (by decide)) rfl (by omega) (by decide) ?_
                        refine e_goto 173 dX9_tell_163 rfl ?_
                        refine e_iload dX9_tell_173 rfl ?_
                        have hq : q_tell t.2.1 nd (nI y) w v = (0, t.2.1 (p_ix (nI y)) (p_retI w)) := q_tell_ok (by assumption) (by rw [hmo]; exact c_f)
                        have hgD := H.2.2.2.2.2.2.2.2 y hy
                        exact e_iret dX9_tell_175 rfl rfl rfl ⟨by rw [hq, p_ix_n (show y < 2 ^ 31 by omega)]; first | contradiction | (simp [p_retI, *]; done), fun h => absurd (congrArg Prod.fst hq) h, fun _ => by rw [p_ix_n (show y < 2 ^ 31 by omega)]; first | contradiction | (rw [show p_retI w = 3 from by simp [p_retI, *]]; exact ⟨H.sD (j := 3) hy (by decide) (hgD.u3 c_f), (fx_KF.refl m).sI (by omega)⟩) | (rw [show p_retI w = 5 from by simp [p_retI, *]]; exact ⟨H.sD (j := 5) hy (by decide) (hgD.u5 c_f), (fx_KF.refl m).sI (by omega)⟩) | (rw [show p_retI w = 6 from by simp [p_retI, *]]; exact ⟨H.sD (j := 6) hy (by decide) (hgD.u6 c_f), (fx_KF.refl m).sI (by omega)⟩) | (rw [show p_retI w = 7 from by simp [p_retI, *]]; exact ⟨H.sD (j := 7) hy (by decide) (hgD.u7 c_f), (fx_KF.refl m).sI (by omega)⟩)⟩
                    · refine e_aload_n dX9_tell_141 rfl ?_
                      refine e_getr (o2 := 97) dX9_tell_142 ff_X9_56 rfl (fx_pi_lt (by decide)) (by decide) rfl (hL _ _ _ rfl) ?_
                      refine e_iload_n dX9_tell_145 rfl ?_
                      refine e_iload_n dX9_tell_146 rfl ?_
                      refine e_iast (j := y) dX9_tell_147 rfl (fx_pi_lt (by decide)) rfl (by omega) (by decide) ?_
                      refine e_goto 173 dX9_tell_148 rfl ?_
                      refine e_iload dX9_tell_173 rfl ?_
                      have hq : q_tell t.2.1 nd (nI y) w v = (0, t.2.1 (p_ix (nI y)) (p_retI w)) := q_tell_ok (by assumption) (by rw [hmo]; exact c_f)
                      have hgD := H.2.2.2.2.2.2.2.2 y hy
                      exact e_iret dX9_tell_175 rfl rfl rfl ⟨by rw [hq, p_ix_n (show y < 2 ^ 31 by omega)]; first | contradiction | (simp [p_retI, *]; done), fun h => absurd (congrArg Prod.fst hq) h, fun _ => by rw [p_ix_n (show y < 2 ^ 31 by omega)]; first | contradiction | (rw [show p_retI w = 3 from by simp [p_retI, *]]; exact ⟨H.sD (j := 3) hy (by decide) (hgD.u3 c_f), (fx_KF.refl m).sI (by omega)⟩) | (rw [show p_retI w = 5 from by simp [p_retI, *]]; exact ⟨H.sD (j := 5) hy (by decide) (hgD.u5 c_f), (fx_KF.refl m).sI (by omega)⟩) | (rw [show p_retI w = 6 from by simp [p_retI, *]]; exact ⟨H.sD (j := 6) hy (by decide) (hgD.u6 c_f), (fx_KF.refl m).sI (by omega)⟩) | (rw [show p_retI w = 7 from by simp [p_retI, *]]; exact ⟨H.sD (j := 7) hy (by decide) (hgD.u7 c_f), (fx_KF.refl m).sI (by omega)⟩)⟩
                  · refine e_aload_n dX9_tell_126 rfl ?_
                    refine e_getr (o2 := 95) dX9_tell_127 ff_X9_50 rfl (fx_pi_lt (by decide)) (by decide) rfl (hL _ _ _ rfl) ?_
                    refine e_iload_n dX9_tell_130 rfl ?_
                    refine e_iload_n dX9_tell_131 rfl ?_
                    refine e_iast (j := y) dX9_tell_132 rfl (fx_pi_lt (by decide)) rfl (by omega) (by decide) ?_
                    refine e_goto 173 dX9_tell_133 rfl ?_
                    refine e_iload dX9_tell_173 rfl ?_
                    have hq : q_tell t.2.1 nd (nI y) w v = (0, t.2.1 (p_ix (nI y)) (p_retI w)) := q_tell_ok (by assumption) (by rw [hmo]; exact c_f)
                    have hgD := H.2.2.2.2.2.2.2.2 y hy
                    exact e_iret dX9_tell_175 rfl rfl rfl ⟨by rw [hq, p_ix_n (show y < 2 ^ 31 by omega)]; first | contradiction | (simp [p_retI, *]; done), fun h => absurd (congrArg Prod.fst hq) h, fun _ => by rw [p_ix_n (show y < 2 ^ 31 by omega)]; first | contradiction | (rw [show p_retI w = 3 from by simp [p_retI, *]]; exact ⟨H.sD (j := 3) hy (by decide) (hgD.u3 c_f), (fx_KF.refl m).sI (by omega)⟩) | (rw [show p_retI w = 5 from by simp [p_retI, *]]; exact ⟨H.sD (j := 5) hy (by decide) (hgD.u5 c_f), (fx_KF.refl m).sI (by omega)⟩) | (rw [show p_retI w = 6 from by simp [p_retI, *]]; exact ⟨H.sD (j := 6) hy (by decide) (hgD.u6 c_f), (fx_KF.refl m).sI (by omega)⟩) | (rw [show p_retI w = 7 from by simp [p_retI, *]]; exact ⟨H.sD (j := 7) hy (by decide) (hgD.u7 c_f), (fx_KF.refl m).sI (by omega)⟩)⟩
              · refine e_aload_n dX9_tell_66 rfl ?_
                refine e_bipush dX9_tell_67 kcb_m6 ?_
                refine e_callV1 (μ' := mX9_no) (ci := 9) (As := [.int (-6)]) dX9_tell_69 wl_X9_136 ok_X9_no rfl rfl (fx_pi_lt (by decide)) (by decide) (Nat.le_of_ble_eq_true rfl) fx_n1 (s_X9_no (m := m) hL (b := 6) (z := (-6)) (by decide) (by decide)) rfl ?_
                have hm : ¬ p_in v 0 (p_mostD w) := by first | contradiction | (rw [show p_mostD w = -1 from by (first | (have e0 : ¬ w = 0 := fun e => by subst e; revert a_lt; decide); (have e1 : ¬ w = 1 := fun e => by subst e; revert a_lt; decide); (have e2 : ¬ w = 2 := fun e => by subst e; revert a_lt; decide); (have e3 : ¬ w = 3 := fun e => by subst e; revert a_lt; decide); simp [p_mostD, e0, e1, e2, e3]; done | (have e0 : ¬ w = 0 := fun e => by subst e; revert a_gt; decide); (have e1 : ¬ w = 1 := fun e => by subst e; revert a_gt; decide); (have e2 : ¬ w = 2 := fun e => by subst e; revert a_gt; decide); (have e3 : ¬ w = 3 := fun e => by subst e; revert a_gt; decide); simp [p_mostD, e0, e1, e2, e3]; done)]; exact p_in_m1) | (rw [hmo]; exact c_f)
                have hq : q_tell t.2.1 nd d w v = (6, -6) := q_tell_no (by assumption) hm
                exact e_iret dX9_tell_72 rfl rfl rfl ⟨by rw [hq], fun _ => by rw [hq]; exact (fx_mno_n (by decide)).symm, fun h => by rw [hq] at h; cases h⟩
        · refine e_bipush dX9_tell_37 kcb_40 ?_
          refine e_goto 44 dX9_tell_39 rfl ?_
          refine e_istore dX9_tell_44 (by decide) rfl ?_
          refine e_iload_n dX9_tell_46 rfl ?_
          refine e_if_lt 66 dX9_tell_47 rfl (fun a_lt => ?_) (fun a_lt => ?_)
          · refine e_aload_n dX9_tell_66 rfl ?_
            refine e_bipush dX9_tell_67 kcb_m6 ?_
            refine e_callV1 (μ' := mX9_no) (ci := 9) (As := [.int (-6)]) dX9_tell_69 wl_X9_136 ok_X9_no rfl rfl (fx_pi_lt (by decide)) (by decide) (Nat.le_of_ble_eq_true rfl) fx_n1 (s_X9_no (m := m) hL (b := 6) (z := (-6)) (by decide) (by decide)) rfl ?_
            have hm : ¬ p_in v 0 (p_mostD w) := by first | contradiction | (rw [show p_mostD w = -1 from by (first | (have e0 : ¬ w = 0 := fun e => by subst e; revert a_lt; decide); (have e1 : ¬ w = 1 := fun e => by subst e; revert a_lt; decide); (have e2 : ¬ w = 2 := fun e => by subst e; revert a_lt; decide); (have e3 : ¬ w = 3 := fun e => by subst e; revert a_lt; decide); simp [p_mostD, e0, e1, e2, e3]; done | (have e0 : ¬ w = 0 := fun e => by subst e; revert a_gt; decide); (have e1 : ¬ w = 1 := fun e => by subst e; revert a_gt; decide); (have e2 : ¬ w = 2 := fun e => by subst e; revert a_gt; decide); (have e3 : ¬ w = 3 := fun e => by subst e; revert a_gt; decide); simp [p_mostD, e0, e1, e2, e3]; done)]; exact p_in_m1) | (rw [hmo]; exact c_f)
            have hq : q_tell t.2.1 nd d w v = (6, -6) := q_tell_no (by assumption) hm
            exact e_iret dX9_tell_72 rfl rfl rfl ⟨by rw [hq], fun _ => by rw [hq]; exact (fx_mno_n (by decide)).symm, fun h => by rw [hq] at h; cases h⟩
          · refine e_iload_n dX9_tell_50 rfl ?_
            refine e_iconst dX9_tell_51 kci_3 ?_
            refine e_icmp_gt 66 dX9_tell_52 rfl (fun a_gt => ?_) (fun a_gt => ?_)
            · refine e_aload_n dX9_tell_66 rfl ?_
              refine e_bipush dX9_tell_67 kcb_m6 ?_
              refine e_callV1 (μ' := mX9_no) (ci := 9) (As := [.int (-6)]) dX9_tell_69 wl_X9_136 ok_X9_no rfl rfl (fx_pi_lt (by decide)) (by decide) (Nat.le_of_ble_eq_true rfl) fx_n1 (s_X9_no (m := m) hL (b := 6) (z := (-6)) (by decide) (by decide)) rfl ?_
              have hm : ¬ p_in v 0 (p_mostD w) := by first | contradiction | (rw [show p_mostD w = -1 from by (first | (have e0 : ¬ w = 0 := fun e => by subst e; revert a_lt; decide); (have e1 : ¬ w = 1 := fun e => by subst e; revert a_lt; decide); (have e2 : ¬ w = 2 := fun e => by subst e; revert a_lt; decide); (have e3 : ¬ w = 3 := fun e => by subst e; revert a_lt; decide); simp [p_mostD, e0, e1, e2, e3]; done | (have e0 : ¬ w = 0 := fun e => by subst e; revert a_gt; decide); (have e1 : ¬ w = 1 := fun e => by subst e; revert a_gt; decide); (have e2 : ¬ w = 2 := fun e => by subst e; revert a_gt; decide); (have e3 : ¬ w = 3 := fun e => by subst e; revert a_gt; decide); simp [p_mostD, e0, e1, e2, e3]; done)]; exact p_in_m1) | (rw [hmo]; exact c_f)
              have hq : q_tell t.2.1 nd d w v = (6, -6) := q_tell_no (by assumption) hm
              exact e_iret dX9_tell_72 rfl rfl rfl ⟨by rw [hq], fun _ => by rw [hq]; exact (fx_mno_n (by decide)).symm, fun h => by rw [hq] at h; cases h⟩
            · have hw3 := p_w3 a_lt a_gt
              have hmo : p_mostD w = 40 := by first | (simp [p_mostD, *]; done) | (rw [hw3 (by assumption) (by assumption) (by assumption)]; rfl)
              refine e_aload_n dX9_tell_55 rfl ?_
              refine e_iload_n dX9_tell_56 rfl ?_
              refine e_iconst dX9_tell_57 kci_0 ?_
              refine e_iload dX9_tell_58 rfl ?_
              refine e_callV1 (μ' := mX9_isFrom) (ci := 9) (As := [.int v, .int 0, .int 40]) dX9_tell_60 wl_X9_172 ok_X9_isFrom rfl rfl (fx_pi_lt (by decide)) (by decide) (Nat.le_of_ble_eq_true rfl) fx_n1 (s_X9_isFrom (m := m) hL v 0 40) rfl ?_
              refine e_if_neB 73 dX9_tell_63 rfl (fun c_f => ?_) (fun c_f => ?_)
              · obtain ⟨y, hy, ey⟩ := p_el_ex c_1 (by omega)
                subst ey
                refine e_iload_n dX9_tell_73 rfl ?_
                refine e_if_ne 86 dX9_tell_74 rfl (fun d_0 => ?_) (fun d_0 => ?_)
                · refine e_iload_n dX9_tell_86 rfl ?_
                  refine e_iconst dX9_tell_87 kci_1 ?_
                  refine e_icmp_ne 100 dX9_tell_88 rfl (fun d_1 => ?_) (fun d_1 => ?_)
                  · refine e_iload_n dX9_tell_100 rfl ?_
                    refine e_iconst dX9_tell_101 kci_2 ?_
                    refine e_icmp_ne 114 dX9_tell_102 rfl (fun d_2 => ?_) (fun d_2 => ?_)
                    · refine e_aload_n dX9_tell_114 rfl ?_
                      refine e_getr (o2 := 99) dX9_tell_115 ff_X9_62 rfl (fx_pi_lt (by decide)) (by decide) rfl (hL _ _ _ rfl) ?_
                      refine e_iload_n dX9_tell_118 rfl ?_
                      refine e_ialdv (j := y) (v := t.2.1 y 7) dX9_tell_119 rfl (fx_pi_lt (by decide)) rfl (by omega) (by decide) (H.2.2.2.2.1 _ (by omega) 7 (by decide)) ?_
                      refine e_istore dX9_tell_120 (by decide) rfl ?_
                      refine e_iload_n dX9_tell_122 rfl ?_
                      refine e_if_ne 136 dX9_tell_123 rfl (fun e_0 => ?_) (fun e_0 => ?_)
                      · refine e_iload_n dX9_tell_136 rfl ?_
                        refine e_iconst dX9_tell_137 kci_1 ?_
                        refine e_icmp_ne 151 dX9_tell_138 rfl (fun e_1 => ?_) (fun e_1 => ?_)
                        · refine e_iload_n dX9_tell_151 rfl ?_
                          refine e_iconst dX9_tell_152 kci_2 ?_
                          refine e_icmp_ne 166 dX9_tell_153 rfl (fun e_2 => ?_) (fun e_2 => ?_)
                          · refine e_aload_n dX9_tell_166 rfl ?_
                            refine e_getr (o2 := 99) dX9_tell_167 ff_X9_62 rfl (fx_pi_lt (by decide)) (by decide) rfl (hL _ _ _ rfl) ?_
                            refine e_iload_n dX9_tell_170 rfl ?_
                            refine e_iload_n dX9_tell_171 rfl ?_
                            refine e_iast (j := y) dX9_tell_172 rfl (fx_pi_lt (by decide)) rfl (by omega) (by decide) ?_
                            refine e_iload dX9_tell_173 rfl ?_
                            have hq : q_tell t.2.1 nd (nI y) w v = (0, t.2.1 (p_ix (nI y)) (p_retI w)) := q_tell_ok (by assumption) (by rw [hmo]; exact c_f)
                            have hgD := H.2.2.2.2.2.2.2.2 y hy
                            exact e_iret dX9_tell_175 rfl rfl rfl ⟨by rw [hq, p_ix_n (show y < 2 ^ 31 by omega)]; first | contradiction | (simp [p_retI, *]; done), fun h => absurd (congrArg Prod.fst hq) h, fun _ => by rw [p_ix_n (show y < 2 ^ 31 by omega)]; first | contradiction | (rw [show p_retI w = 3 from by simp [p_retI, *]]; exact ⟨H.sD (j := 3) hy (by decide) (hgD.u3 c_f), (fx_KF.refl m).sI (by omega)⟩) | (rw [show p_retI w = 5 from by simp [p_retI, *]]; exact ⟨H.sD (j := 5) hy (by decide) (hgD.u5 c_f), (fx_KF.refl m).sI (by omega)⟩) | (rw [show p_retI w = 6 from by simp [p_retI, *]]; exact ⟨H.sD (j := 6) hy (by decide) (hgD.u6 c_f), (fx_KF.refl m).sI (by omega)⟩) | (rw [show p_retI w = 7 from by simp [p_retI, *]]; exact ⟨H.sD (j := 7) hy (by decide) (hgD.u7 c_f), (fx_KF.refl m).sI (by omega)⟩)⟩
                          · refine e_aload_n dX9_tell_156 rfl ?_
                            refine e_getr (o2 := 98) dX9_tell_157 ff_X9_59 rfl (fx_pi_lt (by decide)) (by decide) rfl (hL _ _ _ rfl) ?_
                            refine e_iload_n dX9_tell_160 rfl ?_
                            refine e_iload_n dX9_tell_161 rfl ?_
                            refine e_iast (j := y) dX9_tell_162 rfl (fx_pi_lt (by decide)) rfl (by omega) (by decide) ?_
                            refine e_goto 173 dX9_tell_163 rfl ?_
                            refine e_iload dX9_tell_173 rfl ?_
                            have hq : q_tell t.2.1 nd (nI y) w v = (0, t.2.1 (p_ix (nI y)) (p_retI w)) := q_tell_ok (by assumption) (by rw [hmo]; exact c_f)
                            have hgD := H.2.2.2.2.2.2.2.2 y hy
                            exact e_iret dX9_tell_175 rfl rfl rfl ⟨by rw [hq, p_ix_n (show y < 2 ^ 31 by omega)]; first | contradiction | (simp [p_retI, *]; done), fun h => absurd (congrArg Prod.fst hq) h, fun _ => by rw [p_ix_n (show y < 2 ^ 31 by omega)]; first | contradiction | (rw [show p_retI w = 3 from by simp [p_retI, *]]; exact ⟨H.sD (j := 3) hy (by decide) (hgD.u3 c_f), (fx_KF.refl m).sI (by omega)⟩) | (rw [show p_retI w = 5 from by simp [p_retI, *]]; exact ⟨H.sD (j := 5) hy (by decide) (hgD.u5 c_f), (fx_KF.refl m).sI (by omega)⟩) | (rw [show p_retI w = 6 from by simp [p_retI, *]]; exact ⟨H.sD (j := 6) hy (by decide) (hgD.u6 c_f), (fx_KF.refl m).sI (by omega)⟩) | (rw [show p_retI w = 7 from by simp [p_retI, *]]; exact ⟨H.sD (j := 7) hy (by decide) (hgD.u7 c_f), (fx_KF.refl m).sI (by omega)⟩)⟩
                        · refine e_aload_n dX9_tell_141 rfl ?_
                          refine e_getr (o2 := 97) dX9_tell_142 ff_X9_56 rfl (fx_pi_lt (by decide)) (by decide) rfl (hL _ _ _ rfl) ?_
                          refine e_iload_n dX9_tell_145 rfl ?_
                          refine e_iload_n dX9_tell_146 rfl ?_
                          refine e_iast (j := y) dX9_tell_147 rfl (fx_pi_lt (by decide)) rfl (by omega) (by decide) ?_
                          refine e_goto 173 dX9_tell_148 rfl ?_
                          refine e_iload dX9_tell_173 rfl ?_
                          have hq : q_tell t.2.1 nd (nI y) w v = (0, t.2.1 (p_ix (nI y)) (p_retI w)) := q_tell_ok (by assumption) (by rw [hmo]; exact c_f)
                          have hgD := H.2.2.2.2.2.2.2.2 y hy
                          exact e_iret dX9_tell_175 rfl rfl rfl ⟨by rw [hq, p_ix_n (show y < 2 ^ 31 by omega)]; first | contradiction | (simp [p_retI, *]; done), fun h => absurd (congrArg Prod.fst hq) h, fun _ => by rw [p_ix_n (show y < 2 ^ 31 by omega)]; first | contradiction | (rw [show p_retI w = 3 from by simp [p_retI, *]]; exact ⟨H.sD (j := 3) hy (by decide) (hgD.u3 c_f), (fx_KF.refl m).sI (by omega)⟩) | (rw [show p_retI w = 5 from by simp [p_retI, *]]; exact ⟨H.sD (j := 5) hy (by decide) (hgD.u5 c_f), (fx_KF.refl m).sI (by omega)⟩) | (rw [show p_retI w = 6 from by simp [p_retI, *]]; exact ⟨H.sD (j := 6) hy (by decide) (hgD.u6 c_f), (fx_KF.refl m).sI (by omega)⟩) | (rw [show p_retI w = 7 from by simp [p_retI, *]]; exact ⟨H.sD (j := 7) hy (by decide) (hgD.u7 c_f), (fx_KF.refl m).sI (by omega)⟩)⟩
                      · refine e_aload_n dX9_tell_126 rfl ?_
                        refine e_getr (o2 := 95) dX9_tell_127 ff_X9_50 rfl (fx_pi_lt (by decide)) (by decide) rfl (hL _ _ _ rfl) ?_
                        refine e_iload_n dX9_tell_130 rfl ?_
                        refine e_iload_n dX9_tell_131 rfl ?_
                        refine e_iast (j := y) dX9_tell_132 rfl (fx_pi_lt (by decide)) rfl (by omega) (by decide) ?_
                        refine e_goto 173 dX9_tell_133 rfl ?_
                        refine e_iload dX9_tell_173 rfl ?_
                        have hq : q_tell t.2.1 nd (nI y) w v = (0, t.2.1 (p_ix (nI y)) (p_retI w)) := q_tell_ok (by assumption) (by rw [hmo]; exact c_f)
                        have hgD := H.2.2.2.2.2.2.2.2 y hy
                        exact e_iret dX9_tell_175 rfl rfl rfl ⟨by rw [hq, p_ix_n (show y < 2 ^ 31 by omega)]; first | contradiction | (simp [p_retI, *]; done), fun h => absurd (congrArg Prod.fst hq) h, fun _ => by rw [p_ix_n (show y < 2 ^ 31 by omega)]; first | contradiction | (rw [show p_retI w = 3 from by simp [p_retI, *]]; exact ⟨H.sD (j := 3) hy (by decide) (hgD.u3 c_f), (fx_KF.refl m).sI (by omega)⟩) | (rw [show p_retI w = 5 from by simp [p_retI, *]]; exact ⟨H.sD (j := 5) hy (by decide) (hgD.u5 c_f), (fx_KF.refl m).sI (by omega)⟩) | (rw [show p_retI w = 6 from by simp [p_retI, *]]; exact ⟨H.sD (j := 6) hy (by decide) (hgD.u6 c_f), (fx_KF.refl m).sI (by omega)⟩) | (rw [show p_retI w = 7 from by simp [p_retI, *]]; exact ⟨H.sD (j := 7) hy (by decide) (hgD.u7 c_f), (fx_KF.refl m).sI (by omega)⟩)⟩
                    · refine e_aload_n dX9_tell_105 rfl ?_
                      refine e_getr (o2 := 98) dX9_tell_106 ff_X9_59 rfl (fx_pi_lt (by decide)) (by decide) rfl (hL _ _ _ rfl) ?_
                      refine e_iload_n dX9_tell_109 rfl ?_
                      refine e_ialdv (j := y) (v := t.2.1 y 6) dX9_tell_110 rfl (fx_pi_lt (by decide)) rfl (by omega) (by decide) (H.2.2.2.2.1 _ (by omega) 6 (by decide)) ?_
                      refine e_goto 120 dX9_tell_111 rfl ?_
                      refine e_istore dX9_tell_120 (by decide) rfl ?_
                      refine e_iload_n dX9_tell_122 rfl ?_
                      refine e_if_ne 136 dX9_tell_123 rfl (fun e_0 => ?_) (fun e_0 => ?_)
                      · refine e_iload_n dX9_tell_136 rfl ?_
                        refine e_iconst dX9_tell_137 kci_1 ?_
                        refine e_icmp_ne 151 dX9_tell_138 rfl (fun e_1 => ?_) (fun e_1 => ?_)
                        · refine e_iload_n dX9_tell_151 rfl ?_
                          refine e_iconst dX9_tell_152 kci_2 ?_
                          refine e_icmp_ne 166 dX9_tell_153 rfl (fun e_2 => ?_) (fun e_2 => ?_)
                          · refine e_aload_n dX9_tell_166 rfl ?_
                            refine e_getr (o2 := 99) dX9_tell_167 ff_X9_62 rfl (fx_pi_lt (by decide)) (by decide) rfl (hL _ _ _ rfl) ?_
                            refine e_iload_n dX9_tell_170 rfl ?_
                            refine e_iload_n dX9_tell_171 rfl ?_
                            refine e_iast (j := y) dX9_tell_172 rfl (fx_pi_lt (by decide)) rfl (by omega) (by decide) ?_
                            refine e_iload dX9_tell_173 rfl ?_
                            have hq : q_tell t.2.1 nd (nI y) w v = (0, t.2.1 (p_ix (nI y)) (p_retI w)) := q_tell_ok (by assumption) (by rw [hmo]; exact c_f)
                            have hgD := H.2.2.2.2.2.2.2.2 y hy
                            exact e_iret dX9_tell_175 rfl rfl rfl ⟨by rw [hq, p_ix_n (show y < 2 ^ 31 by omega)]; first | contradiction | (simp [p_retI, *]; done), fun h => absurd (congrArg Prod.fst hq) h, fun _ => by rw [p_ix_n (show y < 2 ^ 31 by omega)]; first | contradiction | (rw [show p_retI w = 3 from by simp [p_retI, *]]; exact ⟨H.sD (j := 3) hy (by decide) (hgD.u3 c_f), (fx_KF.refl m).sI (by omega)⟩) | (rw [show p_retI w = 5 from by simp [p_retI, *]]; exact ⟨H.sD (j := 5) hy (by decide) (hgD.u5 c_f), (fx_KF.refl m).sI (by omega)⟩) | (rw [show p_retI w = 6 from by simp [p_retI, *]]; exact ⟨H.sD (j := 6) hy (by decide) (hgD.u6 c_f), (fx_KF.refl m).sI (by omega)⟩) | (rw [show p_retI w = 7 from by simp [p_retI, *]]; exact ⟨H.sD (j := 7) hy (by decide) (hgD.u7 c_f), (fx_KF.refl m).sI (by omega)⟩)⟩
                          · refine e_aload_n dX9_tell_156 rfl ?_
                            refine e_getr (o2 := 98) dX9_tell_157 ff_X9_59 rfl (fx_pi_lt (by decide)) (by decide) rfl (hL _ _ _ rfl) ?_
                            refine e_iload_n dX9_tell_160 rfl ?_
                            refine e_iload_n dX9_tell_161 rfl ?_
                            refine e_iast (j := y) dX9_tell_162 rfl (fx_pi_lt (by decide)) rfl (by omega) (by decide) ?_
                            refine e_goto 173 dX9_tell_163 rfl ?_
                            refine e_iload dX9_tell_173 rfl ?_
                            have hq : q_tell t.2.1 nd (nI y) w v = (0, t.2.1 (p_ix (nI y)) (p_retI w)) := q_tell_ok (by assumption) (by rw [hmo]; exact c_f)
                            have hgD := H.2.2.2.2.2.2.2.2 y hy
                            exact e_iret dX9_tell_175 rfl rfl rfl ⟨by rw [hq, p_ix_n (show y < 2 ^ 31 by omega)]; first | contradiction | (simp [p_retI, *]; done), fun h => absurd (congrArg Prod.fst hq) h, fun _ => by rw [p_ix_n (show y < 2 ^ 31 by omega)]; first | contradiction | (rw [show p_retI w = 3 from by simp [p_retI, *]]; exact ⟨H.sD (j := 3) hy (by decide) (hgD.u3 c_f), (fx_KF.refl m).sI (by omega)⟩) | (rw [show p_retI w = 5 from by simp [p_retI, *]]; exact ⟨H.sD (j := 5) hy (by decide) (hgD.u5 c_f), (fx_KF.refl m).sI (by omega)⟩) | (rw [show p_retI w = 6 from by simp [p_retI, *]]; exact ⟨H.sD (j := 6) hy (by decide) (hgD.u6 c_f), (fx_KF.refl m).sI (by omega)⟩) | (rw [show p_retI w = 7 from by simp [p_retI, *]]; exact ⟨H.sD (j := 7) hy (by decide) (hgD.u7 c_f), (fx_KF.refl m).sI (by omega)⟩)⟩
                        · refine e_aload_n dX9_tell_141 rfl ?_
                          refine e_getr (o2 := 97) dX9_tell_142 ff_X9_56 rfl (fx_pi_lt (by decide)) (by decide) rfl (hL _ _ _ rfl) ?_
                          refine e_iload_n dX9_tell_145 rfl ?_
                          refine e_iload_n dX9_tell_146 rfl ?_
                          refine e_iast (j := y) dX9_tell_147 rfl (fx_pi_lt (by decide)) rfl (by omega) (by decide) ?_
                          refine e_goto 173 dX9_tell_148 rfl ?_
                          refine e_iload dX9_tell_173 rfl ?_
                          have hq : q_tell t.2.1 nd (nI y) w v = (0, t.2.1 (p_ix (nI y)) (p_retI w)) := q_tell_ok (by assumption) (by rw [hmo]; exact c_f)
                          have hgD := H.2.2.2.2.2.2.2.2 y hy
                          exact e_iret dX9_tell_175 rfl rfl rfl ⟨by rw [hq, p_ix_n (show y < 2 ^ 31 by omega)]; first | contradiction | (simp [p_retI, *]; done), fun h => absurd (congrArg Prod.fst hq) h, fun _ => by rw [p_ix_n (show y < 2 ^ 31 by omega)]; first | contradiction | (rw [show p_retI w = 3 from by simp [p_retI, *]]; exact ⟨H.sD (j := 3) hy (by decide) (hgD.u3 c_f), (fx_KF.refl m).sI (by omega)⟩) | (rw [show p_retI w = 5 from by simp [p_retI, *]]; exact ⟨H.sD (j := 5) hy (by decide) (hgD.u5 c_f), (fx_KF.refl m).sI (by omega)⟩) | (rw [show p_retI w = 6 from by simp [p_retI, *]]; exact ⟨H.sD (j := 6) hy (by decide) (hgD.u6 c_f), (fx_KF.refl m).sI (by omega)⟩) | (rw [show p_retI w = 7 from by simp [p_retI, *]]; exact ⟨H.sD (j := 7) hy (by decide) (hgD.u7 c_f), (fx_KF.refl m).sI (by omega)⟩)⟩
                      · refine e_aload_n dX9_tell_126 rfl ?_
                        refine e_getr (o2 := 95) dX9_tell_127 ff_X9_50 rfl (fx_pi_lt (by decide)) (by decide) rfl (hL _ _ _ rfl) ?_
                        refine e_iload_n dX9_tell_130 rfl ?_
                        refine e_iload_n dX9_tell_131 rfl ?_
                        refine e_iast (j := y) dX9_tell_132 rfl (fx_pi_lt (by decide)) rfl (by omega) (by decide) ?_
                        refine e_goto 173 dX9_tell_133 rfl ?_
                        refine e_iload dX9_tell_173 rfl ?_
                        have hq : q_tell t.2.1 nd (nI y) w v = (0, t.2.1 (p_ix (nI y)) (p_retI w)) := q_tell_ok (by assumption) (by rw [hmo]; exact c_f)
                        have hgD := H.2.2.2.2.2.2.2.2 y hy
                        exact e_iret dX9_tell_175 rfl rfl rfl ⟨by rw [hq, p_ix_n (show y < 2 ^ 31 by omega)]; first | contradiction | (simp [p_retI, *]; done), fun h => absurd (congrArg Prod.fst hq) h, fun _ => by rw [p_ix_n (show y < 2 ^ 31 by omega)]; first | contradiction | (rw [show p_retI w = 3 from by simp [p_retI, *]]; exact ⟨H.sD (j := 3) hy (by decide) (hgD.u3 c_f), (fx_KF.refl m).sI (by omega)⟩) | (rw [show p_retI w = 5 from by simp [p_retI, *]]; exact ⟨H.sD (j := 5) hy (by decide) (hgD.u5 c_f), (fx_KF.refl m).sI (by omega)⟩) | (rw [show p_retI w = 6 from by simp [p_retI, *]]; exact ⟨H.sD (j := 6) hy (by decide) (hgD.u6 c_f), (fx_KF.refl m).sI (by omega)⟩) | (rw [show p_retI w = 7 from by simp [p_retI, *]]; exact ⟨H.sD (j := 7) hy (by decide) (hgD.u7 c_f), (fx_KF.refl m).sI (by omega)⟩)⟩
                  · refine e_aload_n dX9_tell_91 rfl ?_
                    refine e_getr (o2 := 97) dX9_tell_92 ff_X9_56 rfl (fx_pi_lt (by decide)) (by decide) rfl (hL _ _ _ rfl) ?_
                    refine e_iload_n dX9_tell_95 rfl ?_
                    refine e_ialdv (j := y) (v := t.2.1 y 5) dX9_tell_96 rfl (fx_pi_lt (by decide)) rfl (by omega) (by decide) (H.2.2.2.2.1 _ (by omega) 5 (by decide)) ?_
                    refine e_goto 120 dX9_tell_97 rfl ?_
                    refine e_istore dX9_tell_120 (by decide) rfl ?_
                    refine e_iload_n dX9_tell_122 rfl ?_
                    refine e_if_ne 136 dX9_tell_123 rfl (fun e_0 => ?_) (fun e_0 => ?_)
                    · refine e_iload_n dX9_tell_136 rfl ?_
                      refine e_iconst dX9_tell_137 kci_1 ?_
                      refine e_icmp_ne 151 dX9_tell_138 rfl (fun e_1 => ?_) (fun e_1 => ?_)
                      · refine e_iload_n dX9_tell_151 rfl ?_
                        refine e_iconst dX9_tell_152 kci_2 ?_
                        refine e_icmp_ne 166 dX9_tell_153 rfl (fun e_2 => ?_) (fun e_2 => ?_)
                        · refine e_aload_n dX9_tell_166 rfl ?_
                          refine e_getr (o2 := 99) dX9_tell_167 ff_X9_62 rfl (fx_pi_lt (by decide)) (by decide) rfl (hL _ _ _ rfl) ?_
                          refine e_iload_n dX9_tell_170 rfl ?_
                          refine e_iload_n dX9_tell_171 rfl ?_
                          refine e_iast (j := y) dX9_tell_172 rfl (fx_pi_lt (by decide)) rfl (by omega) (by decide) ?_
                          refine e_iload dX9_tell_173 rfl ?_
                          have hq : q_tell t.2.1 nd (nI y) w v = (0, t.2.1 (p_ix (nI y)) (p_retI w)) := q_tell_ok (by assumption) (by rw [hmo]; exact c_f)
                          have hgD := H.2.2.2.2.2.2.2.2 y hy
                          exact e_iret dX9_tell_175 rfl rfl rfl ⟨by rw [hq, p_ix_n (show y < 2 ^ 31 by omega)]; first | contradiction | (simp [p_retI, *]; done), fun h => absurd (congrArg Prod.fst hq) h, fun _ => by rw [p_ix_n (show y < 2 ^ 31 by omega)]; first | contradiction | (rw [show p_retI w = 3 from by simp [p_retI, *]]; exact ⟨H.sD (j := 3) hy (by decide) (hgD.u3 c_f), (fx_KF.refl m).sI (by omega)⟩) | (rw [show p_retI w = 5 from by simp [p_retI, *]]; exact ⟨H.sD (j := 5) hy (by decide) (hgD.u5 c_f), (fx_KF.refl m).sI (by omega)⟩) | (rw [show p_retI w = 6 from by simp [p_retI, *]]; exact ⟨H.sD (j := 6) hy (by decide) (hgD.u6 c_f), (fx_KF.refl m).sI (by omega)⟩) | (rw [show p_retI w = 7 from by simp [p_retI, *]]; exact ⟨H.sD (j := 7) hy (by decide) (hgD.u7 c_f), (fx_KF.refl m).sI (by omega)⟩)⟩
                        · refine e_aload_n dX9_tell_156 rfl ?_
                          refine e_getr (o2 := 98) dX9_tell_157 ff_X9_59 rfl (fx_pi_lt (by decide)) (by decide) rfl (hL _ _ _ rfl) ?_
                          refine e_iload_n dX9_tell_160 rfl ?_
                          refine e_iload_n dX9_tell_161 rfl ?_
                          refine e_iast (j := y) dX9_tell_162 rfl (fx_pi_lt (by decide)) rfl (by omega) (by decide) ?_
                          refine e_goto 173 dX9_tell_163 rfl ?_
                          refine e_iload dX9_tell_173 rfl ?_
                          have hq : q_tell t.2.1 nd (nI y) w v = (0, t.2.1 (p_ix (nI y)) (p_retI w)) := q_tell_ok (by assumption) (by rw [hmo]; exact c_f)
                          have hgD := H.2.2.2.2.2.2.2.2 y hy
                          exact e_iret dX9_tell_175 rfl rfl rfl ⟨by rw [hq, p_ix_n (show y < 2 ^ 31 by omega)]; first | contradiction | (simp [p_retI, *]; done), fun h => absurd (congrArg Prod.fst hq) h, fun _ => by rw [p_ix_n (show y < 2 ^ 31 by omega)]; first | contradiction | (rw [show p_retI w = 3 from by simp [p_retI, *]]; exact ⟨H.sD (j := 3) hy (by decide) (hgD.u3 c_f), (fx_KF.refl m).sI (by omega)⟩) | (rw [show p_retI w = 5 from by simp [p_retI, *]]; exact ⟨H.sD (j := 5) hy (by decide) (hgD.u5 c_f), (fx_KF.refl m).sI (by omega)⟩) | (rw [show p_retI w = 6 from by simp [p_retI, *]]; exact ⟨H.sD (j := 6) hy (by decide) (hgD.u6 c_f), (fx_KF.refl m).sI (by omega)⟩) | (rw [show p_retI w = 7 from by simp [p_retI, *]]; exact ⟨H.sD (j := 7) hy (by decide) (hgD.u7 c_f), (fx_KF.refl m).sI (by omega)⟩)⟩
                      · refine e_aload_n dX9_tell_141 rfl ?_
                        refine e_getr (o2 := 97) dX9_tell_142 ff_X9_56 rfl (fx_pi_lt (by decide)) (by decide) rfl (hL _ _ _ rfl) ?_
                        refine e_iload_n dX9_tell_145 rfl ?_
                        refine e_iload_n dX9_tell_146 rfl ?_
                        refine e_iast (j := y) dX9_tell_147 rfl (fx_pi_lt (by decide)) rfl (by omega) (by decide) ?_
                        refine e_goto 173 dX9_tell_148 rfl ?_
                        refine e_iload dX9_tell_173 rfl ?_
                        have hq : q_tell t.2.1 nd (nI y) w v = (0, t.2.1 (p_ix (nI y)) (p_retI w)) := q_tell_ok (by assumption) (by rw [hmo]; exact c_f)
                        have hgD := H.2.2.2.2.2.2.2.2 y hy
                        exact e_iret dX9_tell_175 rfl rfl rfl ⟨by rw [hq, p_ix_n (show y < 2 ^ 31 by omega)]; first | contradiction | (simp [p_retI, *]; done), fun h => absurd (congrArg Prod.fst hq) h, fun _ => by rw [p_ix_n (show y < 2 ^ 31 by omega)]; first | contradiction | (rw [show p_retI w = 3 from by simp [p_retI, *]]; exact ⟨H.sD (j := 3) hy (by decide) (hgD.u3 c_f), (fx_KF.refl m).sI (by omega)⟩) | (rw [show p_retI w = 5 from by simp [p_retI, *]]; exact ⟨H.sD (j := 5) hy (by decide) (hgD.u5 c_f), (fx_KF.refl m).sI (by omega)⟩) | (rw [show p_retI w = 6 from by simp [p_retI, *]]; exact ⟨H.sD (j := 6) hy (by decide) (hgD.u6 c_f), (fx_KF.refl m).sI (by omega)⟩) | (rw [show p_retI w = 7 from by simp [p_retI, *]]; exact ⟨H.sD (j := 7) hy (by decide) (hgD.u7 c_f), (fx_KF.refl m).sI (by omega)⟩)⟩
                    · refine e_aload_n dX9_tell_126 rfl ?_
                      refine e_getr (o2 := 95) dX9_tell_127 ff_X9_50 rfl (fx_pi_lt (by decide)) (by decide) rfl (hL _ _ _ rfl) ?_
                      refine e_iload_n dX9_tell_130 rfl ?_
                      refine e_iload_n dX9_tell_131 rfl ?_
                      refine e_iast (j := y) dX9_tell_132 rfl (fx_pi_lt (by decide)) rfl (by omega) (by decide) ?_
                      refine e_goto 173 dX9_tell_133 rfl ?_
                      refine e_iload dX9_tell_173 rfl ?_
                      have hq : q_tell t.2.1 nd (nI y) w v = (0, t.2.1 (p_ix (nI y)) (p_retI w)) := q_tell_ok (by assumption) (by rw [hmo]; exact c_f)
                      have hgD := H.2.2.2.2.2.2.2.2 y hy
                      exact e_iret dX9_tell_175 rfl rfl rfl ⟨by rw [hq, p_ix_n (show y < 2 ^ 31 by omega)]; first | contradiction | (simp [p_retI, *]; done), fun h => absurd (congrArg Prod.fst hq) h, fun _ => by rw [p_ix_n (show y < 2 ^ 31 by omega)]; first | contradiction | (rw [show p_retI w = 3 from by simp [p_retI, *]]; exact ⟨H.sD (j := 3) hy (by decide) (hgD.u3 c_f), (fx_KF.refl m).sI (by omega)⟩) | (rw [show p_retI w = 5 from by simp [p_retI, *]]; exact ⟨H.sD (j := 5) hy (by decide) (hgD.u5 c_f), (fx_KF.refl m).sI (by omega)⟩) | (rw [show p_retI w = 6 from by simp [p_retI, *]]; exact ⟨H.sD (j := 6) hy (by decide) (hgD.u6 c_f), (fx_KF.refl m).sI (by omega)⟩) | (rw [show p_retI w = 7 from by simp [p_retI, *]]; exact ⟨H.sD (j := 7) hy (by decide) (hgD.u7 c_f), (fx_KF.refl m).sI (by omega)⟩)⟩
                · refine e_aload_n dX9_tell_77 rfl ?_
                  refine e_getr (o2 := 95) dX9_tell_78 ff_X9_50 rfl (fx_pi_lt (by decide)) (by decide) rfl (hL _ _ _ rfl) ?_
                  refine e_iload_n dX9_tell_81 rfl ?_
                  refine e_ialdv (j := y) (v := t.2.1 y 3) dX9_tell_82 rfl (fx_pi_lt (by decide)) rfl (by omega) (by decide) (H.2.2.2.2.1 _ (by omega) 3 (by decide)) ?_
                  refine e_goto 120 dX9_tell_83 rfl ?_
                  refine e_istore dX9_tell_120 (by decide) rfl ?_
                  refine e_iload_n dX9_tell_122 rfl ?_
                  refine e_if_ne 136 dX9_tell_123 rfl (fun e_0 => ?_) (fun e_0 => ?_)
                  · refine e_iload_n dX9_tell_136 rfl ?_
                    refine e_iconst dX9_tell_137 kci_1 ?_
                    refine e_icmp_ne 151 dX9_tell_138 rfl (fun e_1 => ?_) (fun e_1 => ?_)
                    · refine e_iload_n dX9_tell_151 rfl ?_
                      refine e_iconst dX9_tell_152 kci_2 ?_
                      refine e_icmp_ne 166 dX9_tell_153 rfl (fun e_2 => ?_) (fun e_2 => ?_)
                      · refine e_aload_n dX9_tell_166 rfl ?_
                        refine e_getr (o2 := 99) dX9_tell_167 ff_X9_62 rfl (fx_pi_lt (by decide)) (by decide) rfl (hL _ _ _ rfl) ?_
                        refine e_iload_n dX9_tell_170 rfl ?_
                        refine e_iload_n dX9_tell_171 rfl ?_
                        refine e_iast (j := y) dX9_tell_172 rfl (fx_pi_lt (by decide)) rfl (by omega) (by decide) ?_
                        refine e_iload dX9_tell_173 rfl ?_
                        have hq : q_tell t.2.1 nd (nI y) w v = (0, t.2.1 (p_ix (nI y)) (p_retI w)) := q_tell_ok (by assumption) (by rw [hmo]; exact c_f)
                        have hgD := H.2.2.2.2.2.2.2.2 y hy
                        exact e_iret dX9_tell_175 rfl rfl rfl ⟨by rw [hq, p_ix_n (show y < 2 ^ 31 by omega)]; first | contradiction | (simp [p_retI, *]; done), fun h => absurd (congrArg Prod.fst hq) h, fun _ => by rw [p_ix_n (show y < 2 ^ 31 by omega)]; first | contradiction | (rw [show p_retI w = 3 from by simp [p_retI, *]]; exact ⟨H.sD (j := 3) hy (by decide) (hgD.u3 c_f), (fx_KF.refl m).sI (by omega)⟩) | (rw [show p_retI w = 5 from by simp [p_retI, *]]; exact ⟨H.sD (j := 5) hy (by decide) (hgD.u5 c_f), (fx_KF.refl m).sI (by omega)⟩) | (rw [show p_retI w = 6 from by simp [p_retI, *]]; exact ⟨H.sD (j := 6) hy (by decide) (hgD.u6 c_f), (fx_KF.refl m).sI (by omega)⟩) | (rw [show p_retI w = 7 from by simp [p_retI, *]]; exact ⟨H.sD (j := 7) hy (by decide) (hgD.u7 c_f), (fx_KF.refl m).sI (by omega)⟩)⟩
                      · refine e_aload_n dX9_tell_156 rfl ?_
                        refine e_getr (o2 := 98) dX9_tell_157 ff_X9_59 rfl (fx_pi_lt (by decide)) (by decide) rfl (hL _ _ _ rfl) ?_
                        refine e_iload_n dX9_tell_160 rfl ?_
                        refine e_iload_n dX9_tell_161 rfl ?_
                        refine e_iast (j := y) dX9_tell_162 rfl (fx_pi_lt (by decide)) rfl (by omega) (by decide) ?_
                        refine e_goto 173 dX9_tell_163 rfl ?_
                        refine e_iload dX9_tell_173 rfl ?_
                        have hq : q_tell t.2.1 nd (nI y) w v = (0, t.2.1 (p_ix (nI y)) (p_retI w)) := q_tell_ok (by assumption) (by rw [hmo]; exact c_f)
                        have hgD := H.2.2.2.2.2.2.2.2 y hy
                        exact e_iret dX9_tell_175 rfl rfl rfl ⟨by rw [hq, p_ix_n (show y < 2 ^ 31 by omega)]; first | contradiction | (simp [p_retI, *]; done), fun h => absurd (congrArg Prod.fst hq) h, fun _ => by rw [p_ix_n (show y < 2 ^ 31 by omega)]; first | contradiction | (rw [show p_retI w = 3 from by simp [p_retI, *]]; exact ⟨H.sD (j := 3) hy (by decide) (hgD.u3 c_f), (fx_KF.refl m).sI (by omega)⟩) | (rw [show p_retI w = 5 from by simp [p_retI, *]]; exact ⟨H.sD (j := 5) hy (by decide) (hgD.u5 c_f), (fx_KF.refl m).sI (by omega)⟩) | (rw [show p_retI w = 6 from by simp [p_retI, *]]; exact ⟨H.sD (j := 6) hy (by decide) (hgD.u6 c_f), (fx_KF.refl m).sI (by omega)⟩) | (rw [show p_retI w = 7 from by simp [p_retI, *]]; exact ⟨H.sD (j := 7) hy (by decide) (hgD.u7 c_f), (fx_KF.refl m).sI (by omega)⟩)⟩
                    · refine e_aload_n dX9_tell_141 rfl ?_
                      refine e_getr (o2 := 97) dX9_tell_142 ff_X9_56 rfl (fx_pi_lt (by decide)) (by decide) rfl (hL _ _ _ rfl) ?_
                      refine e_iload_n dX9_tell_145 rfl ?_
                      refine e_iload_n dX9_tell_146 rfl ?_
                      refine e_iast (j := y) dX9_tell_147 rfl (fx_pi_lt (by decide)) rfl (by omega) (by decide) ?_
                      refine e_goto 173 dX9_tell_148 rfl ?_
                      refine e_iload dX9_tell_173 rfl ?_
                      have hq : q_tell t.2.1 nd (nI y) w v = (0, t.2.1 (p_ix (nI y)) (p_retI w)) := q_tell_ok (by assumption) (by rw [hmo]; exact c_f)
                      have hgD := H.2.2.2.2.2.2.2.2 y hy
                      exact e_iret dX9_tell_175 rfl rfl rfl ⟨by rw [hq, p_ix_n (show y < 2 ^ 31 by omega)]; first | contradiction | (simp [p_retI, *]; done), fun h => absurd (congrArg Prod.fst hq) h, fun _ => by rw [p_ix_n (show y < 2 ^ 31 by omega)]; first | contradiction | (rw [show p_retI w = 3 from by simp [p_retI, *]]; exact ⟨H.sD (j := 3) hy (by decide) (hgD.u3 c_f), (fx_KF.refl m).sI (by omega)⟩) | (rw [show p_retI w = 5 from by simp [p_retI, *]]; exact ⟨H.sD (j := 5) hy (by decide) (hgD.u5 c_f), (fx_KF.refl m).sI (by omega)⟩) | (rw [show p_retI w = 6 from by simp [p_retI, *]]; exact ⟨H.sD (j := 6) hy (by decide) (hgD.u6 c_f), (fx_KF.refl m).sI (by omega)⟩) | (rw [show p_retI w = 7 from by simp [p_retI, *]]; exact ⟨H.sD (j := 7) hy (by decide) (hgD.u7 c_f), (fx_KF.refl m).sI (by omega)⟩)⟩
                  · refine e_aload_n dX9_tell_126 rfl ?_
                    refine e_getr (o2 := 95) dX9_tell_127 ff_X9_50 rfl (fx_pi_lt (by decide)) (by decide) rfl (hL _ _ _ rfl) ?_
                    refine e_iload_n dX9_tell_130 rfl ?_
                    refine e_iload_n dX9_tell_131 rfl ?_
                    refine e_iast (j := y) dX9_tell_132 rfl (fx_pi_lt (by decide)) rfl (by omega) (by decide) ?_
                    refine e_goto 173 dX9_tell_133 rfl ?_
                    refine e_iload dX9_tell_173 rfl ?_
                    have hq : q_tell t.2.1 nd (nI y) w v = (0, t.2.1 (p_ix (nI y)) (p_retI w)) := q_tell_ok (by assumption) (by rw [hmo]; exact c_f)
                    have hgD := H.2.2.2.2.2.2.2.2 y hy
                    exact e_iret dX9_tell_175 rfl rfl rfl ⟨by rw [hq, p_ix_n (show y < 2 ^ 31 by omega)]; first | contradiction | (simp [p_retI, *]; done), fun h => absurd (congrArg Prod.fst hq) h, fun _ => by rw [p_ix_n (show y < 2 ^ 31 by omega)]; first | contradiction | (rw [show p_retI w = 3 from by simp [p_retI, *]]; exact ⟨H.sD (j := 3) hy (by decide) (hgD.u3 c_f), (fx_KF.refl m).sI (by omega)⟩) | (rw [show p_retI w = 5 from by simp [p_retI, *]]; exact ⟨H.sD (j := 5) hy (by decide) (hgD.u5 c_f), (fx_KF.refl m).sI (by omega)⟩) | (rw [show p_retI w = 6 from by simp [p_retI, *]]; exact ⟨H.sD (j := 6) hy (by decide) (hgD.u6 c_f), (fx_KF.refl m).sI (by omega)⟩) | (rw [show p_retI w = 7 from by simp [p_retI, *]]; exact ⟨H.sD (j := 7) hy (by decide) (hgD.u7 c_f), (fx_KF.refl m).sI (by omega)⟩)⟩
              · refine e_aload_n dX9_tell_66 rfl ?_
                refine e_bipush dX9_tell_67 kcb_m6 ?_
                refine e_callV1 (μ' := mX9_no) (ci := 9) (As := [.int (-6)]) dX9_tell_69 wl_X9_136 ok_X9_no rfl rfl (fx_pi_lt (by decide)) (by decide) (Nat.le_of_ble_eq_true rfl) fx_n1 (s_X9_no (m := m) hL (b := 6) (z := (-6)) (by decide) (by decide)) rfl ?_
                have hm : ¬ p_in v 0 (p_mostD w) := by first | contradiction | (rw [show p_mostD w = -1 from by (first | (have e0 : ¬ w = 0 := fun e => by subst e; revert a_lt; decide); (have e1 : ¬ w = 1 := fun e => by subst e; revert a_lt; decide); (have e2 : ¬ w = 2 := fun e => by subst e; revert a_lt; decide); (have e3 : ¬ w = 3 := fun e => by subst e; revert a_lt; decide); simp [p_mostD, e0, e1, e2, e3]; done | (have e0 : ¬ w = 0 := fun e => by subst e; revert a_gt; decide); (have e1 : ¬ w = 1 := fun e => by subst e; revert a_gt; decide); (have e2 : ¬ w = 2 := fun e => by subst e; revert a_gt; decide); (have e3 : ¬ w = 3 := fun e => by subst e; revert a_gt; decide); simp [p_mostD, e0, e1, e2, e3]; done)]; exact p_in_m1) | (rw [hmo]; exact c_f)
                have hq : q_tell t.2.1 nd d w v = (6, -6) := q_tell_no (by assumption) hm
                exact e_iret dX9_tell_72 rfl rfl rfl ⟨by rw [hq], fun _ => by rw [hq]; exact (fx_mno_n (by decide)).symm, fun h => by rw [hq] at h; cases h⟩
      · refine e_bipush dX9_tell_27 kcb_9 ?_
        refine e_goto 44 dX9_tell_29 rfl ?_
        refine e_istore dX9_tell_44 (by decide) rfl ?_
        refine e_iload_n dX9_tell_46 rfl ?_
        refine e_if_lt 66 dX9_tell_47 rfl (fun a_lt => ?_) (fun a_lt => ?_)
        · refine e_aload_n dX9_tell_66 rfl ?_
          refine e_bipush dX9_tell_67 kcb_m6 ?_
          refine e_callV1 (μ' := mX9_no) (ci := 9) (As := [.int (-6)]) dX9_tell_69 wl_X9_136 ok_X9_no rfl rfl (fx_pi_lt (by decide)) (by decide) (Nat.le_of_ble_eq_true rfl) fx_n1 (s_X9_no (m := m) hL (b := 6) (z := (-6)) (by decide) (by decide)) rfl ?_
          have hm : ¬ p_in v 0 (p_mostD w) := by first | contradiction | (rw [show p_mostD w = -1 from by (first | (have e0 : ¬ w = 0 := fun e => by subst e; revert a_lt; decide); (have e1 : ¬ w = 1 := fun e => by subst e; revert a_lt; decide); (have e2 : ¬ w = 2 := fun e => by subst e; revert a_lt; decide); (have e3 : ¬ w = 3 := fun e => by subst e; revert a_lt; decide); simp [p_mostD, e0, e1, e2, e3]; done | (have e0 : ¬ w = 0 := fun e => by subst e; revert a_gt; decide); (have e1 : ¬ w = 1 := fun e => by subst e; revert a_gt; decide); (have e2 : ¬ w = 2 := fun e => by subst e; revert a_gt; decide); (have e3 : ¬ w = 3 := fun e => by subst e; revert a_gt; decide); simp [p_mostD, e0, e1, e2, e3]; done)]; exact p_in_m1) | (rw [hmo]; exact c_f)
          have hq : q_tell t.2.1 nd d w v = (6, -6) := q_tell_no (by assumption) hm
          exact e_iret dX9_tell_72 rfl rfl rfl ⟨by rw [hq], fun _ => by rw [hq]; exact (fx_mno_n (by decide)).symm, fun h => by rw [hq] at h; cases h⟩
        · refine e_iload_n dX9_tell_50 rfl ?_
          refine e_iconst dX9_tell_51 kci_3 ?_
          refine e_icmp_gt 66 dX9_tell_52 rfl (fun a_gt => ?_) (fun a_gt => ?_)
          · refine e_aload_n dX9_tell_66 rfl ?_
            refine e_bipush dX9_tell_67 kcb_m6 ?_
            refine e_callV1 (μ' := mX9_no) (ci := 9) (As := [.int (-6)]) dX9_tell_69 wl_X9_136 ok_X9_no rfl rfl (fx_pi_lt (by decide)) (by decide) (Nat.le_of_ble_eq_true rfl) fx_n1 (s_X9_no (m := m) hL (b := 6) (z := (-6)) (by decide) (by decide)) rfl ?_
            have hm : ¬ p_in v 0 (p_mostD w) := by first | contradiction | (rw [show p_mostD w = -1 from by (first | (have e0 : ¬ w = 0 := fun e => by subst e; revert a_lt; decide); (have e1 : ¬ w = 1 := fun e => by subst e; revert a_lt; decide); (have e2 : ¬ w = 2 := fun e => by subst e; revert a_lt; decide); (have e3 : ¬ w = 3 := fun e => by subst e; revert a_lt; decide); simp [p_mostD, e0, e1, e2, e3]; done | (have e0 : ¬ w = 0 := fun e => by subst e; revert a_gt; decide); (have e1 : ¬ w = 1 := fun e => by subst e; revert a_gt; decide); (have e2 : ¬ w = 2 := fun e => by subst e; revert a_gt; decide); (have e3 : ¬ w = 3 := fun e => by subst e; revert a_gt; decide); simp [p_mostD, e0, e1, e2, e3]; done)]; exact p_in_m1) | (rw [hmo]; exact c_f)
            have hq : q_tell t.2.1 nd d w v = (6, -6) := q_tell_no (by assumption) hm
            exact e_iret dX9_tell_72 rfl rfl rfl ⟨by rw [hq], fun _ => by rw [hq]; exact (fx_mno_n (by decide)).symm, fun h => by rw [hq] at h; cases h⟩
          · have hw3 := p_w3 a_lt a_gt
            have hmo : p_mostD w = 9 := by first | (simp [p_mostD, *]; done) | (rw [hw3 (by assumption) (by assumption) (by assumption)]; rfl)
            refine e_aload_n dX9_tell_55 rfl ?_
            refine e_iload_n dX9_tell_56 rfl ?_
            refine e_iconst dX9_tell_57 kci_0 ?_
            refine e_iload dX9_tell_58 rfl ?_
            refine e_callV1 (μ' := mX9_isFrom) (ci := 9) (As := [.int v, .int 0, .int 9]) dX9_tell_60 wl_X9_172 ok_X9_isFrom rfl rfl (fx_pi_lt (by decide)) (by decide) (Nat.le_of_ble_eq_true rfl) fx_n1 (s_X9_isFrom (m := m) hL v 0 9) rfl ?_
            refine e_if_neB 73 dX9_tell_63 rfl (fun c_f => ?_) (fun c_f => ?_)
            · obtain ⟨y, hy, ey⟩ := p_el_ex c_1 (by omega)
              subst ey
              refine e_iload_n dX9_tell_73 rfl ?_
              refine e_if_ne 86 dX9_tell_74 rfl (fun d_0 => ?_) (fun d_0 => ?_)
              · refine e_iload_n dX9_tell_86 rfl ?_
                refine e_iconst dX9_tell_87 kci_1 ?_
                refine e_icmp_ne 100 dX9_tell_88 rfl (fun d_1 => ?_) (fun d_1 => ?_)
                · refine e_iload_n dX9_tell_100 rfl ?_
                  refine e_iconst dX9_tell_101 kci_2 ?_
                  refine e_icmp_ne 114 dX9_tell_102 rfl (fun d_2 => ?_) (fun d_2 => ?_)
                  · refine e_aload_n dX9_tell_114 rfl ?_
                    refine e_getr (o2 := 99) dX9_tell_115 ff_X9_62 rfl (fx_pi_lt (by decide)) (by decide) rfl (hL _ _ _ rfl) ?_
                    refine e_iload_n dX9_tell_118 rfl ?_
                    refine e_ialdv (j := y) (v := t.2.1 y 7) dX9_tell_119 rfl (fx_pi_lt (by decide)) rfl (by omega) (by decide) (H.2.2.2.2.1 _ (by omega) 7 (by decide)) ?_
                    refine e_istore dX9_tell_120 (by decide) rfl ?_
                    refine e_iload_n dX9_tell_122 rfl ?_
                    refine e_if_ne 136 dX9_tell_123 rfl (fun e_0 => ?_) (fun e_0 => ?_)
                    · refine e_iload_n dX9_tell_136 rfl ?_
                      refine e_iconst dX9_tell_137 kci_1 ?_
                      refine e_icmp_ne 151 dX9_tell_138 rfl (fun e_1 => ?_) (fun e_1 => ?_)
                      · refine e_iload_n dX9_tell_151 rfl ?_
                        refine e_iconst dX9_tell_152 kci_2 ?_
                        refine e_icmp_ne 166 dX9_tell_153 rfl (fun e_2 => ?_) (fun e_2 => ?_)
                        · refine e_aload_n dX9_tell_166 rfl ?_
                          refine e_getr (o2 := 99) dX9_tell_167 ff_X9_62 rfl (fx_pi_lt (by decide)) (by decide) rfl (hL _ _ _ rfl) ?_
                          refine e_iload_n dX9_tell_170 rfl ?_
                          refine e_iload_n dX9_tell_171 rfl ?_
                          refine e_iast (j := y) dX9_tell_172 rfl (fx_pi_lt (by decide)) rfl (by omega) (by decide) ?_
                          refine e_iload dX9_tell_173 rfl ?_
                          have hq : q_tell t.2.1 nd (nI y) w v = (0, t.2.1 (p_ix (nI y)) (p_retI w)) := q_tell_ok (by assumption) (by rw [hmo]; exact c_f)
                          have hgD := H.2.2.2.2.2.2.2.2 y hy
                          exact e_iret dX9_tell_175 rfl rfl rfl ⟨by rw [hq, p_ix_n (show y < 2 ^ 31 by omega)]; first | contradiction | (simp [p_retI, *]; done), fun h => absurd (congrArg Prod.fst hq) h, fun _ => by rw [p_ix_n (show y < 2 ^ 31 by omega)]; first | contradiction | (rw [show p_retI w = 3 from by simp [p_retI, *]]; exact ⟨H.sD (j := 3) hy (by decide) (hgD.u3 c_f), (fx_KF.refl m).sI (by omega)⟩) | (rw [show p_retI w = 5 from by simp [p_retI, *]]; exact ⟨H.sD (j := 5) hy (by decide) (hgD.u5 c_f), (fx_KF.refl m).sI (by omega)⟩) | (rw [show p_retI w = 6 from by simp [p_retI, *]]; exact ⟨H.sD (j := 6) hy (by decide) (hgD.u6 c_f), (fx_KF.refl m).sI (by omega)⟩) | (rw [show p_retI w = 7 from by simp [p_retI, *]]; exact ⟨H.sD (j := 7) hy (by decide) (hgD.u7 c_f), (fx_KF.refl m).sI (by omega)⟩)⟩
                        · refine e_aload_n dX9_tell_156 rfl ?_
                          refine e_getr (o2 := 98) dX9_tell_157 ff_X9_59 rfl (fx_pi_lt (by decide)) (by decide) rfl (hL _ _ _ rfl) ?_
                          refine e_iload_n dX9_tell_160 rfl ?_
                          refine e_iload_n dX9_tell_161 rfl ?_
                          refine e_iast (j := y) dX9_tell_162 rfl (fx_pi_lt (by decide)) rfl (by omega) (by decide) ?_
                          refine e_goto 173 dX9_tell_163 rfl ?_
                          refine e_iload dX9_tell_173 rfl ?_
                          have hq : q_tell t.2.1 nd (nI y) w v = (0, t.2.1 (p_ix (nI y)) (p_retI w)) := q_tell_ok (by assumption) (by rw [hmo]; exact c_f)
                          have hgD := H.2.2.2.2.2.2.2.2 y hy
                          exact e_iret dX9_tell_175 rfl rfl rfl ⟨by rw [hq, p_ix_n (show y < 2 ^ 31 by omega)]; first | contradiction | (simp [p_retI, *]; done), fun h => absurd (congrArg Prod.fst hq) h, fun _ => by rw [p_ix_n (show y < 2 ^ 31 by omega)]; first | contradiction | (rw [show p_retI w = 3 from by simp [p_retI, *]]; exact ⟨H.sD (j := 3) hy (by decide) (hgD.u3 c_f), (fx_KF.refl m).sI (by omega)⟩) | (rw [show p_retI w = 5 from by simp [p_retI, *]]; exact ⟨H.sD (j := 5) hy (by decide) (hgD.u5 c_f), (fx_KF.refl m).sI (by omega)⟩) | (rw [show p_retI w = 6 from by simp [p_retI, *]]; exact ⟨H.sD (j := 6) hy (by decide) (hgD.u6 c_f), (fx_KF.refl m).sI (by omega)⟩) | (rw [show p_retI w = 7 from by simp [p_retI, *]]; exact ⟨H.sD (j := 7) hy (by decide) (hgD.u7 c_f), (fx_KF.refl m).sI (by omega)⟩)⟩
                      · refine e_aload_n dX9_tell_141 rfl ?_
                        refine e_getr (o2 := 97) dX9_tell_142 ff_X9_56 rfl (fx_pi_lt (by decide)) (by decide) rfl (hL _ _ _ rfl) ?_
                        refine e_iload_n dX9_tell_145 rfl ?_
                        refine e_iload_n dX9_tell_146 rfl ?_
                        refine e_iast (j := y) dX9_tell_147 rfl (fx_pi_lt (by decide)) rfl (by omega) (by decide) ?_
                        refine e_goto 173 dX9_tell_148 rfl ?_
                        refine e_iload dX9_tell_173 rfl ?_
                        have hq : q_tell t.2.1 nd (nI y) w v = (0, t.2.1 (p_ix (nI y)) (p_retI w)) := q_tell_ok (by assumption) (by rw [hmo]; exact c_f)
                        have hgD := H.2.2.2.2.2.2.2.2 y hy
                        exact e_iret dX9_tell_175 rfl rfl rfl ⟨by rw [hq, p_ix_n (show y < 2 ^ 31 by omega)]; first | contradiction | (simp [p_retI, *]; done), fun h => absurd (congrArg Prod.fst hq) h, fun _ => by rw [p_ix_n (show y < 2 ^ 31 by omega)]; first | contradiction | (rw [show p_retI w = 3 from by simp [p_retI, *]]; exact ⟨H.sD (j := 3) hy (by decide) (hgD.u3 c_f), (fx_KF.refl m).sI (by omega)⟩) | (rw [show p_retI w = 5 from by simp [p_retI, *]]; exact ⟨H.sD (j := 5) hy (by decide) (hgD.u5 c_f), (fx_KF.refl m).sI (by omega)⟩) | (rw [show p_retI w = 6 from by simp [p_retI, *]]; exact ⟨H.sD (j := 6) hy (by decide) (hgD.u6 c_f), (fx_KF.refl m).sI (by omega)⟩) | (rw [show p_retI w = 7 from by simp [p_retI, *]]; exact ⟨H.sD (j := 7) hy (by decide) (hgD.u7 c_f), (fx_KF.refl m).sI (by omega)⟩)⟩
                    · refine e_aload_n dX9_tell_126 rfl ?_
                      refine e_getr (o2 := 95) dX9_tell_127 ff_X9_50 rfl (fx_pi_lt (by decide)) (by decide) rfl (hL _ _ _ rfl) ?_
                      refine e_iload_n dX9_tell_130 rfl ?_
                      refine e_iload_n dX9_tell_131 rfl ?_
                      refine e_iast (j := y) dX9_tell_132 rfl (fx_pi_lt (by decide)) rfl (by omega) (by decide) ?_
                      refine e_goto 173 dX9_tell_133 rfl ?_
                      refine e_iload dX9_tell_173 rfl ?_
                      have hq : q_tell t.2.1 nd (nI y) w v = (0, t.2.1 (p_ix (nI y)) (p_retI w)) := q_tell_ok (by assumption) (by rw [hmo]; exact c_f)
                      have hgD := H.2.2.2.2.2.2.2.2 y hy
                      exact e_iret dX9_tell_175 rfl rfl rfl ⟨by rw [hq, p_ix_n (show y < 2 ^ 31 by omega)]; first | contradiction | (simp [p_retI, *]; done), fun h => absurd (congrArg Prod.fst hq) h, fun _ => by rw [p_ix_n (show y < 2 ^ 31 by omega)]; first | contradiction | (rw [show p_retI w = 3 from by simp [p_retI, *]]; exact ⟨H.sD (j := 3) hy (by decide) (hgD.u3 c_f), (fx_KF.refl m).sI (by omega)⟩) | (rw [show p_retI w = 5 from by simp [p_retI, *]]; exact ⟨H.sD (j := 5) hy (by decide) (hgD.u5 c_f), (fx_KF.refl m).sI (by omega)⟩) | (rw [show p_retI w = 6 from by simp [p_retI, *]]; exact ⟨H.sD (j := 6) hy (by decide) (hgD.u6 c_f), (fx_KF.refl m).sI (by omega)⟩) | (rw [show p_retI w = 7 from by simp [p_retI, *]]; exact ⟨H.sD (j := 7) hy (by decide) (hgD.u7 c_f), (fx_KF.refl m).sI (by omega)⟩)⟩
                  · refine e_aload_n dX9_tell_105 rfl ?_
                    refine e_getr (o2 := 98) dX9_tell_106 ff_X9_59 rfl (fx_pi_lt (by decide)) (by decide) rfl (hL _ _ _ rfl) ?_
                    refine e_iload_n dX9_tell_109 rfl ?_
                    refine e_ialdv (j := y) (v := t.2.1 y 6) dX9_tell_110 rfl (fx_pi_lt (by decide)) rfl (by omega) (by decide) (H.2.2.2.2.1 _ (by omega) 6 (by decide)) ?_
                    refine e_goto 120 dX9_tell_111 rfl ?_
                    refine e_istore dX9_tell_120 (by decide) rfl ?_
                    refine e_iload_n dX9_tell_122 rfl ?_
                    refine e_if_ne 136 dX9_tell_123 rfl (fun e_0 => ?_) (fun e_0 => ?_)
                    · refine e_iload_n dX9_tell_136 rfl ?_
                      refine e_iconst dX9_tell_137 kci_1 ?_
                      refine e_icmp_ne 151 dX9_tell_138 rfl (fun e_1 => ?_) (fun e_1 => ?_)
                      · refine e_iload_n dX9_tell_151 rfl ?_
                        refine e_iconst dX9_tell_152 kci_2 ?_
                        refine e_icmp_ne 166 dX9_tell_153 rfl (fun e_2 => ?_) (fun e_2 => ?_)
                        · refine e_aload_n dX9_tell_166 rfl ?_
                          refine e_getr (o2 := 99) dX9_tell_167 ff_X9_62 rfl (fx_pi_lt (by decide)) (by decide) rfl (hL _ _ _ rfl) ?_
                          refine e_iload_n dX9_tell_170 rfl ?_
                          refine e_iload_n dX9_tell_171 rfl ?_
                          refine e_iast (j := y) dX9_tell_172 rfl (fx_pi_lt (by decide)) rfl (by omega) (by decide) ?_
                          refine e_iload dX9_tell_173 rfl ?_
                          have hq : q_tell t.2.1 nd (nI y) w v = (0, t.2.1 (p_ix (nI y)) (p_retI w)) := q_tell_ok (by assumption) (by rw [hmo]; exact c_f)
                          have hgD := H.2.2.2.2.2.2.2.2 y hy
                          exact e_iret dX9_tell_175 rfl rfl rfl ⟨by rw [hq, p_ix_n (show y < 2 ^ 31 by omega)]; first | contradiction | (simp [p_retI, *]; done), fun h => absurd (congrArg Prod.fst hq) h, fun _ => by rw [p_ix_n (show y < 2 ^ 31 by omega)]; first | contradiction | (rw [show p_retI w = 3 from by simp [p_retI, *]]; exact ⟨H.sD (j := 3) hy (by decide) (hgD.u3 c_f), (fx_KF.refl m).sI (by omega)⟩) | (rw [show p_retI w = 5 from by simp [p_retI, *]]; exact ⟨H.sD (j := 5) hy (by decide) (hgD.u5 c_f), (fx_KF.refl m).sI (by omega)⟩) | (rw [show p_retI w = 6 from by simp [p_retI, *]]; exact ⟨H.sD (j := 6) hy (by decide) (hgD.u6 c_f), (fx_KF.refl m).sI (by omega)⟩) | (rw [show p_retI w = 7 from by simp [p_retI, *]]; exact ⟨H.sD (j := 7) hy (by decide) (hgD.u7 c_f), (fx_KF.refl m).sI (by omega)⟩)⟩
                        · refine e_aload_n dX9_tell_156 rfl ?_
                          refine e_getr (o2 := 98) dX9_tell_157 ff_X9_59 rfl (fx_pi_lt (by decide)) (by decide) rfl (hL _ _ _ rfl) ?_
                          refine e_iload_n dX9_tell_160 rfl ?_
                          refine e_iload_n dX9_tell_161 rfl ?_
                          refine e_iast (j := y) dX9_tell_162 rfl (fx_pi_lt (by decide)) rfl (by omega) (by decide) ?_
                          refine e_goto 173 dX9_tell_163 rfl ?_
                          refine e_iload dX9_tell_173 rfl ?_
                          have hq : q_tell t.2.1 nd (nI y) w v = (0, t.2.1 (p_ix (nI y)) (p_retI w)) := q_tell_ok (by assumption) (by rw [hmo]; exact c_f)
                          have hgD := H.2.2.2.2.2.2.2.2 y hy
                          exact e_iret dX9_tell_175 rfl rfl rfl ⟨by rw [hq, p_ix_n (show y < 2 ^ 31 by omega)]; first | contradiction | (simp [p_retI, *]; done), fun h => absurd (congrArg Prod.fst hq) h, fun _ => by rw [p_ix_n (show y < 2 ^ 31 by omega)]; first | contradiction | (rw [show p_retI w = 3 from by simp [p_retI, *]]; exact ⟨H.sD (j := 3) hy (by decide) (hgD.u3 c_f), (fx_KF.refl m).sI (by omega)⟩) | (rw [show p_retI w = 5 from by simp [p_retI, *]]; exact ⟨H.sD (j := 5) hy (by decide) (hgD.u5 c_f), (fx_KF.refl m).sI (by omega)⟩) | (rw [show p_retI w = 6 from by simp [p_retI, *]]; exact ⟨H.sD (j := 6) hy (by decide) (hgD.u6 c_f), (fx_KF.refl m).sI (by omega)⟩) | (rw [show p_retI w = 7 from by simp [p_retI, *]]; exact ⟨H.sD (j := 7) hy (by decide) (hgD.u7 c_f), (fx_KF.refl m).sI (by omega)⟩)⟩
                      · refine e_aload_n dX9_tell_141 rfl ?_
                        refine e_getr (o2 := 97) dX9_tell_142 ff_X9_56 rfl (fx_pi_lt (by decide)) (by decide) rfl (hL _ _ _ rfl) ?_
                        refine e_iload_n dX9_tell_145 rfl ?_
                        refine e_iload_n dX9_tell_146 rfl ?_
                        refine e_iast (j := y) dX9_tell_147 rfl (fx_pi_lt (by decide)) rfl (by omega) (by decide) ?_
                        refine e_goto 173 dX9_tell_148 rfl ?_
                        refine e_iload dX9_tell_173 rfl ?_
                        have hq : q_tell t.2.1 nd (nI y) w v = (0, t.2.1 (p_ix (nI y)) (p_retI w)) := q_tell_ok (by assumption) (by rw [hmo]; exact c_f)
                        have hgD := H.2.2.2.2.2.2.2.2 y hy
                        exact e_iret dX9_tell_175 rfl rfl rfl ⟨by rw [hq, p_ix_n (show y < 2 ^ 31 by omega)]; first | contradiction | (simp [p_retI, *]; done), fun h => absurd (congrArg Prod.fst hq) h, fun _ => by rw [p_ix_n (show y < 2 ^ 31 by omega)]; first | contradiction | (rw [show p_retI w = 3 from by simp [p_retI, *]]; exact ⟨H.sD (j := 3) hy (by decide) (hgD.u3 c_f), (fx_KF.refl m).sI (by omega)⟩) | (rw [show p_retI w = 5 from by simp [p_retI, *]]; exact ⟨H.sD (j := 5) hy (by decide) (hgD.u5 c_f), (fx_KF.refl m).sI (by omega)⟩) | (rw [show p_retI w = 6 from by simp [p_retI, *]]; exact ⟨H.sD (j := 6) hy (by decide) (hgD.u6 c_f), (fx_KF.refl m).sI (by omega)⟩) | (rw [show p_retI w = 7 from by simp [p_retI, *]]; exact ⟨H.sD (j := 7) hy (by decide) (hgD.u7 c_f), (fx_KF.refl m).sI (by omega)⟩)⟩
                    · refine e_aload_n dX9_tell_126 rfl ?_
                      refine e_getr (o2 := 95) dX9_tell_127 ff_X9_50 rfl (fx_pi_lt (by decide)) (by decide) rfl (hL _ _ _ rfl) ?_
                      refine e_iload_n dX9_tell_130 rfl ?_
                      refine e_iload_n dX9_tell_131 rfl ?_
                      refine e_iast (j := y) dX9_tell_132 rfl (fx_pi_lt (by decide)) rfl (by omega) (by decide) ?_
                      refine e_goto 173 dX9_tell_133 rfl ?_
                      refine e_iload dX9_tell_173 rfl ?_
                      have hq : q_tell t.2.1 nd (nI y) w v = (0, t.2.1 (p_ix (nI y)) (p_retI w)) := q_tell_ok (by assumption) (by rw [hmo]; exact c_f)
                      have hgD := H.2.2.2.2.2.2.2.2 y hy
                      exact e_iret dX9_tell_175 rfl rfl rfl ⟨by rw [hq, p_ix_n (show y < 2 ^ 31 by omega)]; first | contradiction | (simp [p_retI, *]; done), fun h => absurd (congrArg Prod.fst hq) h, fun _ => by rw [p_ix_n (show y < 2 ^ 31 by omega)]; first | contradiction | (rw [show p_retI w = 3 from by simp [p_retI, *]]; exact ⟨H.sD (j := 3) hy (by decide) (hgD.u3 c_f), (fx_KF.refl m).sI (by omega)⟩) | (rw [show p_retI w = 5 from by simp [p_retI, *]]; exact ⟨H.sD (j := 5) hy (by decide) (hgD.u5 c_f), (fx_KF.refl m).sI (by omega)⟩) | (rw [show p_retI w = 6 from by simp [p_retI, *]]; exact ⟨H.sD (j := 6) hy (by decide) (hgD.u6 c_f), (fx_KF.refl m).sI (by omega)⟩) | (rw [show p_retI w = 7 from by simp [p_retI, *]]; exact ⟨H.sD (j := 7) hy (by decide) (hgD.u7 c_f), (fx_KF.refl m).sI (by omega)⟩)⟩
                · refine e_aload_n dX9_tell_91 rfl ?_
                  refine e_getr (o2 := 97) dX9_tell_92 ff_X9_56 rfl (fx_pi_lt (by decide)) (by decide) rfl (hL _ _ _ rfl) ?_
                  refine e_iload_n dX9_tell_95 rfl ?_
                  refine e_ialdv (j := y) (v := t.2.1 y 5) dX9_tell_96 rfl (fx_pi_lt (by decide)) rfl (by omega) (by decide) (H.2.2.2.2.1 _ (by omega) 5 (by decide)) ?_
                  refine e_goto 120 dX9_tell_97 rfl ?_
                  refine e_istore dX9_tell_120 (by decide) rfl ?_
                  refine e_iload_n dX9_tell_122 rfl ?_
                  refine e_if_ne 136 dX9_tell_123 rfl (fun e_0 => ?_) (fun e_0 => ?_)
                  · refine e_iload_n dX9_tell_136 rfl ?_
                    refine e_iconst dX9_tell_137 kci_1 ?_
                    refine e_icmp_ne 151 dX9_tell_138 rfl (fun e_1 => ?_) (fun e_1 => ?_)
                    · refine e_iload_n dX9_tell_151 rfl ?_
                      refine e_iconst dX9_tell_152 kci_2 ?_
                      refine e_icmp_ne 166 dX9_tell_153 rfl (fun e_2 => ?_) (fun e_2 => ?_)
                      · refine e_aload_n dX9_tell_166 rfl ?_
                        refine e_getr (o2 := 99) dX9_tell_167 ff_X9_62 rfl (fx_pi_lt (by decide)) (by decide) rfl (hL _ _ _ rfl) ?_
                        refine e_iload_n dX9_tell_170 rfl ?_
                        refine e_iload_n dX9_tell_171 rfl ?_
                        refine e_iast (j := y) dX9_tell_172 rfl (fx_pi_lt (by decide)) rfl (by omega) (by decide) ?_
                        refine e_iload dX9_tell_173 rfl ?_
                        have hq : q_tell t.2.1 nd (nI y) w v = (0, t.2.1 (p_ix (nI y)) (p_retI w)) := q_tell_ok (by assumption) (by rw [hmo]; exact c_f)
                        have hgD := H.2.2.2.2.2.2.2.2 y hy
                        exact e_iret dX9_tell_175 rfl rfl rfl ⟨by rw [hq, p_ix_n (show y < 2 ^ 31 by omega)]; first | contradiction | (simp [p_retI, *]; done), fun h => absurd (congrArg Prod.fst hq) h, fun _ => by rw [p_ix_n (show y < 2 ^ 31 by omega)]; first | contradiction | (rw [show p_retI w = 3 from by simp [p_retI, *]]; exact ⟨H.sD (j := 3) hy (by decide) (hgD.u3 c_f), (fx_KF.refl m).sI (by omega)⟩) | (rw [show p_retI w = 5 from by simp [p_retI, *]]; exact ⟨H.sD (j := 5) hy (by decide) (hgD.u5 c_f), (fx_KF.refl m).sI (by omega)⟩) | (rw [show p_retI w = 6 from by simp [p_retI, *]]; exact ⟨H.sD (j := 6) hy (by decide) (hgD.u6 c_f), (fx_KF.refl m).sI (by omega)⟩) | (rw [show p_retI w = 7 from by simp [p_retI, *]]; exact ⟨H.sD (j := 7) hy (by decide) (hgD.u7 c_f), (fx_KF.refl m).sI (by omega)⟩)⟩
                      · refine e_aload_n dX9_tell_156 rfl ?_
                        refine e_getr (o2 := 98) dX9_tell_157 ff_X9_59 rfl (fx_pi_lt (by decide)) (by decide) rfl (hL _ _ _ rfl) ?_
                        refine e_iload_n dX9_tell_160 rfl ?_
                        refine e_iload_n dX9_tell_161 rfl ?_
                        refine e_iast (j := y) dX9_tell_162 rfl (fx_pi_lt (by decide)) rfl (by omega) (by decide) ?_
                        refine e_goto 173 dX9_tell_163 rfl ?_
                        refine e_iload dX9_tell_173 rfl ?_
                        have hq : q_tell t.2.1 nd (nI y) w v = (0, t.2.1 (p_ix (nI y)) (p_retI w)) := q_tell_ok (by assumption) (by rw [hmo]; exact c_f)
                        have hgD := H.2.2.2.2.2.2.2.2 y hy
                        exact e_iret dX9_tell_175 rfl rfl rfl ⟨by rw [hq, p_ix_n (show y < 2 ^ 31 by omega)]; first | contradiction | (simp [p_retI, *]; done), fun h => absurd (congrArg Prod.fst hq) h, fun _ => by rw [p_ix_n (show y < 2 ^ 31 by omega)]; first | contradiction | (rw [show p_retI w = 3 from by simp [p_retI, *]]; exact ⟨H.sD (j := 3) hy (by decide) (hgD.u3 c_f), (fx_KF.refl m).sI (by omega)⟩) | (rw [show p_retI w = 5 from by simp [p_retI, *]]; exact ⟨H.sD (j := 5) hy (by decide) (hgD.u5 c_f), (fx_KF.refl m).sI (by omega)⟩) | (rw [show p_retI w = 6 from by simp [p_retI, *]]; exact ⟨H.sD (j := 6) hy (by decide) (hgD.u6 c_f), (fx_KF.refl m).sI (by omega)⟩) | (rw [show p_retI w = 7 from by simp [p_retI, *]]; exact ⟨H.sD (j := 7) hy (by decide) (hgD.u7 c_f), (fx_KF.refl m).sI (by omega)⟩)⟩
                    · refine e_aload_n dX9_tell_141 rfl ?_
                      refine e_getr (o2 := 97) dX9_tell_142 ff_X9_56 rfl (fx_pi_lt (by decide)) (by decide) rfl (hL _ _ _ rfl) ?_
                      refine e_iload_n dX9_tell_145 rfl ?_
                      refine e_iload_n dX9_tell_146 rfl ?_
                      refine e_iast (j := y) dX9_tell_147 rfl (fx_pi_lt (by decide)) rfl (by omega) (by decide) ?_
                      refine e_goto 173 dX9_tell_148 rfl ?_
                      refine e_iload dX9_tell_173 rfl ?_
                      have hq : q_tell t.2.1 nd (nI y) w v = (0, t.2.1 (p_ix (nI y)) (p_retI w)) := q_tell_ok (by assumption) (by rw [hmo]; exact c_f)
                      have hgD := H.2.2.2.2.2.2.2.2 y hy
                      exact e_iret dX9_tell_175 rfl rfl rfl ⟨by rw [hq, p_ix_n (show y < 2 ^ 31 by omega)]; first | contradiction | (simp [p_retI, *]; done), fun h => absurd (congrArg Prod.fst hq) h, fun _ => by rw [p_ix_n (show y < 2 ^ 31 by omega)]; first | contradiction | (rw [show p_retI w = 3 from by simp [p_retI, *]]; exact ⟨H.sD (j := 3) hy (by decide) (hgD.u3 c_f), (fx_KF.refl m).sI (by omega)⟩) | (rw [show p_retI w = 5 from by simp [p_retI, *]]; exact ⟨H.sD (j := 5) hy (by decide) (hgD.u5 c_f), (fx_KF.refl m).sI (by omega)⟩) | (rw [show p_retI w = 6 from by simp [p_retI, *]]; exact ⟨H.sD (j := 6) hy (by decide) (hgD.u6 c_f), (fx_KF.refl m).sI (by omega)⟩) | (rw [show p_retI w = 7 from by simp [p_retI, *]]; exact ⟨H.sD (j := 7) hy (by decide) (hgD.u7 c_f), (fx_KF.refl m).sI (by omega)⟩)⟩
                  · refine e_aload_n dX9_tell_126 rfl ?_
                    refine e_getr (o2 := 95) dX9_tell_127 ff_X9_50 rfl (fx_pi_lt (by decide)) (by decide) rfl (hL _ _ _ rfl) ?_
                    refine e_iload_n dX9_tell_130 rfl ?_
                    refine e_iload_n dX9_tell_131 rfl ?_
                    refine e_iast (j := y) dX9_tell_132 rfl (fx_pi_lt (by decide)) rfl (by omega) (by decide) ?_
                    refine e_goto 173 dX9_tell_133 rfl ?_
                    refine e_iload dX9_tell_173 rfl ?_
                    have hq : q_tell t.2.1 nd (nI y) w v = (0, t.2.1 (p_ix (nI y)) (p_retI w)) := q_tell_ok (by assumption) (by rw [hmo]; exact c_f)
                    have hgD := H.2.2.2.2.2.2.2.2 y hy
                    exact e_iret dX9_tell_175 rfl rfl rfl ⟨by rw [hq, p_ix_n (show y < 2 ^ 31 by omega)]; first | contradiction | (simp [p_retI, *]; done), fun h => absurd (congrArg Prod.fst hq) h, fun _ => by rw [p_ix_n (show y < 2 ^ 31 by omega)]; first | contradiction | (rw [show p_retI w = 3 from by simp [p_retI, *]]; exact ⟨H.sD (j := 3) hy (by decide) (hgD.u3 c_f), (fx_KF.refl m).sI (by omega)⟩) | (rw [show p_retI w = 5 from by simp [p_retI, *]]; exact ⟨H.sD (j := 5) hy (by decide) (hgD.u5 c_f), (fx_KF.refl m).sI (by omega)⟩) | (rw [show p_retI w = 6 from by simp [p_retI, *]]; exact ⟨H.sD (j := 6) hy (by decide) (hgD.u6 c_f), (fx_KF.refl m).sI (by omega)⟩) | (rw [show p_retI w = 7 from by simp [p_retI, *]]; exact ⟨H.sD (j := 7) hy (by decide) (hgD.u7 c_f), (fx_KF.refl m).sI (by omega)⟩)⟩
              · refine e_aload_n dX9_tell_77 rfl ?_
                refine e_getr (o2 := 95) dX9_tell_78 ff_X9_50 rfl (fx_pi_lt (by decide)) (by decide) rfl (hL _ _ _ rfl) ?_
                refine e_iload_n dX9_tell_81 rfl ?_
                refine e_ialdv (j := y) (v := t.2.1 y 3) dX9_tell_82 rfl (fx_pi_lt (by decide)) rfl (by omega) (by decide) (H.2.2.2.2.1 _ (by omega) 3 (by decide)) ?_
                refine e_goto 120 dX9_tell_83 rfl ?_
                refine e_istore dX9_tell_120 (by decide) rfl ?_
                refine e_iload_n dX9_tell_122 rfl ?_
                refine e_if_ne 136 dX9_tell_123 rfl (fun e_0 => ?_) (fun e_0 => ?_)
                · refine e_iload_n dX9_tell_136 rfl ?_
                  refine e_iconst dX9_tell_137 kci_1 ?_
                  refine e_icmp_ne 151 dX9_tell_138 rfl (fun e_1 => ?_) (fun e_1 => ?_)
                  · refine e_iload_n dX9_tell_151 rfl ?_
                    refine e_iconst dX9_tell_152 kci_2 ?_
                    refine e_icmp_ne 166 dX9_tell_153 rfl (fun e_2 => ?_) (fun e_2 => ?_)
                    · refine e_aload_n dX9_tell_166 rfl ?_
                      refine e_getr (o2 := 99) dX9_tell_167 ff_X9_62 rfl (fx_pi_lt (by decide)) (by decide) rfl (hL _ _ _ rfl) ?_
                      refine e_iload_n dX9_tell_170 rfl ?_
                      refine e_iload_n dX9_tell_171 rfl ?_
                      refine e_iast (j := y) dX9_tell_172 rfl (fx_pi_lt (by decide)) rfl (by omega) (by decide) ?_
                      refine e_iload dX9_tell_173 rfl ?_
                      have hq : q_tell t.2.1 nd (nI y) w v = (0, t.2.1 (p_ix (nI y)) (p_retI w)) := q_tell_ok (by assumption) (by rw [hmo]; exact c_f)
                      have hgD := H.2.2.2.2.2.2.2.2 y hy
                      exact e_iret dX9_tell_175 rfl rfl rfl ⟨by rw [hq, p_ix_n (show y < 2 ^ 31 by omega)]; first | contradiction | (simp [p_retI, *]; done), fun h => absurd (congrArg Prod.fst hq) h, fun _ => by rw [p_ix_n (show y < 2 ^ 31 by omega)]; first | contradiction | (rw [show p_retI w = 3 from by simp [p_retI, *]]; exact ⟨H.sD (j := 3) hy (by decide) (hgD.u3 c_f), (fx_KF.refl m).sI (by omega)⟩) | (rw [show p_retI w = 5 from by simp [p_retI, *]]; exact ⟨H.sD (j := 5) hy (by decide) (hgD.u5 c_f), (fx_KF.refl m).sI (by omega)⟩) | (rw [show p_retI w = 6 from by simp [p_retI, *]]; exact ⟨H.sD (j := 6) hy (by decide) (hgD.u6 c_f), (fx_KF.refl m).sI (by omega)⟩) | (rw [show p_retI w = 7 from by simp [p_retI, *]]; exact ⟨H.sD (j := 7) hy (by decide) (hgD.u7 c_f), (fx_KF.refl m).sI (by omega)⟩)⟩
                    · refine e_aload_n dX9_tell_156 rfl ?_
                      refine e_getr (o2 := 98) dX9_tell_157 ff_X9_59 rfl (fx_pi_lt (by decide)) (by decide) rfl (hL _ _ _ rfl) ?_
                      refine e_iload_n dX9_tell_160 rfl ?_
                      refine e_iload_n dX9_tell_161 rfl ?_
                      refine e_iast (j := y) dX9_tell_162 rfl (fx_pi_lt (by decide)) rfl (by omega) (by decide) ?_
                      refine e_goto 173 dX9_tell_163 rfl ?_
                      refine e_iload dX9_tell_173 rfl ?_
                      have hq : q_tell t.2.1 nd (nI y) w v = (0, t.2.1 (p_ix (nI y)) (p_retI w)) := q_tell_ok (by assumption) (by rw [hmo]; exact c_f)
                      have hgD := H.2.2.2.2.2.2.2.2 y hy
                      exact e_iret dX9_tell_175 rfl rfl rfl ⟨by rw [hq, p_ix_n (show y < 2 ^ 31 by omega)]; first | contradiction | (simp [p_retI, *]; done), fun h => absurd (congrArg Prod.fst hq) h, fun _ => by rw [p_ix_n (show y < 2 ^ 31 by omega)]; first | contradiction | (rw [show p_retI w = 3 from by simp [p_retI, *]]; exact ⟨H.sD (j := 3) hy (by decide) (hgD.u3 c_f), (fx_KF.refl m).sI (by omega)⟩) | (rw [show p_retI w = 5 from by simp [p_retI, *]]; exact ⟨H.sD (j := 5) hy (by decide) (hgD.u5 c_f), (fx_KF.refl m).sI (by omega)⟩) | (rw [show p_retI w = 6 from by simp [p_retI, *]]; exact ⟨H.sD (j := 6) hy (by decide) (hgD.u6 c_f), (fx_KF.refl m).sI (by omega)⟩) | (rw [show p_retI w = 7 from by simp [p_retI, *]]; exact ⟨H.sD (j := 7) hy (by decide) (hgD.u7 c_f), (fx_KF.refl m).sI (by omega)⟩)⟩
                  · refine e_aload_n dX9_tell_141 rfl ?_
                    refine e_getr (o2 := 97) dX9_tell_142 ff_X9_56 rfl (fx_pi_lt (by decide)) (by decide) rfl (hL _ _ _ rfl) ?_
                    refine e_iload_n dX9_tell_145 rfl ?_
                    refine e_iload_n dX9_tell_146 rfl ?_
                    refine e_iast (j := y) dX9_tell_147 rfl (fx_pi_lt (by decide)) rfl (by omega) (by decide) ?_
                    refine e_goto 173 dX9_tell_148 rfl ?_
                    refine e_iload dX9_tell_173 rfl ?_
                    have hq : q_tell t.2.1 nd (nI y) w v = (0, t.2.1 (p_ix (nI y)) (p_retI w)) := q_tell_ok (by assumption) (by rw [hmo]; exact c_f)
                    have hgD := H.2.2.2.2.2.2.2.2 y hy
                    exact e_iret dX9_tell_175 rfl rfl rfl ⟨by rw [hq, p_ix_n (show y < 2 ^ 31 by omega)]; first | contradiction | (simp [p_retI, *]; done), fun h => absurd (congrArg Prod.fst hq) h, fun _ => by rw [p_ix_n (show y < 2 ^ 31 by omega)]; first | contradiction | (rw [show p_retI w = 3 from by simp [p_retI, *]]; exact ⟨H.sD (j := 3) hy (by decide) (hgD.u3 c_f), (fx_KF.refl m).sI (by omega)⟩) | (rw [show p_retI w = 5 from by simp [p_retI, *]]; exact ⟨H.sD (j := 5) hy (by decide) (hgD.u5 c_f), (fx_KF.refl m).sI (by omega)⟩) | (rw [show p_retI w = 6 from by simp [p_retI, *]]; exact ⟨H.sD (j := 6) hy (by decide) (hgD.u6 c_f), (fx_KF.refl m).sI (by omega)⟩) | (rw [show p_retI w = 7 from by simp [p_retI, *]]; exact ⟨H.sD (j := 7) hy (by decide) (hgD.u7 c_f), (fx_KF.refl m).sI (by omega)⟩)⟩
                · refine e_aload_n dX9_tell_126 rfl ?_
                  refine e_getr (o2 := 95) dX9_tell_127 ff_X9_50 rfl (fx_pi_lt (by decide)) (by decide) rfl (hL _ _ _ rfl) ?_
                  refine e_iload_n dX9_tell_130 rfl ?_
                  refine e_iload_n dX9_tell_131 rfl ?_
                  refine e_iast (j := y) dX9_tell_132 rfl (fx_pi_lt (by decide)) rfl (by omega) (by decide) ?_
                  refine e_goto 173 dX9_tell_133 rfl ?_
                  refine e_iload dX9_tell_173 rfl ?_
                  have hq : q_tell t.2.1 nd (nI y) w v = (0, t.2.1 (p_ix (nI y)) (p_retI w)) := q_tell_ok (by assumption) (by rw [hmo]; exact c_f)
                  have hgD := H.2.2.2.2.2.2.2.2 y hy
                  exact e_iret dX9_tell_175 rfl rfl rfl ⟨by rw [hq, p_ix_n (show y < 2 ^ 31 by omega)]; first | contradiction | (simp [p_retI, *]; done), fun h => absurd (congrArg Prod.fst hq) h, fun _ => by rw [p_ix_n (show y < 2 ^ 31 by omega)]; first | contradiction | (rw [show p_retI w = 3 from by simp [p_retI, *]]; exact ⟨H.sD (j := 3) hy (by decide) (hgD.u3 c_f), (fx_KF.refl m).sI (by omega)⟩) | (rw [show p_retI w = 5 from by simp [p_retI, *]]; exact ⟨H.sD (j := 5) hy (by decide) (hgD.u5 c_f), (fx_KF.refl m).sI (by omega)⟩) | (rw [show p_retI w = 6 from by simp [p_retI, *]]; exact ⟨H.sD (j := 6) hy (by decide) (hgD.u6 c_f), (fx_KF.refl m).sI (by omega)⟩) | (rw [show p_retI w = 7 from by simp [p_retI, *]]; exact ⟨H.sD (j := 7) hy (by decide) (hgD.u7 c_f), (fx_KF.refl m).sI (by omega)⟩)⟩
            · refine e_aload_n dX9_tell_66 rfl ?_
              refine e_bipush dX9_tell_67 kcb_m6 ?_
              refine e_callV1 (μ' := mX9_no) (ci := 9) (As := [.int (-6)]) dX9_tell_69 wl_X9_136 ok_X9_no rfl rfl (fx_pi_lt (by decide)) (by decide) (Nat.le_of_ble_eq_true rfl) fx_n1 (s_X9_no (m := m) hL (b := 6) (z := (-6)) (by decide) (by decide)) rfl ?_
              have hm : ¬ p_in v 0 (p_mostD w) := by first | contradiction | (rw [show p_mostD w = -1 from by (first | (have e0 : ¬ w = 0 := fun e => by subst e; revert a_lt; decide); (have e1 : ¬ w = 1 := fun e => by subst e; revert a_lt; decide); (have e2 : ¬ w = 2 := fun e => by subst e; revert a_lt; decide); (have e3 : ¬ w = 3 := fun e => by subst e; revert a_lt; decide); simp [p_mostD, e0, e1, e2, e3]; done | (have e0 : ¬ w = 0 := fun e => by subst e; revert a_gt; decide); (have e1 : ¬ w = 1 := fun e => by subst e; revert a_gt; decide); (have e2 : ¬ w = 2 := fun e => by subst e; revert a_gt; decide); (have e3 : ¬ w = 3 := fun e => by subst e; revert a_gt; decide); simp [p_mostD, e0, e1, e2, e3]; done)]; exact p_in_m1) | (rw [hmo]; exact c_f)
              have hq : q_tell t.2.1 nd d w v = (6, -6) := q_tell_no (by assumption) hm
              exact e_iret dX9_tell_72 rfl rfl rfl ⟨by rw [hq], fun _ => by rw [hq]; exact (fx_mno_n (by decide)).symm, fun h => by rw [hq] at h; cases h⟩
    · refine e_iconst dX9_tell_18 kci_2 ?_
      refine e_goto 44 dX9_tell_19 rfl ?_
      refine e_istore dX9_tell_44 (by decide) rfl ?_
      refine e_iload_n dX9_tell_46 rfl ?_
      refine e_if_lt 66 dX9_tell_47 rfl (fun a_lt => ?_) (fun a_lt => ?_)
      · refine e_aload_n dX9_tell_66 rfl ?_
        refine e_bipush dX9_tell_67 kcb_m6 ?_
        refine e_callV1 (μ' := mX9_no) (ci := 9) (As := [.int (-6)]) dX9_tell_69 wl_X9_136 ok_X9_no rfl rfl (fx_pi_lt (by decide)) (by decide) (Nat.le_of_ble_eq_true rfl) fx_n1 (s_X9_no (m := m) hL (b := 6) (z := (-6)) (by decide) (by decide)) rfl ?_
        have hm : ¬ p_in v 0 (p_mostD w) := by first | contradiction | (rw [show p_mostD w = -1 from by (first | (have e0 : ¬ w = 0 := fun e => by subst e; revert a_lt; decide); (have e1 : ¬ w = 1 := fun e => by subst e; revert a_lt; decide); (have e2 : ¬ w = 2 := fun e => by subst e; revert a_lt; decide); (have e3 : ¬ w = 3 := fun e => by subst e; revert a_lt; decide); simp [p_mostD, e0, e1, e2, e3]; done | (have e0 : ¬ w = 0 := fun e => by subst e; revert a_gt; decide); (have e1 : ¬ w = 1 := fun e => by subst e; revert a_gt; decide); (have e2 : ¬ w = 2 := fun e => by subst e; revert a_gt; decide); (have e3 : ¬ w = 3 := fun e => by subst e; revert a_gt; decide); simp [p_mostD, e0, e1, e2, e3]; done)]; exact p_in_m1) | (rw [hmo]; exact c_f)
        have hq : q_tell t.2.1 nd d w v = (6, -6) := q_tell_no (by assumption) hm
        exact e_iret dX9_tell_72 rfl rfl rfl ⟨by rw [hq], fun _ => by rw [hq]; exact (fx_mno_n (by decide)).symm, fun h => by rw [hq] at h; cases h⟩
      · refine e_iload_n dX9_tell_50 rfl ?_
        refine e_iconst dX9_tell_51 kci_3 ?_
        refine e_icmp_gt 66 dX9_tell_52 rfl (fun a_gt => ?_) (fun a_gt => ?_)
        · refine e_aload_n dX9_tell_66 rfl ?_
          refine e_bipush dX9_tell_67 kcb_m6 ?_
          refine e_callV1 (μ' := mX9_no) (ci := 9) (As := [.int (-6)]) dX9_tell_69 wl_X9_136 ok_X9_no rfl rfl (fx_pi_lt (by decide)) (by decide) (Nat.le_of_ble_eq_true rfl) fx_n1 (s_X9_no (m := m) hL (b := 6) (z := (-6)) (by decide) (by decide)) rfl ?_
          have hm : ¬ p_in v 0 (p_mostD w) := by first | contradiction | (rw [show p_mostD w = -1 from by (first | (have e0 : ¬ w = 0 := fun e => by subst e; revert a_lt; decide); (have e1 : ¬ w = 1 := fun e => by subst e; revert a_lt; decide); (have e2 : ¬ w = 2 := fun e => by subst e; revert a_lt; decide); (have e3 : ¬ w = 3 := fun e => by subst e; revert a_lt; decide); simp [p_mostD, e0, e1, e2, e3]; done | (have e0 : ¬ w = 0 := fun e => by subst e; revert a_gt; decide); (have e1 : ¬ w = 1 := fun e => by subst e; revert a_gt; decide); (have e2 : ¬ w = 2 := fun e => by subst e; revert a_gt; decide); (have e3 : ¬ w = 3 := fun e => by subst e; revert a_gt; decide); simp [p_mostD, e0, e1, e2, e3]; done)]; exact p_in_m1) | (rw [hmo]; exact c_f)
          have hq : q_tell t.2.1 nd d w v = (6, -6) := q_tell_no (by assumption) hm
          exact e_iret dX9_tell_72 rfl rfl rfl ⟨by rw [hq], fun _ => by rw [hq]; exact (fx_mno_n (by decide)).symm, fun h => by rw [hq] at h; cases h⟩
        · have hw3 := p_w3 a_lt a_gt
          have hmo : p_mostD w = 2 := by first | (simp [p_mostD, *]; done) | (rw [hw3 (by assumption) (by assumption) (by assumption)]; rfl)
          refine e_aload_n dX9_tell_55 rfl ?_
          refine e_iload_n dX9_tell_56 rfl ?_
          refine e_iconst dX9_tell_57 kci_0 ?_
          refine e_iload dX9_tell_58 rfl ?_
          refine e_callV1 (μ' := mX9_isFrom) (ci := 9) (As := [.int v, .int 0, .int 2]) dX9_tell_60 wl_X9_172 ok_X9_isFrom rfl rfl (fx_pi_lt (by decide)) (by decide) (Nat.le_of_ble_eq_true rfl) fx_n1 (s_X9_isFrom (m := m) hL v 0 2) rfl ?_
          refine e_if_neB 73 dX9_tell_63 rfl (fun c_f => ?_) (fun c_f => ?_)
          · obtain ⟨y, hy, ey⟩ := p_el_ex c_1 (by omega)
            subst ey
            refine e_iload_n dX9_tell_73 rfl ?_
            refine e_if_ne 86 dX9_tell_74 rfl (fun d_0 => ?_) (fun d_0 => ?_)
            · refine e_iload_n dX9_tell_86 rfl ?_
              refine e_iconst dX9_tell_87 kci_1 ?_
              refine e_icmp_ne 100 dX9_tell_88 rfl (fun d_1 => ?_) (fun d_1 => ?_)
              · refine e_iload_n dX9_tell_100 rfl ?_
                refine e_iconst dX9_tell_101 kci_2 ?_
                refine e_icmp_ne 114 dX9_tell_102 rfl (fun d_2 => ?_) (fun d_2 => ?_)
                · refine e_aload_n dX9_tell_114 rfl ?_
                  refine e_getr (o2 := 99) dX9_tell_115 ff_X9_62 rfl (fx_pi_lt (by decide)) (by decide) rfl (hL _ _ _ rfl) ?_
                  refine e_iload_n dX9_tell_118 rfl ?_
                  refine e_ialdv (j := y) (v := t.2.1 y 7) dX9_tell_119 rfl (fx_pi_lt (by decide)) rfl (by omega) (by decide) (H.2.2.2.2.1 _ (by omega) 7 (by decide)) ?_
                  refine e_istore dX9_tell_120 (by decide) rfl ?_
                  refine e_iload_n dX9_tell_122 rfl ?_
                  refine e_if_ne 136 dX9_tell_123 rfl (fun e_0 => ?_) (fun e_0 => ?_)
                  · refine e_iload_n dX9_tell_136 rfl ?_
                    refine e_iconst dX9_tell_137 kci_1 ?_
                    refine e_icmp_ne 151 dX9_tell_138 rfl (fun e_1 => ?_) (fun e_1 => ?_)
                    · refine e_iload_n dX9_tell_151 rfl ?_
                      refine e_iconst dX9_tell_152 kci_2 ?_
                      refine e_icmp_ne 166 dX9_tell_153 rfl (fun e_2 => ?_) (fun e_2 => ?_)
                      · refine e_aload_n dX9_tell_166 rfl ?_
                        refine e_getr (o2 := 99) dX9_tell_167 ff_X9_62 rfl (fx_pi_lt (by decide)) (by decide) rfl (hL _ _ _ rfl) ?_
                        refine e_iload_n dX9_tell_170 rfl ?_
                        refine e_iload_n dX9_tell_171 rfl ?_
                        refine e_iast (j := y) dX9_tell_172 rfl (fx_pi_lt (by decide)) rfl (by omega) (by decide) ?_
                        refine e_iload dX9_tell_173 rfl ?_
                        have hq : q_tell t.2.1 nd (nI y) w v = (0, t.2.1 (p_ix (nI y)) (p_retI w)) := q_tell_ok (by assumption) (by rw [hmo]; exact c_f)
                        have hgD := H.2.2.2.2.2.2.2.2 y hy
                        exact e_iret dX9_tell_175 rfl rfl rfl ⟨by rw [hq, p_ix_n (show y < 2 ^ 31 by omega)]; first | contradiction | (simp [p_retI, *]; done), fun h => absurd (congrArg Prod.fst hq) h, fun _ => by rw [p_ix_n (show y < 2 ^ 31 by omega)]; first | contradiction | (rw [show p_retI w = 3 from by simp [p_retI, *]]; exact ⟨H.sD (j := 3) hy (by decide) (hgD.u3 c_f), (fx_KF.refl m).sI (by omega)⟩) | (rw [show p_retI w = 5 from by simp [p_retI, *]]; exact ⟨H.sD (j := 5) hy (by decide) (hgD.u5 c_f), (fx_KF.refl m).sI (by omega)⟩) | (rw [show p_retI w = 6 from by simp [p_retI, *]]; exact ⟨H.sD (j := 6) hy (by decide) (hgD.u6 c_f), (fx_KF.refl m).sI (by omega)⟩) | (rw [show p_retI w = 7 from by simp [p_retI, *]]; exact ⟨H.sD (j := 7) hy (by decide) (hgD.u7 c_f), (fx_KF.refl m).sI (by omega)⟩)⟩
                      · refine e_aload_n dX9_tell_156 rfl ?_
                        refine e_getr (o2 := 98) dX9_tell_157 ff_X9_59 rfl (fx_pi_lt (by decide)) (by decide) rfl (hL _ _ _ rfl) ?_
                        refine e_iload_n dX9_tell_160 rfl ?_
                        refine e_iload_n dX9_tell_161 rfl ?_
                        refine e_iast (j := y) dX9_tell_162 rfl (fx_pi_lt (by decide)) rfl (by omega) (by decide) ?_
                        refine e_goto 173 dX9_tell_163 rfl ?_
                        refine e_iload dX9_tell_173 rfl ?_
                        have hq : q_tell t.2.1 nd (nI y) w v = (0, t.2.1 (p_ix (nI y)) (p_retI w)) := q_tell_ok (by assumption) (by rw [hmo]; exact c_f)
                        have hgD := H.2.2.2.2.2.2.2.2 y hy
                        exact e_iret dX9_tell_175 rfl rfl rfl ⟨by rw [hq, p_ix_n (show y < 2 ^ 31 by omega)]; first | contradiction | (simp [p_retI, *]; done), fun h => absurd (congrArg Prod.fst hq) h, fun _ => by rw [p_ix_n (show y < 2 ^ 31 by omega)]; first | contradiction | (rw [show p_retI w = 3 from by simp [p_retI, *]]; exact ⟨H.sD (j := 3) hy (by decide) (hgD.u3 c_f), (fx_KF.refl m).sI (by omega)⟩) | (rw [show p_retI w = 5 from by simp [p_retI, *]]; exact ⟨H.sD (j := 5) hy (by decide) (hgD.u5 c_f), (fx_KF.refl m).sI (by omega)⟩) | (rw [show p_retI w = 6 from by simp [p_retI, *]]; exact ⟨H.sD (j := 6) hy (by decide) (hgD.u6 c_f), (fx_KF.refl m).sI (by omega)⟩) | (rw [show p_retI w = 7 from by simp [p_retI, *]]; exact ⟨H.sD (j := 7) hy (by decide) (hgD.u7 c_f), (fx_KF.refl m).sI (by omega)⟩)⟩
                    · refine e_aload_n dX9_tell_141 rfl ?_
                      refine e_getr (o2 := 97) dX9_tell_142 ff_X9_56 rfl (fx_pi_lt (by decide)) (by decide) rfl (hL _ _ _ rfl) ?_
                      refine e_iload_n dX9_tell_145 rfl ?_
                      refine e_iload_n dX9_tell_146 rfl ?_
                      refine e_iast (j := y) dX9_tell_147 rfl (fx_pi_lt (by decide)) rfl (by omega) (by decide) ?_
                      refine e_goto 173 dX9_tell_148 rfl ?_
                      refine e_iload dX9_tell_173 rfl ?_
                      have hq : q_tell t.2.1 nd (nI y) w v = (0, t.2.1 (p_ix (nI y)) (p_retI w)) := q_tell_ok (by assumption) (by rw [hmo]; exact c_f)
                      have hgD := H.2.2.2.2.2.2.2.2 y hy
                      exact e_iret dX9_tell_175 rfl rfl rfl ⟨by rw [hq, p_ix_n (show y < 2 ^ 31 by omega)]; first | contradiction | (simp [p_retI, *]; done), fun h => absurd (congrArg Prod.fst hq) h, fun _ => by rw [p_ix_n (show y < 2 ^ 31 by omega)]; first | contradiction | (rw [show p_retI w = 3 from by simp [p_retI, *]]; exact ⟨H.sD (j := 3) hy (by decide) (hgD.u3 c_f), (fx_KF.refl m).sI (by omega)⟩) | (rw [show p_retI w = 5 from by simp [p_retI, *]]; exact ⟨H.sD (j := 5) hy (by decide) (hgD.u5 c_f), (fx_KF.refl m).sI (by omega)⟩) | (rw [show p_retI w = 6 from by simp [p_retI, *]]; exact ⟨H.sD (j := 6) hy (by decide) (hgD.u6 c_f), (fx_KF.refl m).sI (by omega)⟩) | (rw [show p_retI w = 7 from by simp [p_retI, *]]; exact ⟨H.sD (j := 7) hy (by decide) (hgD.u7 c_f), (fx_KF.refl m).sI (by omega)⟩)⟩
                  · refine e_aload_n dX9_tell_126 rfl ?_
                    refine e_getr (o2 := 95) dX9_tell_127 ff_X9_50 rfl (fx_pi_lt (by decide)) (by decide) rfl (hL _ _ _ rfl) ?_
                    refine e_iload_n dX9_tell_130 rfl ?_
                    refine e_iload_n dX9_tell_131 rfl ?_
                    refine e_iast (j := y) dX9_tell_132 rfl (fx_pi_lt (by decide)) rfl (by omega) (by decide) ?_
                    refine e_goto 173 dX9_tell_133 rfl ?_
                    refine e_iload dX9_tell_173 rfl ?_
                    have hq : q_tell t.2.1 nd (nI y) w v = (0, t.2.1 (p_ix (nI y)) (p_retI w)) := q_tell_ok (by assumption) (by rw [hmo]; exact c_f)
                    have hgD := H.2.2.2.2.2.2.2.2 y hy
                    exact e_iret dX9_tell_175 rfl rfl rfl ⟨by rw [hq, p_ix_n (show y < 2 ^ 31 by omega)]; first | contradiction | (simp [p_retI, *]; done), fun h => absurd (congrArg Prod.fst hq) h, fun _ => by rw [p_ix_n (show y < 2 ^ 31 by omega)]; first | contradiction | (rw [show p_retI w = 3 from by simp [p_retI, *]]; exact ⟨H.sD (j := 3) hy (by decide) (hgD.u3 c_f), (fx_KF.refl m).sI (by omega)⟩) | (rw [show p_retI w = 5 from by simp [p_retI, *]]; exact ⟨H.sD (j := 5) hy (by decide) (hgD.u5 c_f), (fx_KF.refl m).sI (by omega)⟩) | (rw [show p_retI w = 6 from by simp [p_retI, *]]; exact ⟨H.sD (j := 6) hy (by decide) (hgD.u6 c_f), (fx_KF.refl m).sI (by omega)⟩) | (rw [show p_retI w = 7 from by simp [p_retI, *]]; exact ⟨H.sD (j := 7) hy (by decide) (hgD.u7 c_f), (fx_KF.refl m).sI (by omega)⟩)⟩
                · refine e_aload_n dX9_tell_105 rfl ?_
                  refine e_getr (o2 := 98) dX9_tell_106 ff_X9_59 rfl (fx_pi_lt (by decide)) (by decide) rfl (hL _ _ _ rfl) ?_
                  refine e_iload_n dX9_tell_109 rfl ?_
                  refine e_ialdv (j := y) (v := t.2.1 y 6) dX9_tell_110 rfl (fx_pi_lt (by decide)) rfl (by omega) (by decide) (H.2.2.2.2.1 _ (by omega) 6 (by decide)) ?_
                  refine e_goto 120 dX9_tell_111 rfl ?_
                  refine e_istore dX9_tell_120 (by decide) rfl ?_
                  refine e_iload_n dX9_tell_122 rfl ?_
                  refine e_if_ne 136 dX9_tell_123 rfl (fun e_0 => ?_) (fun e_0 => ?_)
                  · refine e_iload_n dX9_tell_136 rfl ?_
                    refine e_iconst dX9_tell_137 kci_1 ?_
                    refine e_icmp_ne 151 dX9_tell_138 rfl (fun e_1 => ?_) (fun e_1 => ?_)
                    · refine e_iload_n dX9_tell_151 rfl ?_
                      refine e_iconst dX9_tell_152 kci_2 ?_
                      refine e_icmp_ne 166 dX9_tell_153 rfl (fun e_2 => ?_) (fun e_2 => ?_)
                      · refine e_aload_n dX9_tell_166 rfl ?_
                        refine e_getr (o2 := 99) dX9_tell_167 ff_X9_62 rfl (fx_pi_lt (by decide)) (by decide) rfl (hL _ _ _ rfl) ?_
                        refine e_iload_n dX9_tell_170 rfl ?_
                        refine e_iload_n dX9_tell_171 rfl ?_
                        refine e_iast (j := y) dX9_tell_172 rfl (fx_pi_lt (by decide)) rfl (by omega) (by decide) ?_
                        refine e_iload dX9_tell_173 rfl ?_
                        have hq : q_tell t.2.1 nd (nI y) w v = (0, t.2.1 (p_ix (nI y)) (p_retI w)) := q_tell_ok (by assumption) (by rw [hmo]; exact c_f)
                        have hgD := H.2.2.2.2.2.2.2.2 y hy
                        exact e_iret dX9_tell_175 rfl rfl rfl ⟨by rw [hq, p_ix_n (show y < 2 ^ 31 by omega)]; first | contradiction | (simp [p_retI, *]; done), fun h => absurd (congrArg Prod.fst hq) h, fun _ => by rw [p_ix_n (show y < 2 ^ 31 by omega)]; first | contradiction | (rw [show p_retI w = 3 from by simp [p_retI, *]]; exact ⟨H.sD (j := 3) hy (by decide) (hgD.u3 c_f), (fx_KF.refl m).sI (by omega)⟩) | (rw [show p_retI w = 5 from by simp [p_retI, *]]; exact ⟨H.sD (j := 5) hy (by decide) (hgD.u5 c_f), (fx_KF.refl m).sI (by omega)⟩) | (rw [show p_retI w = 6 from by simp [p_retI, *]]; exact ⟨H.sD (j := 6) hy (by decide) (hgD.u6 c_f), (fx_KF.refl m).sI (by omega)⟩) | (rw [show p_retI w = 7 from by simp [p_retI, *]]; exact ⟨H.sD (j := 7) hy (by decide) (hgD.u7 c_f), (fx_KF.refl m).sI (by omega)⟩)⟩
                      · refine e_aload_n dX9_tell_156 rfl ?_
                        refine e_getr (o2 := 98) dX9_tell_157 ff_X9_59 rfl (fx_pi_lt (by decide)) (by decide) rfl (hL _ _ _ rfl) ?_
                        refine e_iload_n dX9_tell_160 rfl ?_
                        refine e_iload_n dX9_tell_161 rfl ?_
                        refine e_iast (j := y) dX9_tell_162 rfl (fx_pi_lt (by decide)) rfl (by omega) (by decide) ?_
                        refine e_goto 173 dX9_tell_163 rfl ?_
                        refine e_iload dX9_tell_173 rfl ?_
                        have hq : q_tell t.2.1 nd (nI y) w v = (0, t.2.1 (p_ix (nI y)) (p_retI w)) := q_tell_ok (by assumption) (by rw [hmo]; exact c_f)
                        have hgD := H.2.2.2.2.2.2.2.2 y hy
                        exact e_iret dX9_tell_175 rfl rfl rfl ⟨by rw [hq, p_ix_n (show y < 2 ^ 31 by omega)]; first | contradiction | (simp [p_retI, *]; done), fun h => absurd (congrArg Prod.fst hq) h, fun _ => by rw [p_ix_n (show y < 2 ^ 31 by omega)]; first | contradiction | (rw [show p_retI w = 3 from by simp [p_retI, *]]; exact ⟨H.sD (j := 3) hy (by decide) (hgD.u3 c_f), (fx_KF.refl m).sI (by omega)⟩) | (rw [show p_retI w = 5 from by simp [p_retI, *]]; exact ⟨H.sD (j := 5) hy (by decide) (hgD.u5 c_f), (fx_KF.refl m).sI (by omega)⟩) | (rw [show p_retI w = 6 from by simp [p_retI, *]]; exact ⟨H.sD (j := 6) hy (by decide) (hgD.u6 c_f), (fx_KF.refl m).sI (by omega)⟩) | (rw [show p_retI w = 7 from by simp [p_retI, *]]; exact ⟨H.sD (j := 7) hy (by decide) (hgD.u7 c_f), (fx_KF.refl m).sI (by omega)⟩)⟩
                    · refine e_aload_n dX9_tell_141 rfl ?_
                      refine e_getr (o2 := 97) dX9_tell_142 ff_X9_56 rfl (fx_pi_lt (by decide)) (by decide) rfl (hL _ _ _ rfl) ?_
                      refine e_iload_n dX9_tell_145 rfl ?_
                      refine e_iload_n dX9_tell_146 rfl ?_
                      refine e_iast (j := y) dX9_tell_147 rfl (fx_pi_lt (by decide)) rfl (by omega) (by decide) ?_
                      refine e_goto 173 dX9_tell_148 rfl ?_
                      refine e_iload dX9_tell_173 rfl ?_
                      have hq : q_tell t.2.1 nd (nI y) w v = (0, t.2.1 (p_ix (nI y)) (p_retI w)) := q_tell_ok (by assumption) (by rw [hmo]; exact c_f)
                      have hgD := H.2.2.2.2.2.2.2.2 y hy
                      exact e_iret dX9_tell_175 rfl rfl rfl ⟨by rw [hq, p_ix_n (show y < 2 ^ 31 by omega)]; first | contradiction | (simp [p_retI, *]; done), fun h => absurd (congrArg Prod.fst hq) h, fun _ => by rw [p_ix_n (show y < 2 ^ 31 by omega)]; first | contradiction | (rw [show p_retI w = 3 from by simp [p_retI, *]]; exact ⟨H.sD (j := 3) hy (by decide) (hgD.u3 c_f), (fx_KF.refl m).sI (by omega)⟩) | (rw [show p_retI w = 5 from by simp [p_retI, *]]; exact ⟨H.sD (j := 5) hy (by decide) (hgD.u5 c_f), (fx_KF.refl m).sI (by omega)⟩) | (rw [show p_retI w = 6 from by simp [p_retI, *]]; exact ⟨H.sD (j := 6) hy (by decide) (hgD.u6 c_f), (fx_KF.refl m).sI (by omega)⟩) | (rw [show p_retI w = 7 from by simp [p_retI, *]]; exact ⟨H.sD (j := 7) hy (by decide) (hgD.u7 c_f), (fx_KF.refl m).sI (by omega)⟩)⟩
                  · refine e_aload_n dX9_tell_126 rfl ?_
                    refine e_getr (o2 := 95) dX9_tell_127 ff_X9_50 rfl (fx_pi_lt (by decide)) (by decide) rfl (hL _ _ _ rfl) ?_
                    refine e_iload_n dX9_tell_130 rfl ?_
                    refine e_iload_n dX9_tell_131 rfl ?_
                    refine e_iast (j := y) dX9_tell_132 rfl (fx_pi_lt (by decide)) rfl (by omega) (by decide) ?_
                    refine e_goto 173 dX9_tell_133 rfl ?_
                    refine e_iload dX9_tell_173 rfl ?_
                    have hq : q_tell t.2.1 nd (nI y) w v = (0, t.2.1 (p_ix (nI y)) (p_retI w)) := q_tell_ok (by assumption) (by rw [hmo]; exact c_f)
                    have hgD := H.2.2.2.2.2.2.2.2 y hy
                    exact e_iret dX9_tell_175 rfl rfl rfl ⟨by rw [hq, p_ix_n (show y < 2 ^ 31 by omega)]; first | contradiction | (simp [p_retI, *]; done), fun h => absurd (congrArg Prod.fst hq) h, fun _ => by rw [p_ix_n (show y < 2 ^ 31 by omega)]; first | contradiction | (rw [show p_retI w = 3 from by simp [p_retI, *]]; exact ⟨H.sD (j := 3) hy (by decide) (hgD.u3 c_f), (fx_KF.refl m).sI (by omega)⟩) | (rw [show p_retI w = 5 from by simp [p_retI, *]]; exact ⟨H.sD (j := 5) hy (by decide) (hgD.u5 c_f), (fx_KF.refl m).sI (by omega)⟩) | (rw [show p_retI w = 6 from by simp [p_retI, *]]; exact ⟨H.sD (j := 6) hy (by decide) (hgD.u6 c_f), (fx_KF.refl m).sI (by omega)⟩) | (rw [show p_retI w = 7 from by simp [p_retI, *]]; exact ⟨H.sD (j := 7) hy (by decide) (hgD.u7 c_f), (fx_KF.refl m).sI (by omega)⟩)⟩
              · refine e_aload_n dX9_tell_91 rfl ?_
                refine e_getr (o2 := 97) dX9_tell_92 ff_X9_56 rfl (fx_pi_lt (by decide)) (by decide) rfl (hL _ _ _ rfl) ?_
                refine e_iload_n dX9_tell_95 rfl ?_
                refine e_ialdv (j := y) (v := t.2.1 y 5) dX9_tell_96 rfl (fx_pi_lt (by decide)) rfl (by omega) (by decide) (H.2.2.2.2.1 _ (by omega) 5 (by decide)) ?_
                refine e_goto 120 dX9_tell_97 rfl ?_
                refine e_istore dX9_tell_120 (by decide) rfl ?_
                refine e_iload_n dX9_tell_122 rfl ?_
                refine e_if_ne 136 dX9_tell_123 rfl (fun e_0 => ?_) (fun e_0 => ?_)
                · refine e_iload_n dX9_tell_136 rfl ?_
                  refine e_iconst dX9_tell_137 kci_1 ?_
                  refine e_icmp_ne 151 dX9_tell_138 rfl (fun e_1 => ?_) (fun e_1 => ?_)
                  · refine e_iload_n dX9_tell_151 rfl ?_
                    refine e_iconst dX9_tell_152 kci_2 ?_
                    refine e_icmp_ne 166 dX9_tell_153 rfl (fun e_2 => ?_) (fun e_2 => ?_)
                    · refine e_aload_n dX9_tell_166 rfl ?_
                      refine e_getr (o2 := 99) dX9_tell_167 ff_X9_62 rfl (fx_pi_lt (by decide)) (by decide) rfl (hL _ _ _ rfl) ?_
                      refine e_iload_n dX9_tell_170 rfl ?_
                      refine e_iload_n dX9_tell_171 rfl ?_
                      refine e_iast (j := y) dX9_tell_172 rfl (fx_pi_lt (by decide)) rfl (by omega) (by decide) ?_
                      refine e_iload dX9_tell_173 rfl ?_
                      have hq : q_tell t.2.1 nd (nI y) w v = (0, t.2.1 (p_ix (nI y)) (p_retI w)) := q_tell_ok (by assumption) (by rw [hmo]; exact c_f)
                      have hgD := H.2.2.2.2.2.2.2.2 y hy
                      exact e_iret dX9_tell_175 rfl rfl rfl ⟨by rw [hq, p_ix_n (show y < 2 ^ 31 by omega)]; first | contradiction | (simp [p_retI, *]; done), fun h => absurd (congrArg Prod.fst hq) h, fun _ => by rw [p_ix_n (show y < 2 ^ 31 by omega)]; first | contradiction | (rw [show p_retI w = 3 from by simp [p_retI, *]]; exact ⟨H.sD (j := 3) hy (by decide) (hgD.u3 c_f), (fx_KF.refl m).sI (by omega)⟩) | (rw [show p_retI w = 5 from by simp [p_retI, *]]; exact ⟨H.sD (j := 5) hy (by decide) (hgD.u5 c_f), (fx_KF.refl m).sI (by omega)⟩) | (rw [show p_retI w = 6 from by simp [p_retI, *]]; exact ⟨H.sD (j := 6) hy (by decide) (hgD.u6 c_f), (fx_KF.refl m).sI (by omega)⟩) | (rw [show p_retI w = 7 from by simp [p_retI, *]]; exact ⟨H.sD (j := 7) hy (by decide) (hgD.u7 c_f), (fx_KF.refl m).sI (by omega)⟩)⟩
                    · refine e_aload_n dX9_tell_156 rfl ?_
                      refine e_getr (o2 := 98) dX9_tell_157 ff_X9_59 rfl (fx_pi_lt (by decide)) (by decide) rfl (hL _ _ _ rfl) ?_
                      refine e_iload_n dX9_tell_160 rfl ?_
                      refine e_iload_n dX9_tell_161 rfl ?_
                      refine e_iast (j := y) dX9_tell_162 rfl (fx_pi_lt (by decide)) rfl (by omega) (by decide) ?_
                      refine e_goto 173 dX9_tell_163 rfl ?_
                      refine e_iload dX9_tell_173 rfl ?_
                      have hq : q_tell t.2.1 nd (nI y) w v = (0, t.2.1 (p_ix (nI y)) (p_retI w)) := q_tell_ok (by assumption) (by rw [hmo]; exact c_f)
                      have hgD := H.2.2.2.2.2.2.2.2 y hy
                      exact e_iret dX9_tell_175 rfl rfl rfl ⟨by rw [hq, p_ix_n (show y < 2 ^ 31 by omega)]; first | contradiction | (simp [p_retI, *]; done), fun h => absurd (congrArg Prod.fst hq) h, fun _ => by rw [p_ix_n (show y < 2 ^ 31 by omega)]; first | contradiction | (rw [show p_retI w = 3 from by simp [p_retI, *]]; exact ⟨H.sD (j := 3) hy (by decide) (hgD.u3 c_f), (fx_KF.refl m).sI (by omega)⟩) | (rw [show p_retI w = 5 from by simp [p_retI, *]]; exact ⟨H.sD (j := 5) hy (by decide) (hgD.u5 c_f), (fx_KF.refl m).sI (by omega)⟩) | (rw [show p_retI w = 6 from by simp [p_retI, *]]; exact ⟨H.sD (j := 6) hy (by decide) (hgD.u6 c_f), (fx_KF.refl m).sI (by omega)⟩) | (rw [show p_retI w = 7 from by simp [p_retI, *]]; exact ⟨H.sD (j := 7) hy (by decide) (hgD.u7 c_f), (fx_KF.refl m).sI (by omega)⟩)⟩
                  · refine e_aload_n dX9_tell_141 rfl ?_
                    refine e_getr (o2 := 97) dX9_tell_142 ff_X9_56 rfl (fx_pi_lt (by decide)) (by decide) rfl (hL _ _ _ rfl) ?_
                    refine e_iload_n dX9_tell_145 rfl ?_
                    refine e_iload_n dX9_tell_146 rfl ?_
                    refine e_iast (j := y) dX9_tell_147 rfl (fx_pi_lt (by decide)) rfl (by omega) (by decide) ?_
                    refine e_goto 173 dX9_tell_148 rfl ?_
                    refine e_iload dX9_tell_173 rfl ?_
                    have hq : q_tell t.2.1 nd (nI y) w v = (0, t.2.1 (p_ix (nI y)) (p_retI w)) := q_tell_ok (by assumption) (by rw [hmo]; exact c_f)
                    have hgD := H.2.2.2.2.2.2.2.2 y hy
                    exact e_iret dX9_tell_175 rfl rfl rfl ⟨by rw [hq, p_ix_n (show y < 2 ^ 31 by omega)]; first | contradiction | (simp [p_retI, *]; done), fun h => absurd (congrArg Prod.fst hq) h, fun _ => by rw [p_ix_n (show y < 2 ^ 31 by omega)]; first | contradiction | (rw [show p_retI w = 3 from by simp [p_retI, *]]; exact ⟨H.sD (j := 3) hy (by decide) (hgD.u3 c_f), (fx_KF.refl m).sI (by omega)⟩) | (rw [show p_retI w = 5 from by simp [p_retI, *]]; exact ⟨H.sD (j := 5) hy (by decide) (hgD.u5 c_f), (fx_KF.refl m).sI (by omega)⟩) | (rw [show p_retI w = 6 from by simp [p_retI, *]]; exact ⟨H.sD (j := 6) hy (by decide) (hgD.u6 c_f), (fx_KF.refl m).sI (by omega)⟩) | (rw [show p_retI w = 7 from by simp [p_retI, *]]; exact ⟨H.sD (j := 7) hy (by decide) (hgD.u7 c_f), (fx_KF.refl m).sI (by omega)⟩)⟩
                · refine e_aload_n dX9_tell_126 rfl ?_
                  refine e_getr (o2 := 95) dX9_tell_127 ff_X9_50 rfl (fx_pi_lt (by decide)) (by decide) rfl (hL _ _ _ rfl) ?_
                  refine e_iload_n dX9_tell_130 rfl ?_
                  refine e_iload_n dX9_tell_131 rfl ?_
                  refine e_iast (j := y) dX9_tell_132 rfl (fx_pi_lt (by decide)) rfl (by omega) (by decide) ?_
                  refine e_goto 173 dX9_tell_133 rfl ?_
                  refine e_iload dX9_tell_173 rfl ?_
                  have hq : q_tell t.2.1 nd (nI y) w v = (0, t.2.1 (p_ix (nI y)) (p_retI w)) := q_tell_ok (by assumption) (by rw [hmo]; exact c_f)
                  have hgD := H.2.2.2.2.2.2.2.2 y hy
                  exact e_iret dX9_tell_175 rfl rfl rfl ⟨by rw [hq, p_ix_n (show y < 2 ^ 31 by omega)]; first | contradiction | (simp [p_retI, *]; done), fun h => absurd (congrArg Prod.fst hq) h, fun _ => by rw [p_ix_n (show y < 2 ^ 31 by omega)]; first | contradiction | (rw [show p_retI w = 3 from by simp [p_retI, *]]; exact ⟨H.sD (j := 3) hy (by decide) (hgD.u3 c_f), (fx_KF.refl m).sI (by omega)⟩) | (rw [show p_retI w = 5 from by simp [p_retI, *]]; exact ⟨H.sD (j := 5) hy (by decide) (hgD.u5 c_f), (fx_KF.refl m).sI (by omega)⟩) | (rw [show p_retI w = 6 from by simp [p_retI, *]]; exact ⟨H.sD (j := 6) hy (by decide) (hgD.u6 c_f), (fx_KF.refl m).sI (by omega)⟩) | (rw [show p_retI w = 7 from by simp [p_retI, *]]; exact ⟨H.sD (j := 7) hy (by decide) (hgD.u7 c_f), (fx_KF.refl m).sI (by omega)⟩)⟩
            · refine e_aload_n dX9_tell_77 rfl ?_
              refine e_getr (o2 := 95) dX9_tell_78 ff_X9_50 rfl (fx_pi_lt (by decide)) (by decide) rfl (hL _ _ _ rfl) ?_
              refine e_iload_n dX9_tell_81 rfl ?_
              refine e_ialdv (j := y) (v := t.2.1 y 3) dX9_tell_82 rfl (fx_pi_lt (by decide)) rfl (by omega) (by decide) (H.2.2.2.2.1 _ (by omega) 3 (by decide)) ?_
              refine e_goto 120 dX9_tell_83 rfl ?_
              refine e_istore dX9_tell_120 (by decide) rfl ?_
              refine e_iload_n dX9_tell_122 rfl ?_
              refine e_if_ne 136 dX9_tell_123 rfl (fun e_0 => ?_) (fun e_0 => ?_)
              · refine e_iload_n dX9_tell_136 rfl ?_
                refine e_iconst dX9_tell_137 kci_1 ?_
                refine e_icmp_ne 151 dX9_tell_138 rfl (fun e_1 => ?_) (fun e_1 => ?_)
                · refine e_iload_n dX9_tell_151 rfl ?_
                  refine e_iconst dX9_tell_152 kci_2 ?_
                  refine e_icmp_ne 166 dX9_tell_153 rfl (fun e_2 => ?_) (fun e_2 => ?_)
                  · refine e_aload_n dX9_tell_166 rfl ?_
                    refine e_getr (o2 := 99) dX9_tell_167 ff_X9_62 rfl (fx_pi_lt (by decide)) (by decide) rfl (hL _ _ _ rfl) ?_
                    refine e_iload_n dX9_tell_170 rfl ?_
                    refine e_iload_n dX9_tell_171 rfl ?_
                    refine e_iast (j := y) dX9_tell_172 rfl (fx_pi_lt (by decide)) rfl (by omega) (by decide) ?_
                    refine e_iload dX9_tell_173 rfl ?_
                    have hq : q_tell t.2.1 nd (nI y) w v = (0, t.2.1 (p_ix (nI y)) (p_retI w)) := q_tell_ok (by assumption) (by rw [hmo]; exact c_f)
                    have hgD := H.2.2.2.2.2.2.2.2 y hy
                    exact e_iret dX9_tell_175 rfl rfl rfl ⟨by rw [hq, p_ix_n (show y < 2 ^ 31 by omega)]; first | contradiction | (simp [p_retI, *]; done), fun h => absurd (congrArg Prod.fst hq) h, fun _ => by rw [p_ix_n (show y < 2 ^ 31 by omega)]; first | contradiction | (rw [show p_retI w = 3 from by simp [p_retI, *]]; exact ⟨H.sD (j := 3) hy (by decide) (hgD.u3 c_f), (fx_KF.refl m).sI (by omega)⟩) | (rw [show p_retI w = 5 from by simp [p_retI, *]]; exact ⟨H.sD (j := 5) hy (by decide) (hgD.u5 c_f), (fx_KF.refl m).sI (by omega)⟩) | (rw [show p_retI w = 6 from by simp [p_retI, *]]; exact ⟨H.sD (j := 6) hy (by decide) (hgD.u6 c_f), (fx_KF.refl m).sI (by omega)⟩) | (rw [show p_retI w = 7 from by simp [p_retI, *]]; exact ⟨H.sD (j := 7) hy (by decide) (hgD.u7 c_f), (fx_KF.refl m).sI (by omega)⟩)⟩
                  · refine e_aload_n dX9_tell_156 rfl ?_
                    refine e_getr (o2 := 98) dX9_tell_157 ff_X9_59 rfl (fx_pi_lt (by decide)) (by decide) rfl (hL _ _ _ rfl) ?_
                    refine e_iload_n dX9_tell_160 rfl ?_
                    refine e_iload_n dX9_tell_161 rfl ?_
                    refine e_iast (j := y) dX9_tell_162 rfl (fx_pi_lt (by decide)) rfl (by omega) (by decide) ?_
                    refine e_goto 173 dX9_tell_163 rfl ?_
                    refine e_iload dX9_tell_173 rfl ?_
                    have hq : q_tell t.2.1 nd (nI y) w v = (0, t.2.1 (p_ix (nI y)) (p_retI w)) := q_tell_ok (by assumption) (by rw [hmo]; exact c_f)
                    have hgD := H.2.2.2.2.2.2.2.2 y hy
                    exact e_iret dX9_tell_175 rfl rfl rfl ⟨by rw [hq, p_ix_n (show y < 2 ^ 31 by omega)]; first | contradiction | (simp [p_retI, *]; done), fun h => absurd (congrArg Prod.fst hq) h, fun _ => by rw [p_ix_n (show y < 2 ^ 31 by omega)]; first | contradiction | (rw [show p_retI w = 3 from by simp [p_retI, *]]; exact ⟨H.sD (j := 3) hy (by decide) (hgD.u3 c_f), (fx_KF.refl m).sI (by omega)⟩) | (rw [show p_retI w = 5 from by simp [p_retI, *]]; exact ⟨H.sD (j := 5) hy (by decide) (hgD.u5 c_f), (fx_KF.refl m).sI (by omega)⟩) | (rw [show p_retI w = 6 from by simp [p_retI, *]]; exact ⟨H.sD (j := 6) hy (by decide) (hgD.u6 c_f), (fx_KF.refl m).sI (by omega)⟩) | (rw [show p_retI w = 7 from by simp [p_retI, *]]; exact ⟨H.sD (j := 7) hy (by decide) (hgD.u7 c_f), (fx_KF.refl m).sI (by omega)⟩)⟩
                · refine e_aload_n dX9_tell_141 rfl ?_
                  refine e_getr (o2 := 97) dX9_tell_142 ff_X9_56 rfl (fx_pi_lt (by decide)) (by decide) rfl (hL _ _ _ rfl) ?_
                  refine e_iload_n dX9_tell_145 rfl ?_
                  refine e_iload_n dX9_tell_146 rfl ?_
                  refine e_iast (j := y) dX9_tell_147 rfl (fx_pi_lt (by decide)) rfl (by omega) (by decide) ?_
                  refine e_goto 173 dX9_tell_148 rfl ?_
                  refine e_iload dX9_tell_173 rfl ?_
                  have hq : q_tell t.2.1 nd (nI y) w v = (0, t.2.1 (p_ix (nI y)) (p_retI w)) := q_tell_ok (by assumption) (by rw [hmo]; exact c_f)
                  have hgD := H.2.2.2.2.2.2.2.2 y hy
                  exact e_iret dX9_tell_175 rfl rfl rfl ⟨by rw [hq, p_ix_n (show y < 2 ^ 31 by omega)]; first | contradiction | (simp [p_retI, *]; done), fun h => absurd (congrArg Prod.fst hq) h, fun _ => by rw [p_ix_n (show y < 2 ^ 31 by omega)]; first | contradiction | (rw [show p_retI w = 3 from by simp [p_retI, *]]; exact ⟨H.sD (j := 3) hy (by decide) (hgD.u3 c_f), (fx_KF.refl m).sI (by omega)⟩) | (rw [show p_retI w = 5 from by simp [p_retI, *]]; exact ⟨H.sD (j := 5) hy (by decide) (hgD.u5 c_f), (fx_KF.refl m).sI (by omega)⟩) | (rw [show p_retI w = 6 from by simp [p_retI, *]]; exact ⟨H.sD (j := 6) hy (by decide) (hgD.u6 c_f), (fx_KF.refl m).sI (by omega)⟩) | (rw [show p_retI w = 7 from by simp [p_retI, *]]; exact ⟨H.sD (j := 7) hy (by decide) (hgD.u7 c_f), (fx_KF.refl m).sI (by omega)⟩)⟩
              · refine e_aload_n dX9_tell_126 rfl ?_
                refine e_getr (o2 := 95) dX9_tell_127 ff_X9_50 rfl (fx_pi_lt (by decide)) (by decide) rfl (hL _ _ _ rfl) ?_
                refine e_iload_n dX9_tell_130 rfl ?_
                refine e_iload_n dX9_tell_131 rfl ?_
                refine e_iast (j := y) dX9_tell_132 rfl (fx_pi_lt (by decide)) rfl (by omega) (by decide) ?_
                refine e_goto 173 dX9_tell_133 rfl ?_
                refine e_iload dX9_tell_173 rfl ?_
                have hq : q_tell t.2.1 nd (nI y) w v = (0, t.2.1 (p_ix (nI y)) (p_retI w)) := q_tell_ok (by assumption) (by rw [hmo]; exact c_f)
                have hgD := H.2.2.2.2.2.2.2.2 y hy
                exact e_iret dX9_tell_175 rfl rfl rfl ⟨by rw [hq, p_ix_n (show y < 2 ^ 31 by omega)]; first | contradiction | (simp [p_retI, *]; done), fun h => absurd (congrArg Prod.fst hq) h, fun _ => by rw [p_ix_n (show y < 2 ^ 31 by omega)]; first | contradiction | (rw [show p_retI w = 3 from by simp [p_retI, *]]; exact ⟨H.sD (j := 3) hy (by decide) (hgD.u3 c_f), (fx_KF.refl m).sI (by omega)⟩) | (rw [show p_retI w = 5 from by simp [p_retI, *]]; exact ⟨H.sD (j := 5) hy (by decide) (hgD.u5 c_f), (fx_KF.refl m).sI (by omega)⟩) | (rw [show p_retI w = 6 from by simp [p_retI, *]]; exact ⟨H.sD (j := 6) hy (by decide) (hgD.u6 c_f), (fx_KF.refl m).sI (by omega)⟩) | (rw [show p_retI w = 7 from by simp [p_retI, *]]; exact ⟨H.sD (j := 7) hy (by decide) (hgD.u7 c_f), (fx_KF.refl m).sI (by omega)⟩)⟩
          · refine e_aload_n dX9_tell_66 rfl ?_
            refine e_bipush dX9_tell_67 kcb_m6 ?_
            refine e_callV1 (μ' := mX9_no) (ci := 9) (As := [.int (-6)]) dX9_tell_69 wl_X9_136 ok_X9_no rfl rfl (fx_pi_lt (by decide)) (by decide) (Nat.le_of_ble_eq_true rfl) fx_n1 (s_X9_no (m := m) hL (b := 6) (z := (-6)) (by decide) (by decide)) rfl ?_
            have hm : ¬ p_in v 0 (p_mostD w) := by first | contradiction | (rw [show p_mostD w = -1 from by (first | (have e0 : ¬ w = 0 := fun e => by subst e; revert a_lt; decide); (have e1 : ¬ w = 1 := fun e => by subst e; revert a_lt; decide); (have e2 : ¬ w = 2 := fun e => by subst e; revert a_lt; decide); (have e3 : ¬ w = 3 := fun e => by subst e; revert a_lt; decide); simp [p_mostD, e0, e1, e2, e3]; done | (have e0 : ¬ w = 0 := fun e => by subst e; revert a_gt; decide); (have e1 : ¬ w = 1 := fun e => by subst e; revert a_gt; decide); (have e2 : ¬ w = 2 := fun e => by subst e; revert a_gt; decide); (have e3 : ¬ w = 3 := fun e => by subst e; revert a_gt; decide); simp [p_mostD, e0, e1, e2, e3]; done)]; exact p_in_m1) | (rw [hmo]; exact c_f)
            have hq : q_tell t.2.1 nd d w v = (6, -6) := q_tell_no (by assumption) hm
            exact e_iret dX9_tell_72 rfl rfl rfl ⟨by rw [hq], fun _ => by rw [hq]; exact (fx_mno_n (by decide)).symm, fun h => by rw [hq] at h; cases h⟩
  · refine e_aload_n dX9_tell_8 rfl ?_
    refine e_iconst dX9_tell_9 kci_m1 ?_
    refine e_callV1 (μ' := mX9_no) (ci := 9) (As := [.int (-1)]) dX9_tell_10 wl_X9_136 ok_X9_no rfl rfl (fx_pi_lt (by decide)) (by decide) (Nat.le_of_ble_eq_true rfl) fx_n1 (s_X9_no (m := m) hL (b := 1) (z := (-1)) (by decide) (by decide)) rfl ?_
    have hq : q_tell t.2.1 nd d w v = (1, -1) := if_pos c_1
    exact e_iret dX9_tell_13 rfl rfl rfl ⟨by rw [hq], fun _ => by rw [hq]; exact (fx_mno_n (by decide)).symm, fun h => by rw [hq] at h; cases h⟩
def fx_aM (m : fx_M) (x d : Nat) (s : Int32) : fx_M := fx_sI (fx_sI (fx_sI m 91 x (10 * nI d + s)) 83 2 (m.1 83 2 + 1)) 83 3 (m.1 83 3 + m.1 96 d)
theorem fx_MS.mend {m : fx_M} {na nd x d : Nat} {t : p_Sg} {s : Int32} (H : fx_MS m na nd t) (hx : x < na) (hd : d < nd) : fx_MS (fx_aM m x d s) na nd (p_mend t x d s) ∧ fx_KF m (fx_aM m x d s) := by
  have h1 := H.sA (j := 6) (v := 10 * nI d + s) hx (by decide) (p_gA6 (H.2.2.2.2.2.2.2.1 x hx))
  have e2 : m.1 83 2 + 1 = t.2.2 0 + 1 := by rw [show m.1 83 2 = t.2.2 0 from H.2.2.1 0 (by decide)]
  have e3 : m.1 83 3 + m.1 96 d = t.2.2 1 + t.2.1 d 4 := by rw [show m.1 83 3 = t.2.2 1 from H.2.2.1 1 (by decide), show m.1 96 d = t.2.1 d 4 from H.2.2.2.2.1 d hd 4 (by decide)]
  have h2 := (h1.sC (j := 0) (v := t.2.2 0 + 1) 2 rfl (by decide)).sC (j := 1) (v := t.2.2 1 + t.2.1 d 4) 3 rfl (by decide)
  unfold fx_aM
  rw [e2, e3]
  refine ⟨?_, ((((fx_KF.refl m).sI (by omega)).sI (by omega)).sI (by omega))⟩
  have e : p_mend t x d s = (p_ua t.1 x (p_u (t.1 x) 6 (10 * nI d + s)), t.2.1, p_u (p_u t.2.2 0 (t.2.2 0 + 1)) 1 (t.2.2 1 + t.2.1 d 4)) := by
    unfold p_mend
    congr 2
    funext k
    simp only [p_u]
    by_cases c : k = 0
    · subst c; simp
    · simp [c]
  rw [e]
  exact h2
set_option maxRecDepth 100000 in
set_option maxHeartbeats 600000 in
theorem s_X9_mends {Γ : fx_G} {m : fx_M} (hL : fx_Lay m) {na nd : Nat} {t : p_Sg} (H : fx_MS m na nd t) {x : Nat} (hx : x < na) {d : Nat} (hd : d < nd) (s : Int32) : fx_Ct Γ mX9_mends 0 119 119 [fx_rf Γ 83, .int (nI x), .int (nI d), .int s] m (fx_is none (fx_aM m x d s)) := by
  refine fx_Ct.of (j := 0) (by decide) (Nat.le_of_ble_eq_true rfl) (Nat.le_of_ble_eq_true rfl) ?_
  show fx_E Γ mX9_mends 0 119 119 _ 119 m 0 [some (fx_rf Γ 83), some (.int (nI x)), some (.int (nI d)), some (.int s)] []
  have h9 := H.2.2.2.2.2.1
  have h5 := H.2.2.2.2.2.2.1
  refine e_aload_n dX9_mends_0 rfl ?_
  refine e_getr (o2 := 91) dX9_mends_1 ff_X9_38 rfl (fx_pi_lt (by decide)) (by decide) rfl (hL _ _ _ rfl) ?_
  refine e_iload_n dX9_mends_4 rfl ?_
  refine e_bipush dX9_mends_5 kcb_10 ?_
  refine e_iload_n dX9_mends_7 rfl ?_
  refine e_imul dX9_mends_8 ?_
  refine e_iload_n dX9_mends_9 rfl ?_
  refine e_iadd dX9_mends_10 ?_
  refine e_iast (j := x) dX9_mends_11 rfl (fx_pi_lt (by decide)) rfl (by omega) (by decide) ?_
  refine e_aload_n dX9_mends_12 rfl ?_
  refine e_dup dX9_mends_13 rfl ?_
  refine e_getv (v := m.1 83 2) dX9_mends_14 ff_X9_235 rfl (fx_pi_lt (by decide)) (by decide) rfl (fx_rd1 (by omega)) ?_
  refine e_iconst dX9_mends_17 kci_1 ?_
  refine e_iadd dX9_mends_18 ?_
  refine e_put dX9_mends_19 ff_X9_235 rfl (fx_pi_lt (by decide)) (by decide) rfl (Or.inl rfl) ?_
  refine e_aload_n dX9_mends_22 rfl ?_
  refine e_dup dX9_mends_23 rfl ?_
  refine e_getv (v := m.1 83 3) dX9_mends_24 ff_X9_238 rfl (fx_pi_lt (by decide)) (by decide) rfl ((fx_rd2 (by decide)).trans (fx_rd1 (by omega))) ?_
  refine e_aload_n dX9_mends_27 rfl ?_
  refine e_getr (o2 := 96) dX9_mends_28 ff_X9_53 rfl (fx_pi_lt (by decide)) (by decide) rfl (hL _ _ _ rfl) ?_
  refine e_iload_n dX9_mends_31 rfl ?_
  refine e_ialdv (j := d) (v := m.1 96 d) dX9_mends_32 rfl (fx_pi_lt (by decide)) rfl (by omega) (by decide) ((fx_rd1 (by omega)).trans (fx_rd1 (by omega))) ?_
  refine e_iadd dX9_mends_33 ?_
  refine e_put dX9_mends_34 ff_X9_238 rfl (fx_pi_lt (by decide)) (by decide) rfl (Or.inl rfl) ?_
  exact e_vret dX9_mends_37 rfl rfl ⟨rfl, rfl⟩
set_option maxRecDepth 100000 in
set_option maxHeartbeats 600000 in
theorem s_X9_mend {Γ : fx_G} {m : fx_M} (hL : fx_Lay m) {na nd : Nat} {t : p_Sg} (H : fx_MS m na nd t) (x : Int32) (d : Int32) (s : Int32) : fx_Ct Γ mX9_mend 4 119 119 [fx_rf Γ 83, .int x, .int d, .int s] m (fun r m' => r = some (.int (q_mend t.1 t.2.1 na nd (t.2.2 1) x d s).2) ∧ ((q_mend t.1 t.2.1 na nd (t.2.2 1) x d s).1 ≠ 0 → m' = fx_mno m (q_mend t.1 t.2.1 na nd (t.2.2 1) x d s).1) ∧ ((q_mend t.1 t.2.1 na nd (t.2.2 1) x d s).1 = 0 → fx_MS m' na nd (p_mend t (p_ix x) (p_ix d) s) ∧ fx_KF m m')) := by
  refine fx_Ct.of (j := 0) (by decide) (Nat.le_of_ble_eq_true rfl) (Nat.le_of_ble_eq_true rfl) ?_
  show fx_E Γ mX9_mend 4 119 119 _ 119 m 0 [some (fx_rf Γ 83), some (.int x), some (.int d), some (.int s)] []
  have h9 := H.2.2.2.2.2.1
  have h5 := H.2.2.2.2.2.2.1
  refine e_aload_n dX9_mend_0 rfl ?_
  refine e_iload_n dX9_mend_1 rfl ?_
  refine e_callV1 (μ' := mX9_isArm) (ci := 9) (As := [.int x]) dX9_mend_2 wl_X9_140 ok_X9_isArm rfl rfl (fx_pi_lt (by decide)) (by decide) (Nat.le_of_ble_eq_true rfl) fx_n1 (s_X9_isArm (m := m) hL H x) rfl ?_
  refine e_if_eqB 16 dX9_mend_5 rfl (fun c_1 => ?_) (fun c_1 => ?_)
  · refine e_aload_n dX9_mend_16 rfl ?_
    refine e_iconst dX9_mend_17 kci_m1 ?_
    refine e_callV1 (μ' := mX9_no) (ci := 9) (As := [.int (-1)]) dX9_mend_18 wl_X9_136 ok_X9_no rfl rfl (fx_pi_lt (by decide)) (by decide) (Nat.le_of_ble_eq_true rfl) fx_n1 (s_X9_no (m := m) hL (b := 1) (z := (-1)) (by decide) (by decide)) rfl ?_
    have hq : q_mend t.1 t.2.1 na nd (t.2.2 1) x d s = (1, (-1)) := by first | (unfold q_mend ; (try dsimp only); (try (first | rw [if_pos c_1] | rw [if_neg c_1] | rw [if_neg (Decidable.not_not.mpr c_1)])); (first | done | rfl | decide)) | (exfalso; first | contradiction | (simp_all; done))
    exact e_iret dX9_mend_21 rfl rfl rfl ⟨by rw [hq], fun _ => by rw [hq]; exact (fx_mno_n (by decide)).symm, fun h => by rw [hq] at h; cases h⟩
  · refine e_aload_n dX9_mend_8 rfl ?_
    refine e_iload_n dX9_mend_9 rfl ?_
    refine e_callV1 (μ' := mX9_isDoll) (ci := 9) (As := [.int d]) dX9_mend_10 wl_X9_184 ok_X9_isDoll rfl rfl (fx_pi_lt (by decide)) (by decide) (Nat.le_of_ble_eq_true rfl) fx_n1 (s_X9_isDoll (m := m) hL H d) rfl ?_
    refine e_if_neB 22 dX9_mend_13 rfl (fun c_2 => ?_) (fun c_2 => ?_)
    · refine e_aload_n dX9_mend_22 rfl ?_
      refine e_iload_n dX9_mend_23 rfl ?_
      refine e_iconst dX9_mend_24 kci_0 ?_
      refine e_iconst dX9_mend_25 kci_1 ?_
      refine e_callV1 (μ' := mX9_isFrom) (ci := 9) (As := [.int s, .int 0, .int 1]) dX9_mend_26 wl_X9_172 ok_X9_isFrom rfl rfl (fx_pi_lt (by decide)) (by decide) (Nat.le_of_ble_eq_true rfl) fx_n1 (s_X9_isFrom (m := m) hL s 0 1) rfl ?_
      refine e_if_eqB 42 dX9_mend_29 rfl (fun c_3 => ?_) (fun c_3 => ?_)
      · refine e_aload_n dX9_mend_42 rfl ?_
        refine e_bipush dX9_mend_43 kcb_m6 ?_
        refine e_callV1 (μ' := mX9_no) (ci := 9) (As := [.int (-6)]) dX9_mend_45 wl_X9_136 ok_X9_no rfl rfl (fx_pi_lt (by decide)) (by decide) (Nat.le_of_ble_eq_true rfl) fx_n1 (s_X9_no (m := m) hL (b := 6) (z := (-6)) (by decide) (by decide)) rfl ?_
        have hq : q_mend t.1 t.2.1 na nd (t.2.2 1) x d s = (6, (-6)) := by first | (unfold q_mend ; (try dsimp only); (try (first | rw [if_pos c_1] | rw [if_neg c_1] | rw [if_neg (Decidable.not_not.mpr c_1)])); (try (first | rw [if_pos c_2] | rw [if_neg c_2] | rw [if_neg (Decidable.not_not.mpr c_2)])); (try (first | rw [if_pos c_3] | rw [if_neg c_3] | rw [if_neg (Decidable.not_not.mpr c_3)])); (first | done | rfl | decide)) | (exfalso; first | contradiction | (simp_all; done))
        exact e_iret dX9_mend_48 rfl rfl rfl ⟨by rw [hq], fun _ => by rw [hq]; exact (fx_mno_n (by decide)).symm, fun h => by rw [hq] at h; cases h⟩
      · obtain ⟨y, hy, ey⟩ := p_el_ex c_1 (by omega)
        subst ey
        obtain ⟨z, hz, ez⟩ := p_el_ex c_2 (by omega)
        subst ez
        refine e_aload_n dX9_mend_32 rfl ?_
        refine e_iload_n dX9_mend_33 rfl ?_
        refine e_iload_n dX9_mend_34 rfl ?_
        refine e_iload_n dX9_mend_35 rfl ?_
        refine e_callV1 (μ' := mX9_isMend) (ci := 9) (As := [.int (nI y), .int (nI z), .int s]) dX9_mend_36 wl_X9_286 ok_X9_isMend rfl rfl (fx_pi_lt (by decide)) (by decide) (Nat.le_of_ble_eq_true rfl) fx_n1 (s_X9_isMend (m := m) hL H (x := y) (by omega) (d := z) (by omega) s) rfl ?_
        refine e_if_neB 49 dX9_mend_39 rfl (fun c_4 => ?_) (fun c_4 => ?_)
        · have HM := H.mend (s := s) hy hz
          refine e_aload_n dX9_mend_49 rfl ?_
          refine e_iload_n dX9_mend_50 rfl ?_
          refine e_iload_n dX9_mend_51 rfl ?_
          refine e_iload_n dX9_mend_52 rfl ?_
          refine e_callV1 (μ' := mX9_mends) (ci := 9) (As := [.int (nI y), .int (nI z), .int s]) dX9_mend_53 wl_X9_289 ok_X9_mends rfl rfl (fx_pi_lt (by decide)) (by decide) (Nat.le_of_ble_eq_true rfl) fx_n1 (s_X9_mends (m := m) hL H (x := y) (by omega) (d := z) (by omega) s) rfl ?_
          refine e_aload_n dX9_mend_56 rfl ?_
          refine e_getv (v := t.2.2 1 + t.2.1 z 4) dX9_mend_57 ff_X9_238 rfl (fx_pi_lt (by decide)) (by decide) rfl (HM.1.2.2.1 1 (by decide)) ?_
          have hq : q_mend t.1 t.2.1 na nd (t.2.2 1) (nI y) (nI z) s = (0, t.2.2 1 + t.2.1 z 4) := by first | (unfold q_mend ; (try dsimp only); (try dsimp only); (try simp only [p_ix_n (show y < 2 ^ 31 by omega)]); (try dsimp only); (try simp only [p_ix_n (show z < 2 ^ 31 by omega)]); (try (first | rw [if_pos c_1] | rw [if_neg c_1] | rw [if_neg (Decidable.not_not.mpr c_1)])); (try (first | rw [if_pos c_2] | rw [if_neg c_2] | rw [if_neg (Decidable.not_not.mpr c_2)])); (try (first | rw [if_pos c_3] | rw [if_neg c_3] | rw [if_neg (Decidable.not_not.mpr c_3)])); (try (first | rw [if_pos c_4] | rw [if_neg c_4] | rw [if_neg (Decidable.not_not.mpr c_4)])); (first | done | rfl | decide)) | (exfalso; first | contradiction | (simp_all; done))
          exact e_iret dX9_mend_60 rfl rfl rfl ⟨by rw [hq], fun h => absurd (congrArg Prod.fst hq) h, fun _ => by rw [p_ix_n (show y < 2 ^ 31 by omega), p_ix_n (show z < 2 ^ 31 by omega)]; exact HM⟩
        · refine e_aload_n dX9_mend_42 rfl ?_
          refine e_bipush dX9_mend_43 kcb_m6 ?_
          refine e_callV1 (μ' := mX9_no) (ci := 9) (As := [.int (-6)]) dX9_mend_45 wl_X9_136 ok_X9_no rfl rfl (fx_pi_lt (by decide)) (by decide) (Nat.le_of_ble_eq_true rfl) fx_n1 (s_X9_no (m := m) hL (b := 6) (z := (-6)) (by decide) (by decide)) rfl ?_
          have hq : q_mend t.1 t.2.1 na nd (t.2.2 1) (nI y) (nI z) s = (6, (-6)) := by first | (unfold q_mend ; (try dsimp only); (try dsimp only); (try simp only [p_ix_n (show y < 2 ^ 31 by omega)]); (try dsimp only); (try simp only [p_ix_n (show z < 2 ^ 31 by omega)]); (try (first | rw [if_pos c_1] | rw [if_neg c_1] | rw [if_neg (Decidable.not_not.mpr c_1)])); (try (first | rw [if_pos c_2] | rw [if_neg c_2] | rw [if_neg (Decidable.not_not.mpr c_2)])); (try (first | rw [if_pos c_3] | rw [if_neg c_3] | rw [if_neg (Decidable.not_not.mpr c_3)])); (try (first | rw [if_pos c_4] | rw [if_neg c_4] | rw [if_neg (Decidable.not_not.mpr c_4)])); (first | done | rfl | decide)) | (exfalso; first | contradiction | (simp_all; done))
          exact e_iret dX9_mend_48 rfl rfl rfl ⟨by rw [hq], fun _ => by rw [hq]; exact (fx_mno_n (by decide)).symm, fun h => by rw [hq] at h; cases h⟩
    · refine e_aload_n dX9_mend_16 rfl ?_
      refine e_iconst dX9_mend_17 kci_m1 ?_
      refine e_callV1 (μ' := mX9_no) (ci := 9) (As := [.int (-1)]) dX9_mend_18 wl_X9_136 ok_X9_no rfl rfl (fx_pi_lt (by decide)) (by decide) (Nat.le_of_ble_eq_true rfl) fx_n1 (s_X9_no (m := m) hL (b := 1) (z := (-1)) (by decide) (by decide)) rfl ?_
      have hq : q_mend t.1 t.2.1 na nd (t.2.2 1) x d s = (1, (-1)) := by first | (unfold q_mend ; (try dsimp only); (try (first | rw [if_pos c_1] | rw [if_neg c_1] | rw [if_neg (Decidable.not_not.mpr c_1)])); (try (first | rw [if_pos c_2] | rw [if_neg c_2] | rw [if_neg (Decidable.not_not.mpr c_2)])); (first | done | rfl | decide)) | (exfalso; first | contradiction | (simp_all; done))
      exact e_iret dX9_mend_21 rfl rfl rfl ⟨by rw [hq], fun _ => by rw [hq]; exact (fx_mno_n (by decide)).symm, fun h => by rw [hq] at h; cases h⟩
set_option maxRecDepth 100000 in
set_option maxHeartbeats 600000 in
theorem s_X9_off {Γ : fx_G} {m : fx_M} (hL : fx_Lay m) {na nd : Nat} {t : p_Sg} (H : fx_MS m na nd t) (x : Int32) : fx_Ct Γ mX9_off 1 119 119 [fx_rf Γ 83, .int x] m (fun r m' => r = some (.int (q_off t.1 na x).2) ∧ ((q_off t.1 na x).1 ≠ 0 → m' = fx_mno m (q_off t.1 na x).1) ∧ ((q_off t.1 na x).1 = 0 → fx_MS m' na nd (p_off t (p_ix x)) ∧ fx_KF m m')) := by
  refine fx_Ct.of (j := 1) (by decide) (Nat.le_of_ble_eq_true rfl) (Nat.le_of_ble_eq_true rfl) ?_
  show fx_E Γ mX9_off 1 119 119 _ 119 m 0 [some (fx_rf Γ 83), some (.int x), none] []
  have h9 := H.2.2.2.2.2.1
  have h5 := H.2.2.2.2.2.2.1
  refine e_aload_n dX9_off_0 rfl ?_
  refine e_iload_n dX9_off_1 rfl ?_
  refine e_callV1 (μ' := mX9_isArm) (ci := 9) (As := [.int x]) dX9_off_2 wl_X9_140 ok_X9_isArm rfl rfl (fx_pi_lt (by decide)) (by decide) (Nat.le_of_ble_eq_true rfl) fx_n1 (s_X9_isArm (m := m) hL H x) rfl ?_
  refine e_if_neB 14 dX9_off_5 rfl (fun c_1 => ?_) (fun c_1 => ?_)
  · obtain ⟨y, hy, ey⟩ := p_el_ex c_1 (by omega)
    subst ey
    refine e_aload_n dX9_off_14 rfl ?_
    refine e_getr (o2 := 91) dX9_off_15 ff_X9_38 rfl (fx_pi_lt (by decide)) (by decide) rfl (hL _ _ _ rfl) ?_
    refine e_iload_n dX9_off_18 rfl ?_
    refine e_ialdv (j := y) (v := t.1 y 6) dX9_off_19 rfl (fx_pi_lt (by decide)) rfl (by omega) (by decide) (H.2.2.2.1 _ (by omega) 6 (by decide)) ?_
    refine e_bipush dX9_off_20 kcb_99 ?_
    refine e_icmp_ne 32 dX9_off_22 rfl (fun c_2 => ?_) (fun c_2 => ?_)
    · refine e_aload_n dX9_off_32 rfl ?_
      refine e_getr (o2 := 91) dX9_off_33 ff_X9_38 rfl (fx_pi_lt (by decide)) (by decide) rfl (hL _ _ _ rfl) ?_
      refine e_iload_n dX9_off_36 rfl ?_
      refine e_ialdv (j := y) (v := t.1 y 6) dX9_off_37 rfl (fx_pi_lt (by decide)) rfl (by omega) (by decide) (H.2.2.2.1 _ (by omega) 6 (by decide)) ?_
      refine e_istore_n dX9_off_38 (by decide) rfl ?_
      refine e_aload_n dX9_off_39 rfl ?_
      refine e_getr (o2 := 91) dX9_off_40 ff_X9_38 rfl (fx_pi_lt (by decide)) (by decide) rfl (hL _ _ _ rfl) ?_
      refine e_iload_n dX9_off_43 rfl ?_
      refine e_bipush dX9_off_44 kcb_99 ?_
      refine e_iast (j := y) dX9_off_46 rfl (fx_pi_lt (by decide)) rfl (by omega) (by decide) ?_
      refine e_iload_n dX9_off_47 rfl ?_
      have hq : q_off t.1 na (nI y) = (0, t.1 y 6) := by first | (unfold q_off ; (try dsimp only); (try dsimp only); (try simp only [p_ix_n (show y < 2 ^ 31 by omega)]); (try (first | rw [if_pos c_1] | rw [if_neg c_1] | rw [if_neg (Decidable.not_not.mpr c_1)])); (try (first | rw [if_pos c_2] | rw [if_neg c_2] | rw [if_neg (Decidable.not_not.mpr c_2)])); (first | done | rfl | decide)) | (exfalso; first | contradiction | (simp_all; done))
      exact e_iret dX9_off_48 rfl rfl rfl ⟨by rw [hq], fun h => absurd (congrArg Prod.fst hq) h, fun _ => by rw [p_ix_n (show y < 2 ^ 31 by omega)]; exact ⟨H.sA (j := 6) (v := 99) hy (by decide) (p_gA6 (H.2.2.2.2.2.2.2.1 y hy)), (fx_KF.refl m).sI (by omega)⟩⟩
    · refine e_aload_n dX9_off_25 rfl ?_
      refine e_bipush dX9_off_26 kcb_m6 ?_
      refine e_callV1 (μ' := mX9_no) (ci := 9) (As := [.int (-6)]) dX9_off_28 wl_X9_136 ok_X9_no rfl rfl (fx_pi_lt (by decide)) (by decide) (Nat.le_of_ble_eq_true rfl) fx_n1 (s_X9_no (m := m) hL (b := 6) (z := (-6)) (by decide) (by decide)) rfl ?_
      have hq : q_off t.1 na (nI y) = (6, (-6)) := by first | (unfold q_off ; (try dsimp only); (try dsimp only); (try simp only [p_ix_n (show y < 2 ^ 31 by omega)]); (try (first | rw [if_pos c_1] | rw [if_neg c_1] | rw [if_neg (Decidable.not_not.mpr c_1)])); (try (first | rw [if_pos c_2] | rw [if_neg c_2] | rw [if_neg (Decidable.not_not.mpr c_2)])); (first | done | rfl | decide)) | (exfalso; first | contradiction | (simp_all; done))
      exact e_iret dX9_off_31 rfl rfl rfl ⟨by rw [hq], fun _ => by rw [hq]; exact (fx_mno_n (by decide)).symm, fun h => by rw [hq] at h; cases h⟩
  · refine e_aload_n dX9_off_8 rfl ?_
    refine e_iconst dX9_off_9 kci_m1 ?_
    refine e_callV1 (μ' := mX9_no) (ci := 9) (As := [.int (-1)]) dX9_off_10 wl_X9_136 ok_X9_no rfl rfl (fx_pi_lt (by decide)) (by decide) (Nat.le_of_ble_eq_true rfl) fx_n1 (s_X9_no (m := m) hL (b := 1) (z := (-1)) (by decide) (by decide)) rfl ?_
    have hq : q_off t.1 na x = (1, (-1)) := by first | (unfold q_off ; (try dsimp only); (try (first | rw [if_pos c_1] | rw [if_neg c_1] | rw [if_neg (Decidable.not_not.mpr c_1)])); (first | done | rfl | decide)) | (exfalso; first | contradiction | (simp_all; done))
    exact e_iret dX9_off_13 rfl rfl rfl ⟨by rw [hq], fun _ => by rw [hq]; exact (fx_mno_n (by decide)).symm, fun h => by rw [hq] at h; cases h⟩
set_option maxRecDepth 100000 in
set_option maxHeartbeats 600000 in
theorem s_X9_seed {Γ : fx_G} {m : fx_M} (hL : fx_Lay m) {na nd : Nat} {t : p_Sg} (H : fx_MS m na nd t) (v : Int32) : fx_Ct Γ mX9_seed 0 119 119 [fx_rf Γ 83, .int v] m (fun r m' => r = some (.int (t.2.2 3)) ∧ fx_MS m' na nd (t.1, t.2.1, p_u t.2.2 3 v) ∧ fx_KF m m') := by
  refine fx_Ct.of (j := 1) (by decide) (Nat.le_of_ble_eq_true rfl) (Nat.le_of_ble_eq_true rfl) ?_
  show fx_E Γ mX9_seed 0 119 119 _ 119 m 0 [some (fx_rf Γ 83), some (.int v), none] []
  refine e_aload_n dX9_seed_0 rfl ?_
  refine e_getv (v := t.2.2 3) dX9_seed_1 ff_X9_7 rfl (fx_pi_lt (by decide)) (by decide) rfl (H.2.2.1 3 (by decide)) ?_
  refine e_istore_n dX9_seed_4 (by decide) rfl ?_
  refine e_aload_n dX9_seed_5 rfl ?_
  refine e_iload_n dX9_seed_6 rfl ?_
  refine e_put dX9_seed_7 ff_X9_7 rfl (fx_pi_lt (by decide)) (by decide) rfl (Or.inl rfl) ?_
  refine e_iload_n dX9_seed_10 rfl ?_
  exact e_iret dX9_seed_11 rfl rfl rfl ⟨rfl, H.sC (j := 3) 5 rfl (by decide), (fx_KF.refl m).sI (by omega)⟩
