theorem p_in_01 {w : Int32} (h : p_in w 0 1) : w = 0 ∨ w = 1 := by
  obtain ⟨j, hj, ej⟩ := p_in_ex (v := w) (hi := 1) h (by decide)
  subst ej
  have : j = 0 ∨ j = 1 := by omega
  rcases this with rfl | rfl
  · exact Or.inl rfl
  · exact Or.inr rfl
theorem p_in9n {v : Nat} (h : v ≤ 9) : p_in (nI v) 0 9 := ⟨nI_le (a := 0) (by omega) (by omega), nI_le (b := 9) h (by decide)⟩
set_option maxRecDepth 100000 in
set_option maxHeartbeats 600000 in
theorem s_X9_looks {Γ : fx_G} {m : fx_M} (hL : fx_Lay m) {na nd : Nat} {t : p_Sg} (H : fx_MS m na nd t) {u : p_Sh} (HS : fx_MSh m na u) (s x w : Int32) : fx_Ct Γ mX9_looks 3 119 119 [fx_rf Γ 83, .int s, .int x, .int w] m (fx_is (some (.int (q_looks t.1 t.2.1 na nd u.1 u.2.1 u.2.2.1 (p_rdI u) s x w).2)) (fx_mno m (q_looks t.1 t.2.1 na nd u.1 u.2.1 u.2.2.1 (p_rdI u) s x w).1)) := by
  refine fx_Ct.of (j := 6) (by decide) (Nat.le_of_ble_eq_true rfl) (Nat.le_of_ble_eq_true rfl) ?_
  show fx_E Γ mX9_looks 3 119 119 _ 119 m 0 [some (fx_rf Γ 83), some (.int s), some (.int x), some (.int w), none, none, none, none, none, none] []
  have h9 := H.2.2.2.2.2.1
  have h5 := H.2.2.2.2.2.2.1
  refine e_aload_n dX9_looks_0 rfl ?_
  refine e_iload_n dX9_looks_1 rfl ?_
  refine e_callV1 (μ' := mX9_isArm) (ci := 9) (As := [.int x]) dX9_looks_2 wl_X9_140 ok_X9_isArm rfl rfl (fx_pi_lt (by decide)) (by decide) (Nat.le_of_ble_eq_true rfl) fx_n1 (s_X9_isArm (m := m) hL H x) rfl ?_
  refine e_if_eqB 16 dX9_looks_5 rfl (fun c_a => ?_) (fun c_a => ?_)
  · refine e_iconst dX9_looks_16 kci_m1 ?_
    refine e_istore dX9_looks_17 (by decide) rfl ?_
    refine e_iload dX9_looks_19 rfl ?_
    refine e_if_ne 50 dX9_looks_21 rfl (fun _ => ?_) (fun h => absurd h (by decide))
    refine e_iload dX9_looks_50 rfl ?_
    refine e_if_eq 62 dX9_looks_52 rfl (fun h => absurd h (by decide)) (fun _ => ?_)
    refine e_aload_n dX9_looks_55 rfl ?_
    refine e_iload dX9_looks_56 rfl ?_
    refine e_callV1 (μ' := mX9_no) (ci := 9) (As := [.int (-1)]) dX9_looks_58 wl_X9_136 ok_X9_no rfl rfl (fx_pi_lt (by decide)) (by decide) (Nat.le_of_ble_eq_true rfl) fx_n1 (s_X9_no (m := m) hL (b := 1) (z := (-1)) (by decide) (by decide)) rfl ?_
    have hq : q_looks t.1 t.2.1 na nd u.1 u.2.1 u.2.2.1 (p_rdI u) s x w = (1, -1) := by unfold q_looks; exact Decidable.byCases (fun z : p_in s 0 7 => by rw [if_neg (Decidable.not_not.mpr z), if_pos c_a]; try rfl) (fun z => by rw [if_pos z]; try rfl)
    exact e_iret dX9_looks_61 rfl rfl rfl ⟨by rw [hq], by rw [hq]; exact (fx_mno_n (by decide)).symm⟩
  · refine e_aload_n dX9_looks_8 rfl ?_
    refine e_iload_n dX9_looks_9 rfl ?_
    refine e_callV1 (μ' := mX9_wanted) (ci := 9) (As := [.int s]) dX9_looks_10 wl_X9_244 ok_X9_wanted rfl rfl (fx_pi_lt (by decide)) (by decide) (Nat.le_of_ble_eq_true rfl) fx_n1 (s_X9_wanted (m := m) hL HS s) rfl ?_
    refine e_goto 17 dX9_looks_13 rfl ?_
    obtain ⟨b, hb⟩ : ∃ b, p_bR u.1 u.2.1 s = b := ⟨_, rfl⟩
    have hb7 : b ≤ 7 := hb ▸ p_bR_le _ _ _
    rw [hb]
    refine e_istore dX9_looks_17 (by decide) rfl ?_
    refine e_iload dX9_looks_19 rfl ?_
    refine e_if_ne 50 dX9_looks_21 rfl (fun c_0 => ?_) (fun c_0 => ?_)
    · refine e_iload dX9_looks_50 rfl ?_
      refine e_if_eq 62 dX9_looks_52 rfl (fun h => absurd h c_0) (fun _ => ?_)
      refine e_aload_n dX9_looks_55 rfl ?_
      refine e_iload dX9_looks_56 rfl ?_
      refine e_callV1 (μ' := mX9_no) (ci := 9) (As := [.int (-(nI b))]) dX9_looks_58 wl_X9_136 ok_X9_no rfl rfl (fx_pi_lt (by decide)) (by decide) (Nat.le_of_ble_eq_true rfl) fx_n1 (s_X9_no (m := m) hL (b := b) (z := (-(nI b))) (by simp) (by omega)) rfl ?_
      have hb0 : b ≠ 0 := fun e => c_0 ((p_neg0 hb7).mpr e)
      have hq : q_looks t.1 t.2.1 na nd u.1 u.2.1 u.2.2.1 (p_rdI u) s x w = (b, -(nI b)) := by unfold q_looks; rw [hb]; exact Decidable.byCases (fun z : p_in s 0 7 => by rw [if_neg (Decidable.not_not.mpr z), if_neg (Decidable.not_not.mpr c_a), if_neg (fun e => hb0 ((nI_0i (by omega)).mp e))]; try rfl) (fun z => by have e1 := p_bR_1 (so := u.1) (sa := u.2.1) z; rw [hb] at e1; subst e1; rw [if_pos z]; try rfl)
      exact e_iret dX9_looks_61 rfl rfl rfl ⟨by rw [hq], by rw [hq]; exact (fx_mno_n hb0).symm⟩
    · have hb0 : b = 0 := (p_neg0 hb7).mp c_0
      subst hb0
      obtain ⟨hs7, hsa, hso⟩ := p_bR_0 hb
      obtain ⟨k, hk, ek⟩ := p_in_ex7 hs7
      subst ek
      rw [p_ix_n (show k < 2 ^ 31 by omega)] at hso
      have sok := hso
      obtain ⟨y, hy, ey⟩ := p_el_ex c_a (by omega)
      subst ey
      rw [show -(nI 0) = (0 : Int32) from rfl]
      refine e_aload_n dX9_looks_24 rfl ?_
      refine e_getr (o2 := 102) dX9_looks_25 ff_X9_71 rfl (fx_pi_lt (by decide)) (by decide) rfl (hL _ _ _ rfl) ?_
      refine e_iload_n dX9_looks_28 rfl ?_
      refine e_ialdv (j := k) (v := nI (u.2.2.1 k)) dX9_looks_29 rfl (fx_pi_lt (by decide)) rfl (by omega) (by decide) ((HS k (by omega)).2.1 sok).2.2.2.1 ?_
      refine e_aload_n dX9_looks_30 rfl ?_
      refine e_getv (v := nI nd) dX9_looks_31 ff_X9_129 rfl (fx_pi_lt (by decide)) (by decide) rfl H.2.1 ?_
      refine e_icmp_lt 46 dX9_looks_34 rfl (fun c_l => ?_) (fun c_l => ?_)
      · refine e_bipush dX9_looks_46 kcb_m5 ?_
        refine e_istore dX9_looks_48 (by decide) rfl ?_
        refine e_iload dX9_looks_50 rfl ?_
        refine e_if_eq 62 dX9_looks_52 rfl (fun h => absurd h (by decide)) (fun _ => ?_)
        refine e_aload_n dX9_looks_55 rfl ?_
        refine e_iload dX9_looks_56 rfl ?_
        refine e_callV1 (μ' := mX9_no) (ci := 9) (As := [.int (-5)]) dX9_looks_58 wl_X9_136 ok_X9_no rfl rfl (fx_pi_lt (by decide)) (by decide) (Nat.le_of_ble_eq_true rfl) fx_n1 (s_X9_no (m := m) hL (b := 5) (z := (-5)) (by decide) (by decide)) rfl ?_
        have hq : q_looks t.1 t.2.1 na nd u.1 u.2.1 u.2.2.1 (p_rdI u) (nI k) (nI y) w = (5, -5) := by unfold q_looks; rw [if_neg (Decidable.not_not.mpr hs7), if_neg (Decidable.not_not.mpr c_a), hb, if_pos (show nI 0 = 0 from rfl), p_ix_n (show k < 2 ^ 31 by omega)]; rw [if_pos c_l]; rfl
        exact e_iret dX9_looks_61 rfl rfl rfl ⟨by rw [hq], by rw [hq]; exact (fx_mno_n (by decide)).symm⟩
      · refine e_iload_n dX9_looks_37 rfl ?_
        refine e_if_lt 46 dX9_looks_38 rfl (fun a_1 => ?_) (fun a_1 => ?_)
        · refine e_bipush dX9_looks_46 kcb_m5 ?_
          refine e_istore dX9_looks_48 (by decide) rfl ?_
          refine e_iload dX9_looks_50 rfl ?_
          refine e_if_eq 62 dX9_looks_52 rfl (fun h => absurd h (by decide)) (fun _ => ?_)
          refine e_aload_n dX9_looks_55 rfl ?_
          refine e_iload dX9_looks_56 rfl ?_
          refine e_callV1 (μ' := mX9_no) (ci := 9) (As := [.int (-5)]) dX9_looks_58 wl_X9_136 ok_X9_no rfl rfl (fx_pi_lt (by decide)) (by decide) (Nat.le_of_ble_eq_true rfl) fx_n1 (s_X9_no (m := m) hL (b := 5) (z := (-5)) (by decide) (by decide)) rfl ?_
          have hq : q_looks t.1 t.2.1 na nd u.1 u.2.1 u.2.2.1 (p_rdI u) (nI k) (nI y) w = (5, -5) := by unfold q_looks; rw [if_neg (Decidable.not_not.mpr hs7), if_neg (Decidable.not_not.mpr c_a), hb, if_pos (show nI 0 = 0 from rfl), p_ix_n (show k < 2 ^ 31 by omega)]; rw [if_neg c_l, if_pos (by rintro ⟨h1, h2⟩; first | exact absurd h1 (Int32.not_le.mpr a_1) | exact a_2 h2 | exact absurd h2 (Int32.not_le.mpr a_2))]; rfl
          exact e_iret dX9_looks_61 rfl rfl rfl ⟨by rw [hq], by rw [hq]; exact (fx_mno_n (by decide)).symm⟩
        · refine e_iload_n dX9_looks_41 rfl ?_
          refine e_iconst dX9_looks_42 kci_1 ?_
          refine e_icmp_le 50 dX9_looks_43 rfl (fun a_2 => ?_) (fun a_2 => ?_)
          · refine e_iload dX9_looks_50 rfl ?_
            refine e_if_eq 62 dX9_looks_52 rfl (fun _ => ?_) (fun h => absurd (by decide) h)
            have gA := H.2.2.2.2.2.2.2.1 y hy
            have hnc : nd ≤ u.2.2.1 k := by have q := mt (nI_ltI (a := u.2.2.1 k) (b := nd) (by have := HS.cn k hk; omega) (by omega)).mpr c_l; omega
            have hcn := HS.cn k hk
            have c_w : p_in w 0 1 := ⟨Int32.not_lt.mp a_1, a_2⟩
            rcases p_in_01 c_w with rfl | rfl
            · refine e_iload_n dX9_looks_62 rfl ?_
              refine e_if_ne 75 dX9_looks_63 rfl (fun h => absurd h (by decide)) (fun _ => ?_)
              refine e_aload_n dX9_looks_66 rfl ?_
              refine e_getr (o2 := 89) dX9_looks_67 ff_X9_32 rfl (fx_pi_lt (by decide)) (by decide) rfl (hL _ _ _ rfl) ?_
              refine e_iload_n dX9_looks_70 rfl ?_
              refine e_ialdv (j := y) (v := t.1 y 4) dX9_looks_71 rfl (fx_pi_lt (by decide)) rfl (by omega) (by decide) (H.2.2.2.1 y hy 4 (by decide)) ?_
              refine e_goto 81 dX9_looks_72 rfl ?_
              refine e_istore dX9_looks_81 (by decide) rfl ?_
              refine e_iconst dX9_looks_83 kci_0 ?_
              refine e_istore dX9_looks_84 (by decide) rfl ?_
              refine e_iconst dX9_looks_86 kci_0 ?_
              refine e_istore dX9_looks_87 (by decide) rfl ?_
              have lp : ∀ (j : Nat) (v : Nat) (z : Int32), v + j = 10 → fx_E Γ mX9_looks 3 119 119 (fx_is (some (.int (q_looks t.1 t.2.1 na nd u.1 u.2.1 u.2.2.1 (p_rdI u) (nI k) (nI y) 0).2)) (fx_mno m (q_looks t.1 t.2.1 na nd u.1 u.2.1 u.2.2.1 (p_rdI u) (nI k) (nI y) 0).1)) 119 (fx_sI m 89 y z) 89 [some (fx_rf Γ 83), some (.int (nI k)), some (.int (nI y)), some (.int 0), none, some (.int (t.1 y 4)), some (.int (nI (p_sN (p_lkP t.1 t.2.1 nd (p_rdI u k) y true) v))), some (.int (nI v)), none, none] [] := by
                intro j
                induction j with
                | zero =>
                  intro v z hv
                  refine e_iload dX9_looks_89 rfl ?_
                  refine e_bipush dX9_looks_91 kcb_9 ?_
                  refine e_icmp_gt 189 dX9_looks_93 rfl (fun _ => ?_) (fun h => absurd (nI_gt (b := 9) (by omega) (by omega)) h)
                  refine e_iload_n dX9_looks_189 rfl ?_
                  refine e_if_ne 204 dX9_looks_190 rfl (fun h => absurd h (by decide)) (fun _ => ?_)
                  refine e_aload_n dX9_looks_193 rfl ?_
                  refine e_getr (o2 := 89) dX9_looks_194 ff_X9_32 rfl (fx_pi_lt (by decide)) (by decide) rfl (hL _ _ _ rfl) ?_
                  refine e_iload_n dX9_looks_197 rfl ?_
                  refine e_iload dX9_looks_198 rfl ?_
                  refine e_iast (j := y) dX9_looks_200 rfl (fx_pi_lt (by decide)) rfl (by omega) (by decide) ?_
                  refine e_goto 212 dX9_looks_201 rfl ?_
                  refine e_iload dX9_looks_212 rfl ?_
                  obtain rfl : v = 10 := by omega
                  have hq : q_looks t.1 t.2.1 na nd u.1 u.2.1 u.2.2.1 (p_rdI u) (nI k) (nI y) 0 = (0, nI (p_sN (p_lkP t.1 t.2.1 nd (p_rdI u k) y true) 10)) := by unfold q_looks; rw [if_neg (Decidable.not_not.mpr hs7), if_neg (Decidable.not_not.mpr c_a), hb, if_pos (show nI 0 = 0 from rfl), p_ix_n (show k < 2 ^ 31 by omega), p_ix_n (show y < 2 ^ 31 by omega), if_neg c_l, if_neg (Decidable.not_not.mpr c_w)]; rfl
                  exact e_iret dX9_looks_214 rfl rfl rfl ⟨by rw [hq], by rw [hq]; show _ = m; rw [fx_sI_sI2, ← H.2.2.2.1 y hy 4 (by decide)]; exact fx_sI_idm m 89 y⟩
                | succ j ih =>
                  intro v z hv
                  have hv9 := p_in9n (v := v) (by omega)
                  refine e_iload dX9_looks_89 rfl ?_
                  refine e_bipush dX9_looks_91 kcb_9 ?_
                  refine e_icmp_gt 189 dX9_looks_93 rfl (fun h => absurd h (Int32.not_lt.mpr (nI_le (b := 9) (by omega) (by decide)))) (fun _ => ?_)
                  refine e_iload_n dX9_looks_96 rfl ?_
                  refine e_if_ne 111 dX9_looks_97 rfl (fun h => absurd h (by decide)) (fun _ => ?_)
                  refine e_aload_n dX9_looks_100 rfl ?_
                  refine e_getr (o2 := 89) dX9_looks_101 ff_X9_32 rfl (fx_pi_lt (by decide)) (by decide) rfl (hL _ _ _ rfl) ?_
                  refine e_iload_n dX9_looks_104 rfl ?_
                  refine e_iload dX9_looks_105 rfl ?_
                  refine e_iast (j := y) dX9_looks_107 rfl (fx_pi_lt (by decide)) rfl (by omega) (by decide) ?_
                  refine e_goto 119 dX9_looks_108 rfl ?_
                  rw [fx_sI_sI2]
                  refine e_iconst dX9_looks_119 kci_1 ?_
                  refine e_istore dX9_looks_120 (by decide) rfl ?_
                  refine e_iconst dX9_looks_122 kci_0 ?_
                  refine e_istore dX9_looks_123 (by decide) rfl ?_
                  have lpi : ∀ (i : Nat) (d : Nat), d + i = nd → (∀ e, e < d → p_far (t.1 y) (t.2.1 e) (nI v) (t.1 y 5) = p_rdI u k e) → fx_E Γ mX9_looks 3 119 119 (fx_is (some (.int (q_looks t.1 t.2.1 na nd u.1 u.2.1 u.2.2.1 (p_rdI u) (nI k) (nI y) 0).2)) (fx_mno m (q_looks t.1 t.2.1 na nd u.1 u.2.1 u.2.2.1 (p_rdI u) (nI k) (nI y) 0).1)) 119 (fx_sI m 89 y (nI v)) 125 [some (fx_rf Γ 83), some (.int (nI k)), some (.int (nI y)), some (.int 0), none, some (.int (t.1 y 4)), some (.int (nI (p_sN (p_lkP t.1 t.2.1 nd (p_rdI u k) y true) v))), some (.int (nI v)), some (.int 1), some (.int (nI d))] [] := by
                    intro i
                    induction i with
                    | zero =>
                      intro d hd hall
                      refine e_iload dX9_looks_125 rfl ?_
                      refine e_aload_n dX9_looks_127 rfl ?_
                      refine e_getv (v := nI nd) dX9_looks_128 ff_X9_129 rfl (fx_pi_lt (by decide)) (by decide) rfl H.2.1 ?_
                      refine e_icmp_ge 169 dX9_looks_131 rfl (fun _ => ?_) (fun h => absurd (nI_le (by omega) (by omega)) h)
                      refine e_iload dX9_looks_169 rfl ?_
                      refine e_if_eq 183 dX9_looks_171 rfl (fun h => absurd h (by decide)) (fun _ => ?_)
                      refine e_iload dX9_looks_174 rfl ?_
                      refine e_iconst dX9_looks_176 kci_1 ?_
                      refine e_iload dX9_looks_177 rfl ?_
                      refine e_ishl dX9_looks_179 ?_
                      refine e_iadd dX9_looks_180 ?_
                      refine e_istore dX9_looks_181 (by decide) rfl ?_
                      refine e_iinc (v := nI (v + 1)) dX9_looks_183 rfl (fx_inc _) (by decide) rfl ?_
                      refine e_goto 89 dX9_looks_186 rfl ?_
                      have hP : (p_lkP t.1 t.2.1 nd (p_rdI u k) y true) v := fun d hd => hall d (by omega)
                      rw [p_ipl (P := (p_lkP t.1 t.2.1 nd (p_rdI u k) y true)) (by omega) hP]
                      refine e_weak (lv2 := [some (fx_rf Γ 83), some (.int (nI k)), some (.int (nI y)), some (.int 0), none, some (.int (t.1 y 4)), some (.int (nI (p_sN (p_lkP t.1 t.2.1 nd (p_rdI u k) y true) (v + 1)))), some (.int (nI (v + 1))), none, none]) ⟨rfl, rfl, rfl, rfl, rfl, rfl, rfl, trivial⟩ ?_
                      exact ih (v + 1) _ (by omega)
                    | succ i ihI =>
                      intro d hd hall
                      refine e_iload dX9_looks_125 rfl ?_
                      refine e_aload_n dX9_looks_127 rfl ?_
                      refine e_getv (v := nI nd) dX9_looks_128 ff_X9_129 rfl (fx_pi_lt (by decide)) (by decide) rfl H.2.1 ?_
                      refine e_icmp_ge 169 dX9_looks_131 rfl (fun h => absurd h (nI_ge (by omega) (by omega))) (fun _ => ?_)
                      refine e_iload dX9_looks_134 rfl ?_
                      refine e_if_eq 169 dX9_looks_136 rfl (fun h => absurd h (by decide)) (fun _ => ?_)
                      refine e_aload_n dX9_looks_139 rfl ?_
                      refine e_iload_n dX9_looks_140 rfl ?_
                      refine e_iload dX9_looks_141 rfl ?_
                      refine e_callV (μ' := mX9_differs) (ci := 9) (As := [.int (nI y), .int (nI d)]) dX9_looks_143 wl_X9_163 ok_X9_differs rfl rfl (fx_pi_lt (by decide)) (by decide) (Nat.le_of_ble_eq_true rfl) fx_n1 (s_X9_differs (m := fx_sI m 89 y (nI v)) hL (H.sA (j := 4) hy (by decide) (gA.mono (Or.inl rfl) hv9)) (x := y) (by omega) (d := d) (by omega)) rfl (fun r_ m_ hpost => ?_)
                      obtain ⟨rfl, e2⟩ := hpost
                      have e2 := e2.symm
                      subst e2
                      rw [p_far_u4]
                      refine e_aload_n dX9_looks_146 rfl ?_
                      refine e_iload_n dX9_looks_147 rfl ?_
                      refine e_iload dX9_looks_148 rfl ?_
                      refine e_callV (μ' := mX9_intAt) (ci := 9) (As := [.int (nI k), .int (nI d)]) dX9_looks_150 wl_X9_277 ok_X9_intAt rfl rfl (fx_pi_lt (by decide)) (by decide) (Nat.le_of_ble_eq_true rfl) fx_n1 (s_X9_intAt (m := fx_sI m 89 y (nI v)) hL (k := k) (y := d) hk (by omega)) rfl (fun r_ m_ hpost => ?_)
                      obtain ⟨rfl, e2⟩ := hpost
                      have e2 := e2.symm
                      subst e2
                      rw [show ((fx_sI m 89 y (nI v)).2.1 104 (160 * k + d)).toInt32 = p_rdI u k d from by show (m.2.1 104 (160 * k + d)).toInt32 = _; rw [((HS k hk).2.1 hso).2.2.2.2.2 d (by omega)]; rfl]
                      refine e_icmp_ne 160 dX9_looks_153 rfl (fun c_m => ?_) (fun c_m => ?_)
                      · refine e_iconst dX9_looks_160 kci_0 ?_
                        refine e_istore dX9_looks_161 (by decide) rfl ?_
                        refine e_iinc (v := nI (d + 1)) dX9_looks_163 rfl (fx_inc _) (by decide) rfl ?_
                        refine e_goto 125 dX9_looks_166 rfl ?_
                        refine e_iload dX9_looks_125 rfl ?_
                        refine e_aload_n dX9_looks_127 rfl ?_
                        refine e_getv (v := nI nd) dX9_looks_128 ff_X9_129 rfl (fx_pi_lt (by decide)) (by decide) rfl H.2.1 ?_
                        refine e_icmp_ge 169 dX9_looks_131 rfl (fun c_e => ?_) (fun c_e => ?_)
                        · refine e_iload dX9_looks_169 rfl ?_
                          refine e_if_eq 183 dX9_looks_171 rfl (fun _ => ?_) (fun h => absurd (by decide) h)
                          refine e_iinc (v := nI (v + 1)) dX9_looks_183 rfl (fx_inc _) (by decide) rfl ?_
                          refine e_goto 89 dX9_looks_186 rfl ?_
                          have hP : ¬ (p_lkP t.1 t.2.1 nd (p_rdI u k) y true) v := fun q => c_m (q d (by omega))
                          rw [← p_sN_no (P := (p_lkP t.1 t.2.1 nd (p_rdI u k) y true)) (k := v) hP]
                          refine e_weak (lv2 := [some (fx_rf Γ 83), some (.int (nI k)), some (.int (nI y)), some (.int 0), none, some (.int (t.1 y 4)), some (.int (nI (p_sN (p_lkP t.1 t.2.1 nd (p_rdI u k) y true) (v + 1)))), some (.int (nI (v + 1))), none, none]) ⟨rfl, rfl, rfl, rfl, rfl, rfl, rfl, trivial⟩ ?_
                          exact ih (v + 1) _ (by omega)
                        · refine e_iload dX9_looks_134 rfl ?_
                          refine e_if_eq 169 dX9_looks_136 rfl (fun _ => ?_) (fun h => absurd (by decide) h)
                          refine e_iload dX9_looks_169 rfl ?_
                          refine e_if_eq 183 dX9_looks_171 rfl (fun _ => ?_) (fun h => absurd (by decide) h)
                          refine e_iinc (v := nI (v + 1)) dX9_looks_183 rfl (fx_inc _) (by decide) rfl ?_
                          refine e_goto 89 dX9_looks_186 rfl ?_
                          have hP : ¬ (p_lkP t.1 t.2.1 nd (p_rdI u k) y true) v := fun q => c_m (q d (by omega))
                          rw [← p_sN_no (P := (p_lkP t.1 t.2.1 nd (p_rdI u k) y true)) (k := v) hP]
                          refine e_weak (lv2 := [some (fx_rf Γ 83), some (.int (nI k)), some (.int (nI y)), some (.int 0), none, some (.int (t.1 y 4)), some (.int (nI (p_sN (p_lkP t.1 t.2.1 nd (p_rdI u k) y true) (v + 1)))), some (.int (nI (v + 1))), none, none]) ⟨rfl, rfl, rfl, rfl, rfl, rfl, rfl, trivial⟩ ?_
                          exact ih (v + 1) _ (by omega)
                      · refine e_iconst dX9_looks_156 kci_1 ?_
                        refine e_goto 161 dX9_looks_157 rfl ?_
                        refine e_istore dX9_looks_161 (by decide) rfl ?_
                        refine e_iinc (v := nI (d + 1)) dX9_looks_163 rfl (fx_inc _) (by decide) rfl ?_
                        refine e_goto 125 dX9_looks_166 rfl ?_
                        exact ihI (d + 1) (by omega) (fun e he => by by_cases q : e = d; (subst q; exact c_m); exact hall e (by omega))
                  exact lpi nd 0 (by omega) (fun e he => absurd he (Nat.not_lt_zero _))
              refine e_weak (lv2 := [some (fx_rf Γ 83), some (.int (nI k)), some (.int (nI y)), some (.int 0), none, some (.int (t.1 y 4)), some (.int (nI 0)), some (.int (nI 0)), none, none]) ⟨rfl, rfl, rfl, rfl, rfl, rfl, rfl, trivial⟩ ?_
              have e0 := lp 10 0 (t.1 y 4) (by omega)
              rw [← H.2.2.2.1 y hy 4 (by decide), show fx_sI m 89 y (m.1 (85 + 4) y) = m from fx_sI_idm m 89 y, H.2.2.2.1 y hy 4 (by decide)] at e0
              exact e0
            · refine e_iload_n dX9_looks_62 rfl ?_
              refine e_if_ne 75 dX9_looks_63 rfl (fun _ => ?_) (fun h => absurd h (by decide))
              refine e_aload_n dX9_looks_75 rfl ?_
              refine e_getr (o2 := 90) dX9_looks_76 ff_X9_35 rfl (fx_pi_lt (by decide)) (by decide) rfl (hL _ _ _ rfl) ?_
              refine e_iload_n dX9_looks_79 rfl ?_
              refine e_ialdv (j := y) (v := t.1 y 5) dX9_looks_80 rfl (fx_pi_lt (by decide)) rfl (by omega) (by decide) (H.2.2.2.1 y hy 5 (by decide)) ?_
              refine e_istore dX9_looks_81 (by decide) rfl ?_
              refine e_iconst dX9_looks_83 kci_0 ?_
              refine e_istore dX9_looks_84 (by decide) rfl ?_
              refine e_iconst dX9_looks_86 kci_0 ?_
              refine e_istore dX9_looks_87 (by decide) rfl ?_
              have lp : ∀ (j : Nat) (v : Nat) (z : Int32), v + j = 10 → fx_E Γ mX9_looks 3 119 119 (fx_is (some (.int (q_looks t.1 t.2.1 na nd u.1 u.2.1 u.2.2.1 (p_rdI u) (nI k) (nI y) 1).2)) (fx_mno m (q_looks t.1 t.2.1 na nd u.1 u.2.1 u.2.2.1 (p_rdI u) (nI k) (nI y) 1).1)) 119 (fx_sI m 90 y z) 89 [some (fx_rf Γ 83), some (.int (nI k)), some (.int (nI y)), some (.int 1), none, some (.int (t.1 y 5)), some (.int (nI (p_sN (p_lkP t.1 t.2.1 nd (p_rdI u k) y false) v))), some (.int (nI v)), none, none] [] := by
                intro j
                induction j with
                | zero =>
                  intro v z hv
                  refine e_iload dX9_looks_89 rfl ?_
                  refine e_bipush dX9_looks_91 kcb_9 ?_
                  refine e_icmp_gt 189 dX9_looks_93 rfl (fun _ => ?_) (fun h => absurd (nI_gt (b := 9) (by omega) (by omega)) h)
                  refine e_iload_n dX9_looks_189 rfl ?_
                  refine e_if_ne 204 dX9_looks_190 rfl (fun _ => ?_) (fun h => absurd h (by decide))
                  refine e_aload_n dX9_looks_204 rfl ?_
                  refine e_getr (o2 := 90) dX9_looks_205 ff_X9_35 rfl (fx_pi_lt (by decide)) (by decide) rfl (hL _ _ _ rfl) ?_
                  refine e_iload_n dX9_looks_208 rfl ?_
                  refine e_iload dX9_looks_209 rfl ?_
                  refine e_iast (j := y) dX9_looks_211 rfl (fx_pi_lt (by decide)) rfl (by omega) (by decide) ?_
                  refine e_iload dX9_looks_212 rfl ?_
                  obtain rfl : v = 10 := by omega
                  have hq : q_looks t.1 t.2.1 na nd u.1 u.2.1 u.2.2.1 (p_rdI u) (nI k) (nI y) 1 = (0, nI (p_sN (p_lkP t.1 t.2.1 nd (p_rdI u k) y false) 10)) := by unfold q_looks; rw [if_neg (Decidable.not_not.mpr hs7), if_neg (Decidable.not_not.mpr c_a), hb, if_pos (show nI 0 = 0 from rfl), p_ix_n (show k < 2 ^ 31 by omega), p_ix_n (show y < 2 ^ 31 by omega), if_neg c_l, if_neg (Decidable.not_not.mpr c_w)]; rfl
                  exact e_iret dX9_looks_214 rfl rfl rfl ⟨by rw [hq], by rw [hq]; show _ = m; rw [fx_sI_sI2, ← H.2.2.2.1 y hy 5 (by decide)]; exact fx_sI_idm m 90 y⟩
                | succ j ih =>
                  intro v z hv
                  have hv9 := p_in9n (v := v) (by omega)
                  refine e_iload dX9_looks_89 rfl ?_
                  refine e_bipush dX9_looks_91 kcb_9 ?_
                  refine e_icmp_gt 189 dX9_looks_93 rfl (fun h => absurd h (Int32.not_lt.mpr (nI_le (b := 9) (by omega) (by decide)))) (fun _ => ?_)
                  refine e_iload_n dX9_looks_96 rfl ?_
                  refine e_if_ne 111 dX9_looks_97 rfl (fun _ => ?_) (fun h => absurd h (by decide))
                  refine e_aload_n dX9_looks_111 rfl ?_
                  refine e_getr (o2 := 90) dX9_looks_112 ff_X9_35 rfl (fx_pi_lt (by decide)) (by decide) rfl (hL _ _ _ rfl) ?_
                  refine e_iload_n dX9_looks_115 rfl ?_
                  refine e_iload dX9_looks_116 rfl ?_
                  refine e_iast (j := y) dX9_looks_118 rfl (fx_pi_lt (by decide)) rfl (by omega) (by decide) ?_
                  rw [fx_sI_sI2]
                  refine e_iconst dX9_looks_119 kci_1 ?_
                  refine e_istore dX9_looks_120 (by decide) rfl ?_
                  refine e_iconst dX9_looks_122 kci_0 ?_
                  refine e_istore dX9_looks_123 (by decide) rfl ?_
                  have lpi : ∀ (i : Nat) (d : Nat), d + i = nd → (∀ e, e < d → p_far (t.1 y) (t.2.1 e) (t.1 y 4) (nI v) = p_rdI u k e) → fx_E Γ mX9_looks 3 119 119 (fx_is (some (.int (q_looks t.1 t.2.1 na nd u.1 u.2.1 u.2.2.1 (p_rdI u) (nI k) (nI y) 1).2)) (fx_mno m (q_looks t.1 t.2.1 na nd u.1 u.2.1 u.2.2.1 (p_rdI u) (nI k) (nI y) 1).1)) 119 (fx_sI m 90 y (nI v)) 125 [some (fx_rf Γ 83), some (.int (nI k)), some (.int (nI y)), some (.int 1), none, some (.int (t.1 y 5)), some (.int (nI (p_sN (p_lkP t.1 t.2.1 nd (p_rdI u k) y false) v))), some (.int (nI v)), some (.int 1), some (.int (nI d))] [] := by
                    intro i
                    induction i with
                    | zero =>
                      intro d hd hall
                      refine e_iload dX9_looks_125 rfl ?_
                      refine e_aload_n dX9_looks_127 rfl ?_
                      refine e_getv (v := nI nd) dX9_looks_128 ff_X9_129 rfl (fx_pi_lt (by decide)) (by decide) rfl H.2.1 ?_
                      refine e_icmp_ge 169 dX9_looks_131 rfl (fun _ => ?_) (fun h => absurd (nI_le (by omega) (by omega)) h)
                      refine e_iload dX9_looks_169 rfl ?_
                      refine e_if_eq 183 dX9_looks_171 rfl (fun h => absurd h (by decide)) (fun _ => ?_)
                      refine e_iload dX9_looks_174 rfl ?_
                      refine e_iconst dX9_looks_176 kci_1 ?_
                      refine e_iload dX9_looks_177 rfl ?_
                      refine e_ishl dX9_looks_179 ?_
                      refine e_iadd dX9_looks_180 ?_
                      refine e_istore dX9_looks_181 (by decide) rfl ?_
                      refine e_iinc (v := nI (v + 1)) dX9_looks_183 rfl (fx_inc _) (by decide) rfl ?_
                      refine e_goto 89 dX9_looks_186 rfl ?_
                      have hP : (p_lkP t.1 t.2.1 nd (p_rdI u k) y false) v := fun d hd => hall d (by omega)
                      rw [p_ipl (P := (p_lkP t.1 t.2.1 nd (p_rdI u k) y false)) (by omega) hP]
                      refine e_weak (lv2 := [some (fx_rf Γ 83), some (.int (nI k)), some (.int (nI y)), some (.int 1), none, some (.int (t.1 y 5)), some (.int (nI (p_sN (p_lkP t.1 t.2.1 nd (p_rdI u k) y false) (v + 1)))), some (.int (nI (v + 1))), none, none]) ⟨rfl, rfl, rfl, rfl, rfl, rfl, rfl, trivial⟩ ?_
                      exact ih (v + 1) _ (by omega)
                    | succ i ihI =>
                      intro d hd hall
                      refine e_iload dX9_looks_125 rfl ?_
                      refine e_aload_n dX9_looks_127 rfl ?_
                      refine e_getv (v := nI nd) dX9_looks_128 ff_X9_129 rfl (fx_pi_lt (by decide)) (by decide) rfl H.2.1 ?_
                      refine e_icmp_ge 169 dX9_looks_131 rfl (fun h => absurd h (nI_ge (by omega) (by omega))) (fun _ => ?_)
                      refine e_iload dX9_looks_134 rfl ?_
                      refine e_if_eq 169 dX9_looks_136 rfl (fun h => absurd h (by decide)) (fun _ => ?_)
                      refine e_aload_n dX9_looks_139 rfl ?_
                      refine e_iload_n dX9_looks_140 rfl ?_
                      refine e_iload dX9_looks_141 rfl ?_
                      refine e_callV (μ' := mX9_differs) (ci := 9) (As := [.int (nI y), .int (nI d)]) dX9_looks_143 wl_X9_163 ok_X9_differs rfl rfl (fx_pi_lt (by decide)) (by decide) (Nat.le_of_ble_eq_true rfl) fx_n1 (s_X9_differs (m := fx_sI m 90 y (nI v)) hL (H.sA (j := 5) hy (by decide) (gA.mono (Or.inr rfl) hv9)) (x := y) (by omega) (d := d) (by omega)) rfl (fun r_ m_ hpost => ?_)
                      obtain ⟨rfl, e2⟩ := hpost
                      have e2 := e2.symm
                      subst e2
                      rw [p_far_u5]
                      refine e_aload_n dX9_looks_146 rfl ?_
                      refine e_iload_n dX9_looks_147 rfl ?_
                      refine e_iload dX9_looks_148 rfl ?_
                      refine e_callV (μ' := mX9_intAt) (ci := 9) (As := [.int (nI k), .int (nI d)]) dX9_looks_150 wl_X9_277 ok_X9_intAt rfl rfl (fx_pi_lt (by decide)) (by decide) (Nat.le_of_ble_eq_true rfl) fx_n1 (s_X9_intAt (m := fx_sI m 90 y (nI v)) hL (k := k) (y := d) hk (by omega)) rfl (fun r_ m_ hpost => ?_)
                      obtain ⟨rfl, e2⟩ := hpost
                      have e2 := e2.symm
                      subst e2
                      rw [show ((fx_sI m 90 y (nI v)).2.1 104 (160 * k + d)).toInt32 = p_rdI u k d from by show (m.2.1 104 (160 * k + d)).toInt32 = _; rw [((HS k hk).2.1 hso).2.2.2.2.2 d (by omega)]; rfl]
                      refine e_icmp_ne 160 dX9_looks_153 rfl (fun c_m => ?_) (fun c_m => ?_)
                      · refine e_iconst dX9_looks_160 kci_0 ?_
                        refine e_istore dX9_looks_161 (by decide) rfl ?_
                        refine e_iinc (v := nI (d + 1)) dX9_looks_163 rfl (fx_inc _) (by decide) rfl ?_
                        refine e_goto 125 dX9_looks_166 rfl ?_
                        refine e_iload dX9_looks_125 rfl ?_
                        refine e_aload_n dX9_looks_127 rfl ?_
                        refine e_getv (v := nI nd) dX9_looks_128 ff_X9_129 rfl (fx_pi_lt (by decide)) (by decide) rfl H.2.1 ?_
                        refine e_icmp_ge 169 dX9_looks_131 rfl (fun c_e => ?_) (fun c_e => ?_)
                        · refine e_iload dX9_looks_169 rfl ?_
                          refine e_if_eq 183 dX9_looks_171 rfl (fun _ => ?_) (fun h => absurd (by decide) h)
                          refine e_iinc (v := nI (v + 1)) dX9_looks_183 rfl (fx_inc _) (by decide) rfl ?_
                          refine e_goto 89 dX9_looks_186 rfl ?_
                          have hP : ¬ (p_lkP t.1 t.2.1 nd (p_rdI u k) y false) v := fun q => c_m (q d (by omega))
                          rw [← p_sN_no (P := (p_lkP t.1 t.2.1 nd (p_rdI u k) y false)) (k := v) hP]
                          refine e_weak (lv2 := [some (fx_rf Γ 83), some (.int (nI k)), some (.int (nI y)), some (.int 1), none, some (.int (t.1 y 5)), some (.int (nI (p_sN (p_lkP t.1 t.2.1 nd (p_rdI u k) y false) (v + 1)))), some (.int (nI (v + 1))), none, none]) ⟨rfl, rfl, rfl, rfl, rfl, rfl, rfl, trivial⟩ ?_
                          exact ih (v + 1) _ (by omega)
                        · refine e_iload dX9_looks_134 rfl ?_
                          refine e_if_eq 169 dX9_looks_136 rfl (fun _ => ?_) (fun h => absurd (by decide) h)
                          refine e_iload dX9_looks_169 rfl ?_
                          refine e_if_eq 183 dX9_looks_171 rfl (fun _ => ?_) (fun h => absurd (by decide) h)
                          refine e_iinc (v := nI (v + 1)) dX9_looks_183 rfl (fx_inc _) (by decide) rfl ?_
                          refine e_goto 89 dX9_looks_186 rfl ?_
                          have hP : ¬ (p_lkP t.1 t.2.1 nd (p_rdI u k) y false) v := fun q => c_m (q d (by omega))
                          rw [← p_sN_no (P := (p_lkP t.1 t.2.1 nd (p_rdI u k) y false)) (k := v) hP]
                          refine e_weak (lv2 := [some (fx_rf Γ 83), some (.int (nI k)), some (.int (nI y)), some (.int 1), none, some (.int (t.1 y 5)), some (.int (nI (p_sN (p_lkP t.1 t.2.1 nd (p_rdI u k) y false) (v + 1)))), some (.int (nI (v + 1))), none, none]) ⟨rfl, rfl, rfl, rfl, rfl, rfl, rfl, trivial⟩ ?_
                          exact ih (v + 1) _ (by omega)
                      · refine e_iconst dX9_looks_156 kci_1 ?_
                        refine e_goto 161 dX9_looks_157 rfl ?_
                        refine e_istore dX9_looks_161 (by decide) rfl ?_
                        refine e_iinc (v := nI (d + 1)) dX9_looks_163 rfl (fx_inc _) (by decide) rfl ?_
                        refine e_goto 125 dX9_looks_166 rfl ?_
                        exact ihI (d + 1) (by omega) (fun e he => by by_cases q : e = d; (subst q; exact c_m); exact hall e (by omega))
                  exact lpi nd 0 (by omega) (fun e he => absurd he (Nat.not_lt_zero _))
              refine e_weak (lv2 := [some (fx_rf Γ 83), some (.int (nI k)), some (.int (nI y)), some (.int 1), none, some (.int (t.1 y 5)), some (.int (nI 0)), some (.int (nI 0)), none, none]) ⟨rfl, rfl, rfl, rfl, rfl, rfl, rfl, trivial⟩ ?_
              have e0 := lp 10 0 (t.1 y 5) (by omega)
              rw [← H.2.2.2.1 y hy 5 (by decide), show fx_sI m 90 y (m.1 (85 + 5) y) = m from fx_sI_idm m 90 y, H.2.2.2.1 y hy 5 (by decide)] at e0
              exact e0
          · refine e_bipush dX9_looks_46 kcb_m5 ?_
            refine e_istore dX9_looks_48 (by decide) rfl ?_
            refine e_iload dX9_looks_50 rfl ?_
            refine e_if_eq 62 dX9_looks_52 rfl (fun h => absurd h (by decide)) (fun _ => ?_)
            refine e_aload_n dX9_looks_55 rfl ?_
            refine e_iload dX9_looks_56 rfl ?_
            refine e_callV1 (μ' := mX9_no) (ci := 9) (As := [.int (-5)]) dX9_looks_58 wl_X9_136 ok_X9_no rfl rfl (fx_pi_lt (by decide)) (by decide) (Nat.le_of_ble_eq_true rfl) fx_n1 (s_X9_no (m := m) hL (b := 5) (z := (-5)) (by decide) (by decide)) rfl ?_
            have hq : q_looks t.1 t.2.1 na nd u.1 u.2.1 u.2.2.1 (p_rdI u) (nI k) (nI y) w = (5, -5) := by unfold q_looks; rw [if_neg (Decidable.not_not.mpr hs7), if_neg (Decidable.not_not.mpr c_a), hb, if_pos (show nI 0 = 0 from rfl), p_ix_n (show k < 2 ^ 31 by omega)]; rw [if_neg c_l, if_pos (by rintro ⟨h1, h2⟩; first | exact absurd h1 (Int32.not_le.mpr a_1) | exact a_2 h2 | exact absurd h2 (Int32.not_le.mpr a_2))]; rfl
            exact e_iret dX9_looks_61 rfl rfl rfl ⟨by rw [hq], by rw [hq]; exact (fx_mno_n (by decide)).symm⟩
