theorem p_uu {f : Nat → Int32} {k : Nat} {v w : Int32} : p_u (p_u f k v) k w = p_u f k w := by
  funext b
  simp only [p_u]
  by_cases c : b = k <;> simp [c]
theorem p_uid {f : Nat → Int32} {k : Nat} : p_u f k (f k) = f := by
  funext b
  simp only [p_u]
  by_cases c : b = k <;> simp [c]
theorem fx_MS.cgD {m : fx_M} {na nd : Nat} {A D D' : Nat → Nat → Int32} {c : Nat → Int32} (H : fx_MS m na nd (A, D, c)) (h : ∀ d, d < nd → D d = D' d) : fx_MS m na nd (A, D', c) := by
  obtain ⟨r1, r2, r3, r4, r5, r6, r7, r8, r9⟩ := H
  exact ⟨r1, r2, r3, r4, fun d hd j hj => by rw [r5 d hd j hj]; show D d j = D' d j; rw [h d hd], r6, r7, r8, fun d hd => by have q := r9 d hd; rw [show ((A, D, c) : p_Sg).2.1 d = D' d from h d hd] at q; exact q⟩
theorem p_min99_lt {v : Int32} (h : p_in v 0 99) (h2 : v < 99) : p_min 99 (v + 1) = v + 1 ∧ p_in (v + 1) 0 99 := by
  rw [p_inT, show (0 : Int32).toInt = 0 from rfl, show (99 : Int32).toInt = 99 from rfl] at h
  rw [Int32.lt_iff_toInt_lt, show (99 : Int32).toInt = 99 from rfl] at h2
  have h1 : (v + 1).toInt = v.toInt + 1 := by rw [fb_addI (by rw [show (1 : Int32).toInt = 1 from rfl]; omega) (by rw [show (1 : Int32).toInt = 1 from rfl]; omega)]; rfl
  refine ⟨?_, by rw [p_inT, h1, show (0 : Int32).toInt = 0 from rfl, show (99 : Int32).toInt = 99 from rfl]; omega⟩
  unfold p_min
  split
  · rfl
  · rename_i q
    rw [Int32.lt_iff_toInt_lt, h1, show (99 : Int32).toInt = 99 from rfl] at q
    exact Int32.toInt_inj.mp (by rw [h1, show (99 : Int32).toInt = 99 from rfl]; omega)
theorem p_min99_ge {v : Int32} (h : p_in v 0 99) (h2 : ¬ v < 99) : p_min 99 (v + 1) = v := by
  have e : v = 99 := Int32.le_antisymm h.2 (Int32.not_lt.mp h2)
  subst e
  decide
theorem p_Dk_1 {D : Nat → Nat → Int32} {k : Nat} : p_ua (p_Dk D k) k (p_u (p_Dk D k k) 7 (p_min 99 (D k 7 + 1))) = p_Dk D (k + 1) := by
  funext d
  simp only [p_ua, p_Dk, p_D1]
  by_cases c : d = k
  · subst c
    simp
  · by_cases e : d < k
    · rw [if_neg c, if_pos e, if_pos (by omega)]
    · rw [if_neg c, if_neg e, if_neg (by omega)]
theorem p_Dk_2 {D : Nat → Nat → Int32} {k : Nat} (h : p_min 99 (D k 7 + 1) = D k 7) : p_Dk D k = p_Dk D (k + 1) := by
  funext d
  simp only [p_Dk, p_D1]
  by_cases c : d = k
  · subst c
    rw [if_neg (Nat.lt_irrefl _), if_pos (Nat.lt_succ_self _), h, p_uid]
  · by_cases e : d < k
    · rw [if_pos e, if_pos (by omega)]
    · rw [if_neg e, if_neg (by omega)]
set_option maxRecDepth 100000 in
set_option maxHeartbeats 600000 in
theorem s_X9_draw {Γ : fx_G} {m : fx_M} (hL : fx_Lay m) {sd : Int32} (hsd : m.1 83 5 = sd) {c : Nat} (h0 : 0 < c) (hc : c < 2 ^ 31) : fx_Ct Γ mX9_draw 0 119 119 [fx_rf Γ 83, .int (nI c)] m (fx_is (some (.int (nI (p_dr sd c)))) (fx_sI m 83 5 (p_nx sd))) := by
  refine fx_Ct.of (j := 0) (by decide) (Nat.le_of_ble_eq_true rfl) (Nat.le_of_ble_eq_true rfl) ?_
  show fx_E Γ mX9_draw 0 119 119 _ 119 m 0 [some (fx_rf Γ 83), some (.int (nI c))] []
  refine e_aload_n dX9_draw_0 rfl ?_
  refine e_aload_n dX9_draw_1 rfl ?_
  refine e_getv (v := sd) dX9_draw_2 ff_X9_7 rfl (fx_pi_lt (by decide)) (by decide) rfl hsd ?_
  refine e_lcw dX9_draw_5 wq_X9_305 ?_
  refine e_imul dX9_draw_8 ?_
  refine e_sipush dX9_draw_9 kcs_12345 ?_
  refine e_iadd dX9_draw_12 ?_
  refine e_put dX9_draw_13 ff_X9_7 rfl (fx_pi_lt (by decide)) (by decide) rfl (Or.inl rfl) ?_
  refine e_aload_n dX9_draw_16 rfl ?_
  refine e_getv (v := (sd * 1103515245) + 12345) dX9_draw_17 ff_X9_7 rfl (fx_pi_lt (by decide)) (by decide) rfl fx_rd0 ?_
  refine e_bipush dX9_draw_20 kcb_16 ?_
  refine e_iushr dX9_draw_22 ?_
  refine e_iload_n dX9_draw_23 rfl ?_
  refine e_irem dX9_draw_24 (nI_ne0 h0 hc) ?_
  exact e_iret dX9_draw_25 rfl rfl rfl ⟨by rw [← i_draw sd h0 hc]; rfl, rfl⟩
set_option maxRecDepth 100000 in
set_option maxHeartbeats 600000 in
theorem s_X9_days {Γ : fx_G} {m : fx_M} (hL : fx_Lay m) {na nd : Nat} {t : p_Sg} (H : fx_MS m na nd t) (n : Int32) : fx_Ct Γ mX9_days 5 119 119 [fx_rf Γ 83, .int n] m (fun r m' => (p_daB na nd n ≠ 0 → r = some (.int (-(nI (p_daB na nd n)))) ∧ m' = fx_mno m (p_daB na nd n)) ∧ (p_daB na nd n = 0 → r = some (.int ((p_dys na nd (p_ix n) t).2.2 0)) ∧ fx_MS m' na nd (p_dys na nd (p_ix n) t) ∧ fx_KF m m')) := by
  refine fx_Ct.of (j := 4) (by decide) (Nat.le_of_ble_eq_true rfl) (Nat.le_of_ble_eq_true rfl) ?_
  show fx_E Γ mX9_days 5 119 119 _ 119 m 0 [some (fx_rf Γ 83), some (.int n), none, none, none, none] []
  have h9 := H.2.2.2.2.2.1
  have h5 := H.2.2.2.2.2.2.1
  refine e_aload_n dX9_days_0 rfl ?_
  refine e_getv (v := nI na) dX9_days_1 ff_X9_126 rfl (fx_pi_lt (by decide)) (by decide) rfl H.1 ?_
  refine e_if_eq 14 dX9_days_4 rfl (fun a_0 => ?_) (fun a_0 => ?_)
  · refine e_aload_n dX9_days_14 rfl ?_
    refine e_bipush dX9_days_15 kcb_m5 ?_
    refine e_callV1 (μ' := mX9_no) (ci := 9) (As := [.int (-5)]) dX9_days_17 wl_X9_136 ok_X9_no rfl rfl (fx_pi_lt (by decide)) (by decide) (Nat.le_of_ble_eq_true rfl) fx_n1 (s_X9_no (m := m) hL (b := 5) (z := (-5)) (by decide) (by decide)) rfl ?_
    have hB : p_daB na nd n = 5 := by unfold p_daB; (try (first | rw [if_pos a_0] | rw [if_neg a_0] | rw [if_neg (Decidable.not_not.mpr a_0)])); (first | done | rfl)
    exact e_iret dX9_days_20 rfl rfl rfl ⟨fun _ => by rw [hB]; exact ⟨rfl, (fx_mno_n (by decide)).symm⟩, fun q => by rw [hB] at q; cases q⟩
  · refine e_aload_n dX9_days_7 rfl ?_
    refine e_getv (v := nI nd) dX9_days_8 ff_X9_129 rfl (fx_pi_lt (by decide)) (by decide) rfl H.2.1 ?_
    refine e_if_ne 21 dX9_days_11 rfl (fun a_1 => ?_) (fun a_1 => ?_)
    · have hn0 : 0 < na := Nat.pos_of_ne_zero (fun e => a_0 (by rw [e]; rfl))
      have hd0 : 0 < nd := Nat.pos_of_ne_zero (fun e => a_1 (by rw [e]; rfl))
      refine e_aload_n dX9_days_21 rfl ?_
      refine e_iload_n dX9_days_22 rfl ?_
      refine e_iconst dX9_days_23 kci_1 ?_
      refine e_bipush dX9_days_24 kcb_60 ?_
      refine e_callV1 (μ' := mX9_isFrom) (ci := 9) (As := [.int n, .int 1, .int 60]) dX9_days_26 wl_X9_172 ok_X9_isFrom rfl rfl (fx_pi_lt (by decide)) (by decide) (Nat.le_of_ble_eq_true rfl) fx_n1 (s_X9_isFrom (m := m) hL n 1 60) rfl ?_
      refine e_if_neB 39 dX9_days_29 rfl (fun c_1 => ?_) (fun c_1 => ?_)
      · refine e_iconst dX9_days_39 kci_0 ?_
        refine e_istore_n dX9_days_40 (by decide) rfl ?_
        obtain ⟨N, hN60, eN⟩ := p_in_ex (v := n) (hi := 60) ⟨Int32.le_trans (by decide) c_1.1, c_1.2⟩ (by decide)
        subst eN
        have hB : p_daB na nd (nI N) = 0 := by unfold p_daB; rw [if_neg a_0, if_neg a_1, if_neg (Decidable.not_not.mpr c_1)]
        refine fx_E.post (post := fun r m' => r = some (.int ((p_dys na nd N t).2.2 0)) ∧ fx_MS m' na nd (p_dys na nd N t) ∧ fx_KF m m') (fun r mm h => ⟨fun q => absurd hB q, fun _ => by rw [p_ix_n (show N < 2 ^ 31 by omega)]; exact h⟩) ?_
        have lp : ∀ (j : Nat) (i : Nat) (m1 : fx_M) (t : p_Sg), i + j = N → fx_MS m1 na nd t → fx_KF m m1 → fx_E Γ mX9_days 5 119 119 (fun r m' => r = some (.int ((p_dys na nd j t).2.2 0)) ∧ fx_MS m' na nd (p_dys na nd j t) ∧ fx_KF m m') 119 m1 41 [some (fx_rf Γ 83), some (.int (nI N)), some (.int (nI i)), none, none, none] [] := by
          intro j
          induction j with
          | zero =>
            intro i m1 t hi H1 K1
            have hL1 := K1.lay hL
            refine e_iload_n dX9_days_41 rfl ?_
            refine e_iload_n dX9_days_42 rfl ?_
            refine e_icmp_ge 174 dX9_days_43 rfl (fun _ => ?_) (fun h => absurd (nI_le (by omega) (by omega)) h)
            refine e_aload_n dX9_days_174 rfl ?_
            refine e_getv (v := t.2.2 0) dX9_days_175 ff_X9_235 rfl (fx_pi_lt (by decide)) (by decide) rfl (H1.2.2.1 0 (by decide)) ?_
            exact e_iret dX9_days_178 rfl rfl rfl ⟨rfl, H1, K1⟩
          | succ j ih =>
            intro i m1 t hi H1 K1
            have hL1 := K1.lay hL
            refine e_iload_n dX9_days_41 rfl ?_
            refine e_iload_n dX9_days_42 rfl ?_
            refine e_icmp_ge 174 dX9_days_43 rfl (fun h => absurd h (nI_ge (by omega) (by omega))) (fun _ => ?_)
            refine e_iconst dX9_days_46 kci_0 ?_
            refine e_istore_n dX9_days_47 (by decide) rfl ?_
            have lpi : ∀ (ji : Nat) (k : Nat) (m2 : fx_M), k + ji = nd → fx_MS m2 na nd (t.1, p_Dk t.2.1 k, t.2.2) → fx_KF m m2 → fx_E Γ mX9_days 5 119 119 (fun r m' => r = some (.int ((p_dys na nd (j + 1) t).2.2 0)) ∧ fx_MS m' na nd (p_dys na nd (j + 1) t) ∧ fx_KF m m') 119 m2 48 [some (fx_rf Γ 83), some (.int (nI N)), some (.int (nI i)), some (.int (nI k)), none, none] [] := by
              intro ji
              induction ji with
              | zero =>
                intro k m2 hk H2 K2
                have hL2 := K2.lay hL
                have hkn : k = nd := by omega
                have H2 : fx_MS m2 na nd (t.1, p_D1 t.2.1, t.2.2) := H2.cgD (fun d hd => by simp only [p_Dk]; rw [if_pos (by omega)])
                refine e_iload_n dX9_days_48 rfl ?_
                refine e_aload_n dX9_days_49 rfl ?_
                refine e_getv (v := nI nd) dX9_days_50 ff_X9_129 rfl (fx_pi_lt (by decide)) (by decide) rfl (by (try simp only [fx_sI]); first | exact H2.2.1 | exact H1.2.1) ?_
                refine e_icmp_ge 83 dX9_days_53 rfl (fun _ => ?_) (fun h => absurd (nI_le (by omega) (by omega)) h)
                refine e_aload_n dX9_days_83 rfl ?_
                refine e_dup dX9_days_84 rfl ?_
                refine e_getv (v := t.2.2 2) dX9_days_85 ff_X9_241 rfl (fx_pi_lt (by decide)) (by decide) rfl (H2.2.2.1 2 (by decide)) ?_
                refine e_iconst dX9_days_88 kci_1 ?_
                refine e_iadd dX9_days_89 ?_
                refine e_put dX9_days_90 ff_X9_241 rfl (fx_pi_lt (by decide)) (by decide) rfl (Or.inl rfl) ?_
                refine e_aload_n dX9_days_93 rfl ?_
                refine e_aload_n dX9_days_94 rfl ?_
                refine e_getv (v := nI na) dX9_days_95 ff_X9_126 rfl (fx_pi_lt (by decide)) (by decide) rfl (by (try simp only [fx_sI]); first | exact H2.1 | exact H1.1) ?_
                refine e_callV1 (μ' := mX9_draw) (ci := 9) (As := [.int (nI na)]) dX9_days_98 wl_X9_306 ok_X9_draw rfl rfl (fx_pi_lt (by decide)) (by decide) (Nat.le_of_ble_eq_true rfl) fx_n1 (s_X9_draw (m := fx_sI m2 83 4 ((t.2.2 2) + 1)) hL2 (sd := (t.2.2 3)) (by rw [fx_rd2 (by decide)]; exact H2.2.2.1 3 (by decide)) (c := na) (by omega) (by omega)) rfl ?_
                refine e_istore_n dX9_days_101 (by decide) rfl ?_
                refine e_aload_n dX9_days_102 rfl ?_
                refine e_aload_n dX9_days_103 rfl ?_
                refine e_getv (v := nI nd) dX9_days_104 ff_X9_129 rfl (fx_pi_lt (by decide)) (by decide) rfl (by (try simp only [fx_sI]); first | exact H2.2.1 | exact H1.2.1) ?_
                refine e_callV1 (μ' := mX9_draw) (ci := 9) (As := [.int (nI nd)]) dX9_days_107 wl_X9_306 ok_X9_draw rfl rfl (fx_pi_lt (by decide)) (by decide) (Nat.le_of_ble_eq_true rfl) fx_n1 (s_X9_draw (m := fx_sI (fx_sI m2 83 4 ((t.2.2 2) + 1)) 83 5 (p_nx (t.2.2 3))) hL2 (sd := (p_nx (t.2.2 3))) fx_rd0 (c := nd) (by omega) (by omega)) rfl ?_
                refine e_istore dX9_days_110 (by decide) rfl ?_
                refine e_aload_n dX9_days_112 rfl ?_
                refine e_iconst dX9_days_113 kci_2 ?_
                refine e_callV1 (μ' := mX9_draw) (ci := 9) (As := [.int 2]) dX9_days_114 wl_X9_306 ok_X9_draw rfl rfl (fx_pi_lt (by decide)) (by decide) (Nat.le_of_ble_eq_true rfl) fx_n1 (s_X9_draw (m := fx_sI (fx_sI (fx_sI m2 83 4 ((t.2.2 2) + 1)) 83 5 (p_nx (t.2.2 3))) 83 5 (p_nx (p_nx (t.2.2 3)))) hL2 (sd := (p_nx (p_nx (t.2.2 3)))) fx_rd0 (c := 2) (by omega) (by omega)) rfl ?_
                refine e_istore dX9_days_117 (by decide) rfl ?_
                have H3 : fx_MS (fx_sI (fx_sI (fx_sI (fx_sI m2 83 4 (t.2.2 2 + 1)) 83 5 (p_nx (t.2.2 3))) 83 5 (p_nx (p_nx (t.2.2 3)))) 83 5 (p_nx (p_nx (p_nx (t.2.2 3))))) na nd ((t.1, p_D1 t.2.1, p_u (p_u t.2.2 2 (t.2.2 2 + 1)) 3 (p_nx (p_nx (p_nx (t.2.2 3))))) : p_Sg) := by have q := (((H2.sC (j := 2) (v := t.2.2 2 + 1) 4 rfl (by decide)).sC (j := 3) (v := p_nx (t.2.2 3)) 5 rfl (by decide)).sC (j := 3) (v := p_nx (p_nx (t.2.2 3))) 5 rfl (by decide)).sC (j := 3) (v := p_nx (p_nx (p_nx (t.2.2 3)))) 5 rfl (by decide); rw [show p_u (p_u (p_u (p_u t.2.2 2 (t.2.2 2 + 1)) 3 (p_nx (t.2.2 3))) 3 (p_nx (p_nx (t.2.2 3)))) 3 (p_nx (p_nx (p_nx (t.2.2 3)))) = p_u (p_u t.2.2 2 (t.2.2 2 + 1)) 3 (p_nx (p_nx (p_nx (t.2.2 3)))) from by rw [p_uu, p_uu]] at q; exact q
                have K3 : fx_KF m (fx_sI (fx_sI (fx_sI (fx_sI m2 83 4 (t.2.2 2 + 1)) 83 5 (p_nx (t.2.2 3))) 83 5 (p_nx (p_nx (t.2.2 3)))) 83 5 (p_nx (p_nx (p_nx (t.2.2 3))))) := (((K2.sI (by omega)).sI (by omega)).sI (by omega)).sI (by omega)
                obtain ⟨m3, hm3⟩ : ∃ z, z = fx_sI (fx_sI (fx_sI (fx_sI m2 83 4 (t.2.2 2 + 1)) 83 5 (p_nx (t.2.2 3))) 83 5 (p_nx (p_nx (t.2.2 3)))) 83 5 (p_nx (p_nx (p_nx (t.2.2 3)))) := ⟨_, rfl⟩
                rw [← hm3] at H3 K3 ⊢
                have hL3 := K3.lay hL
                have hxl : (p_dr (t.2.2 3) na) < na := p_dr_lt hn0
                have hdl : (p_dr (p_nx (t.2.2 3)) nd) < nd := p_dr_lt hd0
                refine e_aload_n dX9_days_119 rfl ?_
                refine e_iload_n dX9_days_120 rfl ?_
                refine e_iload dX9_days_121 rfl ?_
                refine e_iload dX9_days_123 rfl ?_
                refine e_callV1 (μ' := mX9_isMend) (ci := 9) (As := [.int (nI (p_dr (t.2.2 3) na)), .int (nI (p_dr (p_nx (t.2.2 3)) nd)), .int (nI (p_dr (p_nx (p_nx (t.2.2 3))) 2))]) dX9_days_125 wl_X9_286 ok_X9_isMend rfl rfl (fx_pi_lt (by decide)) (by decide) (Nat.le_of_ble_eq_true rfl) fx_n1 (s_X9_isMend (m := m3) hL3 H3 (x := (p_dr (t.2.2 3) na)) (p_dr_lt hn0) (d := (p_dr (p_nx (t.2.2 3)) nd)) (p_dr_lt hd0) (nI (p_dr (p_nx (p_nx (t.2.2 3))) 2))) rfl ?_
                refine e_if_eqB 143 dX9_days_128 rfl (fun c_m => ?_) (fun c_m => ?_)
                · refine e_aload_n dX9_days_143 rfl ?_
                  refine e_getr (o2 := 91) dX9_days_144 ff_X9_38 rfl (fx_pi_lt (by decide)) (by decide) rfl (hL3 _ _ _ rfl) ?_
                  refine e_iload_n dX9_days_147 rfl ?_
                  refine e_ialdv (j := p_dr (t.2.2 3) na) (v := t.1 (p_dr (t.2.2 3) na) 6) dX9_days_148 rfl (fx_pi_lt (by decide)) rfl (by omega) (by decide) (H3.2.2.2.1 _ (p_dr_lt hn0) 6 (by decide)) ?_
                  refine e_bipush dX9_days_149 kcb_10 ?_
                  refine e_iload dX9_days_151 rfl ?_
                  refine e_imul dX9_days_153 ?_
                  refine e_iload dX9_days_154 rfl ?_
                  refine e_iadd dX9_days_156 ?_
                  refine e_icmp_ne 168 dX9_days_157 rfl (fun c_o => ?_) (fun c_o => ?_)
                  · refine e_iinc (v := nI (i + 1)) dX9_days_168 rfl (fx_inc _) (by decide) rfl ?_
                    refine e_goto 41 dX9_days_171 rfl ?_
                    have eD : p_day na nd t = ((t.1, p_D1 t.2.1, p_u (p_u t.2.2 2 (t.2.2 2 + 1)) 3 (p_nx (p_nx (p_nx (t.2.2 3))))) : p_Sg) := by unfold p_day; dsimp only; rw [if_neg c_m, if_neg c_o]
                    simp only [show p_dys na nd (j + 1) t = p_dys na nd j ((t.1, p_D1 t.2.1, p_u (p_u t.2.2 2 (t.2.2 2 + 1)) 3 (p_nx (p_nx (p_nx (t.2.2 3))))) : p_Sg) from by rw [← eD]; rfl]
                    refine e_weak (lv2 := [some (fx_rf Γ 83), some (.int (nI N)), some (.int (nI (i + 1))), none, none, none]) ⟨rfl, rfl, rfl, trivial⟩ ?_
                    exact ih (i + 1) _ _ (by omega) H3 K3
                  · refine e_aload_n dX9_days_160 rfl ?_
                    refine e_getr (o2 := 91) dX9_days_161 ff_X9_38 rfl (fx_pi_lt (by decide)) (by decide) rfl (hL3 _ _ _ rfl) ?_
                    refine e_iload_n dX9_days_164 rfl ?_
                    refine e_bipush dX9_days_165 kcb_99 ?_
                    refine e_iast (j := p_dr (t.2.2 3) na) dX9_days_167 rfl (fx_pi_lt (by decide)) rfl (by omega) (by decide) ?_
                    refine e_iinc (v := nI (i + 1)) dX9_days_168 rfl (fx_inc _) (by decide) rfl ?_
                    refine e_goto 41 dX9_days_171 rfl ?_
                    have eD : p_day na nd t = (p_off ((t.1, p_D1 t.2.1, p_u (p_u t.2.2 2 (t.2.2 2 + 1)) 3 (p_nx (p_nx (p_nx (t.2.2 3))))) : p_Sg) (p_dr (t.2.2 3) na)) := by unfold p_day; dsimp only; rw [if_neg c_m, if_pos c_o]
                    simp only [show p_dys na nd (j + 1) t = p_dys na nd j (p_off ((t.1, p_D1 t.2.1, p_u (p_u t.2.2 2 (t.2.2 2 + 1)) 3 (p_nx (p_nx (p_nx (t.2.2 3))))) : p_Sg) (p_dr (t.2.2 3) na)) from by rw [← eD]; rfl]
                    refine e_weak (lv2 := [some (fx_rf Γ 83), some (.int (nI N)), some (.int (nI (i + 1))), none, none, none]) ⟨rfl, rfl, rfl, trivial⟩ ?_
                    exact ih (i + 1) _ _ (by omega) (H3.sA (j := 6) (v := 99) (x := (p_dr (t.2.2 3) na)) (p_dr_lt hn0) (by decide) (p_gA6 (H3.2.2.2.2.2.2.2.1 _ (p_dr_lt hn0)))) (K3.sI (by omega))
                · refine e_aload_n dX9_days_131 rfl ?_
                  refine e_iload_n dX9_days_132 rfl ?_
                  refine e_iload dX9_days_133 rfl ?_
                  refine e_iload dX9_days_135 rfl ?_
                  refine e_callV1 (μ' := mX9_mends) (ci := 9) (As := [.int (nI (p_dr (t.2.2 3) na)), .int (nI (p_dr (p_nx (t.2.2 3)) nd)), .int (nI (p_dr (p_nx (p_nx (t.2.2 3))) 2))]) dX9_days_137 wl_X9_289 ok_X9_mends rfl rfl (fx_pi_lt (by decide)) (by decide) (Nat.le_of_ble_eq_true rfl) fx_n1 (s_X9_mends (m := m3) hL3 H3 (x := (p_dr (t.2.2 3) na)) (p_dr_lt hn0) (d := (p_dr (p_nx (t.2.2 3)) nd)) (p_dr_lt hd0) (nI (p_dr (p_nx (p_nx (t.2.2 3))) 2))) rfl ?_
                  refine e_goto 168 dX9_days_140 rfl ?_
                  refine e_iinc (v := nI (i + 1)) dX9_days_168 rfl (fx_inc _) (by decide) rfl ?_
                  refine e_goto 41 dX9_days_171 rfl ?_
                  have HM := H3.mend (x := (p_dr (t.2.2 3) na)) (d := (p_dr (p_nx (t.2.2 3)) nd)) (s := nI (p_dr (p_nx (p_nx (t.2.2 3))) 2)) (p_dr_lt hn0) (p_dr_lt hd0)
                  have eD : p_day na nd t = (p_mend ((t.1, p_D1 t.2.1, p_u (p_u t.2.2 2 (t.2.2 2 + 1)) 3 (p_nx (p_nx (p_nx (t.2.2 3))))) : p_Sg) (p_dr (t.2.2 3) na) (p_dr (p_nx (t.2.2 3)) nd) (nI (p_dr (p_nx (p_nx (t.2.2 3))) 2))) := by unfold p_day; dsimp only; rw [if_pos c_m]
                  simp only [show p_dys na nd (j + 1) t = p_dys na nd j (p_mend ((t.1, p_D1 t.2.1, p_u (p_u t.2.2 2 (t.2.2 2 + 1)) 3 (p_nx (p_nx (p_nx (t.2.2 3))))) : p_Sg) (p_dr (t.2.2 3) na) (p_dr (p_nx (t.2.2 3)) nd) (nI (p_dr (p_nx (p_nx (t.2.2 3))) 2))) from by rw [← eD]; rfl]
                  refine e_weak (lv2 := [some (fx_rf Γ 83), some (.int (nI N)), some (.int (nI (i + 1))), none, none, none]) ⟨rfl, rfl, rfl, trivial⟩ ?_
                  exact ih (i + 1) _ _ (by omega) HM.1 (K3.trans HM.2)
              | succ ji ihI =>
                intro k m2 hk H2 K2
                have hL2 := K2.lay hL
                have hgk : p_in (t.2.1 k 7) 0 99 := (H1.2.2.2.2.2.2.2.2 k (by omega)).2.2.2.2.2.2.2
                refine e_iload_n dX9_days_48 rfl ?_
                refine e_aload_n dX9_days_49 rfl ?_
                refine e_getv (v := nI nd) dX9_days_50 ff_X9_129 rfl (fx_pi_lt (by decide)) (by decide) rfl (by (try simp only [fx_sI]); first | exact H2.2.1 | exact H1.2.1) ?_
                refine e_icmp_ge 83 dX9_days_53 rfl (fun h => absurd h (nI_ge (by omega) (by omega))) (fun _ => ?_)
                refine e_aload_n dX9_days_56 rfl ?_
                refine e_getr (o2 := 99) dX9_days_57 ff_X9_62 rfl (fx_pi_lt (by decide)) (by decide) rfl (hL2 _ _ _ rfl) ?_
                refine e_iload_n dX9_days_60 rfl ?_
                refine e_ialdv (j := k) (v := t.2.1 k 7) dX9_days_61 rfl (fx_pi_lt (by decide)) rfl (by omega) (by decide) (by have q := H2.2.2.2.2.1 k (by omega) 7 (by decide); rw [show (t.1, p_Dk t.2.1 k, t.2.2).2.1 k 7 = t.2.1 k 7 from by simp [p_Dk]] at q; exact q) ?_
                refine e_bipush dX9_days_62 kcb_99 ?_
                refine e_icmp_ge 77 dX9_days_64 rfl (fun c_l => ?_) (fun c_l => ?_)
                · refine e_iinc (v := nI (k + 1)) dX9_days_77 rfl (fx_inc _) (by decide) rfl ?_
                  refine e_goto 48 dX9_days_80 rfl ?_
                  rw [p_Dk_2 (p_min99_ge hgk (Int32.not_lt.mpr c_l))] at H2
                  exact ihI (k + 1) m2 (by omega) H2 K2
                · refine e_aload_n dX9_days_67 rfl ?_
                  refine e_getr (o2 := 99) dX9_days_68 ff_X9_62 rfl (fx_pi_lt (by decide)) (by decide) rfl (hL2 _ _ _ rfl) ?_
                  refine e_iload_n dX9_days_71 rfl ?_
                  refine e_dup2 dX9_days_72 rfl rfl ?_
                  refine e_ialdv (j := k) (v := t.2.1 k 7) dX9_days_73 rfl (fx_pi_lt (by decide)) rfl (by omega) (by decide) (by have q := H2.2.2.2.2.1 k (by omega) 7 (by decide); rw [show (t.1, p_Dk t.2.1 k, t.2.2).2.1 k 7 = t.2.1 k 7 from by simp [p_Dk]] at q; exact q) ?_
                  refine e_iconst dX9_days_74 kci_1 ?_
                  refine e_iadd dX9_days_75 ?_
                  refine e_iast (j := k) dX9_days_76 rfl (fx_pi_lt (by decide)) rfl (by omega) (by decide) ?_
                  refine e_iinc (v := nI (k + 1)) dX9_days_77 rfl (fx_inc _) (by decide) rfl ?_
                  refine e_goto 48 dX9_days_80 rfl ?_
                  have hm9 := p_min99_lt hgk (Int32.not_le.mp c_l)
                  have H4 := H2.sD (j := 7) (v := t.2.1 k 7 + 1) (x := k) (by omega) (by decide) (p_gD.u7 (H2.2.2.2.2.2.2.2.2 k (by omega)) hm9.2)
                  rw [← hm9.1] at H4 ⊢
                  exact ihI (k + 1) _ (by omega) (by have q := H4; rw [show (t.1, p_ua (t.1, p_Dk t.2.1 k, t.2.2).2.1 k (p_u ((t.1, p_Dk t.2.1 k, t.2.2).2.1 k) 7 (p_min 99 (t.2.1 k 7 + 1))), t.2.2) = ((t.1, p_Dk t.2.1 (k + 1), t.2.2) : p_Sg) from by rw [← p_Dk_1]] at q; exact q) (K2.sI (by omega))
            exact lpi nd 0 m1 (by omega) (H1.cgD (fun d hd => by simp only [p_Dk]; rw [if_neg (Nat.not_lt_zero _)])) K1
        exact lp N 0 m t (by omega) H (fx_KF.refl m)
      · refine e_aload_n dX9_days_32 rfl ?_
        refine e_bipush dX9_days_33 kcb_m6 ?_
        refine e_callV1 (μ' := mX9_no) (ci := 9) (As := [.int (-6)]) dX9_days_35 wl_X9_136 ok_X9_no rfl rfl (fx_pi_lt (by decide)) (by decide) (Nat.le_of_ble_eq_true rfl) fx_n1 (s_X9_no (m := m) hL (b := 6) (z := (-6)) (by decide) (by decide)) rfl ?_
        have hB : p_daB na nd n = 6 := by unfold p_daB; (try (first | rw [if_pos a_0] | rw [if_neg a_0] | rw [if_neg (Decidable.not_not.mpr a_0)])); (try (first | rw [if_pos a_1] | rw [if_neg a_1] | rw [if_neg (Decidable.not_not.mpr a_1)])); (try (first | rw [if_pos c_1] | rw [if_neg c_1] | rw [if_neg (Decidable.not_not.mpr c_1)])); (first | done | rfl)
        exact e_iret dX9_days_38 rfl rfl rfl ⟨fun _ => by rw [hB]; exact ⟨rfl, (fx_mno_n (by decide)).symm⟩, fun q => by rw [hB] at q; cases q⟩
    · refine e_aload_n dX9_days_14 rfl ?_
      refine e_bipush dX9_days_15 kcb_m5 ?_
      refine e_callV1 (μ' := mX9_no) (ci := 9) (As := [.int (-5)]) dX9_days_17 wl_X9_136 ok_X9_no rfl rfl (fx_pi_lt (by decide)) (by decide) (Nat.le_of_ble_eq_true rfl) fx_n1 (s_X9_no (m := m) hL (b := 5) (z := (-5)) (by decide) (by decide)) rfl ?_
      have hB : p_daB na nd n = 5 := by unfold p_daB; (try (first | rw [if_pos a_0] | rw [if_neg a_0] | rw [if_neg (Decidable.not_not.mpr a_0)])); (try (first | rw [if_pos a_1] | rw [if_neg a_1] | rw [if_neg (Decidable.not_not.mpr a_1)])); (first | done | rfl)
      exact e_iret dX9_days_20 rfl rfl rfl ⟨fun _ => by rw [hB]; exact ⟨rfl, (fx_mno_n (by decide)).symm⟩, fun q => by rw [hB] at q; cases q⟩
