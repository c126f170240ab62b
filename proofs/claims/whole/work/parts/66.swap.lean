set_option maxRecDepth 100000 in
set_option maxHeartbeats 600000 in
theorem s_X9_swapOf {Γ : fx_G} {m : fx_M} (hL : fx_Lay m) {na nd : Nat} {t : p_Sg} (H : fx_MS m na nd t) (hsp : ∀ x, x < na → p_spot nd (t.1 x 6)) : fx_Ct Γ mX9_swapOf 3 119 119 [fx_rf Γ 83] m (fx_is (some (.int (p_swap (fun x y => p_gain (t.1 x) (t.1 y) t.2.1) na))) m) := by
  refine fx_Ct.of (j := 8) (by decide) (Nat.le_of_ble_eq_true rfl) (Nat.le_of_ble_eq_true rfl) ?_
  show fx_E Γ mX9_swapOf 3 119 119 _ 119 m 0 [some (fx_rf Γ 83), none, none, none, none, none, none, none, none] []
  have h9 := H.2.2.2.2.2.1
  have h5 := H.2.2.2.2.2.2.1
  have lp : ∀ (j : Nat) (i : Nat) (s : Int32 × Int32), i + j = na → 0 ≤ s.2 → p_swap (fun x y => p_gain (t.1 x) (t.1 y) t.2.1) na = (p_fold (p_sw (fun x y => p_gain (t.1 x) (t.1 y) t.2.1) na) j i s).1 → fx_E Γ mX9_swapOf 3 119 119 (fx_is (some (.int (p_swap (fun x y => p_gain (t.1 x) (t.1 y) t.2.1) na))) m) 119 m 6 [some (fx_rf Γ 83), some (.int s.1), some (.int s.2), some (.int (nI i)), none, none, none, none, none] [] := by
    intro j
    induction j with
    | zero =>
      intro i s hi hs2 hq
      refine e_iload_n dX9_swapOf_6 rfl ?_
      refine e_aload_n dX9_swapOf_7 rfl ?_
      refine e_getv (v := nI na) dX9_swapOf_8 ff_X9_126 rfl (fx_pi_lt (by decide)) (by decide) rfl H.1 ?_
      refine e_icmp_ge 205 dX9_swapOf_11 rfl (fun _ => ?_) (fun h => absurd (nI_le (by omega) (by omega)) h)
      refine e_iload_n dX9_swapOf_205 rfl ?_
      exact e_iret dX9_swapOf_206 rfl rfl rfl ⟨by rw [hq]; rfl, rfl⟩
    | succ j ih =>
      intro i s hi hs2 hq
      refine e_iload_n dX9_swapOf_6 rfl ?_
      refine e_aload_n dX9_swapOf_7 rfl ?_
      refine e_getv (v := nI na) dX9_swapOf_8 ff_X9_126 rfl (fx_pi_lt (by decide)) (by decide) rfl H.1 ?_
      refine e_icmp_ge 205 dX9_swapOf_11 rfl (fun h => absurd h (nI_ge (by omega) (by omega))) (fun _ => ?_)
      refine e_iload_n dX9_swapOf_14 rfl ?_
      refine e_iconst dX9_swapOf_15 kci_1 ?_
      refine e_iadd dX9_swapOf_16 ?_
      rw [nI_1]
      refine e_istore dX9_swapOf_17 (by decide) rfl ?_
      have lpi : ∀ (b : Nat) (k : Nat) (s : Int32 × Int32), k + b = na → 0 ≤ s.2 → p_swap (fun x y => p_gain (t.1 x) (t.1 y) t.2.1) na = (p_fold (p_sw (fun x y => p_gain (t.1 x) (t.1 y) t.2.1) na) j (i + 1) (p_fold (p_sw1 (fun x y => p_gain (t.1 x) (t.1 y) t.2.1) i) b k s)).1 → fx_E Γ mX9_swapOf 3 119 119 (fx_is (some (.int (p_swap (fun x y => p_gain (t.1 x) (t.1 y) t.2.1) na))) m) 119 m 19 [some (fx_rf Γ 83), some (.int s.1), some (.int s.2), some (.int (nI i)), some (.int (nI k)), none, none, none, none] [] := by
        intro b
        induction b with
        | zero =>
          intro k s hk hs2 hq
          refine e_iload dX9_swapOf_19 rfl ?_
          refine e_aload_n dX9_swapOf_21 rfl ?_
          refine e_getv (v := nI na) dX9_swapOf_22 ff_X9_126 rfl (fx_pi_lt (by decide)) (by decide) rfl H.1 ?_
          refine e_icmp_ge 199 dX9_swapOf_25 rfl (fun _ => ?_) (fun h => absurd (nI_le (by omega) (by omega)) h)
          refine e_iinc (v := nI (i + 1)) dX9_swapOf_199 rfl (fx_inc _) (by decide) rfl ?_
          refine e_goto 6 dX9_swapOf_202 rfl ?_
          refine e_weak (lv2 := [some (fx_rf Γ 83), some (.int s.1), some (.int s.2), some (.int (nI (i + 1))), none, none, none, none, none]) ⟨rfl, rfl, rfl, rfl, trivial⟩ ?_
          exact ih (i + 1) s (by omega) hs2 hq
        | succ b ihb =>
          intro k s hk hs2 hq
          refine e_iload dX9_swapOf_19 rfl ?_
          refine e_aload_n dX9_swapOf_21 rfl ?_
          refine e_getv (v := nI na) dX9_swapOf_22 ff_X9_126 rfl (fx_pi_lt (by decide)) (by decide) rfl H.1 ?_
          refine e_icmp_ge 199 dX9_swapOf_25 rfl (fun h => absurd h (nI_ge (by omega) (by omega))) (fun _ => ?_)
          refine e_aload_n dX9_swapOf_28 rfl ?_
          refine e_getr (o2 := 91) dX9_swapOf_29 ff_X9_38 rfl (fx_pi_lt (by decide)) (by decide) rfl (hL _ _ _ rfl) ?_
          refine e_iload_n dX9_swapOf_32 rfl ?_
          refine e_ialdv (j := i) (v := t.1 i 6) dX9_swapOf_33 rfl (fx_pi_lt (by decide)) rfl (by omega) (by decide) (H.2.2.2.1 _ (by omega) 6 (by decide)) ?_
          refine e_bipush dX9_swapOf_34 kcb_99 ?_
          refine e_icmp_eq 193 dX9_swapOf_36 rfl (fun c_x => ?_) (fun c_x => ?_)
          · refine e_iinc (v := nI (k + 1)) dX9_swapOf_193 rfl (fx_inc _) (by decide) rfl ?_
            refine e_goto 19 dX9_swapOf_196 rfl ?_
            have hg : p_gain (t.1 i) (t.1 k) t.2.1 = 0 := by unfold p_gain; rw [if_pos (Or.inl c_x)]
            have e : p_sw1 (fun x y => p_gain (t.1 x) (t.1 y) t.2.1) i k s = s := p_sw1_n (by show ¬ s.2 < p_gain (t.1 i) (t.1 k) t.2.1; rw [hg]; exact Int32.not_lt.mpr hs2)
            rw [p_fold_s e] at hq
            refine e_weak (lv2 := [some (fx_rf Γ 83), some (.int s.1), some (.int s.2), some (.int (nI i)), some (.int (nI (k + 1))), none, none, none, none]) ⟨rfl, rfl, rfl, rfl, rfl, trivial⟩ ?_
            exact ihb (k + 1) s (by omega) hs2 hq
          · refine e_aload_n dX9_swapOf_39 rfl ?_
            refine e_getr (o2 := 91) dX9_swapOf_40 ff_X9_38 rfl (fx_pi_lt (by decide)) (by decide) rfl (hL _ _ _ rfl) ?_
            refine e_iload dX9_swapOf_43 rfl ?_
            refine e_ialdv (j := k) (v := t.1 k 6) dX9_swapOf_45 rfl (fx_pi_lt (by decide)) rfl (by omega) (by decide) (H.2.2.2.1 _ (by omega) 6 (by decide)) ?_
            refine e_bipush dX9_swapOf_46 kcb_99 ?_
            refine e_icmp_eq 193 dX9_swapOf_48 rfl (fun c_y => ?_) (fun c_y => ?_)
            · refine e_iinc (v := nI (k + 1)) dX9_swapOf_193 rfl (fx_inc _) (by decide) rfl ?_
              refine e_goto 19 dX9_swapOf_196 rfl ?_
              have hg : p_gain (t.1 i) (t.1 k) t.2.1 = 0 := by unfold p_gain; rw [if_pos (Or.inr (Or.inl c_y))]
              have e : p_sw1 (fun x y => p_gain (t.1 x) (t.1 y) t.2.1) i k s = s := p_sw1_n (by show ¬ s.2 < p_gain (t.1 i) (t.1 k) t.2.1; rw [hg]; exact Int32.not_lt.mpr hs2)
              rw [p_fold_s e] at hq
              refine e_weak (lv2 := [some (fx_rf Γ 83), some (.int s.1), some (.int s.2), some (.int (nI i)), some (.int (nI (k + 1))), none, none, none, none]) ⟨rfl, rfl, rfl, rfl, rfl, trivial⟩ ?_
              exact ihb (k + 1) s (by omega) hs2 hq
            · refine e_aload_n dX9_swapOf_51 rfl ?_
              refine e_getr (o2 := 91) dX9_swapOf_52 ff_X9_38 rfl (fx_pi_lt (by decide)) (by decide) rfl (hL _ _ _ rfl) ?_
              refine e_iload_n dX9_swapOf_55 rfl ?_
              refine e_ialdv (j := i) (v := t.1 i 6) dX9_swapOf_56 rfl (fx_pi_lt (by decide)) rfl (by omega) (by decide) (H.2.2.2.1 _ (by omega) 6 (by decide)) ?_
              refine e_bipush dX9_swapOf_57 kcb_10 ?_
              refine e_irem dX9_swapOf_59 (by decide) ?_
              refine e_aload_n dX9_swapOf_60 rfl ?_
              refine e_getr (o2 := 91) dX9_swapOf_61 ff_X9_38 rfl (fx_pi_lt (by decide)) (by decide) rfl (hL _ _ _ rfl) ?_
              refine e_iload dX9_swapOf_64 rfl ?_
              refine e_ialdv (j := k) (v := t.1 k 6) dX9_swapOf_66 rfl (fx_pi_lt (by decide)) rfl (by omega) (by decide) (H.2.2.2.1 _ (by omega) 6 (by decide)) ?_
              refine e_bipush dX9_swapOf_67 kcb_10 ?_
              refine e_irem dX9_swapOf_69 (by decide) ?_
              refine e_icmp_eq 76 dX9_swapOf_70 rfl (fun c_s => ?_) (fun c_s => ?_)
              · refine e_aload_n dX9_swapOf_76 rfl ?_
                refine e_getr (o2 := 91) dX9_swapOf_77 ff_X9_38 rfl (fx_pi_lt (by decide)) (by decide) rfl (hL _ _ _ rfl) ?_
                refine e_iload_n dX9_swapOf_80 rfl ?_
                refine e_ialdv (j := i) (v := t.1 i 6) dX9_swapOf_81 rfl (fx_pi_lt (by decide)) rfl (by omega) (by decide) (H.2.2.2.1 _ (by omega) 6 (by decide)) ?_
                refine e_bipush dX9_swapOf_82 kcb_10 ?_
                refine e_idiv dX9_swapOf_84 (by decide) ?_
                have hX := p_spot_on (hsp i (by omega)) c_x h5
                rw [hX.1]
                refine e_istore dX9_swapOf_85 (by decide) rfl ?_
                refine e_aload_n dX9_swapOf_87 rfl ?_
                refine e_getr (o2 := 91) dX9_swapOf_88 ff_X9_38 rfl (fx_pi_lt (by decide)) (by decide) rfl (hL _ _ _ rfl) ?_
                refine e_iload dX9_swapOf_91 rfl ?_
                refine e_ialdv (j := k) (v := t.1 k 6) dX9_swapOf_93 rfl (fx_pi_lt (by decide)) rfl (by omega) (by decide) (H.2.2.2.1 _ (by omega) 6 (by decide)) ?_
                refine e_bipush dX9_swapOf_94 kcb_10 ?_
                refine e_idiv dX9_swapOf_96 (by decide) ?_
                have hY := p_spot_on (hsp k (by omega)) c_y h5
                rw [hY.1]
                refine e_istore dX9_swapOf_97 (by decide) rfl ?_
                refine e_aload_n dX9_swapOf_99 rfl ?_
                refine e_getr (o2 := 91) dX9_swapOf_100 ff_X9_38 rfl (fx_pi_lt (by decide)) (by decide) rfl (hL _ _ _ rfl) ?_
                refine e_iload_n dX9_swapOf_103 rfl ?_
                refine e_ialdv (j := i) (v := t.1 i 6) dX9_swapOf_104 rfl (fx_pi_lt (by decide)) rfl (by omega) (by decide) (H.2.2.2.1 _ (by omega) 6 (by decide)) ?_
                refine e_bipush dX9_swapOf_105 kcb_10 ?_
                refine e_irem dX9_swapOf_107 (by decide) ?_
                refine e_istore dX9_swapOf_108 (by decide) rfl ?_
                refine e_aload_n dX9_swapOf_110 rfl ?_
                refine e_iload_n dX9_swapOf_111 rfl ?_
                refine e_iload dX9_swapOf_112 rfl ?_
                refine e_iload dX9_swapOf_114 rfl ?_
                refine e_callV1 (μ' := mX9_isFit) (ci := 9) (As := [.int (nI i), .int (nI (p_dd (t.1 k 6))), .int ((t.1 i 6) - (t.1 i 6) / 10 * 10)]) dX9_swapOf_116 wl_X9_215 ok_X9_isFit rfl rfl (fx_pi_lt (by decide)) (by decide) (Nat.le_of_ble_eq_true rfl) fx_n1 (s_X9_isFit (m := m) hL H (x := i) (by omega) (d := (p_dd (t.1 k 6))) (by omega) ((t.1 i 6) - (t.1 i 6) / 10 * 10)) rfl ?_
                refine e_if_eqB 193 dX9_swapOf_119 rfl (fun c_f => ?_) (fun c_f => ?_)
                · refine e_iinc (v := nI (k + 1)) dX9_swapOf_193 rfl (fx_inc _) (by decide) rfl ?_
                  refine e_goto 19 dX9_swapOf_196 rfl ?_
                  have hg : p_gain (t.1 i) (t.1 k) t.2.1 = 0 := by unfold p_gain; rw [if_neg (by rintro (h | h | h); exact c_x h; exact c_y h; exact h c_s), if_neg (by rintro ⟨h1, h2⟩; exact c_f h1)]
                  have e : p_sw1 (fun x y => p_gain (t.1 x) (t.1 y) t.2.1) i k s = s := p_sw1_n (by show ¬ s.2 < p_gain (t.1 i) (t.1 k) t.2.1; rw [hg]; exact Int32.not_lt.mpr hs2)
                  rw [p_fold_s e] at hq
                  refine e_weak (lv2 := [some (fx_rf Γ 83), some (.int s.1), some (.int s.2), some (.int (nI i)), some (.int (nI (k + 1))), none, none, none, none]) ⟨rfl, rfl, rfl, rfl, rfl, trivial⟩ ?_
                  exact ihb (k + 1) s (by omega) hs2 hq
                · refine e_aload_n dX9_swapOf_122 rfl ?_
                  refine e_iload dX9_swapOf_123 rfl ?_
                  refine e_iload dX9_swapOf_125 rfl ?_
                  refine e_iload dX9_swapOf_127 rfl ?_
                  refine e_callV1 (μ' := mX9_isFit) (ci := 9) (As := [.int (nI k), .int (nI (p_dd (t.1 i 6))), .int ((t.1 i 6) - (t.1 i 6) / 10 * 10)]) dX9_swapOf_129 wl_X9_215 ok_X9_isFit rfl rfl (fx_pi_lt (by decide)) (by decide) (Nat.le_of_ble_eq_true rfl) fx_n1 (s_X9_isFit (m := m) hL H (x := k) (by omega) (d := (p_dd (t.1 i 6))) (by omega) ((t.1 i 6) - (t.1 i 6) / 10 * 10)) rfl ?_
                  refine e_if_neB 138 dX9_swapOf_132 rfl (fun c_g => ?_) (fun c_g => ?_)
                  · refine e_aload_n dX9_swapOf_138 rfl ?_
                    refine e_iload_n dX9_swapOf_139 rfl ?_
                    refine e_iload dX9_swapOf_140 rfl ?_
                    refine e_callV1 (μ' := mX9_differs) (ci := 9) (As := [.int (nI i), .int (nI (p_dd (t.1 i 6)))]) dX9_swapOf_142 wl_X9_163 ok_X9_differs rfl rfl (fx_pi_lt (by decide)) (by decide) (Nat.le_of_ble_eq_true rfl) fx_n1 (s_X9_differs (m := m) hL H (x := i) (by omega) (d := (p_dd (t.1 i 6))) (by omega)) rfl ?_
                    refine e_aload_n dX9_swapOf_145 rfl ?_
                    refine e_iload dX9_swapOf_146 rfl ?_
                    refine e_iload dX9_swapOf_148 rfl ?_
                    refine e_callV1 (μ' := mX9_differs) (ci := 9) (As := [.int (nI k), .int (nI (p_dd (t.1 k 6)))]) dX9_swapOf_150 wl_X9_163 ok_X9_differs rfl rfl (fx_pi_lt (by decide)) (by decide) (Nat.le_of_ble_eq_true rfl) fx_n1 (s_X9_differs (m := m) hL H (x := k) (by omega) (d := (p_dd (t.1 k 6))) (by omega)) rfl ?_
                    refine e_iadd dX9_swapOf_153 ?_
                    refine e_aload_n dX9_swapOf_154 rfl ?_
                    refine e_iload_n dX9_swapOf_155 rfl ?_
                    refine e_iload dX9_swapOf_156 rfl ?_
                    refine e_callV1 (μ' := mX9_differs) (ci := 9) (As := [.int (nI i), .int (nI (p_dd (t.1 k 6)))]) dX9_swapOf_158 wl_X9_163 ok_X9_differs rfl rfl (fx_pi_lt (by decide)) (by decide) (Nat.le_of_ble_eq_true rfl) fx_n1 (s_X9_differs (m := m) hL H (x := i) (by omega) (d := (p_dd (t.1 k 6))) (by omega)) rfl ?_
                    refine e_isub dX9_swapOf_161 ?_
                    refine e_aload_n dX9_swapOf_162 rfl ?_
                    refine e_iload dX9_swapOf_163 rfl ?_
                    refine e_iload dX9_swapOf_165 rfl ?_
                    refine e_callV1 (μ' := mX9_differs) (ci := 9) (As := [.int (nI k), .int (nI (p_dd (t.1 i 6)))]) dX9_swapOf_167 wl_X9_163 ok_X9_differs rfl rfl (fx_pi_lt (by decide)) (by decide) (Nat.le_of_ble_eq_true rfl) fx_n1 (s_X9_differs (m := m) hL H (x := k) (by omega) (d := (p_dd (t.1 i 6))) (by omega)) rfl ?_
                    refine e_isub dX9_swapOf_170 ?_
                    refine e_istore dX9_swapOf_171 (by decide) rfl ?_
                    refine e_iload dX9_swapOf_173 rfl ?_
                    refine e_iload_n dX9_swapOf_175 rfl ?_
                    refine e_icmp_gt 182 dX9_swapOf_176 rfl (fun c_l => ?_) (fun c_l => ?_)
                    · refine e_bipush dX9_swapOf_182 kcb_10 ?_
                      refine e_iload_n dX9_swapOf_184 rfl ?_
                      refine e_imul dX9_swapOf_185 ?_
                      refine e_iload dX9_swapOf_186 rfl ?_
                      refine e_iadd dX9_swapOf_188 ?_
                      refine e_istore_n dX9_swapOf_189 (by decide) rfl ?_
                      refine e_iload dX9_swapOf_190 rfl ?_
                      refine e_istore_n dX9_swapOf_192 (by decide) rfl ?_
                      refine e_iinc (v := nI (k + 1)) dX9_swapOf_193 rfl (fx_inc _) (by decide) rfl ?_
                      refine e_goto 19 dX9_swapOf_196 rfl ?_
                      have hg : p_gain (t.1 i) (t.1 k) t.2.1 = (((p_farA t.1 t.2.1 i (p_dd (t.1 i 6))) + (p_farA t.1 t.2.1 k (p_dd (t.1 k 6)))) - (p_farA t.1 t.2.1 i (p_dd (t.1 k 6)))) - (p_farA t.1 t.2.1 k (p_dd (t.1 i 6))) := (if_neg (by rintro (h | h | h); exact c_x h; exact c_y h; exact h c_s)).trans (if_pos ⟨c_f, c_g⟩)
                      have e : p_sw1 (fun x y => p_gain (t.1 x) (t.1 y) t.2.1) i k s = (10 * nI i + nI k, (((p_farA t.1 t.2.1 i (p_dd (t.1 i 6))) + (p_farA t.1 t.2.1 k (p_dd (t.1 k 6)))) - (p_farA t.1 t.2.1 i (p_dd (t.1 k 6)))) - (p_farA t.1 t.2.1 k (p_dd (t.1 i 6)))) := by have q := p_sw1_y (g := (fun x y => p_gain (t.1 x) (t.1 y) t.2.1)) (i := i) (k := k) (s := s) (by show s.2 < p_gain (t.1 i) (t.1 k) t.2.1; rw [hg]; exact c_l); rw [q, hg]
                      rw [p_fold_s e] at hq
                      refine e_weak (lv2 := [some (fx_rf Γ 83), some (.int ((10 * (nI i)) + (nI k))), some (.int ((((p_farA t.1 t.2.1 i (p_dd (t.1 i 6))) + (p_farA t.1 t.2.1 k (p_dd (t.1 k 6)))) - (p_farA t.1 t.2.1 i (p_dd (t.1 k 6)))) - (p_farA t.1 t.2.1 k (p_dd (t.1 i 6))))), some (.int (nI i)), some (.int (nI (k + 1))), none, none, none, none]) ⟨rfl, rfl, rfl, rfl, rfl, trivial⟩ ?_
                      exact ihb (k + 1) (10 * nI i + nI k, (((p_farA t.1 t.2.1 i (p_dd (t.1 i 6))) + (p_farA t.1 t.2.1 k (p_dd (t.1 k 6)))) - (p_farA t.1 t.2.1 i (p_dd (t.1 k 6)))) - (p_farA t.1 t.2.1 k (p_dd (t.1 i 6)))) (by omega) (Int32.le_trans hs2 (Int32.le_of_lt c_l)) hq
                    · refine e_goto 193 dX9_swapOf_179 rfl ?_
                      refine e_iinc (v := nI (k + 1)) dX9_swapOf_193 rfl (fx_inc _) (by decide) rfl ?_
                      refine e_goto 19 dX9_swapOf_196 rfl ?_
                      have hg : p_gain (t.1 i) (t.1 k) t.2.1 = _ := (if_neg (by rintro (h | h | h); exact c_x h; exact c_y h; exact h c_s)).trans (if_pos ⟨c_f, c_g⟩)
                      have e : p_sw1 (fun x y => p_gain (t.1 x) (t.1 y) t.2.1) i k s = s := p_sw1_n (fun q => c_l (by have q2 : s.2 < p_gain (t.1 i) (t.1 k) t.2.1 := q; rw [hg] at q2; exact q2))
                      rw [p_fold_s e] at hq
                      refine e_weak (lv2 := [some (fx_rf Γ 83), some (.int s.1), some (.int s.2), some (.int (nI i)), some (.int (nI (k + 1))), none, none, none, none]) ⟨rfl, rfl, rfl, rfl, rfl, trivial⟩ ?_
                      exact ihb (k + 1) s (by omega) hs2 hq
                  · refine e_goto 193 dX9_swapOf_135 rfl ?_
                    refine e_iinc (v := nI (k + 1)) dX9_swapOf_193 rfl (fx_inc _) (by decide) rfl ?_
                    refine e_goto 19 dX9_swapOf_196 rfl ?_
                    have hg : p_gain (t.1 i) (t.1 k) t.2.1 = 0 := by unfold p_gain; rw [if_neg (by rintro (h | h | h); exact c_x h; exact c_y h; exact h c_s), if_neg (by rintro ⟨h1, h2⟩; exact c_g h2)]
                    have e : p_sw1 (fun x y => p_gain (t.1 x) (t.1 y) t.2.1) i k s = s := p_sw1_n (by show ¬ s.2 < p_gain (t.1 i) (t.1 k) t.2.1; rw [hg]; exact Int32.not_lt.mpr hs2)
                    rw [p_fold_s e] at hq
                    refine e_weak (lv2 := [some (fx_rf Γ 83), some (.int s.1), some (.int s.2), some (.int (nI i)), some (.int (nI (k + 1))), none, none, none, none]) ⟨rfl, rfl, rfl, rfl, rfl, trivial⟩ ?_
                    exact ihb (k + 1) s (by omega) hs2 hq
              · refine e_goto 193 dX9_swapOf_73 rfl ?_
                refine e_iinc (v := nI (k + 1)) dX9_swapOf_193 rfl (fx_inc _) (by decide) rfl ?_
                refine e_goto 19 dX9_swapOf_196 rfl ?_
                have hg : p_gain (t.1 i) (t.1 k) t.2.1 = 0 := by unfold p_gain; rw [if_pos (Or.inr (Or.inr c_s))]
                have e : p_sw1 (fun x y => p_gain (t.1 x) (t.1 y) t.2.1) i k s = s := p_sw1_n (by show ¬ s.2 < p_gain (t.1 i) (t.1 k) t.2.1; rw [hg]; exact Int32.not_lt.mpr hs2)
                rw [p_fold_s e] at hq
                refine e_weak (lv2 := [some (fx_rf Γ 83), some (.int s.1), some (.int s.2), some (.int (nI i)), some (.int (nI (k + 1))), none, none, none, none]) ⟨rfl, rfl, rfl, rfl, rfl, trivial⟩ ?_
                exact ihb (k + 1) s (by omega) hs2 hq
      exact lpi (na - (i + 1)) (i + 1) s (by omega) hs2 hq
  refine e_iconst dX9_swapOf_0 kci_m1 ?_
  refine e_istore_n dX9_swapOf_1 (by decide) rfl ?_
  refine e_iconst dX9_swapOf_2 kci_0 ?_
  refine e_istore_n dX9_swapOf_3 (by decide) rfl ?_
  refine e_iconst dX9_swapOf_4 kci_0 ?_
  refine e_istore_n dX9_swapOf_5 (by decide) rfl ?_
  exact lp na 0 (-1, 0) (by omega) (by decide) rfl
def q_mDea (A D : Nat → Nat → Int32) (na nd : Nat) (w : Int32) : Nat × Int32 := if ¬ p_in w 0 1 then p_no10 5 else if w = 0 then (0, p_oi (p_fold (p_bst (fun x => A x 6 = 99) (fun x => p_mG A D na nd (some x) 0 0)) na 0 none)) else (0, p_swap (fun x y => p_gain (A x) (A y) D) na)
set_option maxRecDepth 100000 in
set_option maxHeartbeats 600000 in
theorem s_X9_dearest {Γ : fx_G} {m : fx_M} (hL : fx_Lay m) {na nd : Nat} {t : p_Sg} (H : fx_MS m na nd t) (hwo : m.1 83 44 = -1) (hsp : ∀ x, x < na → p_spot nd (t.1 x 6)) (w : Int32) : fx_Ct Γ mX9_dearest 6 119 119 [fx_rf Γ 83, .int w] m (fun r m' => r = some (.int (q_mDea t.1 t.2.1 na nd w).2) ∧ fx_KP (fx_mno m (q_mDea t.1 t.2.1 na nd w).1) m') := by
  refine fx_Ct.of (j := 0) (by decide) (Nat.le_of_ble_eq_true rfl) (Nat.le_of_ble_eq_true rfl) ?_
  show fx_E Γ mX9_dearest 6 119 119 _ 119 m 0 [some (fx_rf Γ 83), some (.int w)] []
  have h9 := H.2.2.2.2.2.1
  have h5 := H.2.2.2.2.2.2.1
  refine e_iload_n dX9_dearest_0 rfl ?_
  refine e_if_lt 9 dX9_dearest_1 rfl (fun a_1 => ?_) (fun a_1 => ?_)
  · refine e_aload_n dX9_dearest_9 rfl ?_
    refine e_bipush dX9_dearest_10 kcb_m5 ?_
    refine e_callV1 (μ' := mX9_noTen) (ci := 9) (As := [.int (-5)]) dX9_dearest_12 wl_X9_190 ok_X9_noTen rfl rfl (fx_pi_lt (by decide)) (by decide) (Nat.le_of_ble_eq_true rfl) fx_n1 (s_X9_noTen (m := m) hL (b := 5) (z := (-5)) (by decide) (by decide)) rfl ?_
    have hq : q_mDea t.1 t.2.1 na nd w = (5, (-5) - 10) := by unfold q_mDea; rw [if_pos (by rintro ⟨h1, h2⟩; first | exact absurd h1 (Int32.not_le.mpr a_1) | exact a_2 h2 | exact absurd h2 (Int32.not_le.mpr a_2))]; rfl
    exact e_iret dX9_dearest_15 rfl rfl rfl ⟨by rw [hq], by rw [hq, show fx_mno m (5, ((-5) - 10 : Int32)).1 = _ from fx_mno_n (by decide)]; exact fx_KP.refl _⟩
  · refine e_iload_n dX9_dearest_4 rfl ?_
    refine e_iconst dX9_dearest_5 kci_1 ?_
    refine e_icmp_le 16 dX9_dearest_6 rfl (fun a_2 => ?_) (fun a_2 => ?_)
    · refine e_iload_n dX9_dearest_16 rfl ?_
      refine e_if_ne 27 dX9_dearest_17 rfl (fun c_0 => ?_) (fun c_0 => ?_)
      · refine e_aload_n dX9_dearest_27 rfl ?_
        refine e_callV1 (μ' := mX9_swapOf) (ci := 9) (As := []) dX9_dearest_28 wl_X9_283 ok_X9_swapOf rfl rfl (fx_pi_lt (by decide)) (by decide) (Nat.le_of_ble_eq_true rfl) fx_n1 (s_X9_swapOf (m := m) hL H hsp) rfl ?_
        have hq : q_mDea t.1 t.2.1 na nd w = (0, p_swap (fun x y => p_gain (t.1 x) (t.1 y) t.2.1) na) := by unfold q_mDea; rw [if_neg (Decidable.not_not.mpr ⟨Int32.not_lt.mp a_1, a_2⟩)]; first | rw [if_pos c_0] | rw [if_neg c_0]
        exact e_iret dX9_dearest_31 rfl rfl rfl ⟨by rw [hq], by rw [hq]; exact fx_KP.refl _⟩
      · refine e_aload_n dX9_dearest_20 rfl ?_
        refine e_callV (μ' := mX9_dearestOf) (ci := 9) (As := []) dX9_dearest_21 wl_X9_280 ok_X9_dearestOf rfl rfl (fx_pi_lt (by decide)) (by decide) (Nat.le_of_ble_eq_true rfl) fx_n1 (s_X9_dearestOf (m := m) hL H hwo) rfl (fun r_ m_ hpost => ?_)
        revert r_ m_
        intro r_ m1 hpost
        obtain ⟨rfl, K1⟩ := hpost
        refine e_goto 31 dX9_dearest_24 rfl ?_
        have hq : q_mDea t.1 t.2.1 na nd w = (0, p_oi (p_fold (p_bst (fun x => t.1 x 6 = 99) (fun x => p_mG t.1 t.2.1 na nd (some x) 0 0)) na 0 none)) := by unfold q_mDea; rw [if_neg (Decidable.not_not.mpr ⟨Int32.not_lt.mp a_1, a_2⟩)]; first | rw [if_pos c_0] | rw [if_neg c_0]
        exact e_iret dX9_dearest_31 rfl rfl rfl ⟨by rw [hq], by rw [hq]; exact K1⟩
    · refine e_aload_n dX9_dearest_9 rfl ?_
      refine e_bipush dX9_dearest_10 kcb_m5 ?_
      refine e_callV1 (μ' := mX9_noTen) (ci := 9) (As := [.int (-5)]) dX9_dearest_12 wl_X9_190 ok_X9_noTen rfl rfl (fx_pi_lt (by decide)) (by decide) (Nat.le_of_ble_eq_true rfl) fx_n1 (s_X9_noTen (m := m) hL (b := 5) (z := (-5)) (by decide) (by decide)) rfl ?_
      have hq : q_mDea t.1 t.2.1 na nd w = (5, (-5) - 10) := by unfold q_mDea; rw [if_pos (by rintro ⟨h1, h2⟩; first | exact absurd h1 (Int32.not_le.mpr a_1) | exact a_2 h2 | exact absurd h2 (Int32.not_le.mpr a_2))]; rfl
      exact e_iret dX9_dearest_15 rfl rfl rfl ⟨by rw [hq], by rw [hq, show fx_mno m (5, ((-5) - 10 : Int32)).1 = _ from fx_mno_n (by decide)]; exact fx_KP.refl _⟩
