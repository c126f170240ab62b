theorem fx_MSh.cn {m : fx_M} {na : Nat} {u : p_Sh} (H : fx_MSh m na u) : ∀ k, k < 8 → u.2.2.1 k ≤ 160 := fun k hk => by
  by_cases c : u.1 k = -1
  · rw [((H k hk).2.2 c).1]; omega
  · exact ((H k hk).2.1 c).2.2.2.2.1
theorem p_bD_so {so sa : Nat → Int32} {cn : Nat → Nat} {s n : Int32} (h : p_bD so sa cn s n = 0) : so (p_ix s) ≠ -1 := by
  unfold p_bD at h
  split at h
  · rename_i h0
    have hb := p_bR_le so sa s
    exact (p_bR_0 ((nI_0i (by omega)).mp h0)).2.2
  · rename_i h0
    exact absurd (by rw [h]; rfl) h0
theorem fx_MSh.rd {m : fx_M} {na k N : Nat} {u : p_Sh} (H : fx_MSh m na u) (hk : k < 8) (ho : u.1 k ≠ -1) (hN : 2 * N ≤ u.2.2.1 k) : ∀ j, j < 2 * N → (m.2.1 104 (160 * k + j)).toInt32 = p_rdI u k j := fun j hj => by
  rw [((H k hk).2.1 ho).2.2.2.2.2 j (by omega)]
  rfl
theorem fx_sv.ms {m m' : fx_M} {o na nd : Nat} {t : p_Sg} (h : fx_sv m m' o 102) (ho : 111 ≤ o) (H : fx_MS m na nd t) : fx_MS m' na nd t := H.cg (fun x hx => h.2.2 x (by omega)) (fun j _ => by rw [h.2.2 83 (by omega)])
theorem fx_img.cg {m m' : fx_M} {o na nd : Nat} {t : p_Sg} (H : fx_img m o na nd t) (h : m'.1 o = m.1 o) : fx_img m' o na nd t := by
  unfold fx_img
  rw [h]
  exact H
theorem fx_KF.back {m m1 m2 m3 : fx_M} (V : fx_sv m m1 113 102) (K : fx_KG m1 m2) (W : fx_ld m2 m3 113 102) : fx_KF m m3 := by
  refine ⟨W.2.1.trans (K.1.trans V.2.1), fun o ho => funext fun i => ?_, fun j hj => ?_⟩
  · rw [W.2.2 o i (p_ob_na (by omega) (by omega)), K.2.1 o (by omega), V.2.2 o (by omega)]
  · rw [W.2.2 83 j (p_ob_n6 (by omega)), K.2.2 j (by omega), V.2.2 83 (by decide)]
theorem fx_KF.done {m m1 m2 : fx_M} (V : fx_sv m m1 113 102) (K : fx_KG m1 m2) : fx_KF m m2 := by
  refine ⟨K.1.trans V.2.1, fun o ho => ?_, fun j hj => ?_⟩
  · rw [K.2.1 o (by omega), V.2.2 o (by omega)]
  · rw [K.2.2 j (by omega), V.2.2 83 (by decide)]
theorem fx_KF.no {m m' : fx_M} (h : fx_KF m m') (b : Nat) : fx_KF (fx_mno m b) (fx_mno m' b) := by
  unfold fx_mno
  by_cases c : b = 0
  · rw [if_pos c, if_pos c]; exact h
  · rw [if_neg c, if_neg c]
    refine ⟨h.1, fun o ho => ?_, fun j hj => by rw [fx_sI_n _ _ _ (by decide), fx_sI_n _ _ _ (by decide)]; exact h.2.2 j hj⟩
    by_cases d : o = 84
    · subst d
      rw [fx_sI_o, fx_sI_o, h.2.1 84 (by omega)]
    · rw [fx_sI_n _ _ _ d, fx_sI_n _ _ _ d]; exact h.2.1 o ho
theorem fx_MS.no {m : fx_M} {na nd : Nat} {t : p_Sg} (H : fx_MS m na nd t) (b : Nat) : fx_MS (fx_mno m b) na nd t := by
  unfold fx_mno
  split
  · exact H
  · exact H.sO (by decide) (fun h => absurd h (by decide))
theorem p_oi_1 {o : Option Nat} (h : ∀ x, o = some x → x < 2 ^ 31) (c : p_oi o = -1) : o = none := (p_oi_ne h).mp c
set_option maxRecDepth 100000 in
set_option maxHeartbeats 600000 in
theorem s_X9_judge {Γ : fx_G} {m : fx_M} (hL : fx_Lay m) {na nd : Nat} {t : p_Sg} (H : fx_MS m na nd t) (h8 : na ≤ 8) {u : p_Sh} (HS : fx_MSh m na u) (s n : Int32) : fx_Ct Γ mX9_judge 5 119 119 [fx_rf Γ 83, .int s, .int n] m (fun r m' => r = some (.int (q_judge na nd u.1 u.2.1 u.2.2.1 (p_rdI u) t s n).2) ∧ fx_MS m' na nd t ∧ fx_KF (fx_mno m (q_judge na nd u.1 u.2.1 u.2.2.1 (p_rdI u) t s n).1) m') := by
  refine fx_Ct.of (j := 2) (by decide) (Nat.le_of_ble_eq_true rfl) (Nat.le_of_ble_eq_true rfl) ?_
  show fx_E Γ mX9_judge 5 119 119 _ 119 m 0 [some (fx_rf Γ 83), some (.int s), some (.int n), none, none] []
  have h9 := H.2.2.2.2.2.1
  have h5 := H.2.2.2.2.2.2.1
  refine e_aload_n dX9_judge_0 rfl ?_
  refine e_iload_n dX9_judge_1 rfl ?_
  refine e_iload_n dX9_judge_2 rfl ?_
  refine e_callV1 (μ' := mX9_barsOf) (ci := 9) (As := [.int s, .int n]) dX9_judge_3 wl_X9_293 ok_X9_barsOf rfl rfl (fx_pi_lt (by decide)) (by decide) (Nat.le_of_ble_eq_true rfl) fx_n1 (s_X9_barsOf (m := m) hL HS s n) rfl ?_
  obtain ⟨b, hb⟩ : ∃ b, p_bD u.1 u.2.1 u.2.2.1 s n = b := ⟨_, rfl⟩
  have hb7 : b ≤ 7 := hb ▸ p_bD_le _ _ _ _ _
  rw [hb]
  refine e_istore_n dX9_judge_6 (by decide) rfl ?_
  refine e_iload_n dX9_judge_7 rfl ?_
  refine e_if_eq 17 dX9_judge_8 rfl (fun c_0 => ?_) (fun c_0 => ?_)
  · have hb0 : b = 0 := (p_neg0 hb7).mp c_0
    subst hb0
    have hso := p_bD_so hb
    obtain ⟨k, N, hk, es, en, hN, hN20⟩ := p_bD_0 HS.cn hb
    subst es
    subst en
    rw [p_ix_n (show k < 2 ^ 31 by omega)] at hso
    have hcn := HS.cn k hk
    refine e_aload_n dX9_judge_17 rfl ?_
    refine e_aload_n dX9_judge_18 rfl ?_
    refine e_getr (o2 := 113) dX9_judge_19 ff_X9_105 rfl (fx_pi_lt (by decide)) (by decide) rfl (hL _ _ _ rfl) ?_
    refine e_iconst dX9_judge_22 kci_0 ?_
    refine e_callV (μ' := mX9_all) (ci := 9) (As := [fx_rf Γ 113, .int 0]) dX9_judge_23 wl_X9_247 ok_X9_all rfl rfl (fx_pi_lt (by decide)) (by decide) (Nat.le_of_ble_eq_true rfl) fx_n1 (s_X9_all0 (m := m) hL (o := 113) rfl (by decide) (by decide)) rfl (fun r_ m_ hpost => ?_)
    revert r_ m_
    intro r_ m1 hpost
    obtain ⟨rfl, V1⟩ := hpost
    have H1 := V1.ms (by decide) H
    have I1 := V1.img H h8
    have hL1 : fx_Lay m1 := fun o k v hv => by rw [V1.2.1]; exact hL o k v hv
    refine e_aload_n dX9_judge_26 rfl ?_
    refine e_iload_n dX9_judge_27 rfl ?_
    refine e_iload_n dX9_judge_28 rfl ?_
    refine e_callV (μ' := mX9_goes) (ci := 9) (As := [.int (nI k), .int (nI N)]) dX9_judge_29 wl_X9_296 ok_X9_goes rfl rfl (fx_pi_lt (by decide)) (by decide) (Nat.le_of_ble_eq_true rfl) fx_n1 (s_X9_goes (m := m1) hL1 H1 (u := u) (k := k) (N := N) hk (by omega) (fun j hj => by rw [V1.2.1]; exact HS.rd hk hso hN j hj)) rfl (fun r_ m_ hpost => ?_)
    revert r_ m_
    intro r_ m2 hpost
    obtain ⟨rfl, H2, K2⟩ := hpost
    have hL2 := K2.lay hL1
    have I2 : fx_img m2 113 na nd t := I1.cg (K2.2.1 113 (by decide))
    have hlt : ∀ x, (p_tl na nd (p_rdI u k) N 0 t).1 = some x → x < 2 ^ 31 := fun x hx => by have := p_tl_lt hx; omega
    refine e_istore dX9_judge_32 (by decide) rfl ?_
    refine e_aload_n dX9_judge_34 rfl ?_
    refine e_aload_n dX9_judge_35 rfl ?_
    refine e_getr (o2 := 113) dX9_judge_36 ff_X9_105 rfl (fx_pi_lt (by decide)) (by decide) rfl (hL2 _ _ _ rfl) ?_
    refine e_iconst dX9_judge_39 kci_1 ?_
    refine e_callV (μ' := mX9_all) (ci := 9) (As := [fx_rf Γ 113, .int 1]) dX9_judge_40 wl_X9_247 ok_X9_all rfl rfl (fx_pi_lt (by decide)) (by decide) (Nat.le_of_ble_eq_true rfl) fx_n1 (s_X9_all1 (m := m2) hL2 (o := 113) rfl (by decide) (by decide)) rfl (fun r_ m_ hpost => ?_)
    revert r_ m_
    intro r_ m3 hpost
    obtain ⟨rfl, V3⟩ := hpost
    have H3 := V3.ms I2
    have K3 := fx_KF.back V1 K2 V3
    have hL3 := K3.lay hL
    refine e_iload dX9_judge_43 rfl ?_
    have hq : q_judge na nd u.1 u.2.1 u.2.2.1 (p_rdI u) t (nI k) (nI N) = (0, p_oi (p_tl na nd (p_rdI u k) N 0 t).1) := by unfold q_judge; rw [hb, p_ix_n (show k < 2 ^ 31 by omega), p_ix_n (show N < 2 ^ 31 by omega)]; (first | done | rfl)
    exact e_iret dX9_judge_45 rfl rfl rfl ⟨by rw [hq], H3, by rw [hq]; exact K3⟩
  · refine e_aload_n dX9_judge_11 rfl ?_
    refine e_iload_n dX9_judge_12 rfl ?_
    refine e_callV1 (μ' := mX9_noTen) (ci := 9) (As := [.int (-(nI b))]) dX9_judge_13 wl_X9_190 ok_X9_noTen rfl rfl (fx_pi_lt (by decide)) (by decide) (Nat.le_of_ble_eq_true rfl) fx_n1 (s_X9_noTen (m := m) hL (b := b) (z := (-(nI b))) (by simp) (by omega)) rfl ?_
    have hb0 : b ≠ 0 := fun e => c_0 ((p_neg0 hb7).mpr e)
    have hq : q_judge na nd u.1 u.2.1 u.2.2.1 (p_rdI u) t s n = (b, (-(nI b)) - 10) := by unfold q_judge; rw [hb, if_neg (fun e => hb0 ((nI_0i (by omega)).mp e))]; (first | done | rfl)
    have e0 := fx_mno_n (m := m) hb0
    exact e_iret dX9_judge_16 rfl rfl rfl ⟨by rw [hq], by rw [← e0]; exact H.no b, by rw [hq, ← e0]; exact fx_KF.refl _⟩
theorem p_neg6 {b : Nat} (h : b ≤ 7) (e : -(nI b) = -6) : b = 6 := by
  have q : nI b = nI 6 := by have := congrArg (fun z => -z) e; simp at this; exact this
  exact (nI_eq (by omega) (by decide)).mp q
theorem p_bD_le6 (so sa : Nat → Int32) (cn : Nat → Nat) (s n : Int32) : p_bD so sa cn s n ≤ 6 := by
  have : p_bR so sa s ≤ 3 := by unfold p_bR; split; decide; split; decide; split <;> decide
  unfold p_bD
  split
  · split; decide; split; decide; split <;> decide
  · omega
set_option maxRecDepth 100000 in
set_option maxHeartbeats 600000 in
theorem s_X9_behind {Γ : fx_G} {m : fx_M} (hL : fx_Lay m) {na nd : Nat} {t : p_Sg} (H : fx_MS m na nd t) (h8 : na ≤ 8) {u : p_Sh} (HS : fx_MSh m na u) (s n w : Int32) : fx_Ct Γ mX9_behind 7 119 119 [fx_rf Γ 83, .int s, .int n, .int w] m (fun r m' => r = some (.int (q_behind na nd u.1 u.2.1 u.2.2.1 (p_rdI u) t s n w).2) ∧ fx_MS m' na nd t ∧ fx_KF (fx_mno m (q_behind na nd u.1 u.2.1 u.2.2.1 (p_rdI u) t s n w).1) m') := by
  refine fx_Ct.of (j := 3) (by decide) (Nat.le_of_ble_eq_true rfl) (Nat.le_of_ble_eq_true rfl) ?_
  show fx_E Γ mX9_behind 7 119 119 _ 119 m 0 [some (fx_rf Γ 83), some (.int s), some (.int n), some (.int w), none, none, none] []
  have h9 := H.2.2.2.2.2.1
  have h5 := H.2.2.2.2.2.2.1
  refine e_aload_n dX9_behind_0 rfl ?_
  refine e_iload_n dX9_behind_1 rfl ?_
  refine e_iload_n dX9_behind_2 rfl ?_
  refine e_callV1 (μ' := mX9_barsOf) (ci := 9) (As := [.int s, .int n]) dX9_behind_3 wl_X9_293 ok_X9_barsOf rfl rfl (fx_pi_lt (by decide)) (by decide) (Nat.le_of_ble_eq_true rfl) fx_n1 (s_X9_barsOf (m := m) hL HS s n) rfl ?_
  obtain ⟨b, hb⟩ : ∃ b, p_bD u.1 u.2.1 u.2.2.1 s n = b := ⟨_, rfl⟩
  have hb6 : b ≤ 6 := hb ▸ p_bD_le6 _ _ _ _ _
  have hb7 : b ≤ 7 := hb ▸ p_bD_le _ _ _ _ _
  rw [hb]
  refine e_istore dX9_behind_6 (by decide) rfl ?_
  refine e_iload dX9_behind_8 rfl ?_
  refine e_if_eq 20 dX9_behind_10 rfl (fun c_0 => ?_) (fun c_0 => ?_)
  · refine e_iload_n dX9_behind_20 rfl ?_
    refine e_if_lt 29 dX9_behind_21 rfl (fun a_1 => ?_) (fun a_1 => ?_)
    · refine e_bipush dX9_behind_29 kcb_m5 ?_
      refine e_istore dX9_behind_31 (by decide) rfl ?_
      have c_w : ¬ p_in w 0 2 := (by rintro ⟨h1, h2⟩; first | exact absurd h1 (Int32.not_le.mpr a_1) | exact a_2 h2 | exact absurd h2 (Int32.not_le.mpr a_2))
      refine e_iload dX9_behind_33 rfl ?_
      refine e_if_eq 45 dX9_behind_35 rfl (fun h => absurd h (by decide)) (fun _ => ?_)
      refine e_aload_n dX9_behind_38 rfl ?_
      refine e_iload dX9_behind_39 rfl ?_
      refine e_callV1 (μ' := mX9_no) (ci := 9) (As := [.int (-5)]) dX9_behind_41 wl_X9_136 ok_X9_no rfl rfl (fx_pi_lt (by decide)) (by decide) (Nat.le_of_ble_eq_true rfl) fx_n1 (s_X9_no (m := m) hL (b := 5) (z := (-5)) (by decide) (by decide)) rfl ?_
      have hq : q_behind na nd u.1 u.2.1 u.2.2.1 (p_rdI u) t s n w = (5, -5) := by unfold q_behind; rw [hb, (p_neg0 hb7).mp c_0, if_pos (show nI 0 = 0 from rfl), if_pos c_w]; (first | done | rfl)
      have e0 := fx_mno_n (m := m) (b := 5) (by decide)
      exact e_iret dX9_behind_44 rfl rfl rfl ⟨by rw [hq], by rw [← e0]; exact H.no 5, by rw [hq, ← e0]; exact fx_KF.refl _⟩
    · refine e_iload_n dX9_behind_24 rfl ?_
      refine e_iconst dX9_behind_25 kci_2 ?_
      refine e_icmp_le 33 dX9_behind_26 rfl (fun a_2 => ?_) (fun a_2 => ?_)
      · have c_w : p_in w 0 2 := ⟨Int32.not_lt.mp a_1, a_2⟩
        refine e_iload dX9_behind_33 rfl ?_
        refine e_if_eq 45 dX9_behind_35 rfl (fun _ => ?_) (fun h => absurd c_0 h)
        have hb0 : b = 0 := (p_neg0 hb7).mp c_0
        subst hb0
        have hso := p_bD_so hb
        obtain ⟨k, N, hk, es, en, hN, hN20⟩ := p_bD_0 HS.cn hb
        subst es
        subst en
        rw [p_ix_n (show k < 2 ^ 31 by omega)] at hso
        have hcn := HS.cn k hk
        refine e_aload_n dX9_behind_45 rfl ?_
        refine e_aload_n dX9_behind_46 rfl ?_
        refine e_getr (o2 := 113) dX9_behind_47 ff_X9_105 rfl (fx_pi_lt (by decide)) (by decide) rfl (hL _ _ _ rfl) ?_
        refine e_iconst dX9_behind_50 kci_0 ?_
        refine e_callV (μ' := mX9_all) (ci := 9) (As := [fx_rf Γ 113, .int 0]) dX9_behind_51 wl_X9_247 ok_X9_all rfl rfl (fx_pi_lt (by decide)) (by decide) (Nat.le_of_ble_eq_true rfl) fx_n1 (s_X9_all0 (m := m) hL (o := 113) rfl (by decide) (by decide)) rfl (fun r_ m_ hpost => ?_)
        revert r_ m_
        intro r_ m1 hpost
        obtain ⟨rfl, V1⟩ := hpost
        have H1 := V1.ms (by decide) H
        have I1 := V1.img H h8
        have hL1 : fx_Lay m1 := fun o k v hv => by rw [V1.2.1]; exact hL o k v hv
        refine e_aload_n dX9_behind_54 rfl ?_
        refine e_iload_n dX9_behind_55 rfl ?_
        refine e_iload_n dX9_behind_56 rfl ?_
        refine e_callV (μ' := mX9_goes) (ci := 9) (As := [.int (nI k), .int (nI N)]) dX9_behind_57 wl_X9_296 ok_X9_goes rfl rfl (fx_pi_lt (by decide)) (by decide) (Nat.le_of_ble_eq_true rfl) fx_n1 (s_X9_goes (m := m1) hL1 H1 (u := u) (k := k) (N := N) hk (by omega) (fun j hj => by rw [V1.2.1]; exact HS.rd hk hso hN j hj)) rfl (fun r_ m_ hpost => ?_)
        revert r_ m_
        intro r_ m2 hpost
        obtain ⟨rfl, H2, K2⟩ := hpost
        have hL2 := K2.lay hL1
        have I2 : fx_img m2 113 na nd t := I1.cg (K2.2.1 113 (by decide))
        have hlt : ∀ x, (p_tl na nd (p_rdI u k) N 0 t).1 = some x → x < 2 ^ 31 := fun x hx => by have := p_tl_lt hx; omega
        refine e_istore dX9_behind_60 (by decide) rfl ?_
        refine e_aload_n dX9_behind_62 rfl ?_
        refine e_iload_n dX9_behind_63 rfl ?_
        refine e_callV1 (μ' := mX9_then) (ci := 9) (As := [.int w]) dX9_behind_64 wl_X9_302 ok_X9_then rfl rfl (fx_pi_lt (by decide)) (by decide) (Nat.le_of_ble_eq_true rfl) fx_n1 (s_X9_then (m := m2) hL2 H2 w) rfl ?_
        refine e_istore dX9_behind_67 (by decide) rfl ?_
        refine e_aload_n dX9_behind_69 rfl ?_
        refine e_aload_n dX9_behind_70 rfl ?_
        refine e_getr (o2 := 113) dX9_behind_71 ff_X9_105 rfl (fx_pi_lt (by decide)) (by decide) rfl (hL2 _ _ _ rfl) ?_
        refine e_iconst dX9_behind_74 kci_1 ?_
        refine e_callV (μ' := mX9_all) (ci := 9) (As := [fx_rf Γ 113, .int 1]) dX9_behind_75 wl_X9_247 ok_X9_all rfl rfl (fx_pi_lt (by decide)) (by decide) (Nat.le_of_ble_eq_true rfl) fx_n1 (s_X9_all1 (m := m2) hL2 (o := 113) rfl (by decide) (by decide)) rfl (fun r_ m_ hpost => ?_)
        revert r_ m_
        intro r_ m3 hpost
        obtain ⟨rfl, V3⟩ := hpost
        have H3 := V3.ms I2
        have K3 := fx_KF.back V1 K2 V3
        have hL3 := K3.lay hL
        refine e_iload dX9_behind_78 rfl ?_
        refine e_iconst dX9_behind_80 kci_m1 ?_
        refine e_icmp_ne 89 dX9_behind_81 rfl (fun c_t => ?_) (fun c_t => ?_)
        · refine e_aload_n dX9_behind_89 rfl ?_
          refine e_bipush dX9_behind_90 kcb_m6 ?_
          refine e_callV1 (μ' := mX9_no) (ci := 9) (As := [.int (-6)]) dX9_behind_92 wl_X9_136 ok_X9_no rfl rfl (fx_pi_lt (by decide)) (by decide) (Nat.le_of_ble_eq_true rfl) fx_n1 (s_X9_no (m := m3) hL3 (b := 6) (z := (-6)) (by decide) (by decide)) rfl ?_
          have hq : q_behind na nd u.1 u.2.1 u.2.2.1 (p_rdI u) t (nI k) (nI N) w = (6, -6) := by unfold q_behind; rw [hb, if_pos (show nI 0 = 0 from rfl), if_neg (Decidable.not_not.mpr c_w), p_ix_n (show k < 2 ^ 31 by omega), p_ix_n (show N < 2 ^ 31 by omega)]; rw [if_neg c_t]; (first | done | rfl)
          have e0 := fx_mno_n (m := m3) (b := 6) (by decide)
          exact e_iret dX9_behind_95 rfl rfl rfl ⟨by rw [hq], by rw [← e0]; exact H3.no 6, by rw [hq, ← e0]; exact K3.no 6⟩
        · refine e_iload dX9_behind_84 rfl ?_
          refine e_goto 95 dX9_behind_86 rfl ?_
          have hq : q_behind na nd u.1 u.2.1 u.2.2.1 (p_rdI u) t (nI k) (nI N) w = (0, p_beh na nd (p_tl na nd (p_rdI u k) N 0 t).2 w) := by unfold q_behind; rw [hb, if_pos (show nI 0 = 0 from rfl), if_neg (Decidable.not_not.mpr c_w), p_ix_n (show k < 2 ^ 31 by omega), p_ix_n (show N < 2 ^ 31 by omega)]; rw [if_pos c_t]
          exact e_iret dX9_behind_95 rfl rfl rfl ⟨by rw [hq], H3, by rw [hq]; exact K3⟩
      · refine e_bipush dX9_behind_29 kcb_m5 ?_
        refine e_istore dX9_behind_31 (by decide) rfl ?_
        have c_w : ¬ p_in w 0 2 := (by rintro ⟨h1, h2⟩; first | exact absurd h1 (Int32.not_le.mpr a_1) | exact a_2 h2 | exact absurd h2 (Int32.not_le.mpr a_2))
        refine e_iload dX9_behind_33 rfl ?_
        refine e_if_eq 45 dX9_behind_35 rfl (fun h => absurd h (by decide)) (fun _ => ?_)
        refine e_aload_n dX9_behind_38 rfl ?_
        refine e_iload dX9_behind_39 rfl ?_
        refine e_callV1 (μ' := mX9_no) (ci := 9) (As := [.int (-5)]) dX9_behind_41 wl_X9_136 ok_X9_no rfl rfl (fx_pi_lt (by decide)) (by decide) (Nat.le_of_ble_eq_true rfl) fx_n1 (s_X9_no (m := m) hL (b := 5) (z := (-5)) (by decide) (by decide)) rfl ?_
        have hq : q_behind na nd u.1 u.2.1 u.2.2.1 (p_rdI u) t s n w = (5, -5) := by unfold q_behind; rw [hb, (p_neg0 hb7).mp c_0, if_pos (show nI 0 = 0 from rfl), if_pos c_w]; (first | done | rfl)
        have e0 := fx_mno_n (m := m) (b := 5) (by decide)
        exact e_iret dX9_behind_44 rfl rfl rfl ⟨by rw [hq], by rw [← e0]; exact H.no 5, by rw [hq, ← e0]; exact fx_KF.refl _⟩
  · refine e_iload dX9_behind_13 rfl ?_
    refine e_bipush dX9_behind_15 kcb_m6 ?_
    refine e_icmp_ne 33 dX9_behind_17 rfl (fun c_6 => ?_) (fun c_6 => ?_)
    · refine e_iload dX9_behind_33 rfl ?_
      refine e_if_eq 45 dX9_behind_35 rfl (fun h => absurd h c_0) (fun _ => ?_)
      refine e_aload_n dX9_behind_38 rfl ?_
      refine e_iload dX9_behind_39 rfl ?_
      refine e_callV1 (μ' := mX9_no) (ci := 9) (As := [.int (-(nI b))]) dX9_behind_41 wl_X9_136 ok_X9_no rfl rfl (fx_pi_lt (by decide)) (by decide) (Nat.le_of_ble_eq_true rfl) fx_n1 (s_X9_no (m := m) hL (b := b) (z := (-(nI b))) (by simp) (by omega)) rfl ?_
      have hb0 : b ≠ 0 := fun e => c_0 ((p_neg0 hb7).mpr e)
      have hq : q_behind na nd u.1 u.2.1 u.2.2.1 (p_rdI u) t s n w = (b, -(nI b)) := by unfold q_behind; rw [hb, if_neg (fun e => hb0 ((nI_0i (by omega)).mp e))]; first | (rw [if_pos (show nI b ≤ 5 from nI_le (b := 5) (by have : b ≠ 6 := fun e => c_6 (by rw [e]; rfl); have := hb6; omega) (by decide))]; (first | done | rfl))
      have e0 := fx_mno_n (m := m) hb0
      exact e_iret dX9_behind_44 rfl rfl rfl ⟨by rw [hq], by rw [← e0]; exact H.no b, by rw [hq, ← e0]; exact fx_KF.refl _⟩
    · refine e_iload_n dX9_behind_20 rfl ?_
      refine e_if_lt 29 dX9_behind_21 rfl (fun a_1 => ?_) (fun a_1 => ?_)
      · refine e_bipush dX9_behind_29 kcb_m5 ?_
        refine e_istore dX9_behind_31 (by decide) rfl ?_
        have c_w : ¬ p_in w 0 2 := (by rintro ⟨h1, h2⟩; first | exact absurd h1 (Int32.not_le.mpr a_1) | exact a_2 h2 | exact absurd h2 (Int32.not_le.mpr a_2))
        refine e_iload dX9_behind_33 rfl ?_
        refine e_if_eq 45 dX9_behind_35 rfl (fun h => absurd h (by decide)) (fun _ => ?_)
        refine e_aload_n dX9_behind_38 rfl ?_
        refine e_iload dX9_behind_39 rfl ?_
        refine e_callV1 (μ' := mX9_no) (ci := 9) (As := [.int (-5)]) dX9_behind_41 wl_X9_136 ok_X9_no rfl rfl (fx_pi_lt (by decide)) (by decide) (Nat.le_of_ble_eq_true rfl) fx_n1 (s_X9_no (m := m) hL (b := 5) (z := (-5)) (by decide) (by decide)) rfl ?_
        have hq : q_behind na nd u.1 u.2.1 u.2.2.1 (p_rdI u) t s n w = (5, -5) := by unfold q_behind; rw [hb, p_neg6 hb7 c_6, if_neg (by decide), if_neg (by decide), if_pos c_w]; (first | done | rfl)
        have e0 := fx_mno_n (m := m) (b := 5) (by decide)
        exact e_iret dX9_behind_44 rfl rfl rfl ⟨by rw [hq], by rw [← e0]; exact H.no 5, by rw [hq, ← e0]; exact fx_KF.refl _⟩
      · refine e_iload_n dX9_behind_24 rfl ?_
        refine e_iconst dX9_behind_25 kci_2 ?_
        refine e_icmp_le 33 dX9_behind_26 rfl (fun a_2 => ?_) (fun a_2 => ?_)
        · have c_w : p_in w 0 2 := ⟨Int32.not_lt.mp a_1, a_2⟩
          refine e_iload dX9_behind_33 rfl ?_
          refine e_if_eq 45 dX9_behind_35 rfl (fun h => absurd h c_0) (fun _ => ?_)
          refine e_aload_n dX9_behind_38 rfl ?_
          refine e_iload dX9_behind_39 rfl ?_
          refine e_callV1 (μ' := mX9_no) (ci := 9) (As := [.int (-(nI b))]) dX9_behind_41 wl_X9_136 ok_X9_no rfl rfl (fx_pi_lt (by decide)) (by decide) (Nat.le_of_ble_eq_true rfl) fx_n1 (s_X9_no (m := m) hL (b := b) (z := (-(nI b))) (by simp) (by omega)) rfl ?_
          have hb0 : b ≠ 0 := fun e => c_0 ((p_neg0 hb7).mpr e)
          have hq : q_behind na nd u.1 u.2.1 u.2.2.1 (p_rdI u) t s n w = (b, -(nI b)) := by unfold q_behind; rw [hb, if_neg (fun e => hb0 ((nI_0i (by omega)).mp e))]; (rw [if_neg (show ¬ nI b ≤ 5 from nI_ge (a := 5) (b := b) (by have := p_neg6 hb7 c_6; omega) (by omega)), if_neg (Decidable.not_not.mpr c_w)]; (first | done | rfl))
          have e0 := fx_mno_n (m := m) hb0
          exact e_iret dX9_behind_44 rfl rfl rfl ⟨by rw [hq], by rw [← e0]; exact H.no b, by rw [hq, ← e0]; exact fx_KF.refl _⟩
        · refine e_bipush dX9_behind_29 kcb_m5 ?_
          refine e_istore dX9_behind_31 (by decide) rfl ?_
          have c_w : ¬ p_in w 0 2 := (by rintro ⟨h1, h2⟩; first | exact absurd h1 (Int32.not_le.mpr a_1) | exact a_2 h2 | exact absurd h2 (Int32.not_le.mpr a_2))
          refine e_iload dX9_behind_33 rfl ?_
          refine e_if_eq 45 dX9_behind_35 rfl (fun h => absurd h (by decide)) (fun _ => ?_)
          refine e_aload_n dX9_behind_38 rfl ?_
          refine e_iload dX9_behind_39 rfl ?_
          refine e_callV1 (μ' := mX9_no) (ci := 9) (As := [.int (-5)]) dX9_behind_41 wl_X9_136 ok_X9_no rfl rfl (fx_pi_lt (by decide)) (by decide) (Nat.le_of_ble_eq_true rfl) fx_n1 (s_X9_no (m := m) hL (b := 5) (z := (-5)) (by decide) (by decide)) rfl ?_
          have hq : q_behind na nd u.1 u.2.1 u.2.2.1 (p_rdI u) t s n w = (5, -5) := by unfold q_behind; rw [hb, p_neg6 hb7 c_6, if_neg (by decide), if_neg (by decide), if_pos c_w]; (first | done | rfl)
          have e0 := fx_mno_n (m := m) (b := 5) (by decide)
          exact e_iret dX9_behind_44 rfl rfl rfl ⟨by rw [hq], by rw [← e0]; exact H.no 5, by rw [hq, ← e0]; exact fx_KF.refl _⟩
