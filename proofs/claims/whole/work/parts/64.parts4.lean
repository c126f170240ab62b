theorem p_fil_9 (v : Int32) : (v + 999) / 1000 = p_fil v := by
  unfold p_fil
  rw [Int32.sub_eq_add_neg, Int32.add_assoc]
  rfl
theorem fx_KP.trans {a b c : fx_M} (h : fx_KP a b) (g : fx_KP b c) : fx_KP a c := ⟨g.1.trans h.1, fun o h1 h2 => (g.2 o h1 h2).trans (h.2 o h1 h2)⟩
def q_mW (G w : Int32) : Nat × Int32 := if ¬ p_in w 0 1 then p_no 5 else (0, if w = 0 then p_fil G else 1000 * p_fil G - G)
set_option maxRecDepth 100000 in
set_option maxHeartbeats 600000 in
theorem s_X9_filled {Γ : fx_G} {m : fx_M} (hL : fx_Lay m) (v : Int32) : fx_Ct Γ mX9_filled 0 119 119 [fx_rf Γ 83, .int v] m (fx_is (some (.int (p_fil v))) m) := by
  refine fx_Ct.of (j := 0) (by decide) (Nat.le_of_ble_eq_true rfl) (Nat.le_of_ble_eq_true rfl) ?_
  show fx_E Γ mX9_filled 0 119 119 _ 119 m 0 [some (fx_rf Γ 83), some (.int v)] []
  refine e_iload_n dX9_filled_0 rfl ?_
  refine e_sipush dX9_filled_1 kcs_999 ?_
  refine e_iadd dX9_filled_4 ?_
  refine e_sipush dX9_filled_5 kcs_1000 ?_
  refine e_idiv dX9_filled_8 (by decide) ?_
  exact e_iret dX9_filled_9 rfl rfl rfl ⟨by rw [p_fil_9], rfl⟩
set_option maxRecDepth 100000 in
set_option maxHeartbeats 600000 in
theorem s_X9_whole {Γ : fx_G} {m : fx_M} (hL : fx_Lay m) {na nd : Nat} {t : p_Sg} (H : fx_MS m na nd t) (hwo : m.1 83 44 = -1) (w : Int32) : fx_Ct Γ mX9_whole 5 119 119 [fx_rf Γ 83, .int w] m (fun r m' => r = some (.int (q_mW (p_mG t.1 t.2.1 na nd none 0 0) w).2) ∧ fx_KP (fx_mno m (q_mW (p_mG t.1 t.2.1 na nd none 0 0) w).1) m') := by
  refine fx_Ct.of (j := 2) (by decide) (Nat.le_of_ble_eq_true rfl) (Nat.le_of_ble_eq_true rfl) ?_
  show fx_E Γ mX9_whole 5 119 119 _ 119 m 0 [some (fx_rf Γ 83), some (.int w), none, none] []
  have h9 := H.2.2.2.2.2.1
  have h5 := H.2.2.2.2.2.2.1
  refine e_iload_n dX9_whole_0 rfl ?_
  refine e_if_lt 9 dX9_whole_1 rfl (fun a_1 => ?_) (fun a_1 => ?_)
  · refine e_aload_n dX9_whole_9 rfl ?_
    refine e_bipush dX9_whole_10 kcb_m5 ?_
    refine e_callV1 (μ' := mX9_no) (ci := 9) (As := [.int (-5)]) dX9_whole_12 wl_X9_136 ok_X9_no rfl rfl (fx_pi_lt (by decide)) (by decide) (Nat.le_of_ble_eq_true rfl) fx_n1 (s_X9_no (m := m) hL (b := 5) (z := (-5)) (by decide) (by decide)) rfl ?_
    have hq : q_mW (p_mG t.1 t.2.1 na nd none 0 0) w = (5, -5) := by unfold q_mW; rw [if_pos (by rintro ⟨h1, h2⟩; first | exact absurd h1 (Int32.not_le.mpr a_1) | exact a_2 h2 | exact absurd h2 (Int32.not_le.mpr a_2))]; rfl
    exact e_iret dX9_whole_15 rfl rfl rfl ⟨by rw [hq], by rw [hq, show fx_mno m (5, (-5 : Int32)).1 = _ from fx_mno_n (by decide)]; exact fx_KP.refl _⟩
  · refine e_iload_n dX9_whole_4 rfl ?_
    refine e_iconst dX9_whole_5 kci_1 ?_
    refine e_icmp_le 16 dX9_whole_6 rfl (fun a_2 => ?_) (fun a_2 => ?_)
    · refine e_aload_n dX9_whole_16 rfl ?_
      refine e_callV (μ' := mX9_parts) (ci := 9) (As := []) dX9_whole_17 wl_X9_260 ok_X9_parts rfl rfl (fx_pi_lt (by decide)) (by decide) (Nat.le_of_ble_eq_true rfl) fx_n1 (s_X9_parts (m := m) hL H (o := none) hwo (fun w e => by cases e)) rfl (fun r_ m_ hpost => ?_)
      revert r_ m_
      intro r_ m1 hpost
      obtain ⟨rfl, K1, P11, P31⟩ := hpost
      have hL1 := K1.lay hL
      have H1 := K1.ms H
      have hp2 := Nat.two_pow_pos na
      have h512 := p_pow9 h9
      refine e_aload_n dX9_whole_20 rfl ?_
      refine e_iconst dX9_whole_21 kci_0 ?_
      refine e_iconst dX9_whole_22 kci_0 ?_
      refine e_callV (μ' := mX9_goodFrom) (ci := 9) (As := [.int 0, .int 0]) dX9_whole_23 wl_X9_257 ok_X9_goodFrom rfl rfl (fx_pi_lt (by decide)) (by decide) (Nat.le_of_ble_eq_true rfl) fx_n1 (s_X9_goodFrom (m := m1) hL1 (a := 0) (b := 0) (by decide)) rfl (fun r_ m_ hpost => ?_)
      obtain ⟨rfl, e2⟩ := hpost
      have e2 := e2.symm
      subst e2
      rw [P31 0 (by omega) (by omega) 0 hp2]
      refine e_istore_n dX9_whole_26 (by decide) rfl ?_
      refine e_aload_n dX9_whole_27 rfl ?_
      refine e_iload_n dX9_whole_28 rfl ?_
      refine e_callV1 (μ' := mX9_filled) (ci := 9) (As := [.int (p_mG t.1 t.2.1 na nd none 0 0)]) dX9_whole_29 wl_X9_263 ok_X9_filled rfl rfl (fx_pi_lt (by decide)) (by decide) (Nat.le_of_ble_eq_true rfl) fx_n1 (s_X9_filled (m := m1) hL1 (p_mG t.1 t.2.1 na nd none 0 0)) rfl ?_
      refine e_istore_n dX9_whole_32 (by decide) rfl ?_
      refine e_iload_n dX9_whole_33 rfl ?_
      refine e_if_ne 41 dX9_whole_34 rfl (fun c_0 => ?_) (fun c_0 => ?_)
      · refine e_sipush dX9_whole_41 kcs_1000 ?_
        refine e_iload_n dX9_whole_44 rfl ?_
        refine e_imul dX9_whole_45 ?_
        refine e_iload_n dX9_whole_46 rfl ?_
        refine e_isub dX9_whole_47 ?_
        have hq : q_mW (p_mG t.1 t.2.1 na nd none 0 0) w = (0, (1000 * (p_fil (p_mG t.1 t.2.1 na nd none 0 0))) - (p_mG t.1 t.2.1 na nd none 0 0)) := by unfold q_mW; rw [if_neg (Decidable.not_not.mpr ⟨Int32.not_lt.mp a_1, a_2⟩)]; first | rw [if_pos c_0] | rw [if_neg c_0]
        exact e_iret dX9_whole_48 rfl rfl rfl ⟨by rw [hq], by rw [hq]; exact K1⟩
      · refine e_iload_n dX9_whole_37 rfl ?_
        refine e_goto 48 dX9_whole_38 rfl ?_
        have hq : q_mW (p_mG t.1 t.2.1 na nd none 0 0) w = (0, p_fil (p_mG t.1 t.2.1 na nd none 0 0)) := by unfold q_mW; rw [if_neg (Decidable.not_not.mpr ⟨Int32.not_lt.mp a_1, a_2⟩)]; first | rw [if_pos c_0] | rw [if_neg c_0]
        exact e_iret dX9_whole_48 rfl rfl rfl ⟨by rw [hq], by rw [hq]; exact K1⟩
    · refine e_aload_n dX9_whole_9 rfl ?_
      refine e_bipush dX9_whole_10 kcb_m5 ?_
      refine e_callV1 (μ' := mX9_no) (ci := 9) (As := [.int (-5)]) dX9_whole_12 wl_X9_136 ok_X9_no rfl rfl (fx_pi_lt (by decide)) (by decide) (Nat.le_of_ble_eq_true rfl) fx_n1 (s_X9_no (m := m) hL (b := 5) (z := (-5)) (by decide) (by decide)) rfl ?_
      have hq : q_mW (p_mG t.1 t.2.1 na nd none 0 0) w = (5, -5) := by unfold q_mW; rw [if_pos (by rintro ⟨h1, h2⟩; first | exact absurd h1 (Int32.not_le.mpr a_1) | exact a_2 h2 | exact absurd h2 (Int32.not_le.mpr a_2))]; rfl
      exact e_iret dX9_whole_15 rfl rfl rfl ⟨by rw [hq], by rw [hq, show fx_mno m (5, (-5 : Int32)).1 = _ from fx_mno_n (by decide)]; exact fx_KP.refl _⟩
def fx_KD (m m' : fx_M) : Prop := m'.2 = m.2 ∧ (∀ o, o ≠ 83 → o ≠ 114 → o ≠ 115 → m'.1 o = m.1 o) ∧ ∀ j, j ≠ 44 → m'.1 83 j = m.1 83 j
theorem fx_KD.refl (m : fx_M) : fx_KD m m := ⟨rfl, fun _ _ _ _ => rfl, fun _ _ => rfl⟩
theorem fx_KD.lay {m m' : fx_M} (h : fx_KD m m') (hL : fx_Lay m) : fx_Lay m' := fun o k v hv => by rw [h.1]; exact hL o k v hv
theorem fx_KD.ms {m m' : fx_M} {na nd : Nat} {t : p_Sg} (h : fx_KD m m') (H : fx_MS m na nd t) : fx_MS m' na nd t := H.cg (fun o ho => h.2.1 o (by omega) (by omega) (by omega)) (fun j hj => h.2.2 j (by omega))
theorem fx_KD.w {m m' : fx_M} {v : Int32} (h : fx_KD m m') : fx_KD m (fx_sI m' 83 44 v) := ⟨h.1, fun o h1 h2 h3 => by rw [fx_sI_n _ _ _ h1]; exact h.2.1 o h1 h2 h3, fun j hj => by rw [fx_rd2 (Ne.symm hj)]; exact h.2.2 j hj⟩
theorem fx_KD.p {a b c : fx_M} (h : fx_KD a b) (g : fx_KP b c) : fx_KD a c := ⟨g.1.trans h.1, fun o h1 h2 h3 => (g.2 o h2 h3).trans (h.2.1 o h1 h2 h3), fun j hj => by rw [g.2 83 (by decide) (by decide)]; exact h.2.2 j hj⟩
theorem fx_KD.kp {m m' : fx_M} (h : fx_KD m m') (h0 : m.1 83 44 = -1) : fx_KP m (fx_sI m' 83 44 (-1)) := ⟨h.1, fun o h1 h2 => by
  by_cases c : o = 83
  · subst c
    funext j
    by_cases d : j = 44
    · subst d; rw [fx_rd0, h0]
    · rw [fx_rd2 (Ne.symm d), h.2.2 j d]
  · rw [fx_sI_n _ _ _ c]; exact h.2.1 o c h1 h2⟩
set_option maxRecDepth 100000 in
set_option maxHeartbeats 600000 in
theorem s_X9_dearestOf {Γ : fx_G} {m : fx_M} (hL : fx_Lay m) {na nd : Nat} {t : p_Sg} (H : fx_MS m na nd t) (hwo : m.1 83 44 = -1) : fx_Ct Γ mX9_dearestOf 5 119 119 [fx_rf Γ 83] m (fun r m' => r = some (.int (p_oi (p_fold (p_bst (fun x => t.1 x 6 = 99) (fun x => p_mG t.1 t.2.1 na nd (some x) 0 0)) na 0 none))) ∧ fx_KP m m') := by
  refine fx_Ct.of (j := 3) (by decide) (Nat.le_of_ble_eq_true rfl) (Nat.le_of_ble_eq_true rfl) ?_
  show fx_E Γ mX9_dearestOf 5 119 119 _ 119 m 0 [some (fx_rf Γ 83), none, none, none] []
  have h9 := H.2.2.2.2.2.1
  have h5 := H.2.2.2.2.2.2.1
  have hp2 := Nat.two_pow_pos na
  have h512 := p_pow9 h9
  have lp : ∀ (j : Nat) (k : Nat) (o : Option Nat) (l : Int32) (m2 : fx_M), k + j = na → (∀ x, o = some x → x < na) → (∀ x, o = some x → l = (fun x => p_mG t.1 t.2.1 na nd (some x) 0 0) x) → fx_KD m m2 → fx_E Γ mX9_dearestOf 5 119 119 (fun r m' => r = some (.int (p_oi (p_fold (p_bst (fun x => t.1 x 6 = 99) (fun x => p_mG t.1 t.2.1 na nd (some x) 0 0)) j k o))) ∧ fx_KP m m') 119 m2 6 [some (fx_rf Γ 83), some (.int (p_oi o)), some (.int l), some (.int (nI k))] [] := by
    intro j
    induction j with
    | zero =>
      intro k o l m2 hk ho hl K2
      have hL2 := K2.lay hL
      have H2 := K2.ms H
      refine e_iload_n dX9_dearestOf_6 rfl ?_
      refine e_aload_n dX9_dearestOf_7 rfl ?_
      refine e_getv (v := nI na) dX9_dearestOf_8 ff_X9_126 rfl (fx_pi_lt (by decide)) (by decide) rfl H2.1 ?_
      refine e_icmp_ge 70 dX9_dearestOf_11 rfl (fun _ => ?_) (fun h => absurd (nI_le (by omega) (by omega)) h)
      refine e_aload_n dX9_dearestOf_70 rfl ?_
      refine e_iconst dX9_dearestOf_71 kci_m1 ?_
      refine e_put dX9_dearestOf_72 ff_X9_114 rfl (fx_pi_lt (by decide)) (by decide) rfl (Or.inl rfl) ?_
      refine e_iload_n dX9_dearestOf_75 rfl ?_
      exact e_iret dX9_dearestOf_76 rfl rfl rfl ⟨rfl, K2.kp hwo⟩
    | succ j ih =>
      intro k o l m2 hk ho hl K2
      have hL2 := K2.lay hL
      have H2 := K2.ms H
      refine e_iload_n dX9_dearestOf_6 rfl ?_
      refine e_aload_n dX9_dearestOf_7 rfl ?_
      refine e_getv (v := nI na) dX9_dearestOf_8 ff_X9_126 rfl (fx_pi_lt (by decide)) (by decide) rfl H2.1 ?_
      refine e_icmp_ge 70 dX9_dearestOf_11 rfl (fun h => absurd h (nI_ge (by omega) (by omega))) (fun _ => ?_)
      refine e_aload_n dX9_dearestOf_14 rfl ?_
      refine e_getr (o2 := 91) dX9_dearestOf_15 ff_X9_38 rfl (fx_pi_lt (by decide)) (by decide) rfl (hL2 _ _ _ rfl) ?_
      refine e_iload_n dX9_dearestOf_18 rfl ?_
      refine e_ialdv (j := k) (v := t.1 k 6) dX9_dearestOf_19 rfl (fx_pi_lt (by decide)) rfl (by omega) (by decide) (H2.2.2.2.1 k (by omega) 6 (by decide)) ?_
      refine e_bipush dX9_dearestOf_20 kcb_99 ?_
      refine e_icmp_eq 28 dX9_dearestOf_22 rfl (fun c_p => ?_) (fun c_p => ?_)
      · refine e_aload_n dX9_dearestOf_28 rfl ?_
        refine e_iload_n dX9_dearestOf_29 rfl ?_
        refine e_put dX9_dearestOf_30 ff_X9_114 rfl (fx_pi_lt (by decide)) (by decide) rfl (Or.inl rfl) ?_
        have hLs : fx_Lay (fx_sI m2 83 44 (nI k)) := K2.w.lay hL
        have Hs : fx_MS (fx_sI m2 83 44 (nI k)) na nd t := K2.w.ms H
        refine e_aload_n dX9_dearestOf_33 rfl ?_
        refine e_callV (μ' := mX9_parts) (ci := 9) (As := []) dX9_dearestOf_34 wl_X9_260 ok_X9_parts rfl rfl (fx_pi_lt (by decide)) (by decide) (Nat.le_of_ble_eq_true rfl) fx_n1 (s_X9_parts (m := fx_sI m2 83 44 (nI k)) hLs Hs (o := some k) fx_rd0 (fun w e => by cases e; omega)) rfl (fun r_ m_ hpost => ?_)
        revert r_ m_
        intro r_ m3 hpost
        obtain ⟨rfl, K3, P13, P33⟩ := hpost
        have hL3 := K3.lay hLs
        have KD3 := K2.w.p K3
        refine e_iload_n dX9_dearestOf_37 rfl ?_
        refine e_iconst dX9_dearestOf_38 kci_m1 ?_
        refine e_icmp_eq 55 dX9_dearestOf_39 rfl (fun c_o => ?_) (fun c_o => ?_)
        · refine e_iload_n dX9_dearestOf_55 rfl ?_
          refine e_istore_n dX9_dearestOf_56 (by decide) rfl ?_
          refine e_aload_n dX9_dearestOf_57 rfl ?_
          refine e_iconst dX9_dearestOf_58 kci_0 ?_
          refine e_iconst dX9_dearestOf_59 kci_0 ?_
          refine e_callV (μ' := mX9_goodFrom) (ci := 9) (As := [.int 0, .int 0]) dX9_dearestOf_60 wl_X9_257 ok_X9_goodFrom rfl rfl (fx_pi_lt (by decide)) (by decide) (Nat.le_of_ble_eq_true rfl) fx_n1 (s_X9_goodFrom (m := m3) hL3 (a := 0) (b := 0) (by decide)) rfl (fun r_ m_ hpost => ?_)
          obtain ⟨rfl, e2⟩ := hpost
          have e2 := e2.symm
          subst e2
          rw [P33 0 (by omega) (by omega) 0 hp2]
          refine e_istore_n dX9_dearestOf_63 (by decide) rfl ?_
          refine e_iinc (v := nI (k + 1)) dX9_dearestOf_64 rfl (fx_inc _) (by decide) rfl ?_
          refine e_goto 6 dX9_dearestOf_67 rfl ?_
          have e : p_bst (fun x => t.1 x 6 = 99) (fun x => p_mG t.1 t.2.1 na nd (some x) 0 0) k o = some k := by first | exact p_bs_none c_p ((p_oi_ne (fun x hx => by have := ho x hx; omega)).mp c_o) | exact p_bs_lt c_p rfl c_l
          refine fx_E.post (post := (fun r m' => r = some (.int (p_oi (p_fold (p_bst (fun x => t.1 x 6 = 99) (fun x => p_mG t.1 t.2.1 na nd (some x) 0 0)) j (k + 1) (some k)))) ∧ fx_KP m m')) (fun r mm h => ⟨by rw [p_fold_s e]; exact h.1, h.2⟩) ?_
          exact ih (k + 1) (some k) _ m3 (by omega) (fun x hx => by cases hx; omega) (fun x hx => by cases hx; rfl) KD3
        · obtain ⟨b, rfl, hb⟩ := p_osome c_o ho
          have hlb := hl b rfl
          subst hlb
          refine e_aload_n dX9_dearestOf_42 rfl ?_
          refine e_iconst dX9_dearestOf_43 kci_0 ?_
          refine e_iconst dX9_dearestOf_44 kci_0 ?_
          refine e_callV (μ' := mX9_goodFrom) (ci := 9) (As := [.int 0, .int 0]) dX9_dearestOf_45 wl_X9_257 ok_X9_goodFrom rfl rfl (fx_pi_lt (by decide)) (by decide) (Nat.le_of_ble_eq_true rfl) fx_n1 (s_X9_goodFrom (m := m3) hL3 (a := 0) (b := 0) (by decide)) rfl (fun r_ m_ hpost => ?_)
          obtain ⟨rfl, e2⟩ := hpost
          have e2 := e2.symm
          subst e2
          rw [P33 0 (by omega) (by omega) 0 hp2]
          refine e_iload_n dX9_dearestOf_48 rfl ?_
          refine e_icmp_lt 55 dX9_dearestOf_49 rfl (fun c_l => ?_) (fun c_l => ?_)
          · refine e_iload_n dX9_dearestOf_55 rfl ?_
            refine e_istore_n dX9_dearestOf_56 (by decide) rfl ?_
            refine e_aload_n dX9_dearestOf_57 rfl ?_
            refine e_iconst dX9_dearestOf_58 kci_0 ?_
            refine e_iconst dX9_dearestOf_59 kci_0 ?_
            refine e_callV (μ' := mX9_goodFrom) (ci := 9) (As := [.int 0, .int 0]) dX9_dearestOf_60 wl_X9_257 ok_X9_goodFrom rfl rfl (fx_pi_lt (by decide)) (by decide) (Nat.le_of_ble_eq_true rfl) fx_n1 (s_X9_goodFrom (m := m3) hL3 (a := 0) (b := 0) (by decide)) rfl (fun r_ m_ hpost => ?_)
            obtain ⟨rfl, e2⟩ := hpost
            have e2 := e2.symm
            subst e2
            rw [P33 0 (by omega) (by omega) 0 hp2]
            refine e_istore_n dX9_dearestOf_63 (by decide) rfl ?_
            refine e_iinc (v := nI (k + 1)) dX9_dearestOf_64 rfl (fx_inc _) (by decide) rfl ?_
            refine e_goto 6 dX9_dearestOf_67 rfl ?_
            have e : p_bst (fun x => t.1 x 6 = 99) (fun x => p_mG t.1 t.2.1 na nd (some x) 0 0) k (some b) = some k := by first | exact p_bs_none c_p ((p_oi_ne (fun x hx => by have := ho x hx; omega)).mp c_o) | exact p_bs_lt c_p rfl c_l
            refine fx_E.post (post := (fun r m' => r = some (.int (p_oi (p_fold (p_bst (fun x => t.1 x 6 = 99) (fun x => p_mG t.1 t.2.1 na nd (some x) 0 0)) j (k + 1) (some k)))) ∧ fx_KP m m')) (fun r mm h => ⟨by rw [p_fold_s e]; exact h.1, h.2⟩) ?_
            exact ih (k + 1) (some k) _ m3 (by omega) (fun x hx => by cases hx; omega) (fun x hx => by cases hx; rfl) KD3
          · refine e_goto 64 dX9_dearestOf_52 rfl ?_
            refine e_iinc (v := nI (k + 1)) dX9_dearestOf_64 rfl (fx_inc _) (by decide) rfl ?_
            refine e_goto 6 dX9_dearestOf_67 rfl ?_
            have e : p_bst (fun x => t.1 x 6 = 99) (fun x => p_mG t.1 t.2.1 na nd (some x) 0 0) k (some b) = some b := p_bs_ge c_p rfl c_l
            refine fx_E.post (post := (fun r m' => r = some (.int (p_oi (p_fold (p_bst (fun x => t.1 x 6 = 99) (fun x => p_mG t.1 t.2.1 na nd (some x) 0 0)) j (k + 1) (some b)))) ∧ fx_KP m m')) (fun r mm h => ⟨by rw [p_fold_s e]; exact h.1, h.2⟩) ?_
            exact ih (k + 1) (some b) _ m3 (by omega) ho hl KD3
      · refine e_goto 64 dX9_dearestOf_25 rfl ?_
        refine e_iinc (v := nI (k + 1)) dX9_dearestOf_64 rfl (fx_inc _) (by decide) rfl ?_
        refine e_goto 6 dX9_dearestOf_67 rfl ?_
        have e : p_bst (fun x => t.1 x 6 = 99) (fun x => p_mG t.1 t.2.1 na nd (some x) 0 0) k o = o := p_bs_no c_p
        refine fx_E.post (post := (fun r m' => r = some (.int (p_oi (p_fold (p_bst (fun x => t.1 x 6 = 99) (fun x => p_mG t.1 t.2.1 na nd (some x) 0 0)) j (k + 1) o))) ∧ fx_KP m m')) (fun r mm h => ⟨by rw [p_fold_s e]; exact h.1, h.2⟩) ?_
        exact ih (k + 1) o _ m2 (by omega) ho hl K2
  refine e_iconst dX9_dearestOf_0 kci_m1 ?_
  refine e_istore_n dX9_dearestOf_1 (by decide) rfl ?_
  refine e_iconst dX9_dearestOf_2 kci_0 ?_
  refine e_istore_n dX9_dearestOf_3 (by decide) rfl ?_
  refine e_iconst dX9_dearestOf_4 kci_0 ?_
  refine e_istore_n dX9_dearestOf_5 (by decide) rfl ?_
  exact lp na 0 none 0 m (by omega) (fun x hx => by cases hx) (fun x hx => by cases hx) (fx_KD.refl m)
