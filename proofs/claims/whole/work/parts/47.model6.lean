theorem i_bitE {B k : Nat} (hB : B < 2 ^ 31) (hk : k < 32) : ((nI B >>> (nI k &&& 31)) &&& 1) = 1 ↔ B.testBit k = true := by
  constructor
  · intro h
    refine i_bit1 hB hk (fun h0 => ?_)
    rw [h0] at h
    exact absurd h (by decide)
  · intro h
    have h2 := mt (i_bit0 hB hk).mp (by rw [h]; decide)
    rw [i_shr hB hk, show (1 : Int32) = nI 1 from rfl, i_and] at h2 ⊢
    have : B / 2 ^ k &&& 1 ≤ 1 := Nat.and_le_right
    have h3 : B / 2 ^ k &&& 1 ≠ 0 := fun e => h2 (by rw [e]; rfl)
    rw [show B / 2 ^ k &&& 1 = 1 by omega]
theorem p_ctY {P : Nat → Prop} [DecidablePred P] {j k : Nat} {z : Int32} (h : P k) : p_fold (p_ct P) (j + 1) k z = p_fold (p_ct P) j (k + 1) (z + 1) := p_fold_s (if_pos h)
theorem p_ctN {P : Nat → Prop} [DecidablePred P] {j k : Nat} {z : Int32} (h : ¬ P k) : p_fold (p_ct P) (j + 1) k z = p_fold (p_ct P) j (k + 1) z := p_fold_s (if_neg h)
set_option maxRecDepth 100000 in
set_option maxHeartbeats 600000 in
theorem s_X9_inDrawer {Γ : fx_G} {m : fx_M} (hL : fx_Lay m) {na nd : Nat} {t : p_Sg} (H : fx_MS m na nd t) : fx_Ct Γ mX9_inDrawer 0 119 119 [fx_rf Γ 83] m (fx_is (some (.int (p_fold (p_ct (fun x => t.1 x 6 = 99)) na 0 0))) m) := by
  refine fx_Ct.of (j := 2) (by decide) (Nat.le_of_ble_eq_true rfl) (Nat.le_of_ble_eq_true rfl) ?_
  show fx_E Γ mX9_inDrawer 0 119 119 _ 119 m 0 [some (fx_rf Γ 83), none, none] []
  have h9 := H.2.2.2.2.2.1
  have h5 := H.2.2.2.2.2.2.1
  have lp : ∀ (j : Nat) (k : Nat) (z : Int32), k + j = na → fx_E Γ mX9_inDrawer 0 119 119 (fx_is (some (.int (p_fold (p_ct (fun x => t.1 x 6 = 99)) j k z))) m) 119 m 4 [some (fx_rf Γ 83), some (.int z), some (.int (nI k))] [] := by
    intro j
    induction j with
    | zero =>
      intro k z hk
      refine e_iload_n dX9_inDrawer_4 rfl ?_
      refine e_aload_n dX9_inDrawer_5 rfl ?_
      refine e_getv (v := nI na) dX9_inDrawer_6 ff_X9_126 rfl (fx_pi_lt (by decide)) (by decide) rfl H.1 ?_
      refine e_icmp_ge 32 dX9_inDrawer_9 rfl (fun _ => ?_) (fun h => absurd (nI_le (by omega) (by omega)) h)
      refine e_iload_n dX9_inDrawer_32 rfl ?_
      exact e_iret dX9_inDrawer_33 rfl rfl rfl ⟨rfl, rfl⟩
    | succ j ih =>
      intro k z hk
      refine e_iload_n dX9_inDrawer_4 rfl ?_
      refine e_aload_n dX9_inDrawer_5 rfl ?_
      refine e_getv (v := nI na) dX9_inDrawer_6 ff_X9_126 rfl (fx_pi_lt (by decide)) (by decide) rfl H.1 ?_
      refine e_icmp_ge 32 dX9_inDrawer_9 rfl (fun h => absurd h (nI_ge (by omega) (by omega))) (fun _ => ?_)
      refine e_aload_n dX9_inDrawer_12 rfl ?_
      refine e_getr (o2 := 91) dX9_inDrawer_13 ff_X9_38 rfl (fx_pi_lt (by decide)) (by decide) rfl (hL _ _ _ rfl) ?_
      refine e_iload_n dX9_inDrawer_16 rfl ?_
      refine e_ialdv (j := k) (v := t.1 k 6) dX9_inDrawer_17 rfl (fx_pi_lt (by decide)) rfl (by omega) (by decide) (H.2.2.2.1 _ (by omega) 6 (by decide)) ?_
      refine e_bipush dX9_inDrawer_18 kcb_99 ?_
      refine e_icmp_ne 26 dX9_inDrawer_20 rfl (fun c_p => ?_) (fun c_p => ?_)
      · refine e_iinc (v := nI (k + 1)) dX9_inDrawer_26 rfl (fx_inc _) (by decide) rfl ?_
        refine e_goto 4 dX9_inDrawer_29 rfl ?_
        rw [p_ctN (P := (fun x => t.1 x 6 = 99)) c_p]
        exact ih (k + 1) _ (by omega)
      · refine e_iinc (v := z + 1) dX9_inDrawer_23 rfl (fx_inc1 _) (by decide) rfl ?_
        refine e_iinc (v := nI (k + 1)) dX9_inDrawer_26 rfl (fx_inc _) (by decide) rfl ?_
        refine e_goto 4 dX9_inDrawer_29 rfl ?_
        rw [p_ctY (P := (fun x => t.1 x 6 = 99)) c_p]
        exact ih (k + 1) _ (by omega)
  refine e_iconst dX9_inDrawer_0 kci_0 ?_
  refine e_istore_n dX9_inDrawer_1 (by decide) rfl ?_
  refine e_iconst dX9_inDrawer_2 kci_0 ?_
  refine e_istore_n dX9_inDrawer_3 (by decide) rfl ?_
  exact lp na 0 _ (by omega)
set_option maxRecDepth 100000 in
set_option maxHeartbeats 600000 in
theorem s_X9_withBoth {Γ : fx_G} {m : fx_M} (hL : fx_Lay m) {na nd : Nat} {t : p_Sg} (H : fx_MS m na nd t) : fx_Ct Γ mX9_withBoth 1 119 119 [fx_rf Γ 83] m (fx_is (some (.int (p_fold (p_ct (p_both t.1 na)) nd 0 0))) m) := by
  refine fx_Ct.of (j := 2) (by decide) (Nat.le_of_ble_eq_true rfl) (Nat.le_of_ble_eq_true rfl) ?_
  show fx_E Γ mX9_withBoth 1 119 119 _ 119 m 0 [some (fx_rf Γ 83), none, none] []
  have h9 := H.2.2.2.2.2.1
  have h5 := H.2.2.2.2.2.2.1
  have lp : ∀ (j : Nat) (k : Nat) (z : Int32), k + j = nd → fx_E Γ mX9_withBoth 1 119 119 (fx_is (some (.int (p_fold (p_ct (p_both t.1 na)) j k z))) m) 119 m 4 [some (fx_rf Γ 83), some (.int z), some (.int (nI k))] [] := by
    intro j
    induction j with
    | zero =>
      intro k z hk
      refine e_iload_n dX9_withBoth_4 rfl ?_
      refine e_aload_n dX9_withBoth_5 rfl ?_
      refine e_getv (v := nI nd) dX9_withBoth_6 ff_X9_129 rfl (fx_pi_lt (by decide)) (by decide) rfl H.2.1 ?_
      refine e_icmp_ge 41 dX9_withBoth_9 rfl (fun _ => ?_) (fun h => absurd (nI_le (by omega) (by omega)) h)
      refine e_iload_n dX9_withBoth_41 rfl ?_
      exact e_iret dX9_withBoth_42 rfl rfl rfl ⟨rfl, rfl⟩
    | succ j ih =>
      intro k z hk
      refine e_iload_n dX9_withBoth_4 rfl ?_
      refine e_aload_n dX9_withBoth_5 rfl ?_
      refine e_getv (v := nI nd) dX9_withBoth_6 ff_X9_129 rfl (fx_pi_lt (by decide)) (by decide) rfl H.2.1 ?_
      refine e_icmp_ge 41 dX9_withBoth_9 rfl (fun h => absurd h (nI_ge (by omega) (by omega))) (fun _ => ?_)
      refine e_aload_n dX9_withBoth_12 rfl ?_
      refine e_iload_n dX9_withBoth_13 rfl ?_
      refine e_iconst dX9_withBoth_14 kci_0 ?_
      refine e_callV1 (μ' := mX9_armOn) (ci := 9) (As := [.int (nI k), .int 0]) dX9_withBoth_15 wl_X9_160 ok_X9_armOn rfl rfl (fx_pi_lt (by decide)) (by decide) (Nat.le_of_ble_eq_true rfl) fx_n1 (s_X9_armOn (m := m) hL H (nI k) 0) rfl ?_
      refine e_iconst dX9_withBoth_18 kci_m1 ?_
      refine e_icmp_eq 35 dX9_withBoth_19 rfl (fun c_p => ?_) (fun c_p => ?_)
      · refine e_iinc (v := nI (k + 1)) dX9_withBoth_35 rfl (fx_inc _) (by decide) rfl ?_
        refine e_goto 4 dX9_withBoth_38 rfl ?_
        rw [p_ctN (P := (p_both t.1 na)) (fun h => by first | exact h.1 c_p | exact h.2 c_q)]
        exact ih (k + 1) _ (by omega)
      · refine e_aload_n dX9_withBoth_22 rfl ?_
        refine e_iload_n dX9_withBoth_23 rfl ?_
        refine e_iconst dX9_withBoth_24 kci_1 ?_
        refine e_callV1 (μ' := mX9_armOn) (ci := 9) (As := [.int (nI k), .int 1]) dX9_withBoth_25 wl_X9_160 ok_X9_armOn rfl rfl (fx_pi_lt (by decide)) (by decide) (Nat.le_of_ble_eq_true rfl) fx_n1 (s_X9_armOn (m := m) hL H (nI k) 1) rfl ?_
        refine e_iconst dX9_withBoth_28 kci_m1 ?_
        refine e_icmp_eq 35 dX9_withBoth_29 rfl (fun c_q => ?_) (fun c_q => ?_)
        · refine e_iinc (v := nI (k + 1)) dX9_withBoth_35 rfl (fx_inc _) (by decide) rfl ?_
          refine e_goto 4 dX9_withBoth_38 rfl ?_
          rw [p_ctN (P := (p_both t.1 na)) (fun h => by first | exact h.1 c_p | exact h.2 c_q)]
          exact ih (k + 1) _ (by omega)
        · refine e_iinc (v := z + 1) dX9_withBoth_32 rfl (fx_inc1 _) (by decide) rfl ?_
          refine e_iinc (v := nI (k + 1)) dX9_withBoth_35 rfl (fx_inc _) (by decide) rfl ?_
          refine e_goto 4 dX9_withBoth_38 rfl ?_
          rw [p_ctY (P := (p_both t.1 na)) ⟨c_p, c_q⟩]
          exact ih (k + 1) _ (by omega)
  refine e_iconst dX9_withBoth_0 kci_0 ?_
  refine e_istore_n dX9_withBoth_1 (by decide) rfl ?_
  refine e_iconst dX9_withBoth_2 kci_0 ?_
  refine e_istore_n dX9_withBoth_3 (by decide) rfl ?_
  exact lp nd 0 _ (by omega)
set_option maxRecDepth 100000 in
set_option maxHeartbeats 600000 in
theorem s_X9_then {Γ : fx_G} {m : fx_M} (hL : fx_Lay m) {na nd : Nat} {t : p_Sg} (H : fx_MS m na nd t) (w : Int32) : fx_Ct Γ mX9_then 5 119 119 [fx_rf Γ 83, .int w] m (fx_is (some (.int (p_beh na nd t w))) m) := by
  refine fx_Ct.of (j := 2) (by decide) (Nat.le_of_ble_eq_true rfl) (Nat.le_of_ble_eq_true rfl) ?_
  show fx_E Γ mX9_then 5 119 119 _ 119 m 0 [some (fx_rf Γ 83), some (.int w), none, none] []
  have h9 := H.2.2.2.2.2.1
  have h5 := H.2.2.2.2.2.2.1
  refine e_iload_n dX9_then_0 rfl ?_
  refine e_if_ne 9 dX9_then_1 rfl (fun c_w => ?_) (fun c_w => ?_)
  · refine e_iconst dX9_then_9 kci_0 ?_
    refine e_istore_n dX9_then_10 (by decide) rfl ?_
    refine e_iconst dX9_then_11 kci_0 ?_
    refine e_istore_n dX9_then_12 (by decide) rfl ?_
    by_cases hw : w = 1
    · have lp : ∀ (j : Nat) (k : Nat) (z : Int32), k + j = nd → fx_E Γ mX9_then 5 119 119 (fx_is (some (.int (p_fold (p_sm (p_unl t.1 t.2.1 na)) j k z))) m) 119 m 13 [some (fx_rf Γ 83), some (.int w), some (.int z), some (.int (nI k))] [] := by
        intro j
        induction j with
        | zero =>
          intro k z hk
          refine e_iload_n dX9_then_13 rfl ?_
          refine e_aload_n dX9_then_14 rfl ?_
          refine e_getv (v := nI nd) dX9_then_15 ff_X9_129 rfl (fx_pi_lt (by decide)) (by decide) rfl H.2.1 ?_
          refine e_icmp_ge 56 dX9_then_18 rfl (fun _ => ?_) (fun h => absurd (nI_le (by omega) (by omega)) h)
          refine e_iload_n dX9_then_56 rfl ?_
          exact e_iret dX9_then_57 rfl rfl rfl ⟨rfl, rfl⟩
        | succ j ih =>
          intro k z hk
          refine e_iload_n dX9_then_13 rfl ?_
          refine e_aload_n dX9_then_14 rfl ?_
          refine e_getv (v := nI nd) dX9_then_15 ff_X9_129 rfl (fx_pi_lt (by decide)) (by decide) rfl H.2.1 ?_
          refine e_icmp_ge 56 dX9_then_18 rfl (fun h => absurd h (nI_ge (by omega) (by omega))) (fun _ => ?_)
          refine e_iload_n dX9_then_21 rfl ?_
          refine e_iload_n dX9_then_22 rfl ?_
          refine e_iconst dX9_then_23 kci_1 ?_
          refine e_icmp_ne 35 dX9_then_24 rfl (fun h => absurd h (not_not_intro hw)) (fun _ => ?_)
          refine e_aload_n dX9_then_27 rfl ?_
          refine e_iload_n dX9_then_28 rfl ?_
          refine e_callV1 (μ' := mX9_unlikeOn) (ci := 9) (As := [.int (nI k)]) dX9_then_29 wl_X9_166 ok_X9_unlikeOn rfl rfl (fx_pi_lt (by decide)) (by decide) (Nat.le_of_ble_eq_true rfl) fx_n1 (s_X9_unlikeOn (m := m) hL H (d := k) (by omega)) rfl ?_
          refine e_goto 48 dX9_then_32 rfl ?_
          refine e_iadd dX9_then_48 ?_
          refine e_istore_n dX9_then_49 (by decide) rfl ?_
          refine e_iinc (v := nI (k + 1)) dX9_then_50 rfl (fx_inc _) (by decide) rfl ?_
          refine e_goto 13 dX9_then_53 rfl ?_
          exact ih (k + 1) _ (by omega)
      rw [show p_beh na nd t w = p_ua1 t.1 t.2.1 na nd from by rw [p_beh, if_neg c_w, if_pos hw]]
      exact lp nd 0 _ (by omega)
    · have lp : ∀ (j : Nat) (k : Nat) (z : Int32), k + j = nd → fx_E Γ mX9_then 5 119 119 (fx_is (some (.int (p_fold (p_ct (p_her t.1 t.2.1 na)) j k z))) m) 119 m 13 [some (fx_rf Γ 83), some (.int w), some (.int z), some (.int (nI k))] [] := by
        intro j
        induction j with
        | zero =>
          intro k z hk
          refine e_iload_n dX9_then_13 rfl ?_
          refine e_aload_n dX9_then_14 rfl ?_
          refine e_getv (v := nI nd) dX9_then_15 ff_X9_129 rfl (fx_pi_lt (by decide)) (by decide) rfl H.2.1 ?_
          refine e_icmp_ge 56 dX9_then_18 rfl (fun _ => ?_) (fun h => absurd (nI_le (by omega) (by omega)) h)
          refine e_iload_n dX9_then_56 rfl ?_
          exact e_iret dX9_then_57 rfl rfl rfl ⟨rfl, rfl⟩
        | succ j ih =>
          intro k z hk
          refine e_iload_n dX9_then_13 rfl ?_
          refine e_aload_n dX9_then_14 rfl ?_
          refine e_getv (v := nI nd) dX9_then_15 ff_X9_129 rfl (fx_pi_lt (by decide)) (by decide) rfl H.2.1 ?_
          refine e_icmp_ge 56 dX9_then_18 rfl (fun h => absurd h (nI_ge (by omega) (by omega))) (fun _ => ?_)
          refine e_iload_n dX9_then_21 rfl ?_
          refine e_iload_n dX9_then_22 rfl ?_
          refine e_iconst dX9_then_23 kci_1 ?_
          refine e_icmp_ne 35 dX9_then_24 rfl (fun _ => ?_) (fun h => absurd h hw)
          refine e_aload_n dX9_then_35 rfl ?_
          refine e_iload_n dX9_then_36 rfl ?_
          refine e_callV1 (μ' := mX9_isHer) (ci := 9) (As := [.int (nI k)]) dX9_then_37 wl_X9_187 ok_X9_isHer rfl rfl (fx_pi_lt (by decide)) (by decide) (Nat.le_of_ble_eq_true rfl) fx_n1 (s_X9_isHer (m := m) hL H (d := k) (by omega)) rfl ?_
          refine e_if_eqB 47 dX9_then_40 rfl (fun c_h => ?_) (fun c_h => ?_)
          · refine e_iconst dX9_then_47 kci_0 ?_
            refine e_iadd dX9_then_48 ?_
            refine e_istore_n dX9_then_49 (by decide) rfl ?_
            refine e_iinc (v := nI (k + 1)) dX9_then_50 rfl (fx_inc _) (by decide) rfl ?_
            refine e_goto 13 dX9_then_53 rfl ?_
            rw [p_ctN (P := (p_her t.1 t.2.1 na)) c_h, show z + 0 = z from Int32.add_zero z]
            exact ih (k + 1) _ (by omega)
          · refine e_iconst dX9_then_43 kci_1 ?_
            refine e_goto 48 dX9_then_44 rfl ?_
            refine e_iadd dX9_then_48 ?_
            refine e_istore_n dX9_then_49 (by decide) rfl ?_
            refine e_iinc (v := nI (k + 1)) dX9_then_50 rfl (fx_inc _) (by decide) rfl ?_
            refine e_goto 13 dX9_then_53 rfl ?_
            rw [p_ctY (P := (p_her t.1 t.2.1 na)) c_h]
            exact ih (k + 1) _ (by omega)
      rw [show p_beh na nd t w = p_hs t.1 t.2.1 na nd from by rw [p_beh, if_neg c_w, if_neg hw]]
      exact lp nd 0 _ (by omega)
  · refine e_aload_n dX9_then_4 rfl ?_
    refine e_callV1 (μ' := mX9_withBoth) (ci := 9) (As := []) dX9_then_5 wl_X9_299 ok_X9_withBoth rfl rfl (fx_pi_lt (by decide)) (by decide) (Nat.le_of_ble_eq_true rfl) fx_n1 (s_X9_withBoth (m := m) hL H) rfl ?_
    exact e_iret dX9_then_8 rfl rfl rfl ⟨by rw [p_beh, if_pos c_w], rfl⟩
set_option maxRecDepth 100000 in
set_option maxHeartbeats 600000 in
theorem s_X9_sumOf {Γ : fx_G} {m : fx_M} (hL : fx_Lay m) {na nd : Nat} {t : p_Sg} (H : fx_MS m na nd t) {a B : Nat} (ha : a < 119) (hsh : fx_shapes[a]? = some (0, 5)) {f : Nat → Int32} (hf : ∀ d, d < nd → m.1 a d = f d) (hB : B < 2 ^ 31) : fx_Ct Γ mX9_sumOf 0 119 119 [fx_rf Γ 83, .int (nI B), fx_rf Γ a] m (fx_is (some (.int (p_sum B f nd))) m) := by
  refine fx_Ct.of (j := 2) (by decide) (Nat.le_of_ble_eq_true rfl) (Nat.le_of_ble_eq_true rfl) ?_
  show fx_E Γ mX9_sumOf 0 119 119 _ 119 m 0 [some (fx_rf Γ 83), some (.int (nI B)), some (fx_rf Γ a), none, none] []
  have h9 := H.2.2.2.2.2.1
  have h5 := H.2.2.2.2.2.2.1
  have lp : ∀ (j : Nat) (k : Nat) (z : Int32), k + j = nd → fx_E Γ mX9_sumOf 0 119 119 (fx_is (some (.int (p_fold (p_sms B f) j k z))) m) 119 m 5 [some (fx_rf Γ 83), some (.int (nI B)), some (fx_rf Γ a), some (.int z), some (.int (nI k))] [] := by
    intro j
    induction j with
    | zero =>
      intro k z hk
      refine e_iload dX9_sumOf_5 rfl ?_
      refine e_aload_n dX9_sumOf_7 rfl ?_
      refine e_getv (v := nI nd) dX9_sumOf_8 ff_X9_129 rfl (fx_pi_lt (by decide)) (by decide) rfl H.2.1 ?_
      refine e_icmp_ge 37 dX9_sumOf_11 rfl (fun _ => ?_) (fun h => absurd (nI_le (by omega) (by omega)) h)
      refine e_iload_n dX9_sumOf_37 rfl ?_
      exact e_iret dX9_sumOf_38 rfl rfl rfl ⟨rfl, rfl⟩
    | succ j ih =>
      intro k z hk
      refine e_iload dX9_sumOf_5 rfl ?_
      refine e_aload_n dX9_sumOf_7 rfl ?_
      refine e_getv (v := nI nd) dX9_sumOf_8 ff_X9_129 rfl (fx_pi_lt (by decide)) (by decide) rfl H.2.1 ?_
      refine e_icmp_ge 37 dX9_sumOf_11 rfl (fun h => absurd h (nI_ge (by omega) (by omega))) (fun _ => ?_)
      refine e_iload_n dX9_sumOf_14 rfl ?_
      refine e_iload dX9_sumOf_15 rfl ?_
      refine e_ishr dX9_sumOf_17 ?_
      refine e_iconst dX9_sumOf_18 kci_1 ?_
      refine e_iand dX9_sumOf_19 ?_
      refine e_iconst dX9_sumOf_20 kci_1 ?_
      refine e_icmp_ne 31 dX9_sumOf_21 rfl (fun c_b => ?_) (fun c_b => ?_)
      · refine e_iinc (v := nI (k + 1)) dX9_sumOf_31 rfl (fx_inc _) (by decide) rfl ?_
        refine e_goto 5 dX9_sumOf_34 rfl ?_
        rw [show p_fold (p_sms B f) (j + 1) k z = p_fold (p_sms B f) j (k + 1) z from p_fold_s (if_neg (fun h => c_b ((i_bitE hB (by omega)).mpr h)))]
        exact ih (k + 1) _ (by omega)
      · refine e_iload_n dX9_sumOf_24 rfl ?_
        refine e_aload_n dX9_sumOf_25 rfl ?_
        refine e_iload dX9_sumOf_26 rfl ?_
        refine e_ialdv (j := k) (v := f k) dX9_sumOf_28 hsh (fx_pi_lt (by omega)) rfl (by omega) (by decide) (hf _ (by omega)) ?_
        refine e_iadd dX9_sumOf_29 ?_
        refine e_istore_n dX9_sumOf_30 (by decide) rfl ?_
        refine e_iinc (v := nI (k + 1)) dX9_sumOf_31 rfl (fx_inc _) (by decide) rfl ?_
        refine e_goto 5 dX9_sumOf_34 rfl ?_
        rw [show p_fold (p_sms B f) (j + 1) k z = p_fold (p_sms B f) j (k + 1) (z + f k) from p_fold_s (if_pos ((i_bitE hB (by omega)).mp c_b))]
        exact ih (k + 1) _ (by omega)
  refine e_iconst dX9_sumOf_0 kci_0 ?_
  refine e_istore_n dX9_sumOf_1 (by decide) rfl ?_
  refine e_iconst dX9_sumOf_2 kci_0 ?_
  refine e_istore dX9_sumOf_3 (by decide) rfl ?_
  exact lp nd 0 _ (by omega)
theorem p_sum0 {f : Nat → Int32} : ∀ (j k : Nat), p_fold (p_sms 0 f) j k 0 = 0
  | 0, _ => rfl
  | j + 1, k => by
    show p_fold (p_sms 0 f) j (k + 1) (p_sms 0 f k 0) = 0
    rw [show p_sms 0 f k 0 = 0 from if_neg (by simp)]
    exact p_sum0 j (k + 1)
set_option maxRecDepth 100000 in
set_option maxHeartbeats 600000 in
theorem s_X9_feast {Γ : fx_G} {m : fx_M} (hL : fx_Lay m) {na nd : Nat} {t : p_Sg} (H : fx_MS m na nd t) (u : Int32) (w : Int32) : fx_Ct Γ mX9_feast 1 119 119 [fx_rf Γ 83, .int u, .int w] m (fx_is (some (.int (q_feast (fun d => t.2.1 d 4) (fun d => t.2.1 d 5) nd u w).2)) (fx_mno m (q_feast (fun d => t.2.1 d 4) (fun d => t.2.1 d 5) nd u w).1)) := by
  refine fx_Ct.of (j := 2) (by decide) (Nat.le_of_ble_eq_true rfl) (Nat.le_of_ble_eq_true rfl) ?_
  show fx_E Γ mX9_feast 1 119 119 _ 119 m 0 [some (fx_rf Γ 83), some (.int u), some (.int w), none, none] []
  have h9 := H.2.2.2.2.2.1
  have h5 := H.2.2.2.2.2.2.1
  refine e_iload_n dX9_feast_0 rfl ?_
  refine e_if_lt 9 dX9_feast_1 rfl (fun c_1 => ?_) (fun c_1 => ?_)
  · have c_w : ¬ p_in w 0 1 := by rintro ⟨h1, h2⟩; first | exact absurd h1 (Int32.not_le.mpr c_1) | exact c_1 h2
    refine e_aload_n dX9_feast_9 rfl ?_
    refine e_bipush dX9_feast_10 kcb_m5 ?_
    refine e_callV1 (μ' := mX9_no) (ci := 9) (As := [.int (-5)]) dX9_feast_12 wl_X9_136 ok_X9_no rfl rfl (fx_pi_lt (by decide)) (by decide) (Nat.le_of_ble_eq_true rfl) fx_n1 (s_X9_no (m := m) hL (b := 5) (z := (-5)) (by decide) (by decide)) rfl ?_
    have hq : q_feast (fun d => t.2.1 d 4) (fun d => t.2.1 d 5) nd u w = (5, (-5)) := by first | (unfold q_feast ; (try dsimp only); (try (first | rw [if_pos c_1] | rw [if_neg c_1] | rw [if_neg (Decidable.not_not.mpr c_1)])); (try (first | rw [if_pos c_w] | rw [if_neg c_w] | rw [if_neg (Decidable.not_not.mpr c_w)])); (first | done | rfl | decide)) | (exfalso; first | contradiction | (simp_all; done))
    exact e_iret dX9_feast_15 rfl rfl rfl ⟨by rw [hq], by rw [hq]; exact (fx_mno_n (by first | decide | omega)).symm⟩
  · refine e_iload_n dX9_feast_4 rfl ?_
    refine e_iconst dX9_feast_5 kci_1 ?_
    refine e_icmp_le 16 dX9_feast_6 rfl (fun c_2 => ?_) (fun c_2 => ?_)
    · have c_w : p_in w 0 1 := ⟨Int32.not_lt.mp c_1, c_2⟩
      refine e_aload_n dX9_feast_16 rfl ?_
      refine e_iload_n dX9_feast_17 rfl ?_
      refine e_iconst dX9_feast_18 kci_0 ?_
      refine e_sipush dX9_feast_19 kcs_400 ?_
      refine e_callV1 (μ' := mX9_isFrom) (ci := 9) (As := [.int u, .int 0, .int 400]) dX9_feast_22 wl_X9_172 ok_X9_isFrom rfl rfl (fx_pi_lt (by decide)) (by decide) (Nat.le_of_ble_eq_true rfl) fx_n1 (s_X9_isFrom (m := m) hL u 0 400) rfl ?_
      refine e_if_neB 35 dX9_feast_25 rfl (fun c_3 => ?_) (fun c_3 => ?_)
      · have c_u := c_3
        refine e_iconst dX9_feast_35 kci_0 ?_
        refine e_istore_n dX9_feast_36 (by decide) rfl ?_
        refine e_iconst dX9_feast_37 kci_1 ?_
        refine e_istore dX9_feast_38 (by decide) rfl ?_
        have h2n := p_two h5
        have lp : ∀ (j : Nat) (k s : Nat), k + j = 2 ^ nd → s < 2 ^ nd → (p_fst (fun d => t.2.1 d 4) (fun d => t.2.1 d 5) nd u = (p_fold (p_fe (fun d => t.2.1 d 4) (fun d => t.2.1 d 5) nd u) j k (s, p_sum s (fun d => t.2.1 d 5) nd)).1) → fx_E Γ mX9_feast 1 119 119 (fx_is (some (.int (q_feast (fun d => t.2.1 d 4) (fun d => t.2.1 d 5) nd u w).2)) (fx_mno m (q_feast (fun d => t.2.1 d 4) (fun d => t.2.1 d 5) nd u w).1)) 119 m 40 [some (fx_rf Γ 83), some (.int u), some (.int w), some (.int (nI s)), some (.int (nI k))] [] := by
          intro j
          induction j with
          | zero =>
            intro k s hk hs hfst
            refine e_iload dX9_feast_40 rfl ?_
            refine e_iconst dX9_feast_42 kci_1 ?_
            refine e_aload_n dX9_feast_43 rfl ?_
            refine e_getv (v := nI nd) dX9_feast_44 ff_X9_129 rfl (fx_pi_lt (by decide)) (by decide) rfl H.2.1 ?_
            refine e_ishl dX9_feast_47 ?_
            rw [i_shl1 (by omega)]
            refine e_icmp_ge 96 dX9_feast_48 rfl (fun _ => ?_) (fun h => absurd (nI_le (by omega) (by omega)) h)
            refine e_iload_n dX9_feast_96 rfl ?_
            refine e_if_ne 104 dX9_feast_97 rfl (fun c_0 => ?_) (fun c_0 => ?_)
            · refine e_aload_n dX9_feast_104 rfl ?_
              refine e_iload_n dX9_feast_105 rfl ?_
              refine e_aload_n dX9_feast_106 rfl ?_
              refine e_getr (o2 := 97) dX9_feast_107 ff_X9_56 rfl (fx_pi_lt (by decide)) (by decide) rfl (hL _ _ _ rfl) ?_
              refine e_callV1 (μ' := mX9_sumOf) (ci := 9) (As := [.int (nI s), fx_rf Γ 97]) dX9_feast_110 wl_X9_273 ok_X9_sumOf rfl rfl (fx_pi_lt (by decide)) (by decide) (Nat.le_of_ble_eq_true rfl) fx_n1 (s_X9_sumOf (m := m) hL H (a := 97) (B := s) (by decide) rfl (f := fun d => t.2.1 d 5) (fun d hd => H.2.2.2.2.1 d hd 5 (by decide)) (by omega)) rfl ?_
              have hB : p_fst (fun d => t.2.1 d 4) (fun d => t.2.1 d 5) nd u = s := by rw [hfst]; rfl
              have hq : q_feast (fun d => t.2.1 d 4) (fun d => t.2.1 d 5) nd u w = (0, p_sum s (fun d => t.2.1 d 5) nd) := by unfold q_feast; rw [if_neg (Decidable.not_not.mpr c_w), if_neg (Decidable.not_not.mpr c_u), hB]; first | rw [if_pos c_0] | rw [if_neg c_0]
              exact e_iret dX9_feast_113 rfl rfl rfl ⟨by rw [hq], by rw [hq]; rfl⟩
            · refine e_iload_n dX9_feast_100 rfl ?_
              refine e_goto 113 dX9_feast_101 rfl ?_
              have hB : p_fst (fun d => t.2.1 d 4) (fun d => t.2.1 d 5) nd u = s := by rw [hfst]; rfl
              have hq : q_feast (fun d => t.2.1 d 4) (fun d => t.2.1 d 5) nd u w = (0, nI s) := by unfold q_feast; rw [if_neg (Decidable.not_not.mpr c_w), if_neg (Decidable.not_not.mpr c_u), hB]; first | rw [if_pos c_0] | rw [if_neg c_0]
              exact e_iret dX9_feast_113 rfl rfl rfl ⟨by rw [hq], by rw [hq]; rfl⟩
          | succ j ih =>
            intro k s hk hs hfst
            refine e_iload dX9_feast_40 rfl ?_
            refine e_iconst dX9_feast_42 kci_1 ?_
            refine e_aload_n dX9_feast_43 rfl ?_
            refine e_getv (v := nI nd) dX9_feast_44 ff_X9_129 rfl (fx_pi_lt (by decide)) (by decide) rfl H.2.1 ?_
            refine e_ishl dX9_feast_47 ?_
            rw [i_shl1 (by omega)]
            refine e_icmp_ge 96 dX9_feast_48 rfl (fun h => absurd h (nI_ge (by omega) (by omega))) (fun _ => ?_)
            refine e_aload_n dX9_feast_51 rfl ?_
            refine e_iload dX9_feast_52 rfl ?_
            refine e_aload_n dX9_feast_54 rfl ?_
            refine e_getr (o2 := 96) dX9_feast_55 ff_X9_53 rfl (fx_pi_lt (by decide)) (by decide) rfl (hL _ _ _ rfl) ?_
            refine e_callV1 (μ' := mX9_sumOf) (ci := 9) (As := [.int (nI k), fx_rf Γ 96]) dX9_feast_58 wl_X9_273 ok_X9_sumOf rfl rfl (fx_pi_lt (by decide)) (by decide) (Nat.le_of_ble_eq_true rfl) fx_n1 (s_X9_sumOf (m := m) hL H (a := 96) (B := k) (by decide) rfl (f := fun d => t.2.1 d 4) (fun d hd => H.2.2.2.2.1 d hd 4 (by decide)) (by omega)) rfl ?_
            refine e_iload_n dX9_feast_61 rfl ?_
            refine e_icmp_gt 90 dX9_feast_62 rfl (fun c_g => ?_) (fun c_g => ?_)
            · refine e_iinc (v := nI (k + 1)) dX9_feast_90 rfl (fx_inc _) (by decide) rfl ?_
              refine e_goto 40 dX9_feast_93 rfl ?_
              rw [show p_fold (p_fe (fun d => t.2.1 d 4) (fun d => t.2.1 d 5) nd u) (j + 1) k (s, p_sum s (fun d => t.2.1 d 5) nd) = p_fold (p_fe (fun d => t.2.1 d 4) (fun d => t.2.1 d 5) nd u) j (k + 1) (s, p_sum s (fun d => t.2.1 d 5) nd) from p_fold_s (if_neg (fun h => by first | exact absurd h.1 (Int32.not_le.mpr c_g) | exact absurd h.2 (Int32.not_lt.mpr c_l)))] at hfst
              exact ih (k + 1) s (by omega) (by omega) hfst
            · refine e_aload_n dX9_feast_65 rfl ?_
              refine e_iload dX9_feast_66 rfl ?_
              refine e_aload_n dX9_feast_68 rfl ?_
              refine e_getr (o2 := 97) dX9_feast_69 ff_X9_56 rfl (fx_pi_lt (by decide)) (by decide) rfl (hL _ _ _ rfl) ?_
              refine e_callV1 (μ' := mX9_sumOf) (ci := 9) (As := [.int (nI k), fx_rf Γ 97]) dX9_feast_72 wl_X9_273 ok_X9_sumOf rfl rfl (fx_pi_lt (by decide)) (by decide) (Nat.le_of_ble_eq_true rfl) fx_n1 (s_X9_sumOf (m := m) hL H (a := 97) (B := k) (by decide) rfl (f := fun d => t.2.1 d 5) (fun d hd => H.2.2.2.2.1 d hd 5 (by decide)) (by omega)) rfl ?_
              refine e_aload_n dX9_feast_75 rfl ?_
              refine e_iload_n dX9_feast_76 rfl ?_
              refine e_aload_n dX9_feast_77 rfl ?_
              refine e_getr (o2 := 97) dX9_feast_78 ff_X9_56 rfl (fx_pi_lt (by decide)) (by decide) rfl (hL _ _ _ rfl) ?_
              refine e_callV1 (μ' := mX9_sumOf) (ci := 9) (As := [.int (nI s), fx_rf Γ 97]) dX9_feast_81 wl_X9_273 ok_X9_sumOf rfl rfl (fx_pi_lt (by decide)) (by decide) (Nat.le_of_ble_eq_true rfl) fx_n1 (s_X9_sumOf (m := m) hL H (a := 97) (B := s) (by decide) rfl (f := fun d => t.2.1 d 5) (fun d hd => H.2.2.2.2.1 d hd 5 (by decide)) (by omega)) rfl ?_
              refine e_icmp_le 90 dX9_feast_84 rfl (fun c_l => ?_) (fun c_l => ?_)
              · refine e_iinc (v := nI (k + 1)) dX9_feast_90 rfl (fx_inc _) (by decide) rfl ?_
                refine e_goto 40 dX9_feast_93 rfl ?_
                rw [show p_fold (p_fe (fun d => t.2.1 d 4) (fun d => t.2.1 d 5) nd u) (j + 1) k (s, p_sum s (fun d => t.2.1 d 5) nd) = p_fold (p_fe (fun d => t.2.1 d 4) (fun d => t.2.1 d 5) nd u) j (k + 1) (s, p_sum s (fun d => t.2.1 d 5) nd) from p_fold_s (if_neg (fun h => by first | exact absurd h.1 (Int32.not_le.mpr c_g) | exact absurd h.2 (Int32.not_lt.mpr c_l)))] at hfst
                exact ih (k + 1) s (by omega) (by omega) hfst
              · refine e_iload dX9_feast_87 rfl ?_
                refine e_istore_n dX9_feast_89 (by decide) rfl ?_
                refine e_iinc (v := nI (k + 1)) dX9_feast_90 rfl (fx_inc _) (by decide) rfl ?_
                refine e_goto 40 dX9_feast_93 rfl ?_
                rw [show p_fold (p_fe (fun d => t.2.1 d 4) (fun d => t.2.1 d 5) nd u) (j + 1) k (s, p_sum s (fun d => t.2.1 d 5) nd) = p_fold (p_fe (fun d => t.2.1 d 4) (fun d => t.2.1 d 5) nd u) j (k + 1) (k, p_sum k (fun d => t.2.1 d 5) nd) from p_fold_s (if_pos ⟨Int32.not_lt.mp c_g, Int32.not_le.mp c_l⟩)] at hfst
                exact ih (k + 1) k (by omega) (by omega) hfst
        refine lp (2 ^ nd - 1) 1 0 (by omega) (by omega) ?_
        rw [p_fst, show p_sum 0 (fun d => t.2.1 d 5) nd = 0 from p_sum0 nd 0]
      · refine e_aload_n dX9_feast_28 rfl ?_
        refine e_bipush dX9_feast_29 kcb_m6 ?_
        refine e_callV1 (μ' := mX9_no) (ci := 9) (As := [.int (-6)]) dX9_feast_31 wl_X9_136 ok_X9_no rfl rfl (fx_pi_lt (by decide)) (by decide) (Nat.le_of_ble_eq_true rfl) fx_n1 (s_X9_no (m := m) hL (b := 6) (z := (-6)) (by decide) (by decide)) rfl ?_
        have hq : q_feast (fun d => t.2.1 d 4) (fun d => t.2.1 d 5) nd u w = (6, (-6)) := by first | (unfold q_feast ; (try dsimp only); (try (first | rw [if_pos c_1] | rw [if_neg c_1] | rw [if_neg (Decidable.not_not.mpr c_1)])); (try (first | rw [if_pos c_2] | rw [if_neg c_2] | rw [if_neg (Decidable.not_not.mpr c_2)])); (try (first | rw [if_pos c_w] | rw [if_neg c_w] | rw [if_neg (Decidable.not_not.mpr c_w)])); (try (first | rw [if_pos c_3] | rw [if_neg c_3] | rw [if_neg (Decidable.not_not.mpr c_3)])); (first | done | rfl | decide)) | (exfalso; first | contradiction | (simp_all; done))
        exact e_iret dX9_feast_34 rfl rfl rfl ⟨by rw [hq], by rw [hq]; exact (fx_mno_n (by first | decide | omega)).symm⟩
    · have c_w : ¬ p_in w 0 1 := by rintro ⟨h1, h2⟩; first | exact absurd h1 (Int32.not_le.mpr c_2) | exact c_2 h2
      refine e_aload_n dX9_feast_9 rfl ?_
      refine e_bipush dX9_feast_10 kcb_m5 ?_
      refine e_callV1 (μ' := mX9_no) (ci := 9) (As := [.int (-5)]) dX9_feast_12 wl_X9_136 ok_X9_no rfl rfl (fx_pi_lt (by decide)) (by decide) (Nat.le_of_ble_eq_true rfl) fx_n1 (s_X9_no (m := m) hL (b := 5) (z := (-5)) (by decide) (by decide)) rfl ?_
      have hq : q_feast (fun d => t.2.1 d 4) (fun d => t.2.1 d 5) nd u w = (5, (-5)) := by first | (unfold q_feast ; (try dsimp only); (try (first | rw [if_pos c_1] | rw [if_neg c_1] | rw [if_neg (Decidable.not_not.mpr c_1)])); (try (first | rw [if_pos c_2] | rw [if_neg c_2] | rw [if_neg (Decidable.not_not.mpr c_2)])); (try (first | rw [if_pos c_w] | rw [if_neg c_w] | rw [if_neg (Decidable.not_not.mpr c_w)])); (first | done | rfl | decide)) | (exfalso; first | contradiction | (simp_all; done))
      exact e_iret dX9_feast_15 rfl rfl rfl ⟨by rw [hq], by rw [hq]; exact (fx_mno_n (by first | decide | omega)).symm⟩
