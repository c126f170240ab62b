/-! the reference's reader: the text of shelf k, n letters tx, read as far as p -/
def fx_MR (m : fx_M) (k n : Nat) (tx : Nat → Int32) (p : Nat) : Prop := m.1 83 34 = nI (160 * k) ∧ m.1 83 35 = nI n ∧ m.1 83 36 = nI p ∧ k < 8 ∧ n ≤ 160 ∧ p ≤ n ∧ ∀ j, j < n → (m.2.1 104 (160 * k + j)).toInt32 = tx j
theorem fx_MR.cg {m m' : fx_M} {k n p q : Nat} {tx : Nat → Int32} (R : fx_MR m k n tx p) (h : m'.2 = m.2) (h1 : m'.1 83 34 = m.1 83 34) (h2 : m'.1 83 35 = m.1 83 35) (h3 : m'.1 83 36 = nI q) (hq : q ≤ n) : fx_MR m' k n tx q := ⟨h1.trans R.1, h2.trans R.2.1, h3, R.2.2.2.1, R.2.2.2.2.1, hq, fun j hj => by rw [h]; exact R.2.2.2.2.2.2 j hj⟩
theorem fx_MR.tc {m : fx_M} {k n p : Nat} {tx : Nat → Int32} (R : fx_MR m k n tx p) (h : p < n) : (m.2.1 104 (160 * k + p)).toInt32 = p_tc tx n p := by
  rw [R.2.2.2.2.2.2 p h, p_tc, if_pos h]
set_option maxRecDepth 100000 in
set_option maxHeartbeats 600000 in
theorem s_X9_wrong {Γ : fx_G} {m : fx_M} (hL : fx_Lay m) (v : Int32) : fx_Ct Γ mX9_wrong 0 119 119 [fx_rf Γ 83, .int v] m (fx_is (some (.int 0)) (fx_sI m 83 38 v)) := by
  refine fx_Ct.of (j := 0) (by decide) (Nat.le_of_ble_eq_true rfl) (Nat.le_of_ble_eq_true rfl) ?_
  show fx_E Γ mX9_wrong 0 119 119 _ 119 m 0 [some (fx_rf Γ 83), some (.int v)] []
  refine e_aload_n dX9_wrong_0 rfl ?_
  refine e_iload_n dX9_wrong_1 rfl ?_
  refine e_put dX9_wrong_2 ff_X9_193 rfl (fx_pi_lt (by decide)) (by decide) rfl (Or.inl rfl) ?_
  refine e_iconst dX9_wrong_5 kci_0 ?_
  exact e_iret dX9_wrong_6 rfl rfl rfl ⟨rfl, rfl⟩
set_option maxRecDepth 100000 in
set_option maxHeartbeats 600000 in
theorem s_X9_isDigit {Γ : fx_G} {m : fx_M} (hL : fx_Lay m) {k n p : Nat} {tx : Nat → Int32} (R : fx_MR m k n tx p) : fx_Ct Γ mX9_isDigit 0 119 119 [fx_rf Γ 83] m (fx_is (some (.int (if p_dg (p_tc tx n p) then 1 else 0))) m) := by
  refine fx_Ct.of (j := 0) (by decide) (Nat.le_of_ble_eq_true rfl) (Nat.le_of_ble_eq_true rfl) ?_
  show fx_E Γ mX9_isDigit 0 119 119 _ 119 m 0 [some (fx_rf Γ 83)] []
  obtain ⟨q1, q2, q3, hk, hn, hp, q7⟩ := R
  have R : fx_MR m k n tx p := ⟨q1, q2, q3, hk, hn, hp, q7⟩
  refine e_aload_n dX9_isDigit_0 rfl ?_
  refine e_getv (v := nI p) dX9_isDigit_1 ff_X9_196 rfl (fx_pi_lt (by decide)) (by decide) rfl q3 ?_
  refine e_aload_n dX9_isDigit_4 rfl ?_
  refine e_getv (v := nI n) dX9_isDigit_5 ff_X9_199 rfl (fx_pi_lt (by decide)) (by decide) rfl q2 ?_
  refine e_icmp_ge 55 dX9_isDigit_8 rfl (fun c_e => ?_) (fun c_e => ?_)
  · refine e_iconst dX9_isDigit_55 kci_0 ?_
    have e : p_tc tx n p = -1 := if_neg (fun q => (nI_ge (a := p) (b := n) q (by omega)) c_e)
    exact e_iret dX9_isDigit_56 rfl rfl rfl ⟨by rw [e, if_neg (show ¬ p_dg (-1) by decide)], rfl⟩
  · have hpn : p < n := by have q := mt (nI_le (a := n) (b := p)) ; rcases Nat.lt_or_ge p n with h | h; exact h; exact absurd (nI_le h (by omega)) c_e
    refine e_aload_n dX9_isDigit_11 rfl ?_
    refine e_getr (o2 := 104) dX9_isDigit_12 ff_X9_77 rfl (fx_pi_lt (by decide)) (by decide) rfl (hL _ _ _ rfl) ?_
    refine e_aload_n dX9_isDigit_15 rfl ?_
    refine e_getv (v := nI (160 * k)) dX9_isDigit_16 ff_X9_202 rfl (fx_pi_lt (by decide)) (by decide) rfl q1 ?_
    refine e_aload_n dX9_isDigit_19 rfl ?_
    refine e_getv (v := nI p) dX9_isDigit_20 ff_X9_196 rfl (fx_pi_lt (by decide)) (by decide) rfl q3 ?_
    refine e_iadd dX9_isDigit_23 ?_
    refine e_lald (j := 160 * k + p) dX9_isDigit_24 rfl (fx_pi_lt (by decide)) (by rw [nI_add]) (by omega) (by decide) ?_
    refine e_l2i dX9_isDigit_25 ?_
    rw [R.tc hpn]
    refine e_bipush dX9_isDigit_26 kcb_48 ?_
    refine e_icmp_lt 55 dX9_isDigit_28 rfl (fun a_1 => ?_) (fun a_1 => ?_)
    · refine e_iconst dX9_isDigit_55 kci_0 ?_
      exact e_iret dX9_isDigit_56 rfl rfl rfl ⟨by rw [if_neg (show ¬ p_dg (p_tc tx n p) by rintro ⟨h1, h2⟩; first | exact absurd h1 (Int32.not_le.mpr a_1) | exact absurd h2 (Int32.not_le.mpr a_2))], rfl⟩
    · refine e_aload_n dX9_isDigit_31 rfl ?_
      refine e_getr (o2 := 104) dX9_isDigit_32 ff_X9_77 rfl (fx_pi_lt (by decide)) (by decide) rfl (hL _ _ _ rfl) ?_
      refine e_aload_n dX9_isDigit_35 rfl ?_
      refine e_getv (v := nI (160 * k)) dX9_isDigit_36 ff_X9_202 rfl (fx_pi_lt (by decide)) (by decide) rfl q1 ?_
      refine e_aload_n dX9_isDigit_39 rfl ?_
      refine e_getv (v := nI p) dX9_isDigit_40 ff_X9_196 rfl (fx_pi_lt (by decide)) (by decide) rfl q3 ?_
      refine e_iadd dX9_isDigit_43 ?_
      refine e_lald (j := 160 * k + p) dX9_isDigit_44 rfl (fx_pi_lt (by decide)) (by rw [nI_add]) (by omega) (by decide) ?_
      refine e_l2i dX9_isDigit_45 ?_
      rw [R.tc hpn]
      refine e_bipush dX9_isDigit_46 kcb_57 ?_
      refine e_icmp_gt 55 dX9_isDigit_48 rfl (fun a_2 => ?_) (fun a_2 => ?_)
      · refine e_iconst dX9_isDigit_55 kci_0 ?_
        exact e_iret dX9_isDigit_56 rfl rfl rfl ⟨by rw [if_neg (show ¬ p_dg (p_tc tx n p) by rintro ⟨h1, h2⟩; first | exact absurd h1 (Int32.not_le.mpr a_1) | exact absurd h2 (Int32.not_le.mpr a_2))], rfl⟩
      · refine e_iconst dX9_isDigit_51 kci_1 ?_
        refine e_goto 56 dX9_isDigit_52 rfl ?_
        exact e_iret dX9_isDigit_56 rfl rfl rfl ⟨by rw [if_pos (show p_dg (p_tc tx n p) from ⟨Int32.not_lt.mp a_1, Int32.not_lt.mp a_2⟩)], rfl⟩
