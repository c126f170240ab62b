/-- the reader's own slots alone are another -/
def fx_KZ (m m' : fx_M) : Prop := m'.2 = m.2 ∧ (∀ o, o ≠ 83 → m'.1 o = m.1 o) ∧ ∀ j, ¬ (36 ≤ j ∧ j ≤ 38) → m'.1 83 j = m.1 83 j
theorem fx_KZ.refl (m : fx_M) : fx_KZ m m := ⟨rfl, fun _ _ => rfl, fun _ _ => rfl⟩
theorem fx_KZ.trans {a b c : fx_M} (h : fx_KZ a b) (g : fx_KZ b c) : fx_KZ a c := ⟨g.1.trans h.1, fun o ho => (g.2.1 o ho).trans (h.2.1 o ho), fun j hj => (g.2.2 j hj).trans (h.2.2 j hj)⟩
theorem fx_KZ.lay {m m' : fx_M} (h : fx_KZ m m') (hL : fx_Lay m) : fx_Lay m' := fun o k v hv => by rw [h.1]; exact hL o k v hv
theorem fx_KZ.sI {m m' : fx_M} {j : Nat} {v : Int32} (h : fx_KZ m m') (hj : 36 ≤ j ∧ j ≤ 38) : fx_KZ m (fx_sI m' 83 j v) := ⟨h.1, fun o ho => by rw [fx_sI_n _ _ _ ho]; exact h.2.1 o ho, fun i hi => by rw [fx_rd2 (by rintro rfl; exact hi hj)]; exact h.2.2 i hi⟩
theorem fx_KZ.mr {m m' : fx_M} {k n p q : Nat} {tx : Nat → Int32} (h : fx_KZ m m') (R : fx_MR m k n tx p) (h3 : m'.1 83 36 = nI q) (hq : q ≤ n) : fx_MR m' k n tx q := R.cg h.1 (h.2.2 34 (by omega)) (h.2.2 35 (by omega)) h3 hq
def p_mrV (tx : Nat → Int32) (n p : Nat) : Int32 := if p_dg (p_tc tx n (p + 1)) then 10 * (p_tc tx n p - 48) + p_tc tx n (p + 1) - 48 else p_tc tx n p - 48
def p_mrP (tx : Nat → Int32) (n p : Nat) : Nat := if p_dg (p_tc tx n (p + 1)) then p + 2 else p + 1
theorem p_dg_lt {tx : Nat → Int32} {n p : Nat} (h : p_dg (p_tc tx n p)) : p < n := by
  rcases Nat.lt_or_ge p n with q | q
  · exact q
  · rw [show p_tc tx n p = -1 from if_neg (by omega)] at h
    exact absurd h (by decide)
set_option maxRecDepth 100000 in
set_option maxHeartbeats 600000 in
theorem s_X9_reads {Γ : fx_G} {m : fx_M} (hL : fx_Lay m) {k n p : Nat} {tx : Nat → Int32} (R : fx_MR m k n tx p) : fx_Ct Γ mX9_reads 1 119 119 [fx_rf Γ 83] m (fun r m' => fx_KZ m m' ∧ (p_dg (p_tc tx n p) → r = some (.int 1) ∧ m'.1 83 37 = p_mrV tx n p ∧ fx_MR m' k n tx (p_mrP tx n p)) ∧ (¬ p_dg (p_tc tx n p) → r = some (.int 0) ∧ m'.1 83 38 = nI p)) := by
  refine fx_Ct.of (j := 1) (by decide) (Nat.le_of_ble_eq_true rfl) (Nat.le_of_ble_eq_true rfl) ?_
  show fx_E Γ mX9_reads 1 119 119 _ 119 m 0 [some (fx_rf Γ 83), none] []
  refine e_aload_n dX9_reads_0 rfl ?_
  refine e_iconst dX9_reads_1 kci_0 ?_
  refine e_put dX9_reads_2 ff_X9_205 rfl (fx_pi_lt (by decide)) (by decide) rfl (Or.inl rfl) ?_
  have hk := R.2.2.2.1
  have hn := R.2.2.2.2.1
  have hp := R.2.2.2.2.2.1
  have Kz0 : fx_KZ m (fx_sI m 83 37 0) := (fx_KZ.refl m).sI (by omega)
  have R0 : fx_MR (fx_sI m 83 37 0) k n tx p := Kz0.mr R (by rw [fx_rd2 (by decide)]; exact R.2.2.1) hp
  refine e_aload_n dX9_reads_5 rfl ?_
  refine e_callV1 (μ' := mX9_isDigit) (ci := 9) (As := []) dX9_reads_6 wl_X9_208 ok_X9_isDigit rfl rfl (fx_pi_lt (by decide)) (by decide) (Nat.le_of_ble_eq_true rfl) fx_n1 (s_X9_isDigit (m := fx_sI m 83 37 0) (Kz0.lay hL) R0) rfl ?_
  refine e_if_neB 21 dX9_reads_9 rfl (fun c_d => ?_) (fun c_d => ?_)
  · refine e_iconst dX9_reads_21 kci_0 ?_
    refine e_istore_n dX9_reads_22 (by decide) rfl ?_
    refine e_iload_n dX9_reads_23 rfl ?_
    refine e_iconst dX9_reads_24 kci_2 ?_
    refine e_icmp_ge 81 dX9_reads_25 rfl (fun h => absurd h (by decide)) (fun _ => ?_)
    refine e_aload_n dX9_reads_28 rfl ?_
    refine e_callV1 (μ' := mX9_isDigit) (ci := 9) (As := []) dX9_reads_29 wl_X9_208 ok_X9_isDigit rfl rfl (fx_pi_lt (by decide)) (by decide) (Nat.le_of_ble_eq_true rfl) fx_n1 (s_X9_isDigit (m := fx_sI m 83 37 0) (Kz0.lay hL) R0) rfl ?_
    refine e_if_eqB 81 dX9_reads_32 rfl (fun h => absurd h (not_not_intro c_d)) (fun _ => ?_)
    refine e_aload_n dX9_reads_35 rfl ?_
    refine e_bipush dX9_reads_36 kcb_10 ?_
    refine e_aload_n dX9_reads_38 rfl ?_
    refine e_getv (v := 0) dX9_reads_39 ff_X9_205 rfl (fx_pi_lt (by decide)) (by decide) rfl fx_rd0 ?_
    refine e_imul dX9_reads_42 ?_
    have hpn := p_dg_lt c_d
    refine e_aload_n dX9_reads_43 rfl ?_
    refine e_getr (o2 := 104) dX9_reads_44 ff_X9_77 rfl (fx_pi_lt (by decide)) (by decide) rfl ((Kz0.lay hL) _ _ _ rfl) ?_
    refine e_aload_n dX9_reads_47 rfl ?_
    refine e_getv (v := nI (160 * k)) dX9_reads_48 ff_X9_202 rfl (fx_pi_lt (by decide)) (by decide) rfl R0.1 ?_
    refine e_aload_n dX9_reads_51 rfl ?_
    refine e_getv (v := nI p) dX9_reads_52 ff_X9_196 rfl (fx_pi_lt (by decide)) (by decide) rfl R0.2.2.1 ?_
    refine e_iadd dX9_reads_55 ?_
    refine e_lald (j := 160 * k + p) dX9_reads_56 rfl (fx_pi_lt (by decide)) (by rw [nI_add]) (by omega) (by decide) ?_
    refine e_l2i dX9_reads_57 ?_
    rw [R0.tc hpn]
    refine e_iadd dX9_reads_58 ?_
    refine e_bipush dX9_reads_59 kcb_48 ?_
    refine e_isub dX9_reads_61 ?_
    refine e_put dX9_reads_62 ff_X9_205 rfl (fx_pi_lt (by decide)) (by decide) rfl (Or.inl rfl) ?_
    refine e_aload_n dX9_reads_65 rfl ?_
    refine e_dup dX9_reads_66 rfl ?_
    refine e_getv (v := nI p) dX9_reads_67 ff_X9_196 rfl (fx_pi_lt (by decide)) (by decide) rfl (by rw [fx_rd2 (by decide)]; exact R0.2.2.1) ?_
    refine e_iconst dX9_reads_70 kci_1 ?_
    refine e_iadd dX9_reads_71 ?_
    rw [nI_1]
    refine e_put dX9_reads_72 ff_X9_196 rfl (fx_pi_lt (by decide)) (by decide) rfl (Or.inl rfl) ?_
    have hpn := p_dg_lt c_d
    obtain ⟨m1, hm1⟩ : ∃ z, z = fx_sI (fx_sI (fx_sI m 83 37 0) 83 37 (((10 * 0) + (p_tc tx n p)) - 48)) 83 36 (nI (p + 1)) := ⟨_, rfl⟩
    have Kz1 : fx_KZ m m1 := by rw [hm1]; exact (Kz0.sI (by omega)).sI (by omega)
    have R1 : fx_MR m1 k n tx (p + 1) := Kz1.mr R (by rw [hm1]; exact fx_rd0) (by omega)
    have hv1 : m1.1 83 37 = p_tc tx n p - 48 := by rw [hm1, fx_rd2 (by decide), fx_rd0]; simp
    rw [← hm1]
    refine e_iinc (v := 1) dX9_reads_75 rfl (by decide) (by decide) rfl ?_
    refine e_goto 23 dX9_reads_78 rfl ?_
    refine e_iload_n dX9_reads_23 rfl ?_
    refine e_iconst dX9_reads_24 kci_2 ?_
    refine e_icmp_ge 81 dX9_reads_25 rfl (fun h => absurd h (by decide)) (fun _ => ?_)
    refine e_aload_n dX9_reads_28 rfl ?_
    refine e_callV1 (μ' := mX9_isDigit) (ci := 9) (As := []) dX9_reads_29 wl_X9_208 ok_X9_isDigit rfl rfl (fx_pi_lt (by decide)) (by decide) (Nat.le_of_ble_eq_true rfl) fx_n1 (s_X9_isDigit (m := m1) (Kz1.lay hL) R1) rfl ?_
    refine e_if_eqB 81 dX9_reads_32 rfl (fun c_e => ?_) (fun c_e => ?_)
    · refine e_iconst dX9_reads_81 kci_1 ?_
      exact e_iret dX9_reads_82 rfl rfl rfl ⟨Kz1, fun _ => ⟨rfl, by rw [p_mrV, if_neg c_e]; exact hv1, by rw [p_mrP, if_neg c_e]; exact R1⟩, fun h => absurd c_d h⟩
    · refine e_aload_n dX9_reads_35 rfl ?_
      refine e_bipush dX9_reads_36 kcb_10 ?_
      refine e_aload_n dX9_reads_38 rfl ?_
      refine e_getv (v := (p_tc tx n p - 48)) dX9_reads_39 ff_X9_205 rfl (fx_pi_lt (by decide)) (by decide) rfl hv1 ?_
      refine e_imul dX9_reads_42 ?_
      have hpn1 := p_dg_lt c_e
      refine e_aload_n dX9_reads_43 rfl ?_
      refine e_getr (o2 := 104) dX9_reads_44 ff_X9_77 rfl (fx_pi_lt (by decide)) (by decide) rfl ((Kz1.lay hL) _ _ _ rfl) ?_
      refine e_aload_n dX9_reads_47 rfl ?_
      refine e_getv (v := nI (160 * k)) dX9_reads_48 ff_X9_202 rfl (fx_pi_lt (by decide)) (by decide) rfl R1.1 ?_
      refine e_aload_n dX9_reads_51 rfl ?_
      refine e_getv (v := nI (p + 1)) dX9_reads_52 ff_X9_196 rfl (fx_pi_lt (by decide)) (by decide) rfl R1.2.2.1 ?_
      refine e_iadd dX9_reads_55 ?_
      refine e_lald (j := 160 * k + (p + 1)) dX9_reads_56 rfl (fx_pi_lt (by decide)) (by rw [nI_add]) (by omega) (by decide) ?_
      refine e_l2i dX9_reads_57 ?_
      rw [R1.tc (p_dg_lt c_e)]
      refine e_iadd dX9_reads_58 ?_
      refine e_bipush dX9_reads_59 kcb_48 ?_
      refine e_isub dX9_reads_61 ?_
      refine e_put dX9_reads_62 ff_X9_205 rfl (fx_pi_lt (by decide)) (by decide) rfl (Or.inl rfl) ?_
      refine e_aload_n dX9_reads_65 rfl ?_
      refine e_dup dX9_reads_66 rfl ?_
      refine e_getv (v := nI (p + 1)) dX9_reads_67 ff_X9_196 rfl (fx_pi_lt (by decide)) (by decide) rfl (by rw [fx_rd2 (by decide)]; exact R1.2.2.1) ?_
      refine e_iconst dX9_reads_70 kci_1 ?_
      refine e_iadd dX9_reads_71 ?_
      rw [nI_1]
      refine e_put dX9_reads_72 ff_X9_196 rfl (fx_pi_lt (by decide)) (by decide) rfl (Or.inl rfl) ?_
      refine e_iinc (v := 2) dX9_reads_75 rfl (by decide) (by decide) rfl ?_
      refine e_goto 23 dX9_reads_78 rfl ?_
      refine e_iload_n dX9_reads_23 rfl ?_
      refine e_iconst dX9_reads_24 kci_2 ?_
      refine e_icmp_ge 81 dX9_reads_25 rfl (fun _ => ?_) (fun h => absurd (by decide) h)
      refine e_iconst dX9_reads_81 kci_1 ?_
      have Kz2 : fx_KZ m (fx_sI (fx_sI m1 83 37 (((10 * (p_tc tx n p - 48)) + (p_tc tx n (p + 1))) - 48)) 83 36 (nI (p + 2))) := (Kz1.sI (by omega)).sI (by omega)
      exact e_iret dX9_reads_82 rfl rfl rfl ⟨Kz2, fun _ => ⟨rfl, by rw [p_mrV, if_pos c_e, fx_rd2 (by decide), fx_rd0], by rw [p_mrP, if_pos c_e]; exact Kz2.mr R fx_rd0 (by have := p_dg_lt c_e; omega)⟩, fun h => absurd c_d h⟩
  · refine e_aload_n dX9_reads_12 rfl ?_
    refine e_aload_n dX9_reads_13 rfl ?_
    refine e_getv (v := nI p) dX9_reads_14 ff_X9_196 rfl (fx_pi_lt (by decide)) (by decide) rfl R0.2.2.1 ?_
    refine e_callV1 (μ' := mX9_wrong) (ci := 9) (As := [.int (nI p)]) dX9_reads_17 wl_X9_212 ok_X9_wrong rfl rfl (fx_pi_lt (by decide)) (by decide) (Nat.le_of_ble_eq_true rfl) fx_n1 (s_X9_wrong (m := fx_sI m 83 37 0) (Kz0.lay hL) (nI p)) rfl ?_
    exact e_iret dX9_reads_20 rfl rfl rfl ⟨Kz0.sI (by omega), fun h => absurd h c_d, fun _ => ⟨rfl, fx_rd0⟩⟩
