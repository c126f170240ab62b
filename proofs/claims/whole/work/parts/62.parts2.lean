set_option maxRecDepth 100000 in
set_option maxHeartbeats 600000 in
theorem s_X9_parts1 {Γ : fx_G} {m : fx_M} (hL : fx_Lay m) {na nd : Nat} {t : p_Sg} (H : fx_MS m na nd t) {o : Option Nat} (hwo : m.1 83 44 = p_oi o) (ho : ∀ w, o = some w → w < na) (lpA : ∀ m1 : fx_M, fx_KP m m1 → fx_p1 m1 t na o (2 * nd) → fx_E Γ mX9_parts 4 119 119 (fun r m' => r = none ∧ fx_KP m m' ∧ fx_p1 m' t na o (2 * nd) ∧ fx_p3 m' t na nd o 0) 119 m1 76 [some (fx_rf Γ 83), some (.int 0), none, none, none, none] []) : fx_Ct Γ mX9_parts 4 119 119 [fx_rf Γ 83] m (fun r m' => r = none ∧ fx_KP m m' ∧ fx_p1 m' t na o (2 * nd) ∧ fx_p3 m' t na nd o 0) := by
  refine fx_Ct.of (j := 5) (by decide) (Nat.le_of_ble_eq_true rfl) (Nat.le_of_ble_eq_true rfl) ?_
  show fx_E Γ mX9_parts 4 119 119 _ 119 m 0 [some (fx_rf Γ 83), none, none, none, none, none] []
  have h9 := H.2.2.2.2.2.1
  have h5 := H.2.2.2.2.2.2.1
  refine e_iconst dX9_parts_0 kci_0 ?_
  refine e_istore_n dX9_parts_1 (by decide) rfl ?_
  have lp1 : ∀ (j : Nat) (i : Nat) (m1 : fx_M), i + j = 2 * nd → fx_KP m m1 → fx_p1 m1 t na o i → fx_E Γ mX9_parts 4 119 119 (fun r m' => r = none ∧ fx_KP m m' ∧ fx_p1 m' t na o (2 * nd) ∧ fx_p3 m' t na nd o 0) 119 m1 2 [some (fx_rf Γ 83), some (.int (nI i)), none, none, none, none] [] := by
    intro j
    induction j with
    | zero =>
      intro i m1 hi K1 P1
      have hL1 := K1.lay hL
      have H1 := K1.ms H
      obtain rfl : i = 2 * nd := by omega
      refine e_iload_n dX9_parts_2 rfl ?_
      refine e_iconst dX9_parts_3 kci_2 ?_
      refine e_aload_n dX9_parts_4 rfl ?_
      refine e_getv (v := nI nd) dX9_parts_5 ff_X9_129 rfl (fx_pi_lt (by decide)) (by decide) rfl (show m1.1 83 1 = nI nd from H1.2.1) ?_
      refine e_imul dX9_parts_8 ?_
      rw [show (2 : Int32) * nI nd = nI (2 * nd) from i_mulc 2 nd]
      refine e_icmp_ge 74 dX9_parts_9 rfl (fun _ => ?_) (fun h => absurd (nI_le (by omega) (by omega)) h)
      refine e_iconst dX9_parts_74 kci_0 ?_
      refine e_istore_n dX9_parts_75 (by decide) rfl ?_
      exact lpA m1 K1 P1
    | succ j ih =>
      intro i m1 hi K1 P1
      have hL1 := K1.lay hL
      have H1 := K1.ms H
      refine e_iload_n dX9_parts_2 rfl ?_
      refine e_iconst dX9_parts_3 kci_2 ?_
      refine e_aload_n dX9_parts_4 rfl ?_
      refine e_getv (v := nI nd) dX9_parts_5 ff_X9_129 rfl (fx_pi_lt (by decide)) (by decide) rfl (show m1.1 83 1 = nI nd from H1.2.1) ?_
      refine e_imul dX9_parts_8 ?_
      rw [show (2 : Int32) * nI nd = nI (2 * nd) from i_mulc 2 nd]
      refine e_icmp_ge 74 dX9_parts_9 rfl (fun h => absurd h (nI_ge (by omega) (by omega))) (fun _ => ?_)
      refine e_aload_n dX9_parts_12 rfl ?_
      refine e_getr (o2 := 115) dX9_parts_13 ff_X9_111 rfl (fx_pi_lt (by decide)) (by decide) rfl (hL1 _ _ _ rfl) ?_
      refine e_iload_n dX9_parts_16 rfl ?_
      refine e_aload_n dX9_parts_17 rfl ?_
      refine e_iload_n dX9_parts_18 rfl ?_
      refine e_iconst dX9_parts_19 kci_2 ?_
      refine e_idiv dX9_parts_20 (by decide) ?_
      rw [p_div2 i (by omega)]
      refine e_iload_n dX9_parts_21 rfl ?_
      refine e_iconst dX9_parts_22 kci_2 ?_
      refine e_irem dX9_parts_23 (by decide) ?_
      rw [p_div2 i (by omega), p_rem2 i (by omega)]
      refine e_callV1 (μ' := mX9_mayBe) (ci := 9) (As := [.int (nI (i / 2)), .int (nI (i % 2))]) dX9_parts_24 wl_X9_254 ok_X9_mayBe rfl rfl (fx_pi_lt (by decide)) (by decide) (Nat.le_of_ble_eq_true rfl) fx_n1 (s_X9_mayBe (m := m1) hL1 H1 (d := i / 2) (by omega) (nI (i % 2))) rfl ?_
      refine e_iast (j := i) dX9_parts_27 rfl (fx_pi_lt (by decide)) rfl (by omega) (by decide) ?_
      refine e_aload_n dX9_parts_28 rfl ?_
      refine e_getv (v := p_oi o) dX9_parts_29 ff_X9_114 rfl (fx_pi_lt (by decide)) (by decide) rfl (show (fx_sI m1 115 i (nI (p_sN (p_PC t.1 t.2.1 na i) na))).1 83 44 = _ from by rw [show (fx_sI m1 115 i (nI (p_sN (p_PC t.1 t.2.1 na i) na))).1 83 = m.1 83 from (by rw [fx_sI_n _ _ _ (by decide)]; exact K1.2 83 (by decide) (by decide))]; exact hwo) ?_
      refine e_iconst dX9_parts_32 kci_m1 ?_
      refine e_icmp_eq 68 dX9_parts_33 rfl (fun c_o => ?_) (fun c_o => ?_)
      · refine e_iinc (v := nI (i + 1)) dX9_parts_68 rfl (fx_inc _) (by decide) rfl ?_
        refine e_goto 2 dX9_parts_71 rfl ?_
        have ho0 : o = none := (p_oi_ne (fun x hx => by have := ho x hx; omega)).mp c_o
        have ev : nI (p_sN (p_PC t.1 t.2.1 na i) na) = nI (p_sN (p_PD t.1 t.2.1 na o i) na) := congrArg nI (p_sN_congr (fun k _ => ⟨fun q => ⟨q, by rw [ho0]; exact fun e => by cases e⟩, fun q => q.1⟩))
        have K2 : fx_KP m (fx_sI m1 115 i (nI (p_sN (p_PC t.1 t.2.1 na i) na))) := (K1.sI (Or.inr rfl))
        exact ih (i + 1) _ (by omega) K2 (fun j hj => by by_cases q : j = i; (subst q; rw [fx_rd0]; exact ev); (rw [fx_rd2 (Ne.symm q)]; exact P1 j (by omega)))
      · obtain ⟨w, rfl, hw⟩ := p_osome c_o ho
        have hB : p_sN (p_PC t.1 t.2.1 na i) na < 2 ^ 31 := Nat.lt_of_lt_of_le (p_sN_lt _ na) (Nat.pow_le_pow_right (by decide) (by omega))
        refine e_aload_n dX9_parts_36 rfl ?_
        refine e_getr (o2 := 115) dX9_parts_37 ff_X9_111 rfl (fx_pi_lt (by decide)) (by decide) rfl (hL1 _ _ _ rfl) ?_
        refine e_iload_n dX9_parts_40 rfl ?_
        refine e_ialdv (j := i) (v := nI (p_sN (p_PC t.1 t.2.1 na i) na)) dX9_parts_41 rfl (fx_pi_lt (by decide)) rfl (by omega) (by decide) fx_rd0 ?_
        refine e_aload_n dX9_parts_42 rfl ?_
        refine e_getv (v := nI w) dX9_parts_43 ff_X9_114 rfl (fx_pi_lt (by decide)) (by decide) rfl (show (fx_sI m1 115 i (nI (p_sN (p_PC t.1 t.2.1 na i) na))).1 83 44 = _ from by rw [show (fx_sI m1 115 i (nI (p_sN (p_PC t.1 t.2.1 na i) na))).1 83 = m.1 83 from (by rw [fx_sI_n _ _ _ (by decide)]; exact K1.2 83 (by decide) (by decide))]; exact hwo) ?_
        refine e_ishr dX9_parts_46 ?_
        refine e_iconst dX9_parts_47 kci_1 ?_
        refine e_iand dX9_parts_48 ?_
        refine e_iconst dX9_parts_49 kci_1 ?_
        refine e_icmp_ne 68 dX9_parts_50 rfl (fun c_b => ?_) (fun c_b => ?_)
        · refine e_iinc (v := nI (i + 1)) dX9_parts_68 rfl (fx_inc _) (by decide) rfl ?_
          refine e_goto 2 dX9_parts_71 rfl ?_
          have hw1 : ¬ (p_PC t.1 t.2.1 na i) w := fun q => c_b ((i_bitE hB (by omega)).mpr (by rw [p_sN_bit]; exact decide_eq_true ⟨hw, q⟩))
          have ev : nI (p_sN (p_PC t.1 t.2.1 na i) na) = nI (p_sN (p_PD t.1 t.2.1 na (some w) i) na) := congrArg nI ((p_sN_rm (P := (p_PC t.1 t.2.1 na i)) (w := w) (n := na)).2 (Or.inr hw1)).symm
          have K2 : fx_KP m (fx_sI m1 115 i (nI (p_sN (p_PC t.1 t.2.1 na i) na))) := (K1.sI (Or.inr rfl))
          exact ih (i + 1) _ (by omega) K2 (fun j hj => by by_cases q : j = i; (subst q; rw [fx_rd0]; exact ev); (rw [fx_rd2 (Ne.symm q)]; exact P1 j (by omega)))
        · refine e_aload_n dX9_parts_53 rfl ?_
          refine e_getr (o2 := 115) dX9_parts_54 ff_X9_111 rfl (fx_pi_lt (by decide)) (by decide) rfl (hL1 _ _ _ rfl) ?_
          refine e_iload_n dX9_parts_57 rfl ?_
          refine e_dup2 dX9_parts_58 rfl rfl ?_
          refine e_ialdv (j := i) (v := nI (p_sN (p_PC t.1 t.2.1 na i) na)) dX9_parts_59 rfl (fx_pi_lt (by decide)) rfl (by omega) (by decide) fx_rd0 ?_
          refine e_iconst dX9_parts_60 kci_1 ?_
          refine e_aload_n dX9_parts_61 rfl ?_
          refine e_getv (v := nI w) dX9_parts_62 ff_X9_114 rfl (fx_pi_lt (by decide)) (by decide) rfl (show (fx_sI m1 115 i (nI (p_sN (p_PC t.1 t.2.1 na i) na))).1 83 44 = _ from by rw [show (fx_sI m1 115 i (nI (p_sN (p_PC t.1 t.2.1 na i) na))).1 83 = m.1 83 from (by rw [fx_sI_n _ _ _ (by decide)]; exact K1.2 83 (by decide) (by decide))]; exact hwo) ?_
          refine e_ishl dX9_parts_65 ?_
          refine e_isub dX9_parts_66 ?_
          refine e_iast (j := i) dX9_parts_67 rfl (fx_pi_lt (by decide)) rfl (by omega) (by decide) ?_
          refine e_iinc (v := nI (i + 1)) dX9_parts_68 rfl (fx_inc _) (by decide) rfl ?_
          refine e_goto 2 dX9_parts_71 rfl ?_
          have hw1 : (p_PC t.1 t.2.1 na i) w := by have q := (i_bitE hB (by omega)).mp c_b; rw [p_sN_bit] at q; exact (of_decide_eq_true q).2
          have hrm := (p_sN_rm (P := (p_PC t.1 t.2.1 na i)) (w := w) (n := na)).1 hw hw1
          have ev : (nI (p_sN (p_PC t.1 t.2.1 na i) na)) - (1 <<< ((nI w) &&& 31)) = nI (p_sN (p_PD t.1 t.2.1 na (some w) i) na) := by rw [i_shl1 (by omega), p_subN (by omega) hB, ← hrm]; exact congrArg nI (Nat.add_sub_cancel _ _)
          have K2 : fx_KP m (fx_sI (fx_sI m1 115 i (nI (p_sN (p_PC t.1 t.2.1 na i) na))) 115 i ((nI (p_sN (p_PC t.1 t.2.1 na i) na)) - (1 <<< ((nI w) &&& 31)))) := ((K1.sI (Or.inr rfl)).sI (Or.inr rfl))
          exact ih (i + 1) _ (by omega) K2 (fun j hj => by by_cases q : j = i; (subst q; rw [fx_rd0]; exact ev); (rw [fx_rd2 (Ne.symm q), fx_rd2 (Ne.symm q)]; exact P1 j (by omega)))
  exact lp1 (2 * nd) 0 m (by omega) (fx_KP.refl m) (fun j hj => absurd hj (Nat.not_lt_zero _))
