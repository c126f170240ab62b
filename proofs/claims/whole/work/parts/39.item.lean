def p_it (tx : Nat → Int32) (n p na nd : Nat) (t : p_Sg) : p_IR :=
  if p_tc tx n p = 97 then (match p_spI tx n [97, 114, 109] 3 0 p with | some f => (some f, p, na, nd, t) | none => p_armI tx n p (p + 3) na nd t)
  else if p_tc tx n p = 100 then (match p_spI tx n [100, 111, 108, 108] 4 0 p with | some f => (some f, p, na, nd, t) | none => p_dollI tx n p (p + 4) na nd t)
  else if p_tc tx n p = 108 then (match p_spI tx n [108, 105, 101, 115] 4 0 p with | some f => (some f, p, na, nd, t) | none => p_lieI tx n (p + 4) na nd t)
  else if p_tc tx n p = 111 then (if ¬ p_tc tx n (p + 1) = 110 then (match p_spI tx n [111, 102, 102] 3 0 p with | some f => (some f, p, na, nd, t) | none => p_offI tx n (p + 3) na nd t)
    else (match p_spI tx n [111, 110] 2 0 p with | some f => (some f, p, na, nd, t) | none => p_onI tx n (p + 2) na nd t))
  else (some p, p, na, nd, t)
theorem p_pls_le (tx : Nat → Int32) (n p : Nat) : ∀ i, p ≤ p_pls tx n p i
  | 0 => Nat.le_refl _
  | i + 1 => by
    have h := p_pls_le tx n p i
    show p ≤ p_nmP tx n _
    unfold p_nmP
    split <;> omega
theorem p_nmP_ge (tx : Nat → Int32) (n p : Nat) : p ≤ p_nmP tx n p := by unfold p_nmP; split <;> omega
theorem p_armI_adv {tx : Nat → Int32} {n w p na nd : Nat} {t : p_Sg} : p ≤ (p_armI tx n w p na nd t).2.1 := by
  unfold p_armI
  split
  · exact Nat.le_refl _
  · split
    · exact Nat.le_refl _
    · exact p_pls_le _ _ _ _
theorem p_dollI_adv {tx : Nat → Int32} {n w p na nd : Nat} {t : p_Sg} : p ≤ (p_dollI tx n w p na nd t).2.1 := by
  unfold p_dollI
  split
  · exact Nat.le_refl _
  · split
    · exact Nat.le_refl _
    · exact p_pls_le _ _ _ _
theorem p_onI_adv {tx : Nat → Int32} {n p na nd : Nat} {t : p_Sg} : p ≤ (p_onI tx n p na nd t).2.1 := by
  have h1 := p_nmP_ge tx n p
  have h2 := p_nmP_ge tx n (p_nmP tx n p)
  unfold p_onI
  repeat' split
  all_goals first | exact Nat.le_refl _ | exact Nat.le_trans h1 h2
theorem p_offI_adv {tx : Nat → Int32} {n p na nd : Nat} {t : p_Sg} : p ≤ (p_offI tx n p na nd t).2.1 := by
  have h1 := p_nmP_ge tx n p
  unfold p_offI
  repeat' split
  all_goals first | exact Nat.le_refl _ | exact h1
theorem p_lieI_adv {tx : Nat → Int32} {n p na nd : Nat} {t : p_Sg} : p ≤ (p_lieI tx n p na nd t).2.1 := by
  have h1 := p_nmP_ge tx n p
  have h2 := p_nmP_ge tx n (p_nmP tx n p)
  unfold p_lieI
  repeat' split
  all_goals first | exact Nat.le_refl _ | exact Nat.le_trans h1 h2
theorem p_it_adv {tx : Nat → Int32} {n p na nd : Nat} {t : p_Sg} (h : (p_it tx n p na nd t).1 = none) : p < (p_it tx n p na nd t).2.1 := by
  have e1 := p_armI_adv (tx := tx) (n := n) (w := p) (p := p + 3) (na := na) (nd := nd) (t := t)
  have e2 := p_dollI_adv (tx := tx) (n := n) (w := p) (p := p + 4) (na := na) (nd := nd) (t := t)
  have e3 := p_lieI_adv (tx := tx) (n := n) (p := p + 4) (na := na) (nd := nd) (t := t)
  have e4 := p_offI_adv (tx := tx) (n := n) (p := p + 3) (na := na) (nd := nd) (t := t)
  have e5 := p_onI_adv (tx := tx) (n := n) (p := p + 2) (na := na) (nd := nd) (t := t)
  unfold p_it at h ⊢
  repeat' split at h
  all_goals first | (exfalso; cases h; done) | (simp_all; omega)
/-- a text: fuel, items, place, arms, dolls, stock: (the fault, items, arms, dolls, stock) -/
def p_rA (tx : Nat → Int32) (n : Nat) : Nat → Nat → Nat → Nat → Nat → p_Sg → p_IR
  | 0, it, _, na, nd, t => (some 0, it, na, nd, t)
  | f + 1, it, p, na, nd, t => match p_it tx n p na nd t with
    | (some g, _) => (some g, it, na, nd, t)
    | (none, p', na', nd', t') => if p' = n then (none, it, na', nd', t') else match p_spI tx n [59] 1 0 p' with
      | some g => (some g, it, na', nd', t')
      | none => p_rA tx n f (it + 1) (p' + 1) na' nd' t'

set_option maxRecDepth 100000 in
set_option maxHeartbeats 600000 in
theorem s_X4_readItem {Γ : fx_G} {m : fx_M} {k n : Nat} {tx : Nat → Int32} {na nd : Nat} {t : p_Sg} {p : Nat} (R : fx_RS k n tx m na nd t p) : fx_Ct Γ mX4_readItem 5 119 119 [fx_rf Γ 51] m (fx_PR k n tx m (p_it tx n p na nd t)) := by
  refine fx_Ct.of (j := 0) (by decide) (Nat.le_of_ble_eq_true rfl) (Nat.le_of_ble_eq_true rfl) ?_
  show fx_E Γ mX4_readItem 5 119 119 _ 119 m 0 [some (fx_rf Γ 51)] []
  have hk : k < 8 := R.2.2.2.2.2.2.2.2.2.2.1
  have hn : n ≤ 160 := R.2.2.2.2.2.2.2.2.2.2.2.1
  have hp : p ≤ n := R.2.2.2.2.2.2.2.2.2.2.2.2
  refine e_aload_n dX4_readItem_0 rfl ?_
  refine e_aload_n dX4_readItem_1 rfl ?_
  refine e_getv (v := nI p) dX4_readItem_2 ff_X4_15 rfl (fx_pi_lt (by decide)) (by decide) rfl R.2.2.1 ?_
  refine e_put dX4_readItem_5 ff_X4_18 rfl (fx_pi_lt (by decide)) (by decide) rfl (Or.inl rfl) ?_
  have R0 : fx_RS k n tx (fx_sI m 51 4 (nI p)) na nd t p := R.pk (by decide)
  refine e_aload_n dX4_readItem_8 rfl ?_
  refine e_getr (o2 := 67 + 2 * k) dX4_readItem_9 ff_X4_32 rfl (fx_pi_lt (by decide)) (by decide) rfl R0.1 ?_
  refine e_aload_n dX4_readItem_12 rfl ?_
  refine e_getv (v := nI p) dX4_readItem_13 ff_X4_15 rfl (fx_pi_lt (by decide)) (by decide) rfl R0.2.2.1 ?_
  refine e_callV (μ' := mX5_read) (ci := 5) (As := [.int (nI p)]) dX4_readItem_16 wl_X4_51 ok_X5_read (fx_Sf.mk hk).sh rfl (fx_pi_lt (fx_Sf.mk hk).lt) (by decide) (Nat.le_of_ble_eq_true rfl) fx_n1 (s_X5_read (m := fx_sI m 51 4 (nI p)) (67 + 2 * k) (fx_Sf.mk hk) R0.2.2.2.2.1 (c := n) hn R0.2.2.2.2.2.1 (nI p)) rfl (fun r_ m_ hpost => ?_)
  obtain ⟨rfl, e2⟩ := hpost
  have e2 := e2.symm
  subst e2
  rw [R0.rd (q := p) (by omega)]
  by_cases c_1 : (p_tc tx n p) = 97
  · refine e_lookup (off := 41) 60 dX4_readItem_19 (by decide) (by rw [c_1]; decide) rfl ?_
    refine e_aload_n dX4_readItem_60 rfl ?_
    refine e_ldcS (j := 1) dX4_readItem_61 rfl rfl ?_
    refine e_callV (μ' := mX4_spells) (ci := 4) (As := [.ref (Γ.2.2.2 (10 + 1))]) dX4_readItem_63 wl_X4_47 ok_X4_spells rfl rfl (fx_pi_lt (by decide)) (by decide) (Nat.le_of_ble_eq_true rfl) fx_n1 (s_X4_spells (m := fx_sI m 51 4 (nI p)) R0 (jt := 1) (q := (55, "arm", [97, 114, 109])) rfl) rfl (fun r_ m_ hpost => ?_)
    revert r_ m_
    intro r_ m1 hpost
    obtain ⟨rfl, o1, k1, f1, g1⟩ := hpost
    have f1 : ∀ f, p_spI tx n [97, 114, 109] 3 0 p = some f → m1.1 51 0 = nI f := f1
    have g1 : p_spI tx n [97, 114, 109] 3 0 p = none → m1.1 51 3 = nI (p + 3) ∧ p + 3 ≤ n ∧ m1.1 51 0 = (fx_sI m 51 4 (nI p)).1 51 0 := g1
    have F1 : fx_RF m m1 := ((fx_RF.refl m).sI (Or.inr (Or.inl rfl))).trans (fx_RF.on (fx_o51w o1))
    have J1 : fx_J 33 m1 := fx_Jon R0.2.2.2.2.2.2.2.1 (fx_o51w o1)
    refine e_if_eqB 80 dX4_readItem_66 rfl (fun c_s => ?_) (fun c_s => ?_)
    · refine e_iconst dX4_readItem_80 kci_0 ?_
      have c_s : ¬ p_spI tx n [97, 114, 109] 3 0 p = none := c_s
      obtain ⟨f0, hf0⟩ := Option.ne_none_iff_exists'.mp c_s
      have hE : p_it tx n p na nd t = (some f0, p, na, nd, t) := by unfold p_it; (try (first | rw [if_pos c_1] | rw [if_neg c_1] | rw [if_neg (Decidable.not_not.mpr c_1)])); rw [hf0]
      exact e_iret dX4_readItem_81 rfl rfl rfl ⟨by rw [hE]; rfl, F1, J1, fun f hf => (by rw [hE] at hf; cases hf; exact f1 _ hf0), fun h => (by rw [hE] at h; cases h)⟩
    · have R1 : fx_RS k n tx m1 na nd t (p + 3) := R0.on (fx_o51w o1) (g1 c_s).1 (g1 c_s).2.1
      refine e_aload_n dX4_readItem_69 rfl ?_
      refine e_callV (μ' := mX4_readArm) (ci := 4) (As := []) dX4_readItem_70 wl_X4_57 ok_X4_readArm rfl rfl (fx_pi_lt (by decide)) (by decide) (Nat.le_of_ble_eq_true rfl) fx_n1 (s_X4_readArm (m := m1) R1 (w := p) (by rw [k1]; exact fx_rd0)) rfl (fun r_ m_ hpost => ?_)
      revert r_ m_
      intro r_ m2 hpost
      obtain ⟨rfl, F2, J2, f2, g2⟩ := hpost
      refine e_if_eqB 80 dX4_readItem_73 rfl (fun c_t => ?_) (fun c_t => ?_)
      · refine e_iconst dX4_readItem_80 kci_0 ?_
        have c_s : p_spI tx n [97, 114, 109] 3 0 p = none := c_s
        have hE : p_it tx n p na nd t = p_armI tx n p (p + 3) na nd t := by unfold p_it; (try (first | rw [if_pos c_1] | rw [if_neg c_1] | rw [if_neg (Decidable.not_not.mpr c_1)])); rw [c_s]
        exact e_iret dX4_readItem_81 rfl rfl rfl ⟨by rw [hE, if_neg c_t], F1.trans F2, J2, fun f hf => f2 f (by rw [← hE]; exact hf), fun h => by rw [hE] at h ⊢; exact ⟨(g2 h).1, (g2 h).2.trans ((g1 c_s).2.2.trans (fx_rd2 (by decide)))⟩⟩
      · refine e_iconst dX4_readItem_76 kci_1 ?_
        refine e_goto 81 dX4_readItem_77 rfl ?_
        have c_s : p_spI tx n [97, 114, 109] 3 0 p = none := c_s
        have hE : p_it tx n p na nd t = p_armI tx n p (p + 3) na nd t := by unfold p_it; (try (first | rw [if_pos c_1] | rw [if_neg c_1] | rw [if_neg (Decidable.not_not.mpr c_1)])); rw [c_s]
        exact e_iret dX4_readItem_81 rfl rfl rfl ⟨by rw [hE, if_pos c_t], F1.trans F2, J2, fun f hf => f2 f (by rw [← hE]; exact hf), fun h => by rw [hE] at h ⊢; exact ⟨(g2 h).1, (g2 h).2.trans ((g1 c_s).2.2.trans (fx_rd2 (by decide)))⟩⟩
  by_cases c_2 : (p_tc tx n p) = 100
  · refine e_lookup (off := 63) 82 dX4_readItem_19 (by decide) (by rw [c_2]; decide) rfl ?_
    refine e_aload_n dX4_readItem_82 rfl ?_
    refine e_ldcS (j := 2) dX4_readItem_83 rfl rfl ?_
    refine e_callV (μ' := mX4_spells) (ci := 4) (As := [.ref (Γ.2.2.2 (10 + 2))]) dX4_readItem_85 wl_X4_47 ok_X4_spells rfl rfl (fx_pi_lt (by decide)) (by decide) (Nat.le_of_ble_eq_true rfl) fx_n1 (s_X4_spells (m := fx_sI m 51 4 (nI p)) R0 (jt := 2) (q := (60, "doll", [100, 111, 108, 108])) rfl) rfl (fun r_ m_ hpost => ?_)
    revert r_ m_
    intro r_ m1 hpost
    obtain ⟨rfl, o1, k1, f1, g1⟩ := hpost
    have f1 : ∀ f, p_spI tx n [100, 111, 108, 108] 4 0 p = some f → m1.1 51 0 = nI f := f1
    have g1 : p_spI tx n [100, 111, 108, 108] 4 0 p = none → m1.1 51 3 = nI (p + 4) ∧ p + 4 ≤ n ∧ m1.1 51 0 = (fx_sI m 51 4 (nI p)).1 51 0 := g1
    have F1 : fx_RF m m1 := ((fx_RF.refl m).sI (Or.inr (Or.inl rfl))).trans (fx_RF.on (fx_o51w o1))
    have J1 : fx_J 33 m1 := fx_Jon R0.2.2.2.2.2.2.2.1 (fx_o51w o1)
    refine e_if_eqB 102 dX4_readItem_88 rfl (fun c_s => ?_) (fun c_s => ?_)
    · refine e_iconst dX4_readItem_102 kci_0 ?_
      have c_s : ¬ p_spI tx n [100, 111, 108, 108] 4 0 p = none := c_s
      obtain ⟨f0, hf0⟩ := Option.ne_none_iff_exists'.mp c_s
      have hE : p_it tx n p na nd t = (some f0, p, na, nd, t) := by unfold p_it; (try (first | rw [if_pos c_1] | rw [if_neg c_1] | rw [if_neg (Decidable.not_not.mpr c_1)])); (try (first | rw [if_pos c_2] | rw [if_neg c_2] | rw [if_neg (Decidable.not_not.mpr c_2)])); rw [hf0]
      exact e_iret dX4_readItem_103 rfl rfl rfl ⟨by rw [hE]; rfl, F1, J1, fun f hf => (by rw [hE] at hf; cases hf; exact f1 _ hf0), fun h => (by rw [hE] at h; cases h)⟩
    · have R1 : fx_RS k n tx m1 na nd t (p + 4) := R0.on (fx_o51w o1) (g1 c_s).1 (g1 c_s).2.1
      refine e_aload_n dX4_readItem_91 rfl ?_
      refine e_callV (μ' := mX4_readDoll) (ci := 4) (As := []) dX4_readItem_92 wl_X4_62 ok_X4_readDoll rfl rfl (fx_pi_lt (by decide)) (by decide) (Nat.le_of_ble_eq_true rfl) fx_n1 (s_X4_readDoll (m := m1) R1 (w := p) (by rw [k1]; exact fx_rd0)) rfl (fun r_ m_ hpost => ?_)
      revert r_ m_
      intro r_ m2 hpost
      obtain ⟨rfl, F2, J2, f2, g2⟩ := hpost
      refine e_if_eqB 102 dX4_readItem_95 rfl (fun c_t => ?_) (fun c_t => ?_)
      · refine e_iconst dX4_readItem_102 kci_0 ?_
        have c_s : p_spI tx n [100, 111, 108, 108] 4 0 p = none := c_s
        have hE : p_it tx n p na nd t = p_dollI tx n p (p + 4) na nd t := by unfold p_it; (try (first | rw [if_pos c_1] | rw [if_neg c_1] | rw [if_neg (Decidable.not_not.mpr c_1)])); (try (first | rw [if_pos c_2] | rw [if_neg c_2] | rw [if_neg (Decidable.not_not.mpr c_2)])); rw [c_s]
        exact e_iret dX4_readItem_103 rfl rfl rfl ⟨by rw [hE, if_neg c_t], F1.trans F2, J2, fun f hf => f2 f (by rw [← hE]; exact hf), fun h => by rw [hE] at h ⊢; exact ⟨(g2 h).1, (g2 h).2.trans ((g1 c_s).2.2.trans (fx_rd2 (by decide)))⟩⟩
      · refine e_iconst dX4_readItem_98 kci_1 ?_
        refine e_goto 103 dX4_readItem_99 rfl ?_
        have c_s : p_spI tx n [100, 111, 108, 108] 4 0 p = none := c_s
        have hE : p_it tx n p na nd t = p_dollI tx n p (p + 4) na nd t := by unfold p_it; (try (first | rw [if_pos c_1] | rw [if_neg c_1] | rw [if_neg (Decidable.not_not.mpr c_1)])); (try (first | rw [if_pos c_2] | rw [if_neg c_2] | rw [if_neg (Decidable.not_not.mpr c_2)])); rw [c_s]
        exact e_iret dX4_readItem_103 rfl rfl rfl ⟨by rw [hE, if_pos c_t], F1.trans F2, J2, fun f hf => f2 f (by rw [← hE]; exact hf), fun h => by rw [hE] at h ⊢; exact ⟨(g2 h).1, (g2 h).2.trans ((g1 c_s).2.2.trans (fx_rd2 (by decide)))⟩⟩
  by_cases c_3 : (p_tc tx n p) = 108
  · refine e_lookup (off := 85) 104 dX4_readItem_19 (by decide) (by rw [c_3]; decide) rfl ?_
    refine e_aload_n dX4_readItem_104 rfl ?_
    refine e_ldcS (j := 3) dX4_readItem_105 rfl rfl ?_
    refine e_callV (μ' := mX4_spells) (ci := 4) (As := [.ref (Γ.2.2.2 (10 + 3))]) dX4_readItem_107 wl_X4_47 ok_X4_spells rfl rfl (fx_pi_lt (by decide)) (by decide) (Nat.le_of_ble_eq_true rfl) fx_n1 (s_X4_spells (m := fx_sI m 51 4 (nI p)) R0 (jt := 3) (q := (65, "lies", [108, 105, 101, 115])) rfl) rfl (fun r_ m_ hpost => ?_)
    revert r_ m_
    intro r_ m1 hpost
    obtain ⟨rfl, o1, k1, f1, g1⟩ := hpost
    have f1 : ∀ f, p_spI tx n [108, 105, 101, 115] 4 0 p = some f → m1.1 51 0 = nI f := f1
    have g1 : p_spI tx n [108, 105, 101, 115] 4 0 p = none → m1.1 51 3 = nI (p + 4) ∧ p + 4 ≤ n ∧ m1.1 51 0 = (fx_sI m 51 4 (nI p)).1 51 0 := g1
    have F1 : fx_RF m m1 := ((fx_RF.refl m).sI (Or.inr (Or.inl rfl))).trans (fx_RF.on (fx_o51w o1))
    have J1 : fx_J 33 m1 := fx_Jon R0.2.2.2.2.2.2.2.1 (fx_o51w o1)
    refine e_if_eqB 124 dX4_readItem_110 rfl (fun c_s => ?_) (fun c_s => ?_)
    · refine e_iconst dX4_readItem_124 kci_0 ?_
      have c_s : ¬ p_spI tx n [108, 105, 101, 115] 4 0 p = none := c_s
      obtain ⟨f0, hf0⟩ := Option.ne_none_iff_exists'.mp c_s
      have hE : p_it tx n p na nd t = (some f0, p, na, nd, t) := by unfold p_it; (try (first | rw [if_pos c_1] | rw [if_neg c_1] | rw [if_neg (Decidable.not_not.mpr c_1)])); (try (first | rw [if_pos c_2] | rw [if_neg c_2] | rw [if_neg (Decidable.not_not.mpr c_2)])); (try (first | rw [if_pos c_3] | rw [if_neg c_3] | rw [if_neg (Decidable.not_not.mpr c_3)])); rw [hf0]
      exact e_iret dX4_readItem_125 rfl rfl rfl ⟨by rw [hE]; rfl, F1, J1, fun f hf => (by rw [hE] at hf; cases hf; exact f1 _ hf0), fun h => (by rw [hE] at h; cases h)⟩
    · have R1 : fx_RS k n tx m1 na nd t (p + 4) := R0.on (fx_o51w o1) (g1 c_s).1 (g1 c_s).2.1
      refine e_aload_n dX4_readItem_113 rfl ?_
      refine e_callV (μ' := mX4_readLies) (ci := 4) (As := []) dX4_readItem_114 wl_X4_67 ok_X4_readLies rfl rfl (fx_pi_lt (by decide)) (by decide) (Nat.le_of_ble_eq_true rfl) fx_n1 (s_X4_readLies (m := m1) R1) rfl (fun r_ m_ hpost => ?_)
      revert r_ m_
      intro r_ m2 hpost
      obtain ⟨rfl, F2, J2, f2, g2⟩ := hpost
      refine e_if_eqB 124 dX4_readItem_117 rfl (fun c_t => ?_) (fun c_t => ?_)
      · refine e_iconst dX4_readItem_124 kci_0 ?_
        have c_s : p_spI tx n [108, 105, 101, 115] 4 0 p = none := c_s
        have hE : p_it tx n p na nd t = p_lieI tx n (p + 4) na nd t := by unfold p_it; (try (first | rw [if_pos c_1] | rw [if_neg c_1] | rw [if_neg (Decidable.not_not.mpr c_1)])); (try (first | rw [if_pos c_2] | rw [if_neg c_2] | rw [if_neg (Decidable.not_not.mpr c_2)])); (try (first | rw [if_pos c_3] | rw [if_neg c_3] | rw [if_neg (Decidable.not_not.mpr c_3)])); rw [c_s]
        exact e_iret dX4_readItem_125 rfl rfl rfl ⟨by rw [hE, if_neg c_t], F1.trans F2, J2, fun f hf => f2 f (by rw [← hE]; exact hf), fun h => by rw [hE] at h ⊢; exact ⟨(g2 h).1, (g2 h).2.trans ((g1 c_s).2.2.trans (fx_rd2 (by decide)))⟩⟩
      · refine e_iconst dX4_readItem_120 kci_1 ?_
        refine e_goto 125 dX4_readItem_121 rfl ?_
        have c_s : p_spI tx n [108, 105, 101, 115] 4 0 p = none := c_s
        have hE : p_it tx n p na nd t = p_lieI tx n (p + 4) na nd t := by unfold p_it; (try (first | rw [if_pos c_1] | rw [if_neg c_1] | rw [if_neg (Decidable.not_not.mpr c_1)])); (try (first | rw [if_pos c_2] | rw [if_neg c_2] | rw [if_neg (Decidable.not_not.mpr c_2)])); (try (first | rw [if_pos c_3] | rw [if_neg c_3] | rw [if_neg (Decidable.not_not.mpr c_3)])); rw [c_s]
        exact e_iret dX4_readItem_125 rfl rfl rfl ⟨by rw [hE, if_pos c_t], F1.trans F2, J2, fun f hf => f2 f (by rw [← hE]; exact hf), fun h => by rw [hE] at h ⊢; exact ⟨(g2 h).1, (g2 h).2.trans ((g1 c_s).2.2.trans (fx_rd2 (by decide)))⟩⟩
  by_cases c_4 : (p_tc tx n p) = 111
  · refine e_lookup (off := 107) 126 dX4_readItem_19 (by decide) (by rw [c_4]; decide) rfl ?_
    refine e_aload_n dX4_readItem_126 rfl ?_
    refine e_getr (o2 := 67 + 2 * k) dX4_readItem_127 ff_X4_32 rfl (fx_pi_lt (by decide)) (by decide) rfl R0.1 ?_
    refine e_aload_n dX4_readItem_130 rfl ?_
    refine e_getv (v := nI p) dX4_readItem_131 ff_X4_15 rfl (fx_pi_lt (by decide)) (by decide) rfl R0.2.2.1 ?_
    refine e_iconst dX4_readItem_134 kci_1 ?_
    refine e_iadd dX4_readItem_135 ?_
    rw [nI_1]
    refine e_callV (μ' := mX5_read) (ci := 5) (As := [.int (nI (p + 1))]) dX4_readItem_136 wl_X4_51 ok_X5_read (fx_Sf.mk hk).sh rfl (fx_pi_lt (fx_Sf.mk hk).lt) (by decide) (Nat.le_of_ble_eq_true rfl) fx_n1 (s_X5_read (m := fx_sI m 51 4 (nI p)) (67 + 2 * k) (fx_Sf.mk hk) R0.2.2.2.2.1 (c := n) hn R0.2.2.2.2.2.1 (nI (p + 1))) rfl (fun r_ m_ hpost => ?_)
    obtain ⟨rfl, e2⟩ := hpost
    have e2 := e2.symm
    subst e2
    rw [R0.rd (q := (p + 1)) (by omega)]
    refine e_bipush dX4_readItem_139 kcb_110 ?_
    refine e_icmp_ne 166 dX4_readItem_141 rfl (fun c_5 => ?_) (fun c_5 => ?_)
    · refine e_aload_n dX4_readItem_166 rfl ?_
      refine e_ldcS (j := 5) dX4_readItem_167 rfl rfl ?_
      refine e_callV (μ' := mX4_spells) (ci := 4) (As := [.ref (Γ.2.2.2 (10 + 5))]) dX4_readItem_169 wl_X4_47 ok_X4_spells rfl rfl (fx_pi_lt (by decide)) (by decide) (Nat.le_of_ble_eq_true rfl) fx_n1 (s_X4_spells (m := fx_sI m 51 4 (nI p)) R0 (jt := 5) (q := (75, "off", [111, 102, 102])) rfl) rfl (fun r_ m_ hpost => ?_)
      revert r_ m_
      intro r_ m1 hpost
      obtain ⟨rfl, o1, k1, f1, g1⟩ := hpost
      have f1 : ∀ f, p_spI tx n [111, 102, 102] 3 0 p = some f → m1.1 51 0 = nI f := f1
      have g1 : p_spI tx n [111, 102, 102] 3 0 p = none → m1.1 51 3 = nI (p + 3) ∧ p + 3 ≤ n ∧ m1.1 51 0 = (fx_sI m 51 4 (nI p)).1 51 0 := g1
      have F1 : fx_RF m m1 := ((fx_RF.refl m).sI (Or.inr (Or.inl rfl))).trans (fx_RF.on (fx_o51w o1))
      have J1 : fx_J 33 m1 := fx_Jon R0.2.2.2.2.2.2.2.1 (fx_o51w o1)
      refine e_if_eqB 186 dX4_readItem_172 rfl (fun c_s => ?_) (fun c_s => ?_)
      · refine e_iconst dX4_readItem_186 kci_0 ?_
        have c_s : ¬ p_spI tx n [111, 102, 102] 3 0 p = none := c_s
        obtain ⟨f0, hf0⟩ := Option.ne_none_iff_exists'.mp c_s
        have hE : p_it tx n p na nd t = (some f0, p, na, nd, t) := by unfold p_it; (try (first | rw [if_pos c_1] | rw [if_neg c_1] | rw [if_neg (Decidable.not_not.mpr c_1)])); (try (first | rw [if_pos c_2] | rw [if_neg c_2] | rw [if_neg (Decidable.not_not.mpr c_2)])); (try (first | rw [if_pos c_3] | rw [if_neg c_3] | rw [if_neg (Decidable.not_not.mpr c_3)])); (try (first | rw [if_pos c_4] | rw [if_neg c_4] | rw [if_neg (Decidable.not_not.mpr c_4)])); (try (first | rw [if_pos c_5] | rw [if_neg c_5] | rw [if_neg (Decidable.not_not.mpr c_5)])); rw [hf0]
        exact e_iret dX4_readItem_187 rfl rfl rfl ⟨by rw [hE]; rfl, F1, J1, fun f hf => (by rw [hE] at hf; cases hf; exact f1 _ hf0), fun h => (by rw [hE] at h; cases h)⟩
      · have R1 : fx_RS k n tx m1 na nd t (p + 3) := R0.on (fx_o51w o1) (g1 c_s).1 (g1 c_s).2.1
        refine e_aload_n dX4_readItem_175 rfl ?_
        refine e_callV (μ' := mX4_readOff) (ci := 4) (As := []) dX4_readItem_176 wl_X4_77 ok_X4_readOff rfl rfl (fx_pi_lt (by decide)) (by decide) (Nat.le_of_ble_eq_true rfl) fx_n1 (s_X4_readOff (m := m1) R1) rfl (fun r_ m_ hpost => ?_)
        revert r_ m_
        intro r_ m2 hpost
        obtain ⟨rfl, F2, J2, f2, g2⟩ := hpost
        refine e_if_eqB 186 dX4_readItem_179 rfl (fun c_t => ?_) (fun c_t => ?_)
        · refine e_iconst dX4_readItem_186 kci_0 ?_
          have c_s : p_spI tx n [111, 102, 102] 3 0 p = none := c_s
          have hE : p_it tx n p na nd t = p_offI tx n (p + 3) na nd t := by unfold p_it; (try (first | rw [if_pos c_1] | rw [if_neg c_1] | rw [if_neg (Decidable.not_not.mpr c_1)])); (try (first | rw [if_pos c_2] | rw [if_neg c_2] | rw [if_neg (Decidable.not_not.mpr c_2)])); (try (first | rw [if_pos c_3] | rw [if_neg c_3] | rw [if_neg (Decidable.not_not.mpr c_3)])); (try (first | rw [if_pos c_4] | rw [if_neg c_4] | rw [if_neg (Decidable.not_not.mpr c_4)])); (try (first | rw [if_pos c_5] | rw [if_neg c_5] | rw [if_neg (Decidable.not_not.mpr c_5)])); rw [c_s]
          exact e_iret dX4_readItem_187 rfl rfl rfl ⟨by rw [hE, if_neg c_t], F1.trans F2, J2, fun f hf => f2 f (by rw [← hE]; exact hf), fun h => by rw [hE] at h ⊢; exact ⟨(g2 h).1, (g2 h).2.trans ((g1 c_s).2.2.trans (fx_rd2 (by decide)))⟩⟩
        · refine e_iconst dX4_readItem_182 kci_1 ?_
          refine e_goto 187 dX4_readItem_183 rfl ?_
          have c_s : p_spI tx n [111, 102, 102] 3 0 p = none := c_s
          have hE : p_it tx n p na nd t = p_offI tx n (p + 3) na nd t := by unfold p_it; (try (first | rw [if_pos c_1] | rw [if_neg c_1] | rw [if_neg (Decidable.not_not.mpr c_1)])); (try (first | rw [if_pos c_2] | rw [if_neg c_2] | rw [if_neg (Decidable.not_not.mpr c_2)])); (try (first | rw [if_pos c_3] | rw [if_neg c_3] | rw [if_neg (Decidable.not_not.mpr c_3)])); (try (first | rw [if_pos c_4] | rw [if_neg c_4] | rw [if_neg (Decidable.not_not.mpr c_4)])); (try (first | rw [if_pos c_5] | rw [if_neg c_5] | rw [if_neg (Decidable.not_not.mpr c_5)])); rw [c_s]
          exact e_iret dX4_readItem_187 rfl rfl rfl ⟨by rw [hE, if_pos c_t], F1.trans F2, J2, fun f hf => f2 f (by rw [← hE]; exact hf), fun h => by rw [hE] at h ⊢; exact ⟨(g2 h).1, (g2 h).2.trans ((g1 c_s).2.2.trans (fx_rd2 (by decide)))⟩⟩
    · refine e_aload_n dX4_readItem_144 rfl ?_
      refine e_ldcS (j := 4) dX4_readItem_145 rfl rfl ?_
      refine e_callV (μ' := mX4_spells) (ci := 4) (As := [.ref (Γ.2.2.2 (10 + 4))]) dX4_readItem_147 wl_X4_47 ok_X4_spells rfl rfl (fx_pi_lt (by decide)) (by decide) (Nat.le_of_ble_eq_true rfl) fx_n1 (s_X4_spells (m := fx_sI m 51 4 (nI p)) R0 (jt := 4) (q := (70, "on", [111, 110])) rfl) rfl (fun r_ m_ hpost => ?_)
      revert r_ m_
      intro r_ m1 hpost
      obtain ⟨rfl, o1, k1, f1, g1⟩ := hpost
      have f1 : ∀ f, p_spI tx n [111, 110] 2 0 p = some f → m1.1 51 0 = nI f := f1
      have g1 : p_spI tx n [111, 110] 2 0 p = none → m1.1 51 3 = nI (p + 2) ∧ p + 2 ≤ n ∧ m1.1 51 0 = (fx_sI m 51 4 (nI p)).1 51 0 := g1
      have F1 : fx_RF m m1 := ((fx_RF.refl m).sI (Or.inr (Or.inl rfl))).trans (fx_RF.on (fx_o51w o1))
      have J1 : fx_J 33 m1 := fx_Jon R0.2.2.2.2.2.2.2.1 (fx_o51w o1)
      refine e_if_eqB 164 dX4_readItem_150 rfl (fun c_s => ?_) (fun c_s => ?_)
      · refine e_iconst dX4_readItem_164 kci_0 ?_
        have c_s : ¬ p_spI tx n [111, 110] 2 0 p = none := c_s
        obtain ⟨f0, hf0⟩ := Option.ne_none_iff_exists'.mp c_s
        have hE : p_it tx n p na nd t = (some f0, p, na, nd, t) := by unfold p_it; (try (first | rw [if_pos c_1] | rw [if_neg c_1] | rw [if_neg (Decidable.not_not.mpr c_1)])); (try (first | rw [if_pos c_2] | rw [if_neg c_2] | rw [if_neg (Decidable.not_not.mpr c_2)])); (try (first | rw [if_pos c_3] | rw [if_neg c_3] | rw [if_neg (Decidable.not_not.mpr c_3)])); (try (first | rw [if_pos c_4] | rw [if_neg c_4] | rw [if_neg (Decidable.not_not.mpr c_4)])); (try (first | rw [if_pos c_5] | rw [if_neg c_5] | rw [if_neg (Decidable.not_not.mpr c_5)])); rw [hf0]
        exact e_iret dX4_readItem_165 rfl rfl rfl ⟨by rw [hE]; rfl, F1, J1, fun f hf => (by rw [hE] at hf; cases hf; exact f1 _ hf0), fun h => (by rw [hE] at h; cases h)⟩
      · have R1 : fx_RS k n tx m1 na nd t (p + 2) := R0.on (fx_o51w o1) (g1 c_s).1 (g1 c_s).2.1
        refine e_aload_n dX4_readItem_153 rfl ?_
        refine e_callV (μ' := mX4_readOn) (ci := 4) (As := []) dX4_readItem_154 wl_X4_72 ok_X4_readOn rfl rfl (fx_pi_lt (by decide)) (by decide) (Nat.le_of_ble_eq_true rfl) fx_n1 (s_X4_readOn (m := m1) R1) rfl (fun r_ m_ hpost => ?_)
        revert r_ m_
        intro r_ m2 hpost
        obtain ⟨rfl, F2, J2, f2, g2⟩ := hpost
        refine e_if_eqB 164 dX4_readItem_157 rfl (fun c_t => ?_) (fun c_t => ?_)
        · refine e_iconst dX4_readItem_164 kci_0 ?_
          have c_s : p_spI tx n [111, 110] 2 0 p = none := c_s
          have hE : p_it tx n p na nd t = p_onI tx n (p + 2) na nd t := by unfold p_it; (try (first | rw [if_pos c_1] | rw [if_neg c_1] | rw [if_neg (Decidable.not_not.mpr c_1)])); (try (first | rw [if_pos c_2] | rw [if_neg c_2] | rw [if_neg (Decidable.not_not.mpr c_2)])); (try (first | rw [if_pos c_3] | rw [if_neg c_3] | rw [if_neg (Decidable.not_not.mpr c_3)])); (try (first | rw [if_pos c_4] | rw [if_neg c_4] | rw [if_neg (Decidable.not_not.mpr c_4)])); (try (first | rw [if_pos c_5] | rw [if_neg c_5] | rw [if_neg (Decidable.not_not.mpr c_5)])); rw [c_s]
          exact e_iret dX4_readItem_165 rfl rfl rfl ⟨by rw [hE, if_neg c_t], F1.trans F2, J2, fun f hf => f2 f (by rw [← hE]; exact hf), fun h => by rw [hE] at h ⊢; exact ⟨(g2 h).1, (g2 h).2.trans ((g1 c_s).2.2.trans (fx_rd2 (by decide)))⟩⟩
        · refine e_iconst dX4_readItem_160 kci_1 ?_
          refine e_goto 165 dX4_readItem_161 rfl ?_
          have c_s : p_spI tx n [111, 110] 2 0 p = none := c_s
          have hE : p_it tx n p na nd t = p_onI tx n (p + 2) na nd t := by unfold p_it; (try (first | rw [if_pos c_1] | rw [if_neg c_1] | rw [if_neg (Decidable.not_not.mpr c_1)])); (try (first | rw [if_pos c_2] | rw [if_neg c_2] | rw [if_neg (Decidable.not_not.mpr c_2)])); (try (first | rw [if_pos c_3] | rw [if_neg c_3] | rw [if_neg (Decidable.not_not.mpr c_3)])); (try (first | rw [if_pos c_4] | rw [if_neg c_4] | rw [if_neg (Decidable.not_not.mpr c_4)])); (try (first | rw [if_pos c_5] | rw [if_neg c_5] | rw [if_neg (Decidable.not_not.mpr c_5)])); rw [c_s]
          exact e_iret dX4_readItem_165 rfl rfl rfl ⟨by rw [hE, if_pos c_t], F1.trans F2, J2, fun f hf => f2 f (by rw [← hE]; exact hf), fun h => by rw [hE] at h ⊢; exact ⟨(g2 h).1, (g2 h).2.trans ((g1 c_s).2.2.trans (fx_rd2 (by decide)))⟩⟩
  refine e_lookup (off := 169) 188 dX4_readItem_19 (by decide) ((lv_osw c_1 (by decide)).trans ((lv_osw c_2 (by decide)).trans ((lv_osw c_3 (by decide)).trans ((lv_osw c_4 (by decide)).trans rfl)))) rfl ?_
  refine e_aload_n dX4_readItem_188 rfl ?_
  refine e_aload_n dX4_readItem_189 rfl ?_
  refine e_getv (v := nI p) dX4_readItem_190 ff_X4_15 rfl (fx_pi_lt (by decide)) (by decide) rfl R0.2.2.1 ?_
  refine e_callV1 (μ' := mX4_stopAt) (ci := 4) (As := [.int (nI p)]) dX4_readItem_193 wl_X4_80 ok_X4_stopAt rfl rfl (fx_pi_lt (by decide)) (by decide) (Nat.le_of_ble_eq_true rfl) fx_n1 (s_X4_stopAt (m := fx_sI m 51 4 (nI p)) (nI p)) rfl ?_
  have hE : p_it tx n p na nd t = (some p, p, na, nd, t) := by unfold p_it; (try (first | rw [if_pos c_1] | rw [if_neg c_1] | rw [if_neg (Decidable.not_not.mpr c_1)])); (try (first | rw [if_pos c_2] | rw [if_neg c_2] | rw [if_neg (Decidable.not_not.mpr c_2)])); (try (first | rw [if_pos c_3] | rw [if_neg c_3] | rw [if_neg (Decidable.not_not.mpr c_3)])); (try (first | rw [if_pos c_4] | rw [if_neg c_4] | rw [if_neg (Decidable.not_not.mpr c_4)]))
  exact e_iret dX4_readItem_196 rfl rfl rfl ⟨by rw [hE]; rfl, ((fx_RF.refl m).sI (Or.inr (Or.inl rfl))).sI (Or.inr (Or.inl rfl)), fx_J51 R0.2.2.2.2.2.2.2.1 (Or.inl rfl), fun f hf => (by rw [hE] at hf; cases hf; exact fx_rd0), fun h => (by rw [hE] at h; cases h)⟩
