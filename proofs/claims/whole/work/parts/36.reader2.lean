theorem fx_o51w {m m' : fx_M} (h : fx_oP (fun o => o = 51) m m') : fx_oP (fun o => o = 51 ∨ o = 52) m m' := ⟨h.1, fun o ho => h.2 o (fun e => ho (Or.inl e))⟩
theorem fx_txp : ∀ {j : Nat} {q : Nat × String × List Int32}, fx_txt[j]? = some q → ∀ i, i < q.2.2.length → q.2.2.getD i 0 ≠ -1
  | 0, _, h => by cases h; decide
  | 1, _, h => by cases h; decide
  | 2, _, h => by cases h; decide
  | 3, _, h => by cases h; decide
  | 4, _, h => by cases h; decide
  | 5, _, h => by cases h; decide
  | k + 6, _, h => absurd (fx_tx6 h) (by omega)
def fx_SP (n : Nat) (m : fx_M) (p L : Nat) (F : Option Nat) (r : Option Value) (m' : fx_M) : Prop :=
  r = some (.int (if F = none then 1 else 0)) ∧ fx_oP (fun o => o = 51) m m' ∧ m'.1 51 4 = m.1 51 4 ∧ (∀ f, F = some f → m'.1 51 0 = nI f) ∧ (F = none → m'.1 51 3 = nI (p + L) ∧ p + L ≤ n ∧ m'.1 51 0 = m.1 51 0)
def fx_NS (n : Nat) (tx : Nat → Int32) (m : fx_M) (p L : Nat) (F : Option Nat) (r : Option Value) (m' : fx_M) : Prop :=
  r = some (.int (if F = none then 1 else 0)) ∧ fx_oP (fun o => o = 51 ∨ o = 52) m m' ∧ (∀ f, F = some f → m'.1 51 0 = nI f) ∧ (F = none → m'.1 51 3 = nI (p_pls tx n p L) ∧ p_pls tx n p L ≤ n ∧ (∀ x, x < L → m'.1 52 x = nI (p_nmV tx n (p_pls tx n p x))) ∧ m'.1 51 0 = m.1 51 0 ∧ m'.1 51 4 = m.1 51 4)
set_option maxRecDepth 100000 in
set_option maxHeartbeats 600000 in
theorem s_X4_spells {Γ : fx_G} {m : fx_M} {k n : Nat} {tx : Nat → Int32} {na nd : Nat} {t : p_Sg} {p : Nat} (R : fx_RS k n tx m na nd t p) {jt : Nat} {q : Nat × String × List Int32} (hq : fx_txt[jt]? = some q) : fx_Ct Γ mX4_spells 4 119 119 [fx_rf Γ 51, .ref (Γ.2.2.2 (10 + jt))] m (fx_SP n m p q.2.2.length (p_spI tx n q.2.2 q.2.2.length 0 p)) := by
  refine fx_Ct.of (j := 1) (by decide) (Nat.le_of_ble_eq_true rfl) (Nat.le_of_ble_eq_true rfl) ?_
  show fx_E Γ mX4_spells 4 119 119 _ 119 m 0 [some (fx_rf Γ 51), some (.ref (Γ.2.2.2 (10 + jt))), none] []
  have hk : k < 8 := R.2.2.2.2.2.2.2.2.2.2.1
  have hn : n ≤ 160 := R.2.2.2.2.2.2.2.2.2.2.2.1
  have hp : p ≤ n := R.2.2.2.2.2.2.2.2.2.2.2.2
  have lp : ∀ (j : Nat) (i : Nat) (m1 : fx_M), i + j = q.2.2.length → (fx_oP (fun o => o = 51) m m1 ∧ m1.1 51 3 = nI (p + i) ∧ m1.1 51 4 = m.1 51 4 ∧ p + i ≤ n ∧ m1.1 51 0 = m.1 51 0) → fx_E Γ mX4_spells 4 119 119 (fx_SP n m p q.2.2.length (p_spI tx n q.2.2 j i (p + i))) 119 m1 2 [some (fx_rf Γ 51), some (.ref (Γ.2.2.2 (10 + jt))), some (.int (nI i))] [] := by
    intro j
    induction j with
    | zero =>
      intro i m1 hi J
      have hlen := (fx_txts hq).1
      have R1 : fx_RS k n tx m1 na nd t (p + i) := R.on (fx_o51w J.1) J.2.1 J.2.2.2.1
      have hi2 : q.2.2.length = i := by omega
      refine e_iload_n dX4_spells_2 rfl ?_
      refine e_aload_n dX4_spells_3 rfl ?_
      refine e_callVT (μ' := mJ0_length_8abf5) (As := []) dX4_spells_4 wl_X4_84 ok_J0_length_8abf5 hq rfl (by decide) (Nat.le_of_ble_eq_true rfl) fx_n1 (s_J0_length (m := m1) hq) rfl (fun r_ m_ hpost => ?_)
      obtain ⟨rfl, e2⟩ := hpost
      have e2 := e2.symm
      subst e2
      refine e_icmp_ge 54 dX4_spells_7 rfl (fun _ => ?_) (fun h => absurd (nI_le (by omega) (by omega)) h)
      refine e_iconst dX4_spells_54 kci_1 ?_
      exact e_iret dX4_spells_55 rfl rfl rfl ⟨rfl, J.1, J.2.2.1, fun f hf => (by cases hf), fun _ => ⟨by rw [J.2.1, hi2], by have := J.2.2.2.1; omega, J.2.2.2.2⟩⟩
    | succ j ih =>
      intro i m1 hi J
      have hlen := (fx_txts hq).1
      have R1 : fx_RS k n tx m1 na nd t (p + i) := R.on (fx_o51w J.1) J.2.1 J.2.2.2.1
      refine e_iload_n dX4_spells_2 rfl ?_
      refine e_aload_n dX4_spells_3 rfl ?_
      refine e_callVT (μ' := mJ0_length_8abf5) (As := []) dX4_spells_4 wl_X4_84 ok_J0_length_8abf5 hq rfl (by decide) (Nat.le_of_ble_eq_true rfl) fx_n1 (s_J0_length (m := m1) hq) rfl (fun r_ m_ hpost => ?_)
      obtain ⟨rfl, e2⟩ := hpost
      have e2 := e2.symm
      subst e2
      refine e_icmp_ge 54 dX4_spells_7 rfl (fun h => absurd h (nI_ge (by omega) (by omega))) (fun _ => ?_)
      refine e_aload_n dX4_spells_10 rfl ?_
      refine e_getr (o2 := 67 + 2 * k) dX4_spells_11 ff_X4_32 rfl (fx_pi_lt (by decide)) (by decide) rfl R1.1 ?_
      refine e_aload_n dX4_spells_14 rfl ?_
      refine e_getv (v := nI (p + i)) dX4_spells_15 ff_X4_15 rfl (fx_pi_lt (by decide)) (by decide) rfl R1.2.2.1 ?_
      refine e_callV (μ' := mX5_read) (ci := 5) (As := [.int (nI (p + i))]) dX4_spells_18 wl_X4_51 ok_X5_read (fx_Sf.mk hk).sh rfl (fx_pi_lt (fx_Sf.mk hk).lt) (by decide) (Nat.le_of_ble_eq_true rfl) fx_n1 (s_X5_read (m := m1) (67 + 2 * k) (fx_Sf.mk hk) R1.2.2.2.2.1 (c := n) hn R1.2.2.2.2.2.1 (nI (p + i))) rfl (fun r_ m_ hpost => ?_)
      obtain ⟨rfl, e2⟩ := hpost
      have e2 := e2.symm
      subst e2
      rw [R1.rd (q := (p + i)) (by omega)]
      refine e_aload_n dX4_spells_21 rfl ?_
      refine e_iload_n dX4_spells_22 rfl ?_
      refine e_callVT (μ' := mJ0_charAt_5068e) (As := [.int (nI i)]) dX4_spells_23 wl_X4_90 ok_J0_charAt_5068e hq rfl (by decide) (Nat.le_of_ble_eq_true rfl) fx_n1 (s_J0_charAt (m := m1) hq (i := i) (by omega)) rfl (fun r_ m_ hpost => ?_)
      obtain ⟨rfl, e2⟩ := hpost
      have e2 := e2.symm
      subst e2
      refine e_icmp_eq 38 dX4_spells_26 rfl (fun c_m => ?_) (fun c_m => ?_)
      · refine e_aload_n dX4_spells_38 rfl ?_
        refine e_dup dX4_spells_39 rfl ?_
        refine e_getv (v := nI (p + i)) dX4_spells_40 ff_X4_15 rfl (fx_pi_lt (by decide)) (by decide) rfl R1.2.2.1 ?_
        refine e_iconst dX4_spells_43 kci_1 ?_
        refine e_iadd dX4_spells_44 ?_
        rw [nI_1]
        have hlt : p + i < n := p_tc_in c_m (fx_txp hq i (by omega))
        refine e_put dX4_spells_45 ff_X4_15 rfl (fx_pi_lt (by decide)) (by decide) rfl (Or.inl rfl) ?_
        refine e_iinc (v := nI (i + 1)) dX4_spells_48 rfl (fx_inc _) (by decide) rfl ?_
        refine e_goto 2 dX4_spells_51 rfl ?_
        rw [show p_spI tx n q.2.2 (j + 1) i (p + i) = p_spI tx n q.2.2 j (i + 1) (p + (i + 1)) from by rw [p_spI, if_pos c_m]; rfl]
        exact ih (i + 1) _ (by omega) ⟨fx_o51 J.1, fx_rd0, by rw [fx_rd2 (by decide)]; exact J.2.2.1, by omega, by rw [fx_rd2 (by decide)]; exact J.2.2.2.2⟩
      · refine e_aload_n dX4_spells_29 rfl ?_
        refine e_aload_n dX4_spells_30 rfl ?_
        refine e_getv (v := nI (p + i)) dX4_spells_31 ff_X4_15 rfl (fx_pi_lt (by decide)) (by decide) rfl R1.2.2.1 ?_
        refine e_callV1 (μ' := mX4_stopAt) (ci := 4) (As := [.int (nI (p + i))]) dX4_spells_34 wl_X4_80 ok_X4_stopAt rfl rfl (fx_pi_lt (by decide)) (by decide) (Nat.le_of_ble_eq_true rfl) fx_n1 (s_X4_stopAt (m := m1) (nI (p + i))) rfl ?_
        exact e_iret dX4_spells_37 rfl rfl rfl ⟨by rw [p_spI, if_neg c_m]; rfl, fx_o51 J.1, by rw [fx_rd2 (by decide)]; exact J.2.2.1, fun f hf => by rw [p_spI, if_neg c_m] at hf; cases hf; exact fx_rd0, fun h => by rw [p_spI, if_neg c_m] at h; cases h⟩
  refine e_iconst dX4_spells_0 kci_0 ?_
  refine e_istore_n dX4_spells_1 (by decide) rfl ?_
  exact lp q.2.2.length 0 m (by omega) ⟨fx_oP.refl _ m, R.2.2.1, rfl, hp, rfl⟩
set_option maxRecDepth 100000 in
set_option maxHeartbeats 600000 in
theorem s_X4_readNumbersArm {Γ : fx_G} {m : fx_M} {k n : Nat} {tx : Nat → Int32} {na nd : Nat} {t : p_Sg} {p : Nat} (R : fx_RS k n tx m na nd t p) : fx_Ct Γ mX4_readNumbers 2 119 119 [fx_rf Γ 51, .ref (Γ.2.2.2 2), .ref (Γ.2.2.2 1)] m (fx_NS n tx m p 6 (p_nmsF tx n (fun i => fx_tab 2 i) (fun i => fx_tab 1 i) p 6 0)) := by
  refine fx_Ct.of (j := 2) (by decide) (Nat.le_of_ble_eq_true rfl) (Nat.le_of_ble_eq_true rfl) ?_
  show fx_E Γ mX4_readNumbers 2 119 119 _ 119 m 0 [some (fx_rf Γ 51), some (.ref (Γ.2.2.2 2)), some (.ref (Γ.2.2.2 1)), none, none] []
  have hk : k < 8 := R.2.2.2.2.2.2.2.2.2.2.1
  have hn : n ≤ 160 := R.2.2.2.2.2.2.2.2.2.2.2.1
  have hp : p ≤ n := R.2.2.2.2.2.2.2.2.2.2.2.2
  have lp : ∀ (j : Nat) (i : Nat) (m1 : fx_M), i + j = 6 → (fx_oP (fun o => o = 51 ∨ o = 52) m m1 ∧ m1.1 51 3 = nI (p_pls tx n p i) ∧ p_pls tx n p i ≤ n ∧ (∀ x, x < i → m1.1 52 x = nI (p_nmV tx n (p_pls tx n p x))) ∧ m1.1 51 0 = m.1 51 0 ∧ m1.1 51 4 = m.1 51 4) → fx_E Γ mX4_readNumbers 2 119 119 (fx_NS n tx m p 6 (p_nmsF tx n (fun i => fx_tab 2 i) (fun i => fx_tab 1 i) p j i)) 119 m1 2 [some (fx_rf Γ 51), some (.ref (Γ.2.2.2 2)), some (.ref (Γ.2.2.2 1)), some (.int (nI i)), none] [] := by
    intro j
    induction j with
    | zero =>
      intro i m1 hi J
      have R1 : fx_RS k n tx m1 na nd t (p_pls tx n p i) := R.on J.1 J.2.1 J.2.2.1
      have hi2 : 6 = i := by omega
      refine e_iload_n dX4_readNumbers_2 rfl ?_
      refine e_aload_n dX4_readNumbers_3 rfl ?_
      refine e_slen (j := 1) (v := 6) dX4_readNumbers_4 rfl rfl ?_
      refine e_icmp_ge 76 dX4_readNumbers_5 rfl (fun _ => ?_) (fun h => absurd (show nI 6 ≤ nI i from nI_le (by omega) (by omega)) h)
      refine e_iconst dX4_readNumbers_76 kci_1 ?_
      exact e_iret dX4_readNumbers_77 rfl rfl rfl ⟨rfl, J.1, fun f hf => (by cases hf), fun _ => by rw [hi2]; exact ⟨J.2.1, J.2.2.1, J.2.2.2.1, J.2.2.2.2.1, J.2.2.2.2.2⟩⟩
    | succ j ih =>
      intro i m1 hi J
      have R1 : fx_RS k n tx m1 na nd t (p_pls tx n p i) := R.on J.1 J.2.1 J.2.2.1
      refine e_iload_n dX4_readNumbers_2 rfl ?_
      refine e_aload_n dX4_readNumbers_3 rfl ?_
      refine e_slen (j := 1) (v := 6) dX4_readNumbers_4 rfl rfl ?_
      refine e_icmp_ge 76 dX4_readNumbers_5 rfl (fun h => absurd h (show ¬ nI 6 ≤ nI i from nI_ge (by omega) (by omega))) (fun _ => ?_)
      refine e_iload_n dX4_readNumbers_8 rfl ?_
      refine e_aload_n dX4_readNumbers_9 rfl ?_
      refine e_slen (j := 2) (v := 6) dX4_readNumbers_10 rfl rfl ?_
      refine e_icmp_ge 76 dX4_readNumbers_11 rfl (fun h => absurd h (show ¬ nI 6 ≤ nI i from nI_ge (by omega) (by omega))) (fun _ => ?_)
      refine e_iload_n dX4_readNumbers_14 rfl ?_
      refine e_aload_n dX4_readNumbers_15 rfl ?_
      refine e_getr (o2 := 52) dX4_readNumbers_16 ff_X4_24 rfl (fx_pi_lt (by decide)) (by decide) rfl (R1.2.2.2.2.1 _ _ _ rfl) ?_
      refine e_alen (N := 7) dX4_readNumbers_19 rfl rfl (fx_pi_lt (by decide)) ?_
      refine e_icmp_ge 76 dX4_readNumbers_20 rfl (fun h => absurd h (show ¬ nI 7 ≤ nI i from nI_ge (by omega) (by omega))) (fun _ => ?_)
      refine e_aload_n dX4_readNumbers_23 rfl ?_
      refine e_callV (μ' := mX4_readNumber) (ci := 4) (As := []) dX4_readNumbers_24 wl_X4_126 ok_X4_readNumber rfl rfl (fx_pi_lt (by decide)) (by decide) (Nat.le_of_ble_eq_true rfl) fx_n1 (s_X4_readNumber (m := m1) R1) rfl (fun r_ m_ hpost => ?_)
      revert r_ m_
      intro r_ m2 hpost
      obtain ⟨rfl, o2, k2, f2, g2⟩ := hpost
      refine e_istore dX4_readNumbers_27 (by decide) rfl ?_
      refine e_iload dX4_readNumbers_29 rfl ?_
      refine e_iconst dX4_readNumbers_31 kci_m1 ?_
      refine e_icmp_ne 37 dX4_readNumbers_32 rfl (fun c_v => ?_) (fun c_v => ?_)
      · have hF : p_nmF tx n (p_pls tx n p i) = none := p_nmR_n.mp c_v
        rw [p_nmR_y hF]
        have h99 := p_nmV_le hF
        have hP2 := p_nmP_in hF
        have R2 : fx_RS k n tx m2 na nd t (p_nmP tx n (p_pls tx n p i)) := R1.on (fx_o51w o2) (g2 hF).1 hP2.2
        refine e_iload dX4_readNumbers_37 rfl ?_
        refine e_aload_n dX4_readNumbers_39 rfl ?_
        refine e_iload_n dX4_readNumbers_40 rfl ?_
        refine e_sald (j := 2) (i := i) dX4_readNumbers_41 rfl rfl (show i < 6 by omega) (by decide) ?_
        refine e_icmp_lt 53 dX4_readNumbers_42 rfl (fun c_l => ?_) (fun c_l => ?_)
        · refine e_aload_n dX4_readNumbers_53 rfl ?_
          refine e_aload_n dX4_readNumbers_54 rfl ?_
          refine e_getv (v := nI (p_pls tx n p i + 1)) dX4_readNumbers_55 ff_X4_21 rfl (fx_pi_lt (by decide)) (by decide) rfl (g2 hF).2.1 ?_
          refine e_callV1 (μ' := mX4_stopAt) (ci := 4) (As := [.int (nI (p_pls tx n p i + 1))]) dX4_readNumbers_58 wl_X4_80 ok_X4_stopAt rfl rfl (fx_pi_lt (by decide)) (by decide) (Nat.le_of_ble_eq_true rfl) fx_n1 (s_X4_stopAt (m := m2) (nI (p_pls tx n p i + 1))) rfl ?_
          have c_l : nI (p_nmV tx n (p_pls tx n p i)) < fx_tab 2 i := c_l
          have hG : p_nmsF tx n (fun i => fx_tab 2 i) (fun i => fx_tab 1 i) p (j + 1) i = some (p_pls tx n p i + 1) := by rw [p_nmsF, hF]; simp only []; rw [if_pos c_l]
          exact e_iret dX4_readNumbers_61 rfl rfl rfl ⟨by rw [hG]; rfl, (J.1.trans (fx_o51w o2)).sI (Or.inl rfl), fun f hf => (by rw [hG] at hf; cases hf; exact fx_rd0), fun h => (by rw [hG] at h; cases h)⟩
        · refine e_iload dX4_readNumbers_45 rfl ?_
          refine e_aload_n dX4_readNumbers_47 rfl ?_
          refine e_iload_n dX4_readNumbers_48 rfl ?_
          refine e_sald (j := 1) (i := i) dX4_readNumbers_49 rfl rfl (show i < 6 by omega) (by decide) ?_
          refine e_icmp_le 62 dX4_readNumbers_50 rfl (fun c_h => ?_) (fun c_h => ?_)
          · refine e_aload_n dX4_readNumbers_62 rfl ?_
            refine e_getr (o2 := 52) dX4_readNumbers_63 ff_X4_24 rfl (fx_pi_lt (by decide)) (by decide) rfl (R2.2.2.2.2.1 _ _ _ rfl) ?_
            refine e_iload_n dX4_readNumbers_66 rfl ?_
            refine e_iload dX4_readNumbers_67 rfl ?_
            refine e_iast (j := i) dX4_readNumbers_69 rfl (fx_pi_lt (by decide)) rfl (by omega) (by decide) ?_
            refine e_iinc (v := nI (i + 1)) dX4_readNumbers_70 rfl (fx_inc _) (by decide) rfl ?_
            refine e_goto 2 dX4_readNumbers_73 rfl ?_
            have c_l : ¬ nI (p_nmV tx n (p_pls tx n p i)) < fx_tab 2 i := c_l
            have c_h : nI (p_nmV tx n (p_pls tx n p i)) ≤ fx_tab 1 i := c_h
            rw [show p_nmsF tx n (fun i => fx_tab 2 i) (fun i => fx_tab 1 i) p (j + 1) i = p_nmsF tx n (fun i => fx_tab 2 i) (fun i => fx_tab 1 i) p j (i + 1) from by rw [p_nmsF, hF]; simp only []; rw [if_neg c_l, if_neg (Decidable.not_not.mpr c_h)]]
            refine e_weak (lv2 := [some (fx_rf Γ 51), some (.ref (Γ.2.2.2 2)), some (.ref (Γ.2.2.2 1)), some (.int (nI (i + 1))), none]) ⟨rfl, rfl, rfl, rfl, trivial⟩ ?_
            refine ih (i + 1) _ (by omega) ⟨(J.1.trans (fx_o51w o2)).sI (Or.inr rfl), by rw [fx_sI_n _ _ _ (by decide)]; exact (g2 hF).1, hP2.2, fun x hx => ?_, by rw [fx_sI_n _ _ _ (by decide)]; exact (g2 hF).2.2.trans J.2.2.2.2.1, by rw [fx_sI_n _ _ _ (by decide)]; exact k2.trans J.2.2.2.2.2⟩
            by_cases e : x = i
            · subst e; exact fx_rd0
            · rw [fx_rd2 (Ne.symm e), o2.2 52 (by decide)]; exact J.2.2.2.1 x (by omega)
          · refine e_aload_n dX4_readNumbers_53 rfl ?_
            refine e_aload_n dX4_readNumbers_54 rfl ?_
            refine e_getv (v := nI (p_pls tx n p i + 1)) dX4_readNumbers_55 ff_X4_21 rfl (fx_pi_lt (by decide)) (by decide) rfl (g2 hF).2.1 ?_
            refine e_callV1 (μ' := mX4_stopAt) (ci := 4) (As := [.int (nI (p_pls tx n p i + 1))]) dX4_readNumbers_58 wl_X4_80 ok_X4_stopAt rfl rfl (fx_pi_lt (by decide)) (by decide) (Nat.le_of_ble_eq_true rfl) fx_n1 (s_X4_stopAt (m := m2) (nI (p_pls tx n p i + 1))) rfl ?_
            have c_l : ¬ nI (p_nmV tx n (p_pls tx n p i)) < fx_tab 2 i := c_l
            have c_h : ¬ nI (p_nmV tx n (p_pls tx n p i)) ≤ fx_tab 1 i := c_h
            have hG : p_nmsF tx n (fun i => fx_tab 2 i) (fun i => fx_tab 1 i) p (j + 1) i = some (p_pls tx n p i + 1) := by rw [p_nmsF, hF]; simp only []; rw [if_neg c_l, if_pos c_h]
            exact e_iret dX4_readNumbers_61 rfl rfl rfl ⟨by rw [hG]; rfl, (J.1.trans (fx_o51w o2)).sI (Or.inl rfl), fun f hf => (by rw [hG] at hf; cases hf; exact fx_rd0), fun h => (by rw [hG] at h; cases h)⟩
      · refine e_iconst dX4_readNumbers_35 kci_0 ?_
        have hN : ¬ p_nmF tx n (p_pls tx n p i) = none := fun h => absurd c_v (p_nmR_n.mpr h)
        obtain ⟨f0, hf0⟩ := Option.ne_none_iff_exists'.mp hN
        have hG : p_nmsF tx n (fun i => fx_tab 2 i) (fun i => fx_tab 1 i) p (j + 1) i = some f0 := by rw [p_nmsF, hf0]
        exact e_iret dX4_readNumbers_36 rfl rfl rfl ⟨by rw [hG]; rfl, J.1.trans (fx_o51w o2), fun f hf => (by rw [hG] at hf; cases hf; exact f2 _ hf0), fun h => (by rw [hG] at h; cases h)⟩
  refine e_iconst dX4_readNumbers_0 kci_0 ?_
  refine e_istore_n dX4_readNumbers_1 (by decide) rfl ?_
  exact lp 6 0 m (by omega) ⟨fx_oP.refl _ m, R.2.2.1, hp, (fun x hx => absurd hx (Nat.not_lt_zero _)), rfl, rfl⟩
set_option maxRecDepth 100000 in
set_option maxHeartbeats 600000 in
theorem s_X4_readNumbersDoll {Γ : fx_G} {m : fx_M} {k n : Nat} {tx : Nat → Int32} {na nd : Nat} {t : p_Sg} {p : Nat} (R : fx_RS k n tx m na nd t p) : fx_Ct Γ mX4_readNumbers 2 119 119 [fx_rf Γ 51, .ref (Γ.2.2.2 4), .ref (Γ.2.2.2 3)] m (fx_NS n tx m p 7 (p_nmsF tx n (fun i => fx_tab 4 i) (fun i => fx_tab 3 i) p 7 0)) := by
  refine fx_Ct.of (j := 2) (by decide) (Nat.le_of_ble_eq_true rfl) (Nat.le_of_ble_eq_true rfl) ?_
  show fx_E Γ mX4_readNumbers 2 119 119 _ 119 m 0 [some (fx_rf Γ 51), some (.ref (Γ.2.2.2 4)), some (.ref (Γ.2.2.2 3)), none, none] []
  have hk : k < 8 := R.2.2.2.2.2.2.2.2.2.2.1
  have hn : n ≤ 160 := R.2.2.2.2.2.2.2.2.2.2.2.1
  have hp : p ≤ n := R.2.2.2.2.2.2.2.2.2.2.2.2
  have lp : ∀ (j : Nat) (i : Nat) (m1 : fx_M), i + j = 7 → (fx_oP (fun o => o = 51 ∨ o = 52) m m1 ∧ m1.1 51 3 = nI (p_pls tx n p i) ∧ p_pls tx n p i ≤ n ∧ (∀ x, x < i → m1.1 52 x = nI (p_nmV tx n (p_pls tx n p x))) ∧ m1.1 51 0 = m.1 51 0 ∧ m1.1 51 4 = m.1 51 4) → fx_E Γ mX4_readNumbers 2 119 119 (fx_NS n tx m p 7 (p_nmsF tx n (fun i => fx_tab 4 i) (fun i => fx_tab 3 i) p j i)) 119 m1 2 [some (fx_rf Γ 51), some (.ref (Γ.2.2.2 4)), some (.ref (Γ.2.2.2 3)), some (.int (nI i)), none] [] := by
    intro j
    induction j with
    | zero =>
      intro i m1 hi J
      have R1 : fx_RS k n tx m1 na nd t (p_pls tx n p i) := R.on J.1 J.2.1 J.2.2.1
      have hi2 : 7 = i := by omega
      refine e_iload_n dX4_readNumbers_2 rfl ?_
      refine e_aload_n dX4_readNumbers_3 rfl ?_
      refine e_slen (j := 3) (v := 7) dX4_readNumbers_4 rfl rfl ?_
      refine e_icmp_ge 76 dX4_readNumbers_5 rfl (fun _ => ?_) (fun h => absurd (show nI 7 ≤ nI i from nI_le (by omega) (by omega)) h)
      refine e_iconst dX4_readNumbers_76 kci_1 ?_
      exact e_iret dX4_readNumbers_77 rfl rfl rfl ⟨rfl, J.1, fun f hf => (by cases hf), fun _ => by rw [hi2]; exact ⟨J.2.1, J.2.2.1, J.2.2.2.1, J.2.2.2.2.1, J.2.2.2.2.2⟩⟩
    | succ j ih =>
      intro i m1 hi J
      have R1 : fx_RS k n tx m1 na nd t (p_pls tx n p i) := R.on J.1 J.2.1 J.2.2.1
      refine e_iload_n dX4_readNumbers_2 rfl ?_
      refine e_aload_n dX4_readNumbers_3 rfl ?_
      refine e_slen (j := 3) (v := 7) dX4_readNumbers_4 rfl rfl ?_
      refine e_icmp_ge 76 dX4_readNumbers_5 rfl (fun h => absurd h (show ¬ nI 7 ≤ nI i from nI_ge (by omega) (by omega))) (fun _ => ?_)
      refine e_iload_n dX4_readNumbers_8 rfl ?_
      refine e_aload_n dX4_readNumbers_9 rfl ?_
      refine e_slen (j := 4) (v := 7) dX4_readNumbers_10 rfl rfl ?_
      refine e_icmp_ge 76 dX4_readNumbers_11 rfl (fun h => absurd h (show ¬ nI 7 ≤ nI i from nI_ge (by omega) (by omega))) (fun _ => ?_)
      refine e_iload_n dX4_readNumbers_14 rfl ?_
      refine e_aload_n dX4_readNumbers_15 rfl ?_
      refine e_getr (o2 := 52) dX4_readNumbers_16 ff_X4_24 rfl (fx_pi_lt (by decide)) (by decide) rfl (R1.2.2.2.2.1 _ _ _ rfl) ?_
      refine e_alen (N := 7) dX4_readNumbers_19 rfl rfl (fx_pi_lt (by decide)) ?_
      refine e_icmp_ge 76 dX4_readNumbers_20 rfl (fun h => absurd h (show ¬ nI 7 ≤ nI i from nI_ge (by omega) (by omega))) (fun _ => ?_)
      refine e_aload_n dX4_readNumbers_23 rfl ?_
      refine e_callV (μ' := mX4_readNumber) (ci := 4) (As := []) dX4_readNumbers_24 wl_X4_126 ok_X4_readNumber rfl rfl (fx_pi_lt (by decide)) (by decide) (Nat.le_of_ble_eq_true rfl) fx_n1 (s_X4_readNumber (m := m1) R1) rfl (fun r_ m_ hpost => ?_)
      revert r_ m_
      intro r_ m2 hpost
      obtain ⟨rfl, o2, k2, f2, g2⟩ := hpost
      refine e_istore dX4_readNumbers_27 (by decide) rfl ?_
      refine e_iload dX4_readNumbers_29 rfl ?_
      refine e_iconst dX4_readNumbers_31 kci_m1 ?_
      refine e_icmp_ne 37 dX4_readNumbers_32 rfl (fun c_v => ?_) (fun c_v => ?_)
      · have hF : p_nmF tx n (p_pls tx n p i) = none := p_nmR_n.mp c_v
        rw [p_nmR_y hF]
        have h99 := p_nmV_le hF
        have hP2 := p_nmP_in hF
        have R2 : fx_RS k n tx m2 na nd t (p_nmP tx n (p_pls tx n p i)) := R1.on (fx_o51w o2) (g2 hF).1 hP2.2
        refine e_iload dX4_readNumbers_37 rfl ?_
        refine e_aload_n dX4_readNumbers_39 rfl ?_
        refine e_iload_n dX4_readNumbers_40 rfl ?_
        refine e_sald (j := 4) (i := i) dX4_readNumbers_41 rfl rfl (show i < 7 by omega) (by decide) ?_
        refine e_icmp_lt 53 dX4_readNumbers_42 rfl (fun c_l => ?_) (fun c_l => ?_)
        · refine e_aload_n dX4_readNumbers_53 rfl ?_
          refine e_aload_n dX4_readNumbers_54 rfl ?_
          refine e_getv (v := nI (p_pls tx n p i + 1)) dX4_readNumbers_55 ff_X4_21 rfl (fx_pi_lt (by decide)) (by decide) rfl (g2 hF).2.1 ?_
          refine e_callV1 (μ' := mX4_stopAt) (ci := 4) (As := [.int (nI (p_pls tx n p i + 1))]) dX4_readNumbers_58 wl_X4_80 ok_X4_stopAt rfl rfl (fx_pi_lt (by decide)) (by decide) (Nat.le_of_ble_eq_true rfl) fx_n1 (s_X4_stopAt (m := m2) (nI (p_pls tx n p i + 1))) rfl ?_
          have c_l : nI (p_nmV tx n (p_pls tx n p i)) < fx_tab 4 i := c_l
          have hG : p_nmsF tx n (fun i => fx_tab 4 i) (fun i => fx_tab 3 i) p (j + 1) i = some (p_pls tx n p i + 1) := by rw [p_nmsF, hF]; simp only []; rw [if_pos c_l]
          exact e_iret dX4_readNumbers_61 rfl rfl rfl ⟨by rw [hG]; rfl, (J.1.trans (fx_o51w o2)).sI (Or.inl rfl), fun f hf => (by rw [hG] at hf; cases hf; exact fx_rd0), fun h => (by rw [hG] at h; cases h)⟩
        · refine e_iload dX4_readNumbers_45 rfl ?_
          refine e_aload_n dX4_readNumbers_47 rfl ?_
          refine e_iload_n dX4_readNumbers_48 rfl ?_
          refine e_sald (j := 3) (i := i) dX4_readNumbers_49 rfl rfl (show i < 7 by omega) (by decide) ?_
          refine e_icmp_le 62 dX4_readNumbers_50 rfl (fun c_h => ?_) (fun c_h => ?_)
          · refine e_aload_n dX4_readNumbers_62 rfl ?_
            refine e_getr (o2 := 52) dX4_readNumbers_63 ff_X4_24 rfl (fx_pi_lt (by decide)) (by decide) rfl (R2.2.2.2.2.1 _ _ _ rfl) ?_
            refine e_iload_n dX4_readNumbers_66 rfl ?_
            refine e_iload dX4_readNumbers_67 rfl ?_
            refine e_iast (j := i) dX4_readNumbers_69 rfl (fx_pi_lt (by decide)) rfl (by omega) (by decide) ?_
            refine e_iinc (v := nI (i + 1)) dX4_readNumbers_70 rfl (fx_inc _) (by decide) rfl ?_
            refine e_goto 2 dX4_readNumbers_73 rfl ?_
            have c_l : ¬ nI (p_nmV tx n (p_pls tx n p i)) < fx_tab 4 i := c_l
            have c_h : nI (p_nmV tx n (p_pls tx n p i)) ≤ fx_tab 3 i := c_h
            rw [show p_nmsF tx n (fun i => fx_tab 4 i) (fun i => fx_tab 3 i) p (j + 1) i = p_nmsF tx n (fun i => fx_tab 4 i) (fun i => fx_tab 3 i) p j (i + 1) from by rw [p_nmsF, hF]; simp only []; rw [if_neg c_l, if_neg (Decidable.not_not.mpr c_h)]]
            refine e_weak (lv2 := [some (fx_rf Γ 51), some (.ref (Γ.2.2.2 4)), some (.ref (Γ.2.2.2 3)), some (.int (nI (i + 1))), none]) ⟨rfl, rfl, rfl, rfl, trivial⟩ ?_
            refine ih (i + 1) _ (by omega) ⟨(J.1.trans (fx_o51w o2)).sI (Or.inr rfl), by rw [fx_sI_n _ _ _ (by decide)]; exact (g2 hF).1, hP2.2, fun x hx => ?_, by rw [fx_sI_n _ _ _ (by decide)]; exact (g2 hF).2.2.trans J.2.2.2.2.1, by rw [fx_sI_n _ _ _ (by decide)]; exact k2.trans J.2.2.2.2.2⟩
            by_cases e : x = i
            · subst e; exact fx_rd0
            · rw [fx_rd2 (Ne.symm e), o2.2 52 (by decide)]; exact J.2.2.2.1 x (by omega)
          · refine e_aload_n dX4_readNumbers_53 rfl ?_
            refine e_aload_n dX4_readNumbers_54 rfl ?_
            refine e_getv (v := nI (p_pls tx n p i + 1)) dX4_readNumbers_55 ff_X4_21 rfl (fx_pi_lt (by decide)) (by decide) rfl (g2 hF).2.1 ?_
            refine e_callV1 (μ' := mX4_stopAt) (ci := 4) (As := [.int (nI (p_pls tx n p i + 1))]) dX4_readNumbers_58 wl_X4_80 ok_X4_stopAt rfl rfl (fx_pi_lt (by decide)) (by decide) (Nat.le_of_ble_eq_true rfl) fx_n1 (s_X4_stopAt (m := m2) (nI (p_pls tx n p i + 1))) rfl ?_
            have c_l : ¬ nI (p_nmV tx n (p_pls tx n p i)) < fx_tab 4 i := c_l
            have c_h : ¬ nI (p_nmV tx n (p_pls tx n p i)) ≤ fx_tab 3 i := c_h
            have hG : p_nmsF tx n (fun i => fx_tab 4 i) (fun i => fx_tab 3 i) p (j + 1) i = some (p_pls tx n p i + 1) := by rw [p_nmsF, hF]; simp only []; rw [if_neg c_l, if_pos c_h]
            exact e_iret dX4_readNumbers_61 rfl rfl rfl ⟨by rw [hG]; rfl, (J.1.trans (fx_o51w o2)).sI (Or.inl rfl), fun f hf => (by rw [hG] at hf; cases hf; exact fx_rd0), fun h => (by rw [hG] at h; cases h)⟩
      · refine e_iconst dX4_readNumbers_35 kci_0 ?_
        have hN : ¬ p_nmF tx n (p_pls tx n p i) = none := fun h => absurd c_v (p_nmR_n.mpr h)
        obtain ⟨f0, hf0⟩ := Option.ne_none_iff_exists'.mp hN
        have hG : p_nmsF tx n (fun i => fx_tab 4 i) (fun i => fx_tab 3 i) p (j + 1) i = some f0 := by rw [p_nmsF, hf0]
        exact e_iret dX4_readNumbers_36 rfl rfl rfl ⟨by rw [hG]; rfl, J.1.trans (fx_o51w o2), fun f hf => (by rw [hG] at hf; cases hf; exact f2 _ hf0), fun h => (by rw [hG] at h; cases h)⟩
  refine e_iconst dX4_readNumbers_0 kci_0 ?_
  refine e_istore_n dX4_readNumbers_1 (by decide) rfl ?_
  exact lp 7 0 m (by omega) ⟨fx_oP.refl _ m, R.2.2.1, hp, (fun x hx => absurd hx (Nat.not_lt_zero _)), rfl, rfl⟩
