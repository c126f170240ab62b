theorem fx_RS.sA {k n : Nat} {tx : Nat → Int32} {m : fx_M} {na nd : Nat} {t : p_Sg} {p x j : Nat} {v : Int32} (R : fx_RS k n tx m na nd t p) (hx : x < na) (hj : j < 7) : fx_RS k n tx (fx_sI m (33 + 3 + x) j v) na nd (p_ua t.1 x (p_u (t.1 x) j v), t.2.1, t.2.2) p ∧ fx_RF m (fx_sI m (33 + 3 + x) j v) ∧ (fx_sI m (33 + 3 + x) j v).1 51 0 = m.1 51 0 := by
  have h8 := R.2.2.2.2.2.2.2.2.1
  have h5 := R.2.2.2.2.2.2.2.2.2.1
  have F : fx_RF m (fx_sI m (33 + 3 + x) j v) := (fx_RF.refl m).sI (Or.inl ⟨by omega, by omega⟩)
  refine ⟨R.to (na' := na) (nd' := nd) (t' := (p_ua t.1 x (p_u (t.1 x) j v), t.2.1, t.2.2)) F (congrFun (fx_sI_n _ _ _ (by omega)) 3) (R.2.2.2.1.sArm hx h8) (fun a b h => ?_) h8 h5, F, congrFun (fx_sI_n _ _ _ (by omega)) 0⟩
  have hJ := R.2.2.2.2.2.2.2.1 a b h
  by_cases e : a = 33 + 3 + x
  · subst e
    rw [fx_rd2 (by omega)]; exact hJ
  · rw [fx_sI_n _ _ _ e]; exact hJ
theorem fx_RS.sD {k n : Nat} {tx : Nat → Int32} {m : fx_M} {na nd : Nat} {t : p_Sg} {p x j : Nat} {v : Int32} (R : fx_RS k n tx m na nd t p) (hx : x < nd) (hj : j < 8) : fx_RS k n tx (fx_sI m (33 + 11 + x) j v) na nd (t.1, p_ua t.2.1 x (p_u (t.2.1 x) j v), t.2.2) p ∧ fx_RF m (fx_sI m (33 + 11 + x) j v) ∧ (fx_sI m (33 + 11 + x) j v).1 51 0 = m.1 51 0 := by
  have h8 := R.2.2.2.2.2.2.2.2.1
  have h5 := R.2.2.2.2.2.2.2.2.2.1
  have F : fx_RF m (fx_sI m (33 + 11 + x) j v) := (fx_RF.refl m).sI (Or.inl ⟨by omega, by omega⟩)
  refine ⟨R.to (na' := na) (nd' := nd) (t' := (t.1, p_ua t.2.1 x (p_u (t.2.1 x) j v), t.2.2)) F (congrFun (fx_sI_n _ _ _ (by omega)) 3) (R.2.2.2.1.sDoll hx h8) (fun a b h => ?_) h8 h5, F, congrFun (fx_sI_n _ _ _ (by omega)) 0⟩
  have hJ := R.2.2.2.2.2.2.2.1 a b h
  by_cases e : a = 33 + 11 + x
  · subst e
    rw [fx_rd2 (by omega)]; exact hJ
  · rw [fx_sI_n _ _ _ e]; exact hJ
def p_onI (tx : Nat → Int32) (n p na nd : Nat) (t : p_Sg) : p_IR := match p_nmF tx n p with
  | some f => (some f, p, na, nd, t)
  | none => if ¬ p_nmV tx n p < na then (some (p + 1), p, na, nd, t) else if ¬ t.1 (p_nmV tx n p) 6 = 99 then (some (p + 1), p, na, nd, t) else match p_nmF tx n (p_nmP tx n p) with
    | some f => (some f, p, na, nd, t)
    | none => if ¬ p_nmV tx n (p_nmP tx n p) < nd then (some (p_nmP tx n p + 1), p, na, nd, t) else if ¬ p_can t.1 t.2.1 na (p_nmV tx n p) (p_nmV tx n (p_nmP tx n p)) (t.1 (p_nmV tx n p) 2) then (some (p_nmP tx n p + 1), p, na, nd, t)
      else (none, p_nmP tx n (p_nmP tx n p), na, nd, (p_ua t.1 (p_nmV tx n p) (p_u (t.1 (p_nmV tx n p)) 6 (10 * nI (p_nmV tx n (p_nmP tx n p)) + t.1 (p_nmV tx n p) 2)), t.2.1, t.2.2))
def p_offI (tx : Nat → Int32) (n p na nd : Nat) (t : p_Sg) : p_IR := match p_nmF tx n p with
  | some f => (some f, p, na, nd, t)
  | none => if ¬ p_nmV tx n p < na then (some (p + 1), p, na, nd, t) else if t.1 (p_nmV tx n p) 6 = 99 then (some (p + 1), p, na, nd, t) else (none, p_nmP tx n p, na, nd, p_off t (p_nmV tx n p))
def p_lieI (tx : Nat → Int32) (n p na nd : Nat) (t : p_Sg) : p_IR := match p_nmF tx n p with
  | some f => (some f, p, na, nd, t)
  | none => if ¬ p_nmV tx n p < nd then (some (p + 1), p, na, nd, t) else match p_nmF tx n (p_nmP tx n p) with
    | some f => (some f, p, na, nd, t)
    | none => (none, p_nmP tx n (p_nmP tx n p), na, nd, (t.1, p_ua t.2.1 (p_nmV tx n p) (p_u (t.2.1 (p_nmV tx n p)) 7 (nI (p_nmV tx n (p_nmP tx n p)))), t.2.2))
set_option maxRecDepth 100000 in
set_option maxHeartbeats 600000 in
theorem s_X4_readOn {Γ : fx_G} {m : fx_M} {k n : Nat} {tx : Nat → Int32} {na nd : Nat} {t : p_Sg} {p : Nat} (R : fx_RS k n tx m na nd t p) : fx_Ct Γ mX4_readOn 3 119 119 [fx_rf Γ 51] m (fx_PR k n tx m (p_onI tx n p na nd t)) := by
  refine fx_Ct.of (j := 3) (by decide) (Nat.le_of_ble_eq_true rfl) (Nat.le_of_ble_eq_true rfl) ?_
  show fx_E Γ mX4_readOn 3 119 119 _ 119 m 0 [some (fx_rf Γ 51), none, none, none] []
  have hk : k < 8 := R.2.2.2.2.2.2.2.2.2.2.1
  have hn : n ≤ 160 := R.2.2.2.2.2.2.2.2.2.2.2.1
  have hp : p ≤ n := R.2.2.2.2.2.2.2.2.2.2.2.2
  have h8 := R.2.2.2.2.2.2.2.2.1
  have h5 := R.2.2.2.2.2.2.2.2.2.1
  refine e_aload_n dX4_readOn_0 rfl ?_
  refine e_callV (μ' := mX4_readNumber) (ci := 4) (As := []) dX4_readOn_1 wl_X4_126 ok_X4_readNumber rfl rfl (fx_pi_lt (by decide)) (by decide) (Nat.le_of_ble_eq_true rfl) fx_n1 (s_X4_readNumber (m := m) R) rfl (fun r_ m_ hpost => ?_)
  revert r_ m_
  intro r_ m1 hpost
  obtain ⟨rfl, o1, k1, f1, g1⟩ := hpost
  refine e_istore_n dX4_readOn_4 (by decide) rfl ?_
  refine e_iload_n dX4_readOn_5 rfl ?_
  refine e_iconst dX4_readOn_6 kci_m1 ?_
  refine e_icmp_ne 12 dX4_readOn_7 rfl (fun c_1 => ?_) (fun c_1 => ?_)
  · have hF1 : p_nmF tx n p = none := p_nmR_n.mp c_1
    rw [p_nmR_y hF1]
    have h99 := p_nmV_le hF1
    have hP1 := p_nmP_in hF1
    have R1 : fx_RS k n tx m1 na nd t (p_nmP tx n p) := R.on (fx_o51w o1) (g1 hF1).1 hP1.2
    obtain ⟨x, ex⟩ : ∃ z, z = p_nmV tx n p := ⟨_, rfl⟩
    rw [← ex]
    have hvx : x ≤ 99 := by omega
    refine e_aload_n dX4_readOn_12 rfl ?_
    refine e_getr (o2 := 33) dX4_readOn_13 ff_X4_28 rfl (fx_pi_lt (by decide)) (by decide) rfl R1.2.1 ?_
    refine e_iload_n dX4_readOn_16 rfl ?_
    refine e_callV (μ' := mX6_isArm) (ci := 6) (As := [.int (nI x)]) dX4_readOn_17 wl_X4_129 ok_X6_isArm rfl rfl (fx_pi_lt (by decide)) (by decide) (Nat.le_of_ble_eq_true rfl) fx_n1 (s_X6_isArm (m := m1) 33 fx_s33 R1.2.2.2.1.1 (nI x)) rfl (fun r_ m_ hpost => ?_)
    obtain ⟨rfl, e2⟩ := hpost
    have e2 := e2.symm
    subst e2
    rw [p_ifc (p_el_n (x := x) (a := na) (by omega) (by omega))]
    refine e_if_eqB 38 dX4_readOn_20 rfl (fun c_a => ?_) (fun c_a => ?_)
    · refine e_aload_n dX4_readOn_38 rfl ?_
      refine e_aload_n dX4_readOn_39 rfl ?_
      refine e_getv (v := nI (p + 1)) dX4_readOn_40 ff_X4_21 rfl (fx_pi_lt (by decide)) (by decide) rfl (g1 hF1).2.1 ?_
      refine e_callV1 (μ' := mX4_stopAt) (ci := 4) (As := [.int (nI (p + 1))]) dX4_readOn_43 wl_X4_80 ok_X4_stopAt rfl rfl (fx_pi_lt (by decide)) (by decide) (Nat.le_of_ble_eq_true rfl) fx_n1 (s_X4_stopAt (m := m1) (nI (p + 1))) rfl ?_
      have hE : p_onI tx n p na nd t = (some (p + 1), p, na, nd, t) := by rw [p_onI, hF1]; simp only []; rw [← ex]; first | rw [if_pos c_a] | rw [if_neg (Decidable.not_not.mpr c_a), if_pos c_d]
      exact e_iret dX4_readOn_46 rfl rfl rfl ⟨by rw [hE]; rfl, (fx_RF.on (fx_o51w o1)).sI (Or.inr (Or.inl rfl)), fx_J51 (fx_Jon R.2.2.2.2.2.2.2.1 (fx_o51w o1)) (Or.inl rfl), fun f hf => (by rw [hE] at hf; cases hf; exact fx_rd0), fun h => (by rw [hE] at h; cases h)⟩
    · have hx : x < na := c_a
      refine e_aload_n dX4_readOn_23 rfl ?_
      refine e_getr (o2 := 33) dX4_readOn_24 ff_X4_28 rfl (fx_pi_lt (by decide)) (by decide) rfl R1.2.1 ?_
      refine e_getr (o2 := 34) dX4_readOn_27 ff_X4_132 rfl (fx_pi_lt (by decide)) (by decide) rfl (R1.2.2.2.2.1 _ _ _ rfl) ?_
      refine e_iload_n dX4_readOn_30 rfl ?_
      refine e_aald (j := x) (o2 := 33 + 3 + x) dX4_readOn_31 rfl (Or.inl rfl) (fx_pi_lt (by decide)) rfl (by omega) (by decide) (fx_s33.ra R1.2.2.2.2.1 (by omega)) ?_
      refine e_callV (μ' := mX0_isInDrawer) (ci := 0) (As := []) dX4_readOn_32 wl_X4_136 ok_X0_isInDrawer (fx_s33.sa (by omega)) rfl (fx_pi_lt (fx_s33.la (by omega))) (by decide) (Nat.le_of_ble_eq_true rfl) fx_n1 (s_X0_isInDrawer (m := m1) (33 + 3 + x) (fx_s33.sa (by omega)) (fx_s33.la (by omega))) rfl (fun r_ m_ hpost => ?_)
      obtain ⟨rfl, e2⟩ := hpost
      have e2 := e2.symm
      subst e2
      rw [R1.2.2.2.1.2.2.1 x hx]
      refine e_if_neB 47 dX4_readOn_35 rfl (fun c_d => ?_) (fun c_d => ?_)
      · refine e_aload_n dX4_readOn_47 rfl ?_
        refine e_callV (μ' := mX4_readNumber) (ci := 4) (As := []) dX4_readOn_48 wl_X4_126 ok_X4_readNumber rfl rfl (fx_pi_lt (by decide)) (by decide) (Nat.le_of_ble_eq_true rfl) fx_n1 (s_X4_readNumber (m := m1) R1) rfl (fun r_ m_ hpost => ?_)
        revert r_ m_
        intro r_ m2 hpost
        obtain ⟨rfl, o2, k2, f2, g2⟩ := hpost
        refine e_istore_n dX4_readOn_51 (by decide) rfl ?_
        refine e_iload_n dX4_readOn_52 rfl ?_
        refine e_iconst dX4_readOn_53 kci_m1 ?_
        refine e_icmp_ne 59 dX4_readOn_54 rfl (fun c_2 => ?_) (fun c_2 => ?_)
        · have hF2 : p_nmF tx n (p_nmP tx n p) = none := p_nmR_n.mp c_2
          rw [p_nmR_y hF2]
          have h992 := p_nmV_le hF2
          have hP2 := p_nmP_in hF2
          have R2 : fx_RS k n tx m2 na nd t (p_nmP tx n (p_nmP tx n p)) := R1.on (fx_o51w o2) (g2 hF2).1 hP2.2
          obtain ⟨y, ey⟩ : ∃ z, z = p_nmV tx n (p_nmP tx n p) := ⟨_, rfl⟩
          rw [← ey]
          have hvy : y ≤ 99 := by omega
          refine e_aload_n dX4_readOn_59 rfl ?_
          refine e_getr (o2 := 33) dX4_readOn_60 ff_X4_28 rfl (fx_pi_lt (by decide)) (by decide) rfl R2.2.1 ?_
          refine e_getr (o2 := 34) dX4_readOn_63 ff_X4_132 rfl (fx_pi_lt (by decide)) (by decide) rfl (R2.2.2.2.2.1 _ _ _ rfl) ?_
          refine e_iload_n dX4_readOn_66 rfl ?_
          refine e_aald (j := x) (o2 := 33 + 3 + x) dX4_readOn_67 rfl (Or.inl rfl) (fx_pi_lt (by decide)) rfl (by omega) (by decide) (fx_s33.ra R2.2.2.2.2.1 (by omega)) ?_
          refine e_getv (v := t.1 x 2) dX4_readOn_68 ff_X4_141 (fx_s33.sa (by omega)) (fx_pi_lt (fx_s33.la (by omega))) (by decide) rfl (congrFun (R2.2.2.2.1.2.2.1 x hx) 2) ?_
          refine e_istore_n dX4_readOn_71 (by decide) rfl ?_
          refine e_aload_n dX4_readOn_72 rfl ?_
          refine e_getr (o2 := 33) dX4_readOn_73 ff_X4_28 rfl (fx_pi_lt (by decide)) (by decide) rfl R2.2.1 ?_
          refine e_iload_n dX4_readOn_76 rfl ?_
          refine e_callV (μ' := mX6_isDoll) (ci := 6) (As := [.int (nI y)]) dX4_readOn_77 wl_X4_144 ok_X6_isDoll rfl rfl (fx_pi_lt (by decide)) (by decide) (Nat.le_of_ble_eq_true rfl) fx_n1 (s_X6_isDoll (m := m2) 33 fx_s33 R2.2.2.2.1.2.1 (nI y)) rfl (fun r_ m_ hpost => ?_)
          obtain ⟨rfl, e2⟩ := hpost
          have e2 := e2.symm
          subst e2
          rw [p_ifc (p_el_n (x := y) (a := nd) (by omega) (by omega))]
          refine e_if_eqB 96 dX4_readOn_80 rfl (fun c_e => ?_) (fun c_e => ?_)
          · refine e_aload_n dX4_readOn_96 rfl ?_
            refine e_aload_n dX4_readOn_97 rfl ?_
            refine e_getv (v := nI (p_nmP tx n p + 1)) dX4_readOn_98 ff_X4_21 rfl (fx_pi_lt (by decide)) (by decide) rfl (g2 hF2).2.1 ?_
            refine e_callV1 (μ' := mX4_stopAt) (ci := 4) (As := [.int (nI (p_nmP tx n p + 1))]) dX4_readOn_101 wl_X4_80 ok_X4_stopAt rfl rfl (fx_pi_lt (by decide)) (by decide) (Nat.le_of_ble_eq_true rfl) fx_n1 (s_X4_stopAt (m := m2) (nI (p_nmP tx n p + 1))) rfl ?_
            have hE : p_onI tx n p na nd t = (some (p_nmP tx n p + 1), p, na, nd, t) := by rw [p_onI, hF1]; simp only []; rw [← ex, if_neg (Decidable.not_not.mpr c_a), if_neg (Decidable.not_not.mpr c_d), hF2]; simp only []; rw [← ey]; first | rw [if_pos c_e] | rw [if_neg (Decidable.not_not.mpr c_e), if_pos c_c]
            exact e_iret dX4_readOn_104 rfl rfl rfl ⟨by rw [hE]; rfl, (fx_RF.on (fx_o51w (o1.trans o2))).sI (Or.inr (Or.inl rfl)), fx_J51 (fx_Jon R.2.2.2.2.2.2.2.1 (fx_o51w (o1.trans o2))) (Or.inl rfl), fun f hf => (by rw [hE] at hf; cases hf; exact fx_rd0), fun h => (by rw [hE] at h; cases h)⟩
          · have hy : y < nd := c_e
            refine e_aload_n dX4_readOn_83 rfl ?_
            refine e_getr (o2 := 33) dX4_readOn_84 ff_X4_28 rfl (fx_pi_lt (by decide)) (by decide) rfl R2.2.1 ?_
            refine e_iload_n dX4_readOn_87 rfl ?_
            refine e_iload_n dX4_readOn_88 rfl ?_
            refine e_iload_n dX4_readOn_89 rfl ?_
            refine e_callV1 (μ' := mX6_canCome) (ci := 6) (As := [.int (nI x), .int (nI y), .int (t.1 x 2)]) dX4_readOn_90 wl_X4_147 ok_X6_canCome rfl rfl (fx_pi_lt (by decide)) (by decide) (Nat.le_of_ble_eq_true rfl) fx_n1 (s_X6_canComeT (m := m2) 33 fx_s33 R2.2.2.2.2.1 h8 h5 R2.2.2.2.1 hx hy (t.1 x 2)) rfl ?_
            refine e_if_neB 105 dX4_readOn_93 rfl (fun c_c => ?_) (fun c_c => ?_)
            · refine e_aload_n dX4_readOn_105 rfl ?_
              refine e_getr (o2 := 33) dX4_readOn_106 ff_X4_28 rfl (fx_pi_lt (by decide)) (by decide) rfl R2.2.1 ?_
              refine e_getr (o2 := 34) dX4_readOn_109 ff_X4_132 rfl (fx_pi_lt (by decide)) (by decide) rfl (R2.2.2.2.2.1 _ _ _ rfl) ?_
              refine e_iload_n dX4_readOn_112 rfl ?_
              refine e_aald (j := x) (o2 := 33 + 3 + x) dX4_readOn_113 rfl (Or.inl rfl) (fx_pi_lt (by decide)) rfl (by omega) (by decide) (fx_s33.ra R2.2.2.2.2.1 (by omega)) ?_
              refine e_iload_n dX4_readOn_114 rfl ?_
              refine e_iload_n dX4_readOn_115 rfl ?_
              refine e_callV1 (μ' := mX0_comeOn) (ci := 0) (As := [.int (nI y), .int (t.1 x 2)]) dX4_readOn_116 wl_X4_151 ok_X0_comeOn (fx_s33.sa (by omega)) rfl (fx_pi_lt (fx_s33.la (by omega))) (by decide) (Nat.le_of_ble_eq_true rfl) fx_n1 (s_X0_comeOn (m := m2) (33 + 3 + x) (fx_s33.sa (by omega)) (fx_s33.la (by omega)) (nI y) (t.1 x 2)) rfl ?_
              refine e_iconst dX4_readOn_119 kci_1 ?_
              have HS := R2.sA (j := 6) (v := 10 * nI y + t.1 x 2) hx (by decide)
              have hE : p_onI tx n p na nd t = (none, p_nmP tx n (p_nmP tx n p), na, nd, (p_ua t.1 x (p_u (t.1 x) 6 (10 * nI y + t.1 x 2)), t.2.1, t.2.2)) := by rw [p_onI, hF1]; simp only []; rw [← ex, if_neg (Decidable.not_not.mpr c_a), if_neg (Decidable.not_not.mpr c_d), hF2]; simp only []; rw [← ey, if_neg (Decidable.not_not.mpr c_e), if_neg (Decidable.not_not.mpr c_c)]
              exact e_iret dX4_readOn_120 rfl rfl rfl ⟨by rw [hE]; rfl, (fx_RF.on (fx_o51w (o1.trans o2))).trans HS.2.1, HS.1.2.2.2.2.2.2.2.1, fun f hf => (by rw [hE] at hf; cases hf), fun _ => by rw [hE]; exact ⟨HS.1, HS.2.2.trans ((g2 hF2).2.2.trans (g1 hF1).2.2)⟩⟩
            · refine e_aload_n dX4_readOn_96 rfl ?_
              refine e_aload_n dX4_readOn_97 rfl ?_
              refine e_getv (v := nI (p_nmP tx n p + 1)) dX4_readOn_98 ff_X4_21 rfl (fx_pi_lt (by decide)) (by decide) rfl (g2 hF2).2.1 ?_
              refine e_callV1 (μ' := mX4_stopAt) (ci := 4) (As := [.int (nI (p_nmP tx n p + 1))]) dX4_readOn_101 wl_X4_80 ok_X4_stopAt rfl rfl (fx_pi_lt (by decide)) (by decide) (Nat.le_of_ble_eq_true rfl) fx_n1 (s_X4_stopAt (m := m2) (nI (p_nmP tx n p + 1))) rfl ?_
              have hE : p_onI tx n p na nd t = (some (p_nmP tx n p + 1), p, na, nd, t) := by rw [p_onI, hF1]; simp only []; rw [← ex, if_neg (Decidable.not_not.mpr c_a), if_neg (Decidable.not_not.mpr c_d), hF2]; simp only []; rw [← ey]; first | rw [if_pos c_e] | rw [if_neg (Decidable.not_not.mpr c_e), if_pos c_c]
              exact e_iret dX4_readOn_104 rfl rfl rfl ⟨by rw [hE]; rfl, (fx_RF.on (fx_o51w (o1.trans o2))).sI (Or.inr (Or.inl rfl)), fx_J51 (fx_Jon R.2.2.2.2.2.2.2.1 (fx_o51w (o1.trans o2))) (Or.inl rfl), fun f hf => (by rw [hE] at hf; cases hf; exact fx_rd0), fun h => (by rw [hE] at h; cases h)⟩
        · refine e_iconst dX4_readOn_57 kci_0 ?_
          have hN : p_nmF tx n (p_nmP tx n p) ≠ none := fun h => absurd c_2 (p_nmR_n.mpr h)
          obtain ⟨f0, hf0⟩ := Option.ne_none_iff_exists'.mp (show p_nmF tx n (p_nmP tx n p) ≠ none from hN)
          have hE : p_onI tx n p na nd t = (some f0, p, na, nd, t) := by rw [p_onI, hF1]; simp only []; rw [← ex, if_neg (Decidable.not_not.mpr c_a), if_neg (Decidable.not_not.mpr c_d), hf0]
          exact e_iret dX4_readOn_58 rfl rfl rfl ⟨by rw [hE]; rfl, fx_RF.on (fx_o51w (o1.trans o2)), fx_Jon R.2.2.2.2.2.2.2.1 (fx_o51w (o1.trans o2)), fun f hf => (by rw [hE] at hf; cases hf; exact f2 _ hf0), fun h => (by rw [hE] at h; cases h)⟩
      · refine e_aload_n dX4_readOn_38 rfl ?_
        refine e_aload_n dX4_readOn_39 rfl ?_
        refine e_getv (v := nI (p + 1)) dX4_readOn_40 ff_X4_21 rfl (fx_pi_lt (by decide)) (by decide) rfl (g1 hF1).2.1 ?_
        refine e_callV1 (μ' := mX4_stopAt) (ci := 4) (As := [.int (nI (p + 1))]) dX4_readOn_43 wl_X4_80 ok_X4_stopAt rfl rfl (fx_pi_lt (by decide)) (by decide) (Nat.le_of_ble_eq_true rfl) fx_n1 (s_X4_stopAt (m := m1) (nI (p + 1))) rfl ?_
        have hE : p_onI tx n p na nd t = (some (p + 1), p, na, nd, t) := by rw [p_onI, hF1]; simp only []; rw [← ex]; first | rw [if_pos c_a] | rw [if_neg (Decidable.not_not.mpr c_a), if_pos c_d]
        exact e_iret dX4_readOn_46 rfl rfl rfl ⟨by rw [hE]; rfl, (fx_RF.on (fx_o51w o1)).sI (Or.inr (Or.inl rfl)), fx_J51 (fx_Jon R.2.2.2.2.2.2.2.1 (fx_o51w o1)) (Or.inl rfl), fun f hf => (by rw [hE] at hf; cases hf; exact fx_rd0), fun h => (by rw [hE] at h; cases h)⟩
  · refine e_iconst dX4_readOn_10 kci_0 ?_
    have hN : p_nmF tx n p ≠ none := fun h => absurd c_1 (p_nmR_n.mpr h)
    obtain ⟨f0, hf0⟩ := Option.ne_none_iff_exists'.mp (show p_nmF tx n p ≠ none from hN)
    have hE : p_onI tx n p na nd t = (some f0, p, na, nd, t) := by rw [p_onI, hf0]
    exact e_iret dX4_readOn_11 rfl rfl rfl ⟨by rw [hE]; rfl, fx_RF.on (fx_o51w o1), fx_Jon R.2.2.2.2.2.2.2.1 (fx_o51w o1), fun f hf => (by rw [hE] at hf; cases hf; exact f1 _ hf0), fun h => (by rw [hE] at h; cases h)⟩
set_option maxRecDepth 100000 in
set_option maxHeartbeats 600000 in
theorem s_X4_readOff {Γ : fx_G} {m : fx_M} {k n : Nat} {tx : Nat → Int32} {na nd : Nat} {t : p_Sg} {p : Nat} (R : fx_RS k n tx m na nd t p) : fx_Ct Γ mX4_readOff 2 119 119 [fx_rf Γ 51] m (fx_PR k n tx m (p_offI tx n p na nd t)) := by
  refine fx_Ct.of (j := 1) (by decide) (Nat.le_of_ble_eq_true rfl) (Nat.le_of_ble_eq_true rfl) ?_
  show fx_E Γ mX4_readOff 2 119 119 _ 119 m 0 [some (fx_rf Γ 51), none] []
  have hk : k < 8 := R.2.2.2.2.2.2.2.2.2.2.1
  have hn : n ≤ 160 := R.2.2.2.2.2.2.2.2.2.2.2.1
  have hp : p ≤ n := R.2.2.2.2.2.2.2.2.2.2.2.2
  have h8 := R.2.2.2.2.2.2.2.2.1
  have h5 := R.2.2.2.2.2.2.2.2.2.1
  refine e_aload_n dX4_readOff_0 rfl ?_
  refine e_callV (μ' := mX4_readNumber) (ci := 4) (As := []) dX4_readOff_1 wl_X4_126 ok_X4_readNumber rfl rfl (fx_pi_lt (by decide)) (by decide) (Nat.le_of_ble_eq_true rfl) fx_n1 (s_X4_readNumber (m := m) R) rfl (fun r_ m_ hpost => ?_)
  revert r_ m_
  intro r_ m1 hpost
  obtain ⟨rfl, o1, k1, f1, g1⟩ := hpost
  refine e_istore_n dX4_readOff_4 (by decide) rfl ?_
  refine e_iload_n dX4_readOff_5 rfl ?_
  refine e_iconst dX4_readOff_6 kci_m1 ?_
  refine e_icmp_ne 12 dX4_readOff_7 rfl (fun c_1 => ?_) (fun c_1 => ?_)
  · have hF1 : p_nmF tx n p = none := p_nmR_n.mp c_1
    rw [p_nmR_y hF1]
    have h99 := p_nmV_le hF1
    have hP1 := p_nmP_in hF1
    have R1 : fx_RS k n tx m1 na nd t (p_nmP tx n p) := R.on (fx_o51w o1) (g1 hF1).1 hP1.2
    obtain ⟨x, ex⟩ : ∃ z, z = p_nmV tx n p := ⟨_, rfl⟩
    rw [← ex]
    have hvx : x ≤ 99 := by omega
    refine e_aload_n dX4_readOff_12 rfl ?_
    refine e_getr (o2 := 33) dX4_readOff_13 ff_X4_28 rfl (fx_pi_lt (by decide)) (by decide) rfl R1.2.1 ?_
    refine e_iload_n dX4_readOff_16 rfl ?_
    refine e_callV (μ' := mX6_isArm) (ci := 6) (As := [.int (nI x)]) dX4_readOff_17 wl_X4_129 ok_X6_isArm rfl rfl (fx_pi_lt (by decide)) (by decide) (Nat.le_of_ble_eq_true rfl) fx_n1 (s_X6_isArm (m := m1) 33 fx_s33 R1.2.2.2.1.1 (nI x)) rfl (fun r_ m_ hpost => ?_)
    obtain ⟨rfl, e2⟩ := hpost
    have e2 := e2.symm
    subst e2
    rw [p_ifc (p_el_n (x := x) (a := na) (by omega) (by omega))]
    refine e_if_eqB 38 dX4_readOff_20 rfl (fun c_a => ?_) (fun c_a => ?_)
    · refine e_aload_n dX4_readOff_38 rfl ?_
      refine e_aload_n dX4_readOff_39 rfl ?_
      refine e_getv (v := nI (p + 1)) dX4_readOff_40 ff_X4_21 rfl (fx_pi_lt (by decide)) (by decide) rfl (g1 hF1).2.1 ?_
      refine e_callV1 (μ' := mX4_stopAt) (ci := 4) (As := [.int (nI (p + 1))]) dX4_readOff_43 wl_X4_80 ok_X4_stopAt rfl rfl (fx_pi_lt (by decide)) (by decide) (Nat.le_of_ble_eq_true rfl) fx_n1 (s_X4_stopAt (m := m1) (nI (p + 1))) rfl ?_
      have hE : p_offI tx n p na nd t = (some (p + 1), p, na, nd, t) := by rw [p_offI, hF1]; simp only []; rw [← ex]; first | rw [if_pos c_a] | rw [if_neg (Decidable.not_not.mpr c_a), if_pos c_d]
      exact e_iret dX4_readOff_46 rfl rfl rfl ⟨by rw [hE]; rfl, (fx_RF.on (fx_o51w o1)).sI (Or.inr (Or.inl rfl)), fx_J51 (fx_Jon R.2.2.2.2.2.2.2.1 (fx_o51w o1)) (Or.inl rfl), fun f hf => (by rw [hE] at hf; cases hf; exact fx_rd0), fun h => (by rw [hE] at h; cases h)⟩
    · have hx : x < na := c_a
      refine e_aload_n dX4_readOff_23 rfl ?_
      refine e_getr (o2 := 33) dX4_readOff_24 ff_X4_28 rfl (fx_pi_lt (by decide)) (by decide) rfl R1.2.1 ?_
      refine e_getr (o2 := 34) dX4_readOff_27 ff_X4_132 rfl (fx_pi_lt (by decide)) (by decide) rfl (R1.2.2.2.2.1 _ _ _ rfl) ?_
      refine e_iload_n dX4_readOff_30 rfl ?_
      refine e_aald (j := x) (o2 := 33 + 3 + x) dX4_readOff_31 rfl (Or.inl rfl) (fx_pi_lt (by decide)) rfl (by omega) (by decide) (fx_s33.ra R1.2.2.2.2.1 (by omega)) ?_
      refine e_callV (μ' := mX0_isInDrawer) (ci := 0) (As := []) dX4_readOff_32 wl_X4_136 ok_X0_isInDrawer (fx_s33.sa (by omega)) rfl (fx_pi_lt (fx_s33.la (by omega))) (by decide) (Nat.le_of_ble_eq_true rfl) fx_n1 (s_X0_isInDrawer (m := m1) (33 + 3 + x) (fx_s33.sa (by omega)) (fx_s33.la (by omega))) rfl (fun r_ m_ hpost => ?_)
      obtain ⟨rfl, e2⟩ := hpost
      have e2 := e2.symm
      subst e2
      rw [R1.2.2.2.1.2.2.1 x hx]
      refine e_if_eqB 47 dX4_readOff_35 rfl (fun c_d => ?_) (fun c_d => ?_)
      · refine e_aload_n dX4_readOff_47 rfl ?_
        refine e_getr (o2 := 33) dX4_readOff_48 ff_X4_28 rfl (fx_pi_lt (by decide)) (by decide) rfl R1.2.1 ?_
        refine e_getr (o2 := 34) dX4_readOff_51 ff_X4_132 rfl (fx_pi_lt (by decide)) (by decide) rfl (R1.2.2.2.2.1 _ _ _ rfl) ?_
        refine e_iload_n dX4_readOff_54 rfl ?_
        refine e_aald (j := x) (o2 := 33 + 3 + x) dX4_readOff_55 rfl (Or.inl rfl) (fx_pi_lt (by decide)) rfl (by omega) (by decide) (fx_s33.ra R1.2.2.2.2.1 (by omega)) ?_
        refine e_callV1 (μ' := mX0_comeOff) (ci := 0) (As := []) dX4_readOff_56 wl_X4_155 ok_X0_comeOff (fx_s33.sa (by omega)) rfl (fx_pi_lt (fx_s33.la (by omega))) (by decide) (Nat.le_of_ble_eq_true rfl) fx_n1 (s_X0_comeOff (m := m1) (33 + 3 + x) (fx_s33.sa (by omega)) (fx_s33.la (by omega))) rfl ?_
        refine e_iconst dX4_readOff_59 kci_1 ?_
        have HS := R1.sA (j := 6) (v := 99) hx (by decide)
        have hE : p_offI tx n p na nd t = (none, p_nmP tx n p, na, nd, p_off t x) := by rw [p_offI, hF1]; simp only []; rw [← ex, if_neg (Decidable.not_not.mpr c_a), if_neg c_d]
        exact e_iret dX4_readOff_60 rfl rfl rfl ⟨by rw [hE]; rfl, (fx_RF.on (fx_o51w o1)).trans HS.2.1, HS.1.2.2.2.2.2.2.2.1, fun f hf => (by rw [hE] at hf; cases hf), fun _ => by rw [hE]; exact ⟨HS.1, HS.2.2.trans (g1 hF1).2.2⟩⟩
      · refine e_aload_n dX4_readOff_38 rfl ?_
        refine e_aload_n dX4_readOff_39 rfl ?_
        refine e_getv (v := nI (p + 1)) dX4_readOff_40 ff_X4_21 rfl (fx_pi_lt (by decide)) (by decide) rfl (g1 hF1).2.1 ?_
        refine e_callV1 (μ' := mX4_stopAt) (ci := 4) (As := [.int (nI (p + 1))]) dX4_readOff_43 wl_X4_80 ok_X4_stopAt rfl rfl (fx_pi_lt (by decide)) (by decide) (Nat.le_of_ble_eq_true rfl) fx_n1 (s_X4_stopAt (m := m1) (nI (p + 1))) rfl ?_
        have hE : p_offI tx n p na nd t = (some (p + 1), p, na, nd, t) := by rw [p_offI, hF1]; simp only []; rw [← ex]; first | rw [if_pos c_a] | rw [if_neg (Decidable.not_not.mpr c_a), if_pos c_d]
        exact e_iret dX4_readOff_46 rfl rfl rfl ⟨by rw [hE]; rfl, (fx_RF.on (fx_o51w o1)).sI (Or.inr (Or.inl rfl)), fx_J51 (fx_Jon R.2.2.2.2.2.2.2.1 (fx_o51w o1)) (Or.inl rfl), fun f hf => (by rw [hE] at hf; cases hf; exact fx_rd0), fun h => (by rw [hE] at h; cases h)⟩
  · refine e_iconst dX4_readOff_10 kci_0 ?_
    have hN : p_nmF tx n p ≠ none := fun h => absurd c_1 (p_nmR_n.mpr h)
    obtain ⟨f0, hf0⟩ := Option.ne_none_iff_exists'.mp (show p_nmF tx n p ≠ none from hN)
    have hE : p_offI tx n p na nd t = (some f0, p, na, nd, t) := by rw [p_offI, hf0]
    exact e_iret dX4_readOff_11 rfl rfl rfl ⟨by rw [hE]; rfl, fx_RF.on (fx_o51w o1), fx_Jon R.2.2.2.2.2.2.2.1 (fx_o51w o1), fun f hf => (by rw [hE] at hf; cases hf; exact f1 _ hf0), fun h => (by rw [hE] at h; cases h)⟩
set_option maxRecDepth 100000 in
set_option maxHeartbeats 600000 in
theorem s_X4_readLies {Γ : fx_G} {m : fx_M} {k n : Nat} {tx : Nat → Int32} {na nd : Nat} {t : p_Sg} {p : Nat} (R : fx_RS k n tx m na nd t p) : fx_Ct Γ mX4_readLies 2 119 119 [fx_rf Γ 51] m (fx_PR k n tx m (p_lieI tx n p na nd t)) := by
  refine fx_Ct.of (j := 2) (by decide) (Nat.le_of_ble_eq_true rfl) (Nat.le_of_ble_eq_true rfl) ?_
  show fx_E Γ mX4_readLies 2 119 119 _ 119 m 0 [some (fx_rf Γ 51), none, none] []
  have hk : k < 8 := R.2.2.2.2.2.2.2.2.2.2.1
  have hn : n ≤ 160 := R.2.2.2.2.2.2.2.2.2.2.2.1
  have hp : p ≤ n := R.2.2.2.2.2.2.2.2.2.2.2.2
  have h8 := R.2.2.2.2.2.2.2.2.1
  have h5 := R.2.2.2.2.2.2.2.2.2.1
  refine e_aload_n dX4_readLies_0 rfl ?_
  refine e_callV (μ' := mX4_readNumber) (ci := 4) (As := []) dX4_readLies_1 wl_X4_126 ok_X4_readNumber rfl rfl (fx_pi_lt (by decide)) (by decide) (Nat.le_of_ble_eq_true rfl) fx_n1 (s_X4_readNumber (m := m) R) rfl (fun r_ m_ hpost => ?_)
  revert r_ m_
  intro r_ m1 hpost
  obtain ⟨rfl, o1, k1, f1, g1⟩ := hpost
  refine e_istore_n dX4_readLies_4 (by decide) rfl ?_
  refine e_iload_n dX4_readLies_5 rfl ?_
  refine e_iconst dX4_readLies_6 kci_m1 ?_
  refine e_icmp_ne 12 dX4_readLies_7 rfl (fun c_1 => ?_) (fun c_1 => ?_)
  · have hF1 : p_nmF tx n p = none := p_nmR_n.mp c_1
    rw [p_nmR_y hF1]
    have h99 := p_nmV_le hF1
    have hP1 := p_nmP_in hF1
    have R1 : fx_RS k n tx m1 na nd t (p_nmP tx n p) := R.on (fx_o51w o1) (g1 hF1).1 hP1.2
    obtain ⟨x, ex⟩ : ∃ z, z = p_nmV tx n p := ⟨_, rfl⟩
    rw [← ex]
    have hvx : x ≤ 99 := by omega
    refine e_aload_n dX4_readLies_12 rfl ?_
    refine e_getr (o2 := 33) dX4_readLies_13 ff_X4_28 rfl (fx_pi_lt (by decide)) (by decide) rfl R1.2.1 ?_
    refine e_iload_n dX4_readLies_16 rfl ?_
    refine e_callV (μ' := mX6_isDoll) (ci := 6) (As := [.int (nI x)]) dX4_readLies_17 wl_X4_144 ok_X6_isDoll rfl rfl (fx_pi_lt (by decide)) (by decide) (Nat.le_of_ble_eq_true rfl) fx_n1 (s_X6_isDoll (m := m1) 33 fx_s33 R1.2.2.2.1.2.1 (nI x)) rfl (fun r_ m_ hpost => ?_)
    obtain ⟨rfl, e2⟩ := hpost
    have e2 := e2.symm
    subst e2
    rw [p_ifc (p_el_n (x := x) (a := nd) (by omega) (by omega))]
    refine e_if_neB 32 dX4_readLies_20 rfl (fun c_a => ?_) (fun c_a => ?_)
    · have hx : x < nd := c_a
      refine e_aload_n dX4_readLies_32 rfl ?_
      refine e_callV (μ' := mX4_readNumber) (ci := 4) (As := []) dX4_readLies_33 wl_X4_126 ok_X4_readNumber rfl rfl (fx_pi_lt (by decide)) (by decide) (Nat.le_of_ble_eq_true rfl) fx_n1 (s_X4_readNumber (m := m1) R1) rfl (fun r_ m_ hpost => ?_)
      revert r_ m_
      intro r_ m2 hpost
      obtain ⟨rfl, o2, k2, f2, g2⟩ := hpost
      refine e_istore_n dX4_readLies_36 (by decide) rfl ?_
      refine e_iload_n dX4_readLies_37 rfl ?_
      refine e_iconst dX4_readLies_38 kci_m1 ?_
      refine e_icmp_ne 44 dX4_readLies_39 rfl (fun c_2 => ?_) (fun c_2 => ?_)
      · have hF2 : p_nmF tx n (p_nmP tx n p) = none := p_nmR_n.mp c_2
        rw [p_nmR_y hF2]
        have h992 := p_nmV_le hF2
        have hP2 := p_nmP_in hF2
        have R2 : fx_RS k n tx m2 na nd t (p_nmP tx n (p_nmP tx n p)) := R1.on (fx_o51w o2) (g2 hF2).1 hP2.2
        obtain ⟨y, ey⟩ : ∃ z, z = p_nmV tx n (p_nmP tx n p) := ⟨_, rfl⟩
        rw [← ey]
        have hvy : y ≤ 99 := by omega
        refine e_aload_n dX4_readLies_44 rfl ?_
        refine e_getr (o2 := 33) dX4_readLies_45 ff_X4_28 rfl (fx_pi_lt (by decide)) (by decide) rfl R2.2.1 ?_
        refine e_getr (o2 := 35) dX4_readLies_48 ff_X4_158 rfl (fx_pi_lt (by decide)) (by decide) rfl (R2.2.2.2.2.1 _ _ _ rfl) ?_
        refine e_iload_n dX4_readLies_51 rfl ?_
        refine e_aald (j := x) (o2 := 33 + 11 + x) dX4_readLies_52 rfl (Or.inr (Or.inl rfl)) (fx_pi_lt (by decide)) rfl (by omega) (by decide) (fx_s33.rd R2.2.2.2.2.1 (by omega)) ?_
        refine e_iload_n dX4_readLies_53 rfl ?_
        refine e_put dX4_readLies_54 ff_X4_162 (fx_s33.sd (by omega)) (fx_pi_lt (fx_s33.ld (by omega))) (by decide) rfl (Or.inl rfl) ?_
        refine e_iconst dX4_readLies_57 kci_1 ?_
        have HS := R2.sD (j := 7) (v := nI y) hx (by decide)
        have hE : p_lieI tx n p na nd t = (none, p_nmP tx n (p_nmP tx n p), na, nd, (t.1, p_ua t.2.1 x (p_u (t.2.1 x) 7 (nI y)), t.2.2)) := by rw [p_lieI, hF1]; simp only []; rw [← ex, if_neg (Decidable.not_not.mpr c_a), hF2]; simp only []; rw [← ey]
        exact e_iret dX4_readLies_58 rfl rfl rfl ⟨by rw [hE]; rfl, (fx_RF.on (fx_o51w (o1.trans o2))).trans HS.2.1, HS.1.2.2.2.2.2.2.2.1, fun f hf => (by rw [hE] at hf; cases hf), fun _ => by rw [hE]; exact ⟨HS.1, HS.2.2.trans ((g2 hF2).2.2.trans (g1 hF1).2.2)⟩⟩
      · refine e_iconst dX4_readLies_42 kci_0 ?_
        have hN : p_nmF tx n (p_nmP tx n p) ≠ none := fun h => absurd c_2 (p_nmR_n.mpr h)
        obtain ⟨f0, hf0⟩ := Option.ne_none_iff_exists'.mp (show p_nmF tx n (p_nmP tx n p) ≠ none from hN)
        have hE : p_lieI tx n p na nd t = (some f0, p, na, nd, t) := by rw [p_lieI, hF1]; simp only []; rw [← ex, if_neg (Decidable.not_not.mpr c_a), hf0]
        exact e_iret dX4_readLies_43 rfl rfl rfl ⟨by rw [hE]; rfl, fx_RF.on (fx_o51w (o1.trans o2)), fx_Jon R.2.2.2.2.2.2.2.1 (fx_o51w (o1.trans o2)), fun f hf => (by rw [hE] at hf; cases hf; exact f2 _ hf0), fun h => (by rw [hE] at h; cases h)⟩
    · refine e_aload_n dX4_readLies_23 rfl ?_
      refine e_aload_n dX4_readLies_24 rfl ?_
      refine e_getv (v := nI (p + 1)) dX4_readLies_25 ff_X4_21 rfl (fx_pi_lt (by decide)) (by decide) rfl (g1 hF1).2.1 ?_
      refine e_callV1 (μ' := mX4_stopAt) (ci := 4) (As := [.int (nI (p + 1))]) dX4_readLies_28 wl_X4_80 ok_X4_stopAt rfl rfl (fx_pi_lt (by decide)) (by decide) (Nat.le_of_ble_eq_true rfl) fx_n1 (s_X4_stopAt (m := m1) (nI (p + 1))) rfl ?_
      have hE : p_lieI tx n p na nd t = (some (p + 1), p, na, nd, t) := by rw [p_lieI, hF1]; simp only []; rw [← ex]; first | rw [if_pos c_a]
      exact e_iret dX4_readLies_31 rfl rfl rfl ⟨by rw [hE]; rfl, (fx_RF.on (fx_o51w o1)).sI (Or.inr (Or.inl rfl)), fx_J51 (fx_Jon R.2.2.2.2.2.2.2.1 (fx_o51w o1)) (Or.inl rfl), fun f hf => (by rw [hE] at hf; cases hf; exact fx_rd0), fun h => (by rw [hE] at h; cases h)⟩
  · refine e_iconst dX4_readLies_10 kci_0 ?_
    have hN : p_nmF tx n p ≠ none := fun h => absurd c_1 (p_nmR_n.mpr h)
    obtain ⟨f0, hf0⟩ := Option.ne_none_iff_exists'.mp (show p_nmF tx n p ≠ none from hN)
    have hE : p_lieI tx n p na nd t = (some f0, p, na, nd, t) := by rw [p_lieI, hf0]
    exact e_iret dX4_readLies_11 rfl rfl rfl ⟨by rw [hE]; rfl, fx_RF.on (fx_o51w o1), fx_Jon R.2.2.2.2.2.2.2.1 (fx_o51w o1), fun f hf => (by rw [hE] at hf; cases hf; exact f1 _ hf0), fun h => (by rw [hE] at h; cases h)⟩
