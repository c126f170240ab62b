/-! the class's own methods: q functions: (which refusal, 0: none; the answer) -/
theorem fx_s1 : fx_St 1 := Or.inl rfl
theorem fx_s17 : fx_St 17 := Or.inr (Or.inl rfl)
theorem fx_s33 : fx_St 33 := Or.inr (Or.inr rfl)
theorem fx_Sf.mk {k : Nat} (h : k < 8) : fx_Sf (67 + 2 * k) := ⟨k, h, rfl⟩
theorem fx_r49 {m : fx_M} (hL : fx_Lay m) {k : Nat} (h : k < 8) : m.2.2 49 k = some (67 + 2 * k) := fx_8 (P := fun k => m.2.2 49 k = some (67 + 2 * k)) (hL _ _ _ rfl) (hL _ _ _ rfl) (hL _ _ _ rfl) (hL _ _ _ rfl) (hL _ _ _ rfl) (hL _ _ _ rfl) (hL _ _ _ rfl) (hL _ _ _ rfl) h
abbrev p_no (b : Nat) : Nat × Int32 := (b, -(nI b))
abbrev p_no10 (b : Nat) : Nat × Int32 := (b, -(nI b) - 10)
/-- a refusal counted; 0: none -/
def fx_no (m : fx_M) (b : Nat) : fx_M := if b = 0 then m else fx_sI m 50 b (m.1 50 b + 1)
def fx_qm (m : fx_M) (b : Nat) (M : fx_M) : fx_M := if b = 0 then M else fx_sI m 50 b (m.1 50 b + 1)
theorem fx_no_n {m : fx_M} {b : Nat} (h : b ≠ 0) : fx_no m b = fx_sI m 50 b (m.1 50 b + 1) := if_neg h
theorem fx_qm_n {m M : fx_M} {b : Nat} (h : b ≠ 0) : fx_qm m b M = fx_sI m 50 b (m.1 50 b + 1) := if_neg h
theorem nI_0i {b : Nat} (h : b < 2 ^ 31) : nI b = 0 ↔ b = 0 := by rw [show (0 : Int32) = nI 0 from rfl]; exact nI_eq h (by decide)
abbrev p_ix (v : Int32) : Nat := v.toNatClampNeg
theorem p_ix_n {k : Nat} (h : k < 2 ^ 31) : p_ix (nI k) = k := nI_clamp h
theorem p_in_ex7 {v : Int32} (h : p_in v 0 7) : ∃ k : Nat, k < 8 ∧ v = nI k := by
  obtain ⟨j, hj, e⟩ := p_in_ex (hi := 7) h (by decide)
  exact ⟨j, by omega, e⟩
theorem p_in_ex1 {v : Int32} (h : p_in v 0 1) : ∃ k : Nat, k < 2 ∧ v = nI k := by
  obtain ⟨j, hj, e⟩ := p_in_ex (hi := 1) h (by decide)
  exact ⟨j, by omega, e⟩
def p_bS (nd : Nat) (d s : Int32) : Nat := if ¬ p_el d (nI nd) then 1 else if p_in s 0 1 then 0 else 6
theorem p_bS_le (nd : Nat) (d s : Int32) : p_bS nd d s ≤ 7 := by unfold p_bS; split; decide; split <;> decide
theorem p_bS_0 {nd : Nat} {d s : Int32} (h : p_bS nd d s = 0) : p_el d (nI nd) ∧ p_in s 0 1 := by
  unfold p_bS at h
  split at h
  · cases h
  · split at h
    · exact ⟨Decidable.not_not.mp (by assumption), by assumption⟩
    · cases h
def p_bR (so sa : Nat → Int32) (s : Int32) : Nat := if ¬ p_in s 0 7 then 1 else if sa (p_ix s) ≠ -1 then 2 else if so (p_ix s) ≠ -1 then 0 else 3
theorem p_bR_le (so sa : Nat → Int32) (s : Int32) : p_bR so sa s ≤ 7 := by unfold p_bR; split; decide; split; decide; split <;> decide
theorem p_bR_0 {so sa : Nat → Int32} {s : Int32} (h : p_bR so sa s = 0) : p_in s 0 7 ∧ sa (p_ix s) = -1 ∧ so (p_ix s) ≠ -1 := by
  unfold p_bR at h
  split at h
  · cases h
  · split at h
    · cases h
    · split at h
      · exact ⟨Decidable.not_not.mp (by assumption), Decidable.not_not.mp (by assumption), by assumption⟩
      · cases h
set_option maxRecDepth 100000 in
set_option maxHeartbeats 600000 in
theorem s_X8_barToSide {Γ : fx_G} {m : fx_M} (hL : fx_Lay m) {nd : Nat} (hnd : m.1 1 3 = nI nd) (h5 : nd ≤ 5) (d s : Int32) : fx_Ct Γ mX8_barToSide 2 119 119 [fx_rf Γ 0, .int d, .int s] m (fx_is (some (.int (nI (p_bS nd d s)))) m) := by
  refine fx_Ct.of (j := 0) (by decide) (Nat.le_of_ble_eq_true rfl) (Nat.le_of_ble_eq_true rfl) ?_
  show fx_E Γ mX8_barToSide 2 119 119 _ 119 m 0 [some (fx_rf Γ 0), some (.int d), some (.int s)] []
  refine e_aload_n dX8_barToSide_0 rfl ?_
  refine e_getr (o2 := 1) dX8_barToSide_1 ff_X8_10 rfl (fx_pi_lt (by decide)) (by decide) rfl (hL _ _ _ rfl) ?_
  refine e_iload_n dX8_barToSide_4 rfl ?_
  refine e_callV1 (μ' := mX6_isDoll) (ci := 6) (As := [.int d]) dX8_barToSide_5 wl_X8_174 ok_X6_isDoll rfl rfl (fx_pi_lt (by decide)) (by decide) (Nat.le_of_ble_eq_true rfl) fx_n1 (s_X6_isDoll (m := m) 1 fx_s1 (nd := nd) hnd d) rfl ?_
  refine e_if_neB 13 dX8_barToSide_8 rfl (fun c_1 => ?_) (fun c_1 => ?_)
  · refine e_iload_n dX8_barToSide_13 rfl ?_
    refine e_callS1 (μ' := mX8_isSide) (As := [.int s]) dX8_barToSide_14 wl_X8_149 ok_X8_isSide (by decide) (Nat.le_of_ble_eq_true rfl) fx_n1 (s_X8_isSide (m := m) s) rfl ?_
    refine e_if_eqB 24 dX8_barToSide_17 rfl (fun c_2 => ?_) (fun c_2 => ?_)
    · refine e_bipush dX8_barToSide_24 kcb_6 ?_
      have hq : p_bS nd d s = 6 := by unfold p_bS; (try dsimp only); (try (first | rw [if_pos c_1] | rw [if_neg c_1] | rw [if_neg (Decidable.not_not.mpr c_1)])); (try (first | rw [if_pos c_2] | rw [if_neg c_2] | rw [if_neg (Decidable.not_not.mpr c_2)])); (try rfl)
      exact e_iret dX8_barToSide_26 rfl rfl rfl ⟨by rw [hq]; rfl, rfl⟩
    · refine e_iconst dX8_barToSide_20 kci_0 ?_
      refine e_goto 26 dX8_barToSide_21 rfl ?_
      have hq : p_bS nd d s = 0 := by unfold p_bS; (try dsimp only); (try (first | rw [if_pos c_1] | rw [if_neg c_1] | rw [if_neg (Decidable.not_not.mpr c_1)])); (try (first | rw [if_pos c_2] | rw [if_neg c_2] | rw [if_neg (Decidable.not_not.mpr c_2)])); (try rfl)
      exact e_iret dX8_barToSide_26 rfl rfl rfl ⟨by rw [hq]; rfl, rfl⟩
  · refine e_iconst dX8_barToSide_11 kci_1 ?_
    have hq : p_bS nd d s = 1 := by unfold p_bS; (try dsimp only); (try (first | rw [if_pos c_1] | rw [if_neg c_1] | rw [if_neg (Decidable.not_not.mpr c_1)])); (try rfl)
    exact e_iret dX8_barToSide_12 rfl rfl rfl ⟨by rw [hq]; rfl, rfl⟩
set_option maxRecDepth 100000 in
set_option maxHeartbeats 600000 in
theorem s_X8_barToRow {Γ : fx_G} {m : fx_M} (hL : fx_Lay m) (s : Int32) : fx_Ct Γ mX8_barToRow 2 119 119 [fx_rf Γ 0, .int s] m (fx_is (some (.int (nI (p_bR (fun k => m.1 (67 + 2 * k) 1) (fun k => m.1 (67 + 2 * k) 3) s)))) m) := by
  refine fx_Ct.of (j := 0) (by decide) (Nat.le_of_ble_eq_true rfl) (Nat.le_of_ble_eq_true rfl) ?_
  show fx_E Γ mX8_barToRow 2 119 119 _ 119 m 0 [some (fx_rf Γ 0), some (.int s)] []
  refine e_iload_n dX8_barToRow_0 rfl ?_
  refine e_callS1 (μ' := mX8_isShelf) (As := [.int s]) dX8_barToRow_1 wl_X8_73 ok_X8_isShelf (by decide) (Nat.le_of_ble_eq_true rfl) fx_n1 (s_X8_isShelf (m := m) s) rfl ?_
  refine e_if_neB 9 dX8_barToRow_4 rfl (fun c_1 => ?_) (fun c_1 => ?_)
  · obtain ⟨k, hk, ek⟩ := p_in_ex7 c_1
    subst ek
    refine e_aload_n dX8_barToRow_9 rfl ?_
    refine e_getr (o2 := 49) dX8_barToRow_10 ff_X8_28 rfl (fx_pi_lt (by decide)) (by decide) rfl (hL _ _ _ rfl) ?_
    refine e_iload_n dX8_barToRow_13 rfl ?_
    refine e_aald (j := k) (o2 := 67 + 2 * k) dX8_barToRow_14 rfl (Or.inr (Or.inr rfl)) (fx_pi_lt (by decide)) rfl (by omega) (by decide) (fx_r49 hL (by omega)) ?_
    refine e_callV1 (μ' := mX5_hasArm) (ci := 5) (As := []) dX8_barToRow_15 wl_X8_350 ok_X5_hasArm (fx_Sf.mk (by omega)).sh rfl (fx_pi_lt (fx_Sf.mk (by omega)).lt) (by decide) (Nat.le_of_ble_eq_true rfl) fx_n1 (s_X5_hasArm (m := m) (67 + 2 * k) (fx_Sf.mk (by omega)) ) rfl ?_
    refine e_if_eqB 23 dX8_barToRow_18 rfl (fun c_2 => ?_) (fun c_2 => ?_)
    · refine e_aload_n dX8_barToRow_23 rfl ?_
      refine e_getr (o2 := 49) dX8_barToRow_24 ff_X8_28 rfl (fx_pi_lt (by decide)) (by decide) rfl (hL _ _ _ rfl) ?_
      refine e_iload_n dX8_barToRow_27 rfl ?_
      refine e_aald (j := k) (o2 := 67 + 2 * k) dX8_barToRow_28 rfl (Or.inr (Or.inr rfl)) (fx_pi_lt (by decide)) rfl (by omega) (by decide) (fx_r49 hL (by omega)) ?_
      refine e_callV1 (μ' := mX5_hasRow) (ci := 5) (As := []) dX8_barToRow_29 wl_X8_127 ok_X5_hasRow (fx_Sf.mk (by omega)).sh rfl (fx_pi_lt (fx_Sf.mk (by omega)).lt) (by decide) (Nat.le_of_ble_eq_true rfl) fx_n1 (s_X5_hasRow (m := m) (67 + 2 * k) (fx_Sf.mk (by omega)) ) rfl ?_
      refine e_if_eqB 39 dX8_barToRow_32 rfl (fun c_3 => ?_) (fun c_3 => ?_)
      · refine e_iconst dX8_barToRow_39 kci_3 ?_
        have hq : p_bR (fun k => m.1 (67 + 2 * k) 1) (fun k => m.1 (67 + 2 * k) 3) (nI k) = 3 := by unfold p_bR; (try dsimp only); (try dsimp only); (try rw [p_ix_n (show k < 2 ^ 31 by omega)]); (try (first | rw [if_pos c_1] | rw [if_neg c_1] | rw [if_neg (Decidable.not_not.mpr c_1)])); (try (first | rw [if_pos c_2] | rw [if_neg c_2] | rw [if_neg (Decidable.not_not.mpr c_2)])); (try (first | rw [if_pos c_3] | rw [if_neg c_3] | rw [if_neg (Decidable.not_not.mpr c_3)])); (try rfl)
        exact e_iret dX8_barToRow_40 rfl rfl rfl ⟨by rw [hq]; rfl, rfl⟩
      · refine e_iconst dX8_barToRow_35 kci_0 ?_
        refine e_goto 40 dX8_barToRow_36 rfl ?_
        have hq : p_bR (fun k => m.1 (67 + 2 * k) 1) (fun k => m.1 (67 + 2 * k) 3) (nI k) = 0 := by unfold p_bR; (try dsimp only); (try dsimp only); (try rw [p_ix_n (show k < 2 ^ 31 by omega)]); (try (first | rw [if_pos c_1] | rw [if_neg c_1] | rw [if_neg (Decidable.not_not.mpr c_1)])); (try (first | rw [if_pos c_2] | rw [if_neg c_2] | rw [if_neg (Decidable.not_not.mpr c_2)])); (try (first | rw [if_pos c_3] | rw [if_neg c_3] | rw [if_neg (Decidable.not_not.mpr c_3)])); (try rfl)
        exact e_iret dX8_barToRow_40 rfl rfl rfl ⟨by rw [hq]; rfl, rfl⟩
    · refine e_iconst dX8_barToRow_21 kci_2 ?_
      have hq : p_bR (fun k => m.1 (67 + 2 * k) 1) (fun k => m.1 (67 + 2 * k) 3) (nI k) = 2 := by unfold p_bR; (try dsimp only); (try dsimp only); (try rw [p_ix_n (show k < 2 ^ 31 by omega)]); (try (first | rw [if_pos c_1] | rw [if_neg c_1] | rw [if_neg (Decidable.not_not.mpr c_1)])); (try (first | rw [if_pos c_2] | rw [if_neg c_2] | rw [if_neg (Decidable.not_not.mpr c_2)])); (try rfl)
      exact e_iret dX8_barToRow_22 rfl rfl rfl ⟨by rw [hq]; rfl, rfl⟩
  · refine e_iconst dX8_barToRow_7 kci_1 ?_
    have hq : p_bR (fun k => m.1 (67 + 2 * k) 1) (fun k => m.1 (67 + 2 * k) 3) s = 1 := by unfold p_bR; (try dsimp only); (try (first | rw [if_pos c_1] | rw [if_neg c_1] | rw [if_neg (Decidable.not_not.mpr c_1)])); (try rfl)
    exact e_iret dX8_barToRow_8 rfl rfl rfl ⟨by rw [hq]; rfl, rfl⟩
def q_armOf (A : Nat → Nat → Int32) (na : Nat) (x w : Int32) : Nat × Int32 := if ¬ p_el x (nI na) then p_no 5 else if ¬ p_in w 0 8 then p_no 5 else (0, p_fig (A (p_ix x)) w)
def q_dollOf (A D : Nat → Nat → Int32) (na nd : Nat) (d w : Int32) : Nat × Int32 := if ¬ p_el d (nI nd) then p_no 5 else if ¬ p_in w 0 8 then p_no 5 else if w = 8 then (0, if p_her A D na (p_ix d) then 1 else 0) else (0, p_figD (D (p_ix d)) w)
def q_on (A : Nat → Nat → Int32) (na nd : Nat) (d s : Int32) : Nat × Int32 := if p_bS nd d s = 0 then (0, p_oi (p_at A na d s)) else p_no10 (p_bS nd d s)
def q_fits (A D : Nat → Nat → Int32) (na nd : Nat) (x d s : Int32) : Nat × Int32 := if ¬ p_el x (nI na) then p_no 1 else if ¬ p_el d (nI nd) then p_no 1 else if ¬ p_in s 0 1 then p_no 6 else (0, if p_fit (A (p_ix x)) (D (p_ix d)) s then 1 else 0)
def q_unlike (A D : Nat → Nat → Int32) (na nd : Nat) (x d : Int32) : Nat × Int32 := if ¬ p_el x (nI na) then p_no 1 else if ¬ p_el d (nI nd) then p_no 1 else (0, p_farA A D (p_ix x) (p_ix d))
def q_may (A D : Nat → Nat → Int32) (na nd : Nat) (d s : Int32) : Nat × Int32 := if p_bS nd d s = 0 then (0, nI (p_sN (fun x => p_can A D na x (p_ix d) s) na)) else p_no (p_bS nd d s)
def q_best (A D : Nat → Nat → Int32) (na nd : Nat) (d s : Int32) : Nat × Int32 := if p_bS nd d s = 0 then (0, p_oi (p_fold (p_bst (fun x => (p_sN (fun x => p_can A D na x (p_ix d) s) na).testBit x = true) (fun x => p_farA A D x (p_ix d))) na 0 none)) else p_no10 (p_bS nd d s)
def q_tea (A D : Nat → Nat → Int32) (na nd : Nat) (x d : Int32) : Nat × Int32 := if ¬ p_el x (nI na) then p_no 1 else if ¬ p_el d (nI nd) then p_no 1 else (0, (p_fold (p_te (fun k => p_far (A (p_ix x)) (D (p_ix d)) (p_min 9 (A (p_ix x) 4 + nI k)) (A (p_ix x) 5))) 9 1 (0, p_far (A (p_ix x)) (D (p_ix d)) (A (p_ix x) 4) (A (p_ix x) 5))).1)
def q_comes (D : Nat → Nat → Int32) (nd : Nat) (d n : Int32) : Nat × Int32 := if ¬ p_el d (nI nd) then p_no 1 else if ¬ p_in n 0 99 then p_no 6 else (0, 1000 * n / (D (p_ix d) 7 + n + 1))
set_option maxRecDepth 100000 in
set_option maxHeartbeats 600000 in
theorem s_X8_armOf {Γ : fx_G} {m : fx_M} (hL : fx_Lay m) {na : Nat} (hna : m.1 1 2 = nI na) (h8 : na ≤ 8) (x : Int32) (w : Int32) : fx_Ct Γ mX8_armOf 3 119 119 [fx_rf Γ 0, .int x, .int w] m (fx_is (some (.int (q_armOf (fx_ar m 1) na x w).2)) (fx_no m (q_armOf (fx_ar m 1) na x w).1)) := by
  refine fx_Ct.of (j := 0) (by decide) (Nat.le_of_ble_eq_true rfl) (Nat.le_of_ble_eq_true rfl) ?_
  show fx_E Γ mX8_armOf 3 119 119 _ 119 m 0 [some (fx_rf Γ 0), some (.int x), some (.int w)] []
  refine e_aload_n dX8_armOf_0 rfl ?_
  refine e_getr (o2 := 1) dX8_armOf_1 ff_X8_10 rfl (fx_pi_lt (by decide)) (by decide) rfl (hL _ _ _ rfl) ?_
  refine e_iload_n dX8_armOf_4 rfl ?_
  refine e_callV1 (μ' := mX6_isArm) (ci := 6) (As := [.int x]) dX8_armOf_5 wl_X8_117 ok_X6_isArm rfl rfl (fx_pi_lt (by decide)) (by decide) (Nat.le_of_ble_eq_true rfl) fx_n1 (s_X6_isArm (m := m) 1 fx_s1 (na := na) hna x) rfl ?_
  refine e_if_eqB 21 dX8_armOf_8 rfl (fun c_1 => ?_) (fun c_1 => ?_)
  · refine e_aload_n dX8_armOf_21 rfl ?_
    refine e_iconst dX8_armOf_22 kci_5 ?_
    refine e_callV1 (μ' := mX8_refuse) (ci := 8) (As := [.int 5]) dX8_armOf_23 wl_X8_77 ok_X8_refuse rfl rfl (fx_pi_lt (by decide)) (by decide) (Nat.le_of_ble_eq_true rfl) fx_n1 (s_X8_refuse (m := m) hL 5 (by first | decide | omega) (by first | decide | omega)) rfl ?_
    have hq : q_armOf (fx_ar m 1) na x w = (5, -(nI 5)) := by first | (unfold q_armOf; (try dsimp only); (try (first | rw [if_pos c_1] | rw [if_neg c_1] | rw [if_neg (Decidable.not_not.mpr c_1)])); (try rfl); done) | (exfalso; first | contradiction | (simp_all; done))
    exact e_iret dX8_armOf_26 rfl rfl rfl ⟨by rw [hq], by rw [hq]; exact (fx_no_n (by first | decide | omega)).symm⟩
  · refine e_iload_n dX8_armOf_11 rfl ?_
    refine e_iconst dX8_armOf_12 kci_0 ?_
    refine e_bipush dX8_armOf_13 kcb_8 ?_
    refine e_callS1 (μ' := mX8_within) (As := [.int w, .int 0, .int 8]) dX8_armOf_15 wl_X8_81 ok_X8_within (by decide) (Nat.le_of_ble_eq_true rfl) fx_n1 (s_X8_within (m := m) w 0 8) rfl ?_
    refine e_if_neB 27 dX8_armOf_18 rfl (fun c_2 => ?_) (fun c_2 => ?_)
    · obtain ⟨k, hk, ek⟩ := p_el_ex c_1 (by omega)
      subst ek
      refine e_aload_n dX8_armOf_27 rfl ?_
      refine e_getr (o2 := 1) dX8_armOf_28 ff_X8_10 rfl (fx_pi_lt (by decide)) (by decide) rfl (hL _ _ _ rfl) ?_
      refine e_getr (o2 := 2) dX8_armOf_31 ff_X8_62 rfl (fx_pi_lt (by decide)) (by decide) rfl (hL _ _ _ rfl) ?_
      refine e_iload_n dX8_armOf_34 rfl ?_
      refine e_aald (j := k) (o2 := 1 + 3 + k) dX8_armOf_35 rfl (Or.inl rfl) (fx_pi_lt (by decide)) rfl (by omega) (by decide) (fx_s1.ra hL (by omega)) ?_
      refine e_iload_n dX8_armOf_36 rfl ?_
      refine e_callV1 (μ' := mX0_figure) (ci := 0) (As := [.int w]) dX8_armOf_37 wl_X8_187 ok_X0_figure (fx_s1.sa (by omega)) rfl (fx_pi_lt (fx_s1.la (by omega))) (by decide) (Nat.le_of_ble_eq_true rfl) fx_n1 (s_X0_figure (m := m) (1 + 3 + k) (fx_s1.sa (by omega)) (fx_s1.la (by omega)) w) rfl ?_
      have hq : q_armOf (fx_ar m 1) na (nI k) w = (0, p_fig (m.1 (1 + 3 + k)) w) := by first | (unfold q_armOf; (try dsimp only); (try dsimp only); (try rw [p_ix_n (show k < 2 ^ 31 by omega)]); (try (first | rw [if_pos c_1] | rw [if_neg c_1] | rw [if_neg (Decidable.not_not.mpr c_1)])); (try (first | rw [if_pos c_2] | rw [if_neg c_2] | rw [if_neg (Decidable.not_not.mpr c_2)])); (try rfl); done) | (exfalso; first | contradiction | (simp_all; done))
      exact e_iret dX8_armOf_40 rfl rfl rfl ⟨by rw [hq], by rw [hq]; rfl⟩
    · refine e_aload_n dX8_armOf_21 rfl ?_
      refine e_iconst dX8_armOf_22 kci_5 ?_
      refine e_callV1 (μ' := mX8_refuse) (ci := 8) (As := [.int 5]) dX8_armOf_23 wl_X8_77 ok_X8_refuse rfl rfl (fx_pi_lt (by decide)) (by decide) (Nat.le_of_ble_eq_true rfl) fx_n1 (s_X8_refuse (m := m) hL 5 (by first | decide | omega) (by first | decide | omega)) rfl ?_
      have hq : q_armOf (fx_ar m 1) na x w = (5, -(nI 5)) := by first | (unfold q_armOf; (try dsimp only); (try (first | rw [if_pos c_1] | rw [if_neg c_1] | rw [if_neg (Decidable.not_not.mpr c_1)])); (try (first | rw [if_pos c_2] | rw [if_neg c_2] | rw [if_neg (Decidable.not_not.mpr c_2)])); (try rfl); done) | (exfalso; first | contradiction | (simp_all; done))
      exact e_iret dX8_armOf_26 rfl rfl rfl ⟨by rw [hq], by rw [hq]; exact (fx_no_n (by first | decide | omega)).symm⟩
set_option maxRecDepth 100000 in
set_option maxHeartbeats 600000 in
theorem s_X8_dollOf {Γ : fx_G} {m : fx_M} (hL : fx_Lay m) {na : Nat} (hna : m.1 1 2 = nI na) (h8 : na ≤ 8) {nd : Nat} (hnd : m.1 1 3 = nI nd) (h5 : nd ≤ 5) (d : Int32) (w : Int32) : fx_Ct Γ mX8_dollOf 6 119 119 [fx_rf Γ 0, .int d, .int w] m (fx_is (some (.int (q_dollOf (fx_ar m 1) (fx_dr m 1) na nd d w).2)) (fx_no m (q_dollOf (fx_ar m 1) (fx_dr m 1) na nd d w).1)) := by
  refine fx_Ct.of (j := 0) (by decide) (Nat.le_of_ble_eq_true rfl) (Nat.le_of_ble_eq_true rfl) ?_
  show fx_E Γ mX8_dollOf 6 119 119 _ 119 m 0 [some (fx_rf Γ 0), some (.int d), some (.int w)] []
  refine e_aload_n dX8_dollOf_0 rfl ?_
  refine e_getr (o2 := 1) dX8_dollOf_1 ff_X8_10 rfl (fx_pi_lt (by decide)) (by decide) rfl (hL _ _ _ rfl) ?_
  refine e_iload_n dX8_dollOf_4 rfl ?_
  refine e_callV1 (μ' := mX6_isDoll) (ci := 6) (As := [.int d]) dX8_dollOf_5 wl_X8_174 ok_X6_isDoll rfl rfl (fx_pi_lt (by decide)) (by decide) (Nat.le_of_ble_eq_true rfl) fx_n1 (s_X6_isDoll (m := m) 1 fx_s1 (nd := nd) hnd d) rfl ?_
  refine e_if_eqB 21 dX8_dollOf_8 rfl (fun c_1 => ?_) (fun c_1 => ?_)
  · refine e_aload_n dX8_dollOf_21 rfl ?_
    refine e_iconst dX8_dollOf_22 kci_5 ?_
    refine e_callV1 (μ' := mX8_refuse) (ci := 8) (As := [.int 5]) dX8_dollOf_23 wl_X8_77 ok_X8_refuse rfl rfl (fx_pi_lt (by decide)) (by decide) (Nat.le_of_ble_eq_true rfl) fx_n1 (s_X8_refuse (m := m) hL 5 (by first | decide | omega) (by first | decide | omega)) rfl ?_
    have hq : q_dollOf (fx_ar m 1) (fx_dr m 1) na nd d w = (5, -(nI 5)) := by first | (unfold q_dollOf; (try dsimp only); (try (first | rw [if_pos c_1] | rw [if_neg c_1] | rw [if_neg (Decidable.not_not.mpr c_1)])); (try rw [if_pos c_4]); (try rw [if_neg c_4]); (try rfl); done) | (exfalso; first | contradiction | (simp_all; done))
    exact e_iret dX8_dollOf_26 rfl rfl rfl ⟨by rw [hq], by rw [hq]; exact (fx_no_n (by first | decide | omega)).symm⟩
  · refine e_iload_n dX8_dollOf_11 rfl ?_
    refine e_iconst dX8_dollOf_12 kci_0 ?_
    refine e_bipush dX8_dollOf_13 kcb_8 ?_
    refine e_callS1 (μ' := mX8_within) (As := [.int w, .int 0, .int 8]) dX8_dollOf_15 wl_X8_81 ok_X8_within (by decide) (Nat.le_of_ble_eq_true rfl) fx_n1 (s_X8_within (m := m) w 0 8) rfl ?_
    refine e_if_neB 27 dX8_dollOf_18 rfl (fun c_2 => ?_) (fun c_2 => ?_)
    · obtain ⟨k, hk, ek⟩ := p_el_ex c_1 (by omega)
      subst ek
      refine e_iload_n dX8_dollOf_27 rfl ?_
      refine e_bipush dX8_dollOf_28 kcb_8 ?_
      refine e_icmp_ne 50 dX8_dollOf_30 rfl (fun c_3 => ?_) (fun c_3 => ?_)
      · refine e_aload_n dX8_dollOf_50 rfl ?_
        refine e_getr (o2 := 1) dX8_dollOf_51 ff_X8_10 rfl (fx_pi_lt (by decide)) (by decide) rfl (hL _ _ _ rfl) ?_
        refine e_getr (o2 := 3) dX8_dollOf_54 ff_X8_180 rfl (fx_pi_lt (by decide)) (by decide) rfl (hL _ _ _ rfl) ?_
        refine e_iload_n dX8_dollOf_57 rfl ?_
        refine e_aald (j := k) (o2 := 1 + 11 + k) dX8_dollOf_58 rfl (Or.inr (Or.inl rfl)) (fx_pi_lt (by decide)) rfl (by omega) (by decide) (fx_s1.rd hL (by omega)) ?_
        refine e_iload_n dX8_dollOf_59 rfl ?_
        refine e_callV1 (μ' := mX1_figure) (ci := 1) (As := [.int w]) dX8_dollOf_60 wl_X8_193 ok_X1_figure (fx_s1.sd (by omega)) rfl (fx_pi_lt (fx_s1.ld (by omega))) (by decide) (Nat.le_of_ble_eq_true rfl) fx_n1 (s_X1_figure (m := m) (1 + 11 + k) (fx_s1.sd (by omega)) (fx_s1.ld (by omega)) w) rfl ?_
        have hq : q_dollOf (fx_ar m 1) (fx_dr m 1) na nd (nI k) w = (0, p_figD (m.1 (1 + 11 + k)) w) := by first | (unfold q_dollOf; (try dsimp only); (try dsimp only); (try rw [p_ix_n (show k < 2 ^ 31 by omega)]); (try (first | rw [if_pos c_1] | rw [if_neg c_1] | rw [if_neg (Decidable.not_not.mpr c_1)])); (try (first | rw [if_pos c_2] | rw [if_neg c_2] | rw [if_neg (Decidable.not_not.mpr c_2)])); (try (first | rw [if_pos c_3] | rw [if_neg c_3] | rw [if_neg (Decidable.not_not.mpr c_3)])); (try rw [if_pos c_4]); (try rw [if_neg c_4]); (try rfl); done) | (exfalso; first | contradiction | (simp_all; done))
        exact e_iret dX8_dollOf_63 rfl rfl rfl ⟨by rw [hq], by rw [hq]; rfl⟩
      · refine e_aload_n dX8_dollOf_33 rfl ?_
        refine e_getr (o2 := 1) dX8_dollOf_34 ff_X8_10 rfl (fx_pi_lt (by decide)) (by decide) rfl (hL _ _ _ rfl) ?_
        refine e_iload_n dX8_dollOf_37 rfl ?_
        refine e_callV1 (μ' := mX6_isHer) (ci := 6) (As := [.int (nI k)]) dX8_dollOf_38 wl_X8_190 ok_X6_isHer rfl rfl (fx_pi_lt (by decide)) (by decide) (Nat.le_of_ble_eq_true rfl) fx_n1 (s_X6_isHer (m := m) 1 fx_s1 hL (na := na) hna h8 (nd := nd) hnd h5 (d := k) (by omega) ) rfl ?_
        refine e_if_eqB 48 dX8_dollOf_41 rfl (fun c_4 => ?_) (fun c_4 => ?_)
        · refine e_iconst dX8_dollOf_48 kci_0 ?_
          have hq : q_dollOf (fx_ar m 1) (fx_dr m 1) na nd (nI k) w = (0, 0) := by first | (unfold q_dollOf; (try dsimp only); (try dsimp only); (try rw [p_ix_n (show k < 2 ^ 31 by omega)]); (try (first | rw [if_pos c_1] | rw [if_neg c_1] | rw [if_neg (Decidable.not_not.mpr c_1)])); (try (first | rw [if_pos c_2] | rw [if_neg c_2] | rw [if_neg (Decidable.not_not.mpr c_2)])); (try (first | rw [if_pos c_3] | rw [if_neg c_3] | rw [if_neg (Decidable.not_not.mpr c_3)])); (try (first | rw [if_pos c_4] | rw [if_neg c_4] | rw [if_neg (Decidable.not_not.mpr c_4)])); (try rw [if_pos c_4]); (try rw [if_neg c_4]); (try rfl); done) | (exfalso; first | contradiction | (simp_all; done))
          exact e_iret dX8_dollOf_49 rfl rfl rfl ⟨by rw [hq], by rw [hq]; rfl⟩
        · refine e_iconst dX8_dollOf_44 kci_1 ?_
          refine e_goto 49 dX8_dollOf_45 rfl ?_
          have hq : q_dollOf (fx_ar m 1) (fx_dr m 1) na nd (nI k) w = (0, 1) := by first | (unfold q_dollOf; (try dsimp only); (try dsimp only); (try rw [p_ix_n (show k < 2 ^ 31 by omega)]); (try (first | rw [if_pos c_1] | rw [if_neg c_1] | rw [if_neg (Decidable.not_not.mpr c_1)])); (try (first | rw [if_pos c_2] | rw [if_neg c_2] | rw [if_neg (Decidable.not_not.mpr c_2)])); (try (first | rw [if_pos c_3] | rw [if_neg c_3] | rw [if_neg (Decidable.not_not.mpr c_3)])); (try (first | rw [if_pos c_4] | rw [if_neg c_4] | rw [if_neg (Decidable.not_not.mpr c_4)])); (try rw [if_pos c_4]); (try rw [if_neg c_4]); (try rfl); done) | (exfalso; first | contradiction | (simp_all; done))
          exact e_iret dX8_dollOf_49 rfl rfl rfl ⟨by rw [hq], by rw [hq]; rfl⟩
    · refine e_aload_n dX8_dollOf_21 rfl ?_
      refine e_iconst dX8_dollOf_22 kci_5 ?_
      refine e_callV1 (μ' := mX8_refuse) (ci := 8) (As := [.int 5]) dX8_dollOf_23 wl_X8_77 ok_X8_refuse rfl rfl (fx_pi_lt (by decide)) (by decide) (Nat.le_of_ble_eq_true rfl) fx_n1 (s_X8_refuse (m := m) hL 5 (by first | decide | omega) (by first | decide | omega)) rfl ?_
      have hq : q_dollOf (fx_ar m 1) (fx_dr m 1) na nd d w = (5, -(nI 5)) := by first | (unfold q_dollOf; (try dsimp only); (try (first | rw [if_pos c_1] | rw [if_neg c_1] | rw [if_neg (Decidable.not_not.mpr c_1)])); (try (first | rw [if_pos c_2] | rw [if_neg c_2] | rw [if_neg (Decidable.not_not.mpr c_2)])); (try rw [if_pos c_4]); (try rw [if_neg c_4]); (try rfl); done) | (exfalso; first | contradiction | (simp_all; done))
      exact e_iret dX8_dollOf_26 rfl rfl rfl ⟨by rw [hq], by rw [hq]; exact (fx_no_n (by first | decide | omega)).symm⟩
set_option maxRecDepth 100000 in
set_option maxHeartbeats 600000 in
theorem s_X8_on {Γ : fx_G} {m : fx_M} (hL : fx_Lay m) {na : Nat} (hna : m.1 1 2 = nI na) (h8 : na ≤ 8) {nd : Nat} (hnd : m.1 1 3 = nI nd) (h5 : nd ≤ 5) (d : Int32) (s : Int32) : fx_Ct Γ mX8_on 3 119 119 [fx_rf Γ 0, .int d, .int s] m (fx_is (some (.int (q_on (fx_ar m 1) na nd d s).2)) (fx_no m (q_on (fx_ar m 1) na nd d s).1)) := by
  refine fx_Ct.of (j := 1) (by decide) (Nat.le_of_ble_eq_true rfl) (Nat.le_of_ble_eq_true rfl) ?_
  show fx_E Γ mX8_on 3 119 119 _ 119 m 0 [some (fx_rf Γ 0), some (.int d), some (.int s), none] []
  refine e_aload_n dX8_on_0 rfl ?_
  refine e_iload_n dX8_on_1 rfl ?_
  refine e_iload_n dX8_on_2 rfl ?_
  refine e_callV1 (μ' := mX8_barToSide) (ci := 8) (As := [.int d, .int s]) dX8_on_3 wl_X8_194 ok_X8_barToSide rfl rfl (fx_pi_lt (by decide)) (by decide) (Nat.le_of_ble_eq_true rfl) fx_n1 (s_X8_barToSide (m := m) hL (nd := nd) hnd h5 d s) rfl ?_
  refine e_istore_n dX8_on_6 (by decide) rfl ?_
  refine e_iload_n dX8_on_7 rfl ?_
  refine e_if_eq 19 dX8_on_8 rfl (fun c_1 => ?_) (fun c_1 => ?_)
  · have hb7 := p_bS_le nd d s
    have hb0 : p_bS nd d s = 0 := (nI_0i (by omega)).mp c_1
    have hB := p_bS_0 hb0
    refine e_aload_n dX8_on_19 rfl ?_
    refine e_getr (o2 := 1) dX8_on_20 ff_X8_10 rfl (fx_pi_lt (by decide)) (by decide) rfl (hL _ _ _ rfl) ?_
    refine e_iload_n dX8_on_23 rfl ?_
    refine e_iload_n dX8_on_24 rfl ?_
    refine e_callV1 (μ' := mX6_armAt) (ci := 6) (As := [.int d, .int s]) dX8_on_25 wl_X8_200 ok_X6_armAt rfl rfl (fx_pi_lt (by decide)) (by decide) (Nat.le_of_ble_eq_true rfl) fx_n1 (s_X6_armAt (m := m) 1 fx_s1 hL (na := na) hna h8 d s) rfl ?_
    have hq : q_on (fx_ar m 1) na nd d s = (0, p_oi (p_at (fx_ar m 1) na d s)) := by unfold q_on; rw [if_pos hb0] <;> rfl
    exact e_iret dX8_on_28 rfl rfl rfl ⟨by rw [hq], by rw [hq]; rfl⟩
  · have hb7 := p_bS_le nd d s
    have hb1 : 1 ≤ (p_bS nd d s) := by have q : (p_bS nd d s) ≠ 0 := mt (nI_0i (by omega)).mpr c_1; omega
    refine e_aload_n dX8_on_11 rfl ?_
    refine e_iload_n dX8_on_12 rfl ?_
    refine e_callV1 (μ' := mX8_refuseApart) (ci := 8) (As := [.int (nI (p_bS nd d s))]) dX8_on_13 wl_X8_197 ok_X8_refuseApart rfl rfl (fx_pi_lt (by decide)) (by decide) (Nat.le_of_ble_eq_true rfl) fx_n1 (s_X8_refuseApart (m := m) hL (p_bS nd d s) (by first | decide | omega) (by first | decide | omega)) rfl ?_
    refine e_goto 28 dX8_on_16 rfl ?_
    have hq : q_on (fx_ar m 1) na nd d s = ((p_bS nd d s), -(nI (p_bS nd d s)) - 10) := by unfold q_on; exact if_neg (by omega)
    exact e_iret dX8_on_28 rfl rfl rfl ⟨by rw [hq], by rw [hq]; exact (fx_no_n (by omega)).symm⟩
set_option maxRecDepth 100000 in
set_option maxHeartbeats 600000 in
theorem s_X8_may {Γ : fx_G} {m : fx_M} (hL : fx_Lay m) {na : Nat} (hna : m.1 1 2 = nI na) (h8 : na ≤ 8) {nd : Nat} (hnd : m.1 1 3 = nI nd) (h5 : nd ≤ 5) (d : Int32) (s : Int32) : fx_Ct Γ mX8_may 4 119 119 [fx_rf Γ 0, .int d, .int s] m (fx_is (some (.int (q_may (fx_ar m 1) (fx_dr m 1) na nd d s).2)) (fx_no m (q_may (fx_ar m 1) (fx_dr m 1) na nd d s).1)) := by
  refine fx_Ct.of (j := 1) (by decide) (Nat.le_of_ble_eq_true rfl) (Nat.le_of_ble_eq_true rfl) ?_
  show fx_E Γ mX8_may 4 119 119 _ 119 m 0 [some (fx_rf Γ 0), some (.int d), some (.int s), none] []
  refine e_aload_n dX8_may_0 rfl ?_
  refine e_iload_n dX8_may_1 rfl ?_
  refine e_iload_n dX8_may_2 rfl ?_
  refine e_callV1 (μ' := mX8_barToSide) (ci := 8) (As := [.int d, .int s]) dX8_may_3 wl_X8_194 ok_X8_barToSide rfl rfl (fx_pi_lt (by decide)) (by decide) (Nat.le_of_ble_eq_true rfl) fx_n1 (s_X8_barToSide (m := m) hL (nd := nd) hnd h5 d s) rfl ?_
  refine e_istore_n dX8_may_6 (by decide) rfl ?_
  refine e_iload_n dX8_may_7 rfl ?_
  refine e_if_eq 19 dX8_may_8 rfl (fun c_1 => ?_) (fun c_1 => ?_)
  · have hb7 := p_bS_le nd d s
    have hb0 : p_bS nd d s = 0 := (nI_0i (by omega)).mp c_1
    have hB := p_bS_0 hb0
    obtain ⟨k, hk, ek⟩ := p_el_ex hB.1 (by omega)
    subst ek
    refine e_aload_n dX8_may_19 rfl ?_
    refine e_getr (o2 := 1) dX8_may_20 ff_X8_10 rfl (fx_pi_lt (by decide)) (by decide) rfl (hL _ _ _ rfl) ?_
    refine e_iload_n dX8_may_23 rfl ?_
    refine e_iload_n dX8_may_24 rfl ?_
    refine e_callV1 (μ' := mX6_armsFor) (ci := 6) (As := [.int (nI k), .int s]) dX8_may_25 wl_X8_222 ok_X6_armsFor rfl rfl (fx_pi_lt (by decide)) (by decide) (Nat.le_of_ble_eq_true rfl) fx_n1 (s_X6_armsFor (m := m) 1 fx_s1 hL (na := na) hna h8 (nd := nd) hnd h5 (d := k) (by omega) s) rfl ?_
    have hq : q_may (fx_ar m 1) (fx_dr m 1) na nd (nI k) s = (0, nI (p_sN (fun x => p_can (fx_ar m 1) (fx_dr m 1) na x k s) na)) := by unfold q_may; (try dsimp only); (try rw [p_ix_n (show k < 2 ^ 31 by omega)]); rw [if_pos hb0] <;> rfl
    exact e_iret dX8_may_28 rfl rfl rfl ⟨by rw [hq], by rw [hq]; rfl⟩
  · have hb7 := p_bS_le nd d s
    have hb1 : 1 ≤ (p_bS nd d s) := by have q : (p_bS nd d s) ≠ 0 := mt (nI_0i (by omega)).mpr c_1; omega
    refine e_aload_n dX8_may_11 rfl ?_
    refine e_iload_n dX8_may_12 rfl ?_
    refine e_callV1 (μ' := mX8_refuse) (ci := 8) (As := [.int (nI (p_bS nd d s))]) dX8_may_13 wl_X8_77 ok_X8_refuse rfl rfl (fx_pi_lt (by decide)) (by decide) (Nat.le_of_ble_eq_true rfl) fx_n1 (s_X8_refuse (m := m) hL (p_bS nd d s) (by first | decide | omega) (by first | decide | omega)) rfl ?_
    refine e_goto 28 dX8_may_16 rfl ?_
    have hq : q_may (fx_ar m 1) (fx_dr m 1) na nd d s = ((p_bS nd d s), -(nI (p_bS nd d s))) := by unfold q_may; exact if_neg (by omega)
    exact e_iret dX8_may_28 rfl rfl rfl ⟨by rw [hq], by rw [hq]; exact (fx_no_n (by omega)).symm⟩
set_option maxRecDepth 100000 in
set_option maxHeartbeats 600000 in
theorem s_X8_best {Γ : fx_G} {m : fx_M} (hL : fx_Lay m) {na : Nat} (hna : m.1 1 2 = nI na) (h8 : na ≤ 8) {nd : Nat} (hnd : m.1 1 3 = nI nd) (h5 : nd ≤ 5) (d : Int32) (s : Int32) : fx_Ct Γ mX8_best 5 119 119 [fx_rf Γ 0, .int d, .int s] m (fx_is (some (.int (q_best (fx_ar m 1) (fx_dr m 1) na nd d s).2)) (fx_no m (q_best (fx_ar m 1) (fx_dr m 1) na nd d s).1)) := by
  refine fx_Ct.of (j := 1) (by decide) (Nat.le_of_ble_eq_true rfl) (Nat.le_of_ble_eq_true rfl) ?_
  show fx_E Γ mX8_best 5 119 119 _ 119 m 0 [some (fx_rf Γ 0), some (.int d), some (.int s), none] []
  refine e_aload_n dX8_best_0 rfl ?_
  refine e_iload_n dX8_best_1 rfl ?_
  refine e_iload_n dX8_best_2 rfl ?_
  refine e_callV1 (μ' := mX8_barToSide) (ci := 8) (As := [.int d, .int s]) dX8_best_3 wl_X8_194 ok_X8_barToSide rfl rfl (fx_pi_lt (by decide)) (by decide) (Nat.le_of_ble_eq_true rfl) fx_n1 (s_X8_barToSide (m := m) hL (nd := nd) hnd h5 d s) rfl ?_
  refine e_istore_n dX8_best_6 (by decide) rfl ?_
  refine e_iload_n dX8_best_7 rfl ?_
  refine e_if_eq 19 dX8_best_8 rfl (fun c_1 => ?_) (fun c_1 => ?_)
  · have hb7 := p_bS_le nd d s
    have hb0 : p_bS nd d s = 0 := (nI_0i (by omega)).mp c_1
    have hB := p_bS_0 hb0
    obtain ⟨y, hy, ey⟩ := p_el_ex hB.1 (by omega)
    subst ey
    refine e_aload_n dX8_best_19 rfl ?_
    refine e_getr (o2 := 1) dX8_best_20 ff_X8_10 rfl (fx_pi_lt (by decide)) (by decide) rfl (hL _ _ _ rfl) ?_
    refine e_aload_n dX8_best_23 rfl ?_
    refine e_getr (o2 := 1) dX8_best_24 ff_X8_10 rfl (fx_pi_lt (by decide)) (by decide) rfl (hL _ _ _ rfl) ?_
    refine e_iload_n dX8_best_27 rfl ?_
    refine e_iload_n dX8_best_28 rfl ?_
    refine e_callV1 (μ' := mX6_armsFor) (ci := 6) (As := [.int (nI y), .int s]) dX8_best_29 wl_X8_222 ok_X6_armsFor rfl rfl (fx_pi_lt (by decide)) (by decide) (Nat.le_of_ble_eq_true rfl) fx_n1 (s_X6_armsFor (m := m) 1 fx_s1 hL (na := na) hna h8 (nd := nd) hnd h5 (d := y) (by omega) s) rfl ?_
    refine e_iload_n dX8_best_32 rfl ?_
    refine e_callV1 (μ' := mX6_leastUnlike) (ci := 6) (As := [.int (nI (p_sN (fun x => p_can (fx_ar m 1) (fx_dr m 1) na x y s) na)), .int (nI y)]) dX8_best_33 wl_X8_225 ok_X6_leastUnlike rfl rfl (fx_pi_lt (by decide)) (by decide) (Nat.le_of_ble_eq_true rfl) fx_n1 (s_X6_leastUnlike (m := m) 1 fx_s1 hL (na := na) hna h8 (nd := nd) hnd h5 (B := (p_sN (fun x => p_can (fx_ar m 1) (fx_dr m 1) na x y s) na)) (d := y) (Nat.lt_trans (p_sN_lt _ _) (Nat.pow_lt_pow_right (by decide) (by omega))) (by omega) ) rfl ?_
    have hq : q_best (fx_ar m 1) (fx_dr m 1) na nd (nI y) s = (0, p_oi (p_fold (p_bst (fun k => (p_sN (fun x => p_can (fx_ar m 1) (fx_dr m 1) na x y s) na).testBit k = true) (fun x => p_farA (fx_ar m 1) (fx_dr m 1) x y)) na 0 none)) := by unfold q_best; (try dsimp only); (try rw [p_ix_n (show y < 2 ^ 31 by omega)]); rw [if_pos hb0] <;> rfl
    exact e_iret dX8_best_36 rfl rfl rfl ⟨by rw [hq], by rw [hq]; rfl⟩
  · have hb7 := p_bS_le nd d s
    have hb1 : 1 ≤ (p_bS nd d s) := by have q : (p_bS nd d s) ≠ 0 := mt (nI_0i (by omega)).mpr c_1; omega
    refine e_aload_n dX8_best_11 rfl ?_
    refine e_iload_n dX8_best_12 rfl ?_
    refine e_callV1 (μ' := mX8_refuseApart) (ci := 8) (As := [.int (nI (p_bS nd d s))]) dX8_best_13 wl_X8_197 ok_X8_refuseApart rfl rfl (fx_pi_lt (by decide)) (by decide) (Nat.le_of_ble_eq_true rfl) fx_n1 (s_X8_refuseApart (m := m) hL (p_bS nd d s) (by first | decide | omega) (by first | decide | omega)) rfl ?_
    refine e_goto 36 dX8_best_16 rfl ?_
    have hq : q_best (fx_ar m 1) (fx_dr m 1) na nd d s = ((p_bS nd d s), -(nI (p_bS nd d s)) - 10) := by unfold q_best; exact if_neg (by omega)
    exact e_iret dX8_best_36 rfl rfl rfl ⟨by rw [hq], by rw [hq]; exact (fx_no_n (by omega)).symm⟩
set_option maxRecDepth 100000 in
set_option maxHeartbeats 600000 in
theorem s_X8_fits {Γ : fx_G} {m : fx_M} (hL : fx_Lay m) {na : Nat} (hna : m.1 1 2 = nI na) (h8 : na ≤ 8) {nd : Nat} (hnd : m.1 1 3 = nI nd) (h5 : nd ≤ 5) (x : Int32) (d : Int32) (s : Int32) : fx_Ct Γ mX8_fits 2 119 119 [fx_rf Γ 0, .int x, .int d, .int s] m (fx_is (some (.int (q_fits (fx_ar m 1) (fx_dr m 1) na nd x d s).2)) (fx_no m (q_fits (fx_ar m 1) (fx_dr m 1) na nd x d s).1)) := by
  refine fx_Ct.of (j := 0) (by decide) (Nat.le_of_ble_eq_true rfl) (Nat.le_of_ble_eq_true rfl) ?_
  show fx_E Γ mX8_fits 2 119 119 _ 119 m 0 [some (fx_rf Γ 0), some (.int x), some (.int d), some (.int s)] []
  refine e_aload_n dX8_fits_0 rfl ?_
  refine e_getr (o2 := 1) dX8_fits_1 ff_X8_10 rfl (fx_pi_lt (by decide)) (by decide) rfl (hL _ _ _ rfl) ?_
  refine e_iload_n dX8_fits_4 rfl ?_
  refine e_callV1 (μ' := mX6_isArm) (ci := 6) (As := [.int x]) dX8_fits_5 wl_X8_117 ok_X6_isArm rfl rfl (fx_pi_lt (by decide)) (by decide) (Nat.le_of_ble_eq_true rfl) fx_n1 (s_X6_isArm (m := m) 1 fx_s1 (na := na) hna x) rfl ?_
  refine e_if_eqB 22 dX8_fits_8 rfl (fun c_1 => ?_) (fun c_1 => ?_)
  · refine e_aload_n dX8_fits_22 rfl ?_
    refine e_iconst dX8_fits_23 kci_1 ?_
    refine e_callV1 (μ' := mX8_refuse) (ci := 8) (As := [.int 1]) dX8_fits_24 wl_X8_77 ok_X8_refuse rfl rfl (fx_pi_lt (by decide)) (by decide) (Nat.le_of_ble_eq_true rfl) fx_n1 (s_X8_refuse (m := m) hL 1 (by first | decide | omega) (by first | decide | omega)) rfl ?_
    have hq : q_fits (fx_ar m 1) (fx_dr m 1) na nd x d s = (1, -(nI 1)) := by first | (unfold q_fits; (try dsimp only); (try (first | rw [if_pos c_1] | rw [if_neg c_1] | rw [if_neg (Decidable.not_not.mpr c_1)])); (try rw [if_pos c_4]); (try rw [if_neg c_4]); (try rfl); done) | (exfalso; first | contradiction | (simp_all; done))
    exact e_iret dX8_fits_27 rfl rfl rfl ⟨by rw [hq], by rw [hq]; exact (fx_no_n (by first | decide | omega)).symm⟩
  · refine e_aload_n dX8_fits_11 rfl ?_
    refine e_getr (o2 := 1) dX8_fits_12 ff_X8_10 rfl (fx_pi_lt (by decide)) (by decide) rfl (hL _ _ _ rfl) ?_
    refine e_iload_n dX8_fits_15 rfl ?_
    refine e_callV1 (μ' := mX6_isDoll) (ci := 6) (As := [.int d]) dX8_fits_16 wl_X8_174 ok_X6_isDoll rfl rfl (fx_pi_lt (by decide)) (by decide) (Nat.le_of_ble_eq_true rfl) fx_n1 (s_X6_isDoll (m := m) 1 fx_s1 (nd := nd) hnd d) rfl ?_
    refine e_if_neB 28 dX8_fits_19 rfl (fun c_2 => ?_) (fun c_2 => ?_)
    · obtain ⟨k, hk, ek⟩ := p_el_ex c_1 (by omega)
      subst ek
      obtain ⟨j, hj, ej⟩ := p_el_ex c_2 (by omega)
      subst ej
      refine e_iload_n dX8_fits_28 rfl ?_
      refine e_callS1 (μ' := mX8_isSide) (As := [.int s]) dX8_fits_29 wl_X8_149 ok_X8_isSide (by decide) (Nat.le_of_ble_eq_true rfl) fx_n1 (s_X8_isSide (m := m) s) rfl ?_
      refine e_if_neB 42 dX8_fits_32 rfl (fun c_3 => ?_) (fun c_3 => ?_)
      · refine e_aload_n dX8_fits_42 rfl ?_
        refine e_getr (o2 := 1) dX8_fits_43 ff_X8_10 rfl (fx_pi_lt (by decide)) (by decide) rfl (hL _ _ _ rfl) ?_
        refine e_getr (o2 := 2) dX8_fits_46 ff_X8_62 rfl (fx_pi_lt (by decide)) (by decide) rfl (hL _ _ _ rfl) ?_
        refine e_iload_n dX8_fits_49 rfl ?_
        refine e_aald (j := k) (o2 := 1 + 3 + k) dX8_fits_50 rfl (Or.inl rfl) (fx_pi_lt (by decide)) rfl (by omega) (by decide) (fx_s1.ra hL (by omega)) ?_
        refine e_aload_n dX8_fits_51 rfl ?_
        refine e_getr (o2 := 1) dX8_fits_52 ff_X8_10 rfl (fx_pi_lt (by decide)) (by decide) rfl (hL _ _ _ rfl) ?_
        refine e_getr (o2 := 3) dX8_fits_55 ff_X8_180 rfl (fx_pi_lt (by decide)) (by decide) rfl (hL _ _ _ rfl) ?_
        refine e_iload_n dX8_fits_58 rfl ?_
        refine e_aald (j := j) (o2 := 1 + 11 + j) dX8_fits_59 rfl (Or.inr (Or.inl rfl)) (fx_pi_lt (by decide)) rfl (by omega) (by decide) (fx_s1.rd hL (by omega)) ?_
        refine e_iload_n dX8_fits_60 rfl ?_
        refine e_callV1 (μ' := mX0_suits) (ci := 0) (As := [fx_rf Γ (1 + 11 + j), .int s]) dX8_fits_61 wl_X8_214 ok_X0_suits (fx_s1.sa (by omega)) rfl (fx_pi_lt (fx_s1.la (by omega))) (by decide) (Nat.le_of_ble_eq_true rfl) fx_n1 (s_X0_suits (m := m) (1 + 3 + k) (fx_s1.sa (by omega)) (fx_s1.la (by omega)) (1 + 11 + j) (fx_s1.sd (by omega)) (fx_s1.ld (by omega)) s) rfl ?_
        refine e_if_eqB 71 dX8_fits_64 rfl (fun c_4 => ?_) (fun c_4 => ?_)
        · refine e_iconst dX8_fits_71 kci_0 ?_
          have hq : q_fits (fx_ar m 1) (fx_dr m 1) na nd (nI k) (nI j) s = (0, 0) := by first | (unfold q_fits; (try dsimp only); (try dsimp only); (try rw [p_ix_n (show j < 2 ^ 31 by omega)]); (try dsimp only); (try rw [p_ix_n (show k < 2 ^ 31 by omega)]); (try (first | rw [if_pos c_1] | rw [if_neg c_1] | rw [if_neg (Decidable.not_not.mpr c_1)])); (try (first | rw [if_pos c_2] | rw [if_neg c_2] | rw [if_neg (Decidable.not_not.mpr c_2)])); (try (first | rw [if_pos c_3] | rw [if_neg c_3] | rw [if_neg (Decidable.not_not.mpr c_3)])); (try (first | rw [if_pos c_4] | rw [if_neg c_4] | rw [if_neg (Decidable.not_not.mpr c_4)])); (try rw [if_pos c_4]); (try rw [if_neg c_4]); (try rfl); done) | (exfalso; first | contradiction | (simp_all; done))
          exact e_iret dX8_fits_72 rfl rfl rfl ⟨by rw [hq], by rw [hq]; rfl⟩
        · refine e_iconst dX8_fits_67 kci_1 ?_
          refine e_goto 72 dX8_fits_68 rfl ?_
          have hq : q_fits (fx_ar m 1) (fx_dr m 1) na nd (nI k) (nI j) s = (0, 1) := by first | (unfold q_fits; (try dsimp only); (try dsimp only); (try rw [p_ix_n (show j < 2 ^ 31 by omega)]); (try dsimp only); (try rw [p_ix_n (show k < 2 ^ 31 by omega)]); (try (first | rw [if_pos c_1] | rw [if_neg c_1] | rw [if_neg (Decidable.not_not.mpr c_1)])); (try (first | rw [if_pos c_2] | rw [if_neg c_2] | rw [if_neg (Decidable.not_not.mpr c_2)])); (try (first | rw [if_pos c_3] | rw [if_neg c_3] | rw [if_neg (Decidable.not_not.mpr c_3)])); (try (first | rw [if_pos c_4] | rw [if_neg c_4] | rw [if_neg (Decidable.not_not.mpr c_4)])); (try rw [if_pos c_4]); (try rw [if_neg c_4]); (try rfl); done) | (exfalso; first | contradiction | (simp_all; done))
          exact e_iret dX8_fits_72 rfl rfl rfl ⟨by rw [hq], by rw [hq]; rfl⟩
      · refine e_aload_n dX8_fits_35 rfl ?_
        refine e_bipush dX8_fits_36 kcb_6 ?_
        refine e_callV1 (μ' := mX8_refuse) (ci := 8) (As := [.int 6]) dX8_fits_38 wl_X8_77 ok_X8_refuse rfl rfl (fx_pi_lt (by decide)) (by decide) (Nat.le_of_ble_eq_true rfl) fx_n1 (s_X8_refuse (m := m) hL 6 (by first | decide | omega) (by first | decide | omega)) rfl ?_
        have hq : q_fits (fx_ar m 1) (fx_dr m 1) na nd (nI k) (nI j) s = (6, -(nI 6)) := by first | (unfold q_fits; (try dsimp only); (try dsimp only); (try rw [p_ix_n (show j < 2 ^ 31 by omega)]); (try dsimp only); (try rw [p_ix_n (show k < 2 ^ 31 by omega)]); (try (first | rw [if_pos c_1] | rw [if_neg c_1] | rw [if_neg (Decidable.not_not.mpr c_1)])); (try (first | rw [if_pos c_2] | rw [if_neg c_2] | rw [if_neg (Decidable.not_not.mpr c_2)])); (try (first | rw [if_pos c_3] | rw [if_neg c_3] | rw [if_neg (Decidable.not_not.mpr c_3)])); (try rw [if_pos c_4]); (try rw [if_neg c_4]); (try rfl); done) | (exfalso; first | contradiction | (simp_all; done))
        exact e_iret dX8_fits_41 rfl rfl rfl ⟨by rw [hq], by rw [hq]; exact (fx_no_n (by first | decide | omega)).symm⟩
    · refine e_aload_n dX8_fits_22 rfl ?_
      refine e_iconst dX8_fits_23 kci_1 ?_
      refine e_callV1 (μ' := mX8_refuse) (ci := 8) (As := [.int 1]) dX8_fits_24 wl_X8_77 ok_X8_refuse rfl rfl (fx_pi_lt (by decide)) (by decide) (Nat.le_of_ble_eq_true rfl) fx_n1 (s_X8_refuse (m := m) hL 1 (by first | decide | omega) (by first | decide | omega)) rfl ?_
      have hq : q_fits (fx_ar m 1) (fx_dr m 1) na nd x d s = (1, -(nI 1)) := by first | (unfold q_fits; (try dsimp only); (try (first | rw [if_pos c_1] | rw [if_neg c_1] | rw [if_neg (Decidable.not_not.mpr c_1)])); (try (first | rw [if_pos c_2] | rw [if_neg c_2] | rw [if_neg (Decidable.not_not.mpr c_2)])); (try rw [if_pos c_4]); (try rw [if_neg c_4]); (try rfl); done) | (exfalso; first | contradiction | (simp_all; done))
      exact e_iret dX8_fits_27 rfl rfl rfl ⟨by rw [hq], by rw [hq]; exact (fx_no_n (by first | decide | omega)).symm⟩
set_option maxRecDepth 100000 in
set_option maxHeartbeats 600000 in
theorem s_X8_unlike {Γ : fx_G} {m : fx_M} (hL : fx_Lay m) {na : Nat} (hna : m.1 1 2 = nI na) (h8 : na ≤ 8) {nd : Nat} (hnd : m.1 1 3 = nI nd) (h5 : nd ≤ 5) (x : Int32) (d : Int32) : fx_Ct Γ mX8_unlike 4 119 119 [fx_rf Γ 0, .int x, .int d] m (fx_is (some (.int (q_unlike (fx_ar m 1) (fx_dr m 1) na nd x d).2)) (fx_no m (q_unlike (fx_ar m 1) (fx_dr m 1) na nd x d).1)) := by
  refine fx_Ct.of (j := 0) (by decide) (Nat.le_of_ble_eq_true rfl) (Nat.le_of_ble_eq_true rfl) ?_
  show fx_E Γ mX8_unlike 4 119 119 _ 119 m 0 [some (fx_rf Γ 0), some (.int x), some (.int d)] []
  refine e_aload_n dX8_unlike_0 rfl ?_
  refine e_getr (o2 := 1) dX8_unlike_1 ff_X8_10 rfl (fx_pi_lt (by decide)) (by decide) rfl (hL _ _ _ rfl) ?_
  refine e_iload_n dX8_unlike_4 rfl ?_
  refine e_callV1 (μ' := mX6_isArm) (ci := 6) (As := [.int x]) dX8_unlike_5 wl_X8_117 ok_X6_isArm rfl rfl (fx_pi_lt (by decide)) (by decide) (Nat.le_of_ble_eq_true rfl) fx_n1 (s_X6_isArm (m := m) 1 fx_s1 (na := na) hna x) rfl ?_
  refine e_if_eqB 22 dX8_unlike_8 rfl (fun c_1 => ?_) (fun c_1 => ?_)
  · refine e_aload_n dX8_unlike_22 rfl ?_
    refine e_iconst dX8_unlike_23 kci_1 ?_
    refine e_callV1 (μ' := mX8_refuse) (ci := 8) (As := [.int 1]) dX8_unlike_24 wl_X8_77 ok_X8_refuse rfl rfl (fx_pi_lt (by decide)) (by decide) (Nat.le_of_ble_eq_true rfl) fx_n1 (s_X8_refuse (m := m) hL 1 (by first | decide | omega) (by first | decide | omega)) rfl ?_
    have hq : q_unlike (fx_ar m 1) (fx_dr m 1) na nd x d = (1, -(nI 1)) := by first | (unfold q_unlike; (try dsimp only); (try (first | rw [if_pos c_1] | rw [if_neg c_1] | rw [if_neg (Decidable.not_not.mpr c_1)])); (try rfl); done) | (exfalso; first | contradiction | (simp_all; done))
    exact e_iret dX8_unlike_27 rfl rfl rfl ⟨by rw [hq], by rw [hq]; exact (fx_no_n (by first | decide | omega)).symm⟩
  · refine e_aload_n dX8_unlike_11 rfl ?_
    refine e_getr (o2 := 1) dX8_unlike_12 ff_X8_10 rfl (fx_pi_lt (by decide)) (by decide) rfl (hL _ _ _ rfl) ?_
    refine e_iload_n dX8_unlike_15 rfl ?_
    refine e_callV1 (μ' := mX6_isDoll) (ci := 6) (As := [.int d]) dX8_unlike_16 wl_X8_174 ok_X6_isDoll rfl rfl (fx_pi_lt (by decide)) (by decide) (Nat.le_of_ble_eq_true rfl) fx_n1 (s_X6_isDoll (m := m) 1 fx_s1 (nd := nd) hnd d) rfl ?_
    refine e_if_neB 28 dX8_unlike_19 rfl (fun c_2 => ?_) (fun c_2 => ?_)
    · obtain ⟨k, hk, ek⟩ := p_el_ex c_1 (by omega)
      subst ek
      obtain ⟨j, hj, ej⟩ := p_el_ex c_2 (by omega)
      subst ej
      refine e_aload_n dX8_unlike_28 rfl ?_
      refine e_getr (o2 := 1) dX8_unlike_29 ff_X8_10 rfl (fx_pi_lt (by decide)) (by decide) rfl (hL _ _ _ rfl) ?_
      refine e_getr (o2 := 2) dX8_unlike_32 ff_X8_62 rfl (fx_pi_lt (by decide)) (by decide) rfl (hL _ _ _ rfl) ?_
      refine e_iload_n dX8_unlike_35 rfl ?_
      refine e_aald (j := k) (o2 := 1 + 3 + k) dX8_unlike_36 rfl (Or.inl rfl) (fx_pi_lt (by decide)) rfl (by omega) (by decide) (fx_s1.ra hL (by omega)) ?_
      refine e_aload_n dX8_unlike_37 rfl ?_
      refine e_getr (o2 := 1) dX8_unlike_38 ff_X8_10 rfl (fx_pi_lt (by decide)) (by decide) rfl (hL _ _ _ rfl) ?_
      refine e_getr (o2 := 3) dX8_unlike_41 ff_X8_180 rfl (fx_pi_lt (by decide)) (by decide) rfl (hL _ _ _ rfl) ?_
      refine e_iload_n dX8_unlike_44 rfl ?_
      refine e_aald (j := j) (o2 := 1 + 11 + j) dX8_unlike_45 rfl (Or.inr (Or.inl rfl)) (fx_pi_lt (by decide)) rfl (by omega) (by decide) (fx_s1.rd hL (by omega)) ?_
      refine e_callV1 (μ' := mX0_farFrom) (ci := 0) (As := [fx_rf Γ (1 + 11 + j)]) dX8_unlike_46 wl_X8_218 ok_X0_farFrom (fx_s1.sa (by omega)) rfl (fx_pi_lt (fx_s1.la (by omega))) (by decide) (Nat.le_of_ble_eq_true rfl) fx_n1 (s_X0_farFrom (m := m) (1 + 3 + k) (fx_s1.sa (by omega)) (fx_s1.la (by omega)) (1 + 11 + j) (fx_s1.sd (by omega)) (fx_s1.ld (by omega)) ) rfl ?_
      have hq : q_unlike (fx_ar m 1) (fx_dr m 1) na nd (nI k) (nI j) = (0, p_far (m.1 (1 + 3 + k)) (m.1 (1 + 11 + j)) (m.1 (1 + 3 + k) 4) (m.1 (1 + 3 + k) 5)) := by first | (unfold q_unlike; (try dsimp only); (try dsimp only); (try rw [p_ix_n (show j < 2 ^ 31 by omega)]); (try dsimp only); (try rw [p_ix_n (show k < 2 ^ 31 by omega)]); (try (first | rw [if_pos c_1] | rw [if_neg c_1] | rw [if_neg (Decidable.not_not.mpr c_1)])); (try (first | rw [if_pos c_2] | rw [if_neg c_2] | rw [if_neg (Decidable.not_not.mpr c_2)])); (try rfl); done) | (exfalso; first | contradiction | (simp_all; done))
      exact e_iret dX8_unlike_49 rfl rfl rfl ⟨by rw [hq], by rw [hq]; rfl⟩
    · refine e_aload_n dX8_unlike_22 rfl ?_
      refine e_iconst dX8_unlike_23 kci_1 ?_
      refine e_callV1 (μ' := mX8_refuse) (ci := 8) (As := [.int 1]) dX8_unlike_24 wl_X8_77 ok_X8_refuse rfl rfl (fx_pi_lt (by decide)) (by decide) (Nat.le_of_ble_eq_true rfl) fx_n1 (s_X8_refuse (m := m) hL 1 (by first | decide | omega) (by first | decide | omega)) rfl ?_
      have hq : q_unlike (fx_ar m 1) (fx_dr m 1) na nd x d = (1, -(nI 1)) := by first | (unfold q_unlike; (try dsimp only); (try (first | rw [if_pos c_1] | rw [if_neg c_1] | rw [if_neg (Decidable.not_not.mpr c_1)])); (try (first | rw [if_pos c_2] | rw [if_neg c_2] | rw [if_neg (Decidable.not_not.mpr c_2)])); (try rfl); done) | (exfalso; first | contradiction | (simp_all; done))
      exact e_iret dX8_unlike_27 rfl rfl rfl ⟨by rw [hq], by rw [hq]; exact (fx_no_n (by first | decide | omega)).symm⟩
set_option maxRecDepth 100000 in
set_option maxHeartbeats 600000 in
theorem s_X8_tea {Γ : fx_G} {m : fx_M} (hL : fx_Lay m) {na : Nat} (hna : m.1 1 2 = nI na) (h8 : na ≤ 8) {nd : Nat} (hnd : m.1 1 3 = nI nd) (h5 : nd ≤ 5) (x : Int32) (d : Int32) : fx_Ct Γ mX8_tea 5 119 119 [fx_rf Γ 0, .int x, .int d] m (fx_is (some (.int (q_tea (fx_ar m 1) (fx_dr m 1) na nd x d).2)) (fx_no m (q_tea (fx_ar m 1) (fx_dr m 1) na nd x d).1)) := by
  refine fx_Ct.of (j := 0) (by decide) (Nat.le_of_ble_eq_true rfl) (Nat.le_of_ble_eq_true rfl) ?_
  show fx_E Γ mX8_tea 5 119 119 _ 119 m 0 [some (fx_rf Γ 0), some (.int x), some (.int d)] []
  refine e_aload_n dX8_tea_0 rfl ?_
  refine e_getr (o2 := 1) dX8_tea_1 ff_X8_10 rfl (fx_pi_lt (by decide)) (by decide) rfl (hL _ _ _ rfl) ?_
  refine e_iload_n dX8_tea_4 rfl ?_
  refine e_callV1 (μ' := mX6_isArm) (ci := 6) (As := [.int x]) dX8_tea_5 wl_X8_117 ok_X6_isArm rfl rfl (fx_pi_lt (by decide)) (by decide) (Nat.le_of_ble_eq_true rfl) fx_n1 (s_X6_isArm (m := m) 1 fx_s1 (na := na) hna x) rfl ?_
  refine e_if_eqB 22 dX8_tea_8 rfl (fun c_1 => ?_) (fun c_1 => ?_)
  · refine e_aload_n dX8_tea_22 rfl ?_
    refine e_iconst dX8_tea_23 kci_1 ?_
    refine e_callV1 (μ' := mX8_refuse) (ci := 8) (As := [.int 1]) dX8_tea_24 wl_X8_77 ok_X8_refuse rfl rfl (fx_pi_lt (by decide)) (by decide) (Nat.le_of_ble_eq_true rfl) fx_n1 (s_X8_refuse (m := m) hL 1 (by first | decide | omega) (by first | decide | omega)) rfl ?_
    have hq : q_tea (fx_ar m 1) (fx_dr m 1) na nd x d = (1, -(nI 1)) := by first | (unfold q_tea; (try dsimp only); (try (first | rw [if_pos c_1] | rw [if_neg c_1] | rw [if_neg (Decidable.not_not.mpr c_1)])); (try rfl); done) | (exfalso; first | contradiction | (simp_all; done))
    exact e_iret dX8_tea_27 rfl rfl rfl ⟨by rw [hq], by rw [hq]; exact (fx_no_n (by first | decide | omega)).symm⟩
  · refine e_aload_n dX8_tea_11 rfl ?_
    refine e_getr (o2 := 1) dX8_tea_12 ff_X8_10 rfl (fx_pi_lt (by decide)) (by decide) rfl (hL _ _ _ rfl) ?_
    refine e_iload_n dX8_tea_15 rfl ?_
    refine e_callV1 (μ' := mX6_isDoll) (ci := 6) (As := [.int d]) dX8_tea_16 wl_X8_174 ok_X6_isDoll rfl rfl (fx_pi_lt (by decide)) (by decide) (Nat.le_of_ble_eq_true rfl) fx_n1 (s_X6_isDoll (m := m) 1 fx_s1 (nd := nd) hnd d) rfl ?_
    refine e_if_neB 28 dX8_tea_19 rfl (fun c_2 => ?_) (fun c_2 => ?_)
    · obtain ⟨y, hy, ey⟩ := p_el_ex c_1 (by omega)
      subst ey
      obtain ⟨j, hj, ej⟩ := p_el_ex c_2 (by omega)
      subst ej
      refine e_aload_n dX8_tea_28 rfl ?_
      refine e_getr (o2 := 1) dX8_tea_29 ff_X8_10 rfl (fx_pi_lt (by decide)) (by decide) rfl (hL _ _ _ rfl) ?_
      refine e_getr (o2 := 2) dX8_tea_32 ff_X8_62 rfl (fx_pi_lt (by decide)) (by decide) rfl (hL _ _ _ rfl) ?_
      refine e_iload_n dX8_tea_35 rfl ?_
      refine e_aald (j := y) (o2 := 1 + 3 + y) dX8_tea_36 rfl (Or.inl rfl) (fx_pi_lt (by decide)) rfl (by omega) (by decide) (fx_s1.ra hL (by omega)) ?_
      refine e_aload_n dX8_tea_37 rfl ?_
      refine e_getr (o2 := 1) dX8_tea_38 ff_X8_10 rfl (fx_pi_lt (by decide)) (by decide) rfl (hL _ _ _ rfl) ?_
      refine e_getr (o2 := 3) dX8_tea_41 ff_X8_180 rfl (fx_pi_lt (by decide)) (by decide) rfl (hL _ _ _ rfl) ?_
      refine e_iload_n dX8_tea_44 rfl ?_
      refine e_aald (j := j) (o2 := 1 + 11 + j) dX8_tea_45 rfl (Or.inr (Or.inl rfl)) (fx_pi_lt (by decide)) rfl (by omega) (by decide) (fx_s1.rd hL (by omega)) ?_
      refine e_callV1 (μ' := mX0_minutesInTea) (ci := 0) (As := [fx_rf Γ (1 + 11 + j)]) dX8_tea_46 wl_X8_248 ok_X0_minutesInTea (fx_s1.sa (by omega)) rfl (fx_pi_lt (fx_s1.la (by omega))) (by decide) (Nat.le_of_ble_eq_true rfl) fx_n1 (s_X0_minutesInTea (m := m) (1 + 3 + y) (fx_s1.sa (by omega)) (fx_s1.la (by omega)) (1 + 11 + j) (fx_s1.sd (by omega)) (fx_s1.ld (by omega)) ) rfl ?_
      have hq : q_tea (fx_ar m 1) (fx_dr m 1) na nd (nI y) (nI j) = (0, (p_fold (p_te (fun k => p_far (m.1 (1 + 3 + y)) (m.1 (1 + 11 + j)) (p_min 9 (m.1 (1 + 3 + y) 4 + nI k)) (m.1 (1 + 3 + y) 5))) 9 1 (0, p_far (m.1 (1 + 3 + y)) (m.1 (1 + 11 + j)) (m.1 (1 + 3 + y) 4) (m.1 (1 + 3 + y) 5))).1) := by first | (unfold q_tea; (try dsimp only); (try dsimp only); (try rw [p_ix_n (show j < 2 ^ 31 by omega)]); (try dsimp only); (try rw [p_ix_n (show y < 2 ^ 31 by omega)]); (try (first | rw [if_pos c_1] | rw [if_neg c_1] | rw [if_neg (Decidable.not_not.mpr c_1)])); (try (first | rw [if_pos c_2] | rw [if_neg c_2] | rw [if_neg (Decidable.not_not.mpr c_2)])); (try rfl); done) | (exfalso; first | contradiction | (simp_all; done))
      exact e_iret dX8_tea_49 rfl rfl rfl ⟨by rw [hq], by rw [hq]; rfl⟩
    · refine e_aload_n dX8_tea_22 rfl ?_
      refine e_iconst dX8_tea_23 kci_1 ?_
      refine e_callV1 (μ' := mX8_refuse) (ci := 8) (As := [.int 1]) dX8_tea_24 wl_X8_77 ok_X8_refuse rfl rfl (fx_pi_lt (by decide)) (by decide) (Nat.le_of_ble_eq_true rfl) fx_n1 (s_X8_refuse (m := m) hL 1 (by first | decide | omega) (by first | decide | omega)) rfl ?_
      have hq : q_tea (fx_ar m 1) (fx_dr m 1) na nd x d = (1, -(nI 1)) := by first | (unfold q_tea; (try dsimp only); (try (first | rw [if_pos c_1] | rw [if_neg c_1] | rw [if_neg (Decidable.not_not.mpr c_1)])); (try (first | rw [if_pos c_2] | rw [if_neg c_2] | rw [if_neg (Decidable.not_not.mpr c_2)])); (try rfl); done) | (exfalso; first | contradiction | (simp_all; done))
      exact e_iret dX8_tea_27 rfl rfl rfl ⟨by rw [hq], by rw [hq]; exact (fx_no_n (by first | decide | omega)).symm⟩
theorem p_den {v n : Int32} (hv : p_in v 0 99) (hn : p_in n 0 99) : v + n + 1 ≠ 0 := by
  obtain ⟨a, ha, rfl⟩ := p_in_ex (hi := 99) hv (by decide)
  obtain ⟨b, hb, rfl⟩ := p_in_ex (hi := 99) hn (by decide)
  rw [nI_add, nI_1]
  exact nI_ne0 (by omega) (by omega)
set_option maxRecDepth 100000 in
set_option maxHeartbeats 600000 in
theorem s_X8_comes {Γ : fx_G} {m : fx_M} (hL : fx_Lay m) {nd : Nat} (hnd : m.1 1 3 = nI nd) (h5 : nd ≤ 5) (hday : ∀ d, d < nd → p_in (m.1 (1 + 11 + d) 7) 0 99) (d : Int32) (n : Int32) : fx_Ct Γ mX8_comes 2 119 119 [fx_rf Γ 0, .int d, .int n] m (fx_is (some (.int (q_comes (fx_dr m 1) nd d n).2)) (fx_no m (q_comes (fx_dr m 1) nd d n).1)) := by
  refine fx_Ct.of (j := 0) (by decide) (Nat.le_of_ble_eq_true rfl) (Nat.le_of_ble_eq_true rfl) ?_
  show fx_E Γ mX8_comes 2 119 119 _ 119 m 0 [some (fx_rf Γ 0), some (.int d), some (.int n)] []
  refine e_aload_n dX8_comes_0 rfl ?_
  refine e_getr (o2 := 1) dX8_comes_1 ff_X8_10 rfl (fx_pi_lt (by decide)) (by decide) rfl (hL _ _ _ rfl) ?_
  refine e_iload_n dX8_comes_4 rfl ?_
  refine e_callV1 (μ' := mX6_isDoll) (ci := 6) (As := [.int d]) dX8_comes_5 wl_X8_174 ok_X6_isDoll rfl rfl (fx_pi_lt (by decide)) (by decide) (Nat.le_of_ble_eq_true rfl) fx_n1 (s_X6_isDoll (m := m) 1 fx_s1 (nd := nd) hnd d) rfl ?_
  refine e_if_neB 17 dX8_comes_8 rfl (fun c_1 => ?_) (fun c_1 => ?_)
  · refine e_iload_n dX8_comes_17 rfl ?_
    refine e_iconst dX8_comes_18 kci_0 ?_
    refine e_bipush dX8_comes_19 kcb_99 ?_
    refine e_callS1 (μ' := mX8_within) (As := [.int n, .int 0, .int 99]) dX8_comes_21 wl_X8_81 ok_X8_within (by decide) (Nat.le_of_ble_eq_true rfl) fx_n1 (s_X8_within (m := m) n 0 99) rfl ?_
    refine e_if_neB 34 dX8_comes_24 rfl (fun c_2 => ?_) (fun c_2 => ?_)
    · obtain ⟨k, hk, ek⟩ := p_el_ex c_1 (by omega)
      subst ek
      refine e_sipush dX8_comes_34 kcs_1000 ?_
      refine e_iload_n dX8_comes_37 rfl ?_
      refine e_imul dX8_comes_38 ?_
      refine e_aload_n dX8_comes_39 rfl ?_
      refine e_getr (o2 := 1) dX8_comes_40 ff_X8_10 rfl (fx_pi_lt (by decide)) (by decide) rfl (hL _ _ _ rfl) ?_
      refine e_getr (o2 := 3) dX8_comes_43 ff_X8_180 rfl (fx_pi_lt (by decide)) (by decide) rfl (hL _ _ _ rfl) ?_
      refine e_iload_n dX8_comes_46 rfl ?_
      refine e_aald (j := k) (o2 := 1 + 11 + k) dX8_comes_47 rfl (Or.inr (Or.inl rfl)) (fx_pi_lt (by decide)) rfl (by omega) (by decide) (fx_s1.rd hL (by omega)) ?_
      refine e_get dX8_comes_48 ff_X8_251 (fx_s1.sd (by omega)) (fx_pi_lt (fx_s1.ld (by omega))) (by decide) rfl ?_
      refine e_iload_n dX8_comes_51 rfl ?_
      refine e_iadd dX8_comes_52 ?_
      refine e_iconst dX8_comes_53 kci_1 ?_
      refine e_iadd dX8_comes_54 ?_
      refine e_idiv dX8_comes_55 (p_den (hday k (by omega)) c_2) ?_
      have hq : q_comes (fx_dr m 1) nd (nI k) n = (0, (1000 * n) / (((m.1 (1 + 11 + k) 7) + n) + 1)) := by first | (unfold q_comes; (try dsimp only); (try dsimp only); (try rw [p_ix_n (show k < 2 ^ 31 by omega)]); (try (first | rw [if_pos c_1] | rw [if_neg c_1] | rw [if_neg (Decidable.not_not.mpr c_1)])); (try (first | rw [if_pos c_2] | rw [if_neg c_2] | rw [if_neg (Decidable.not_not.mpr c_2)])); (try rfl); done) | (exfalso; first | contradiction | (simp_all; done))
      exact e_iret dX8_comes_56 rfl rfl rfl ⟨by rw [hq], by rw [hq]; rfl⟩
    · refine e_aload_n dX8_comes_27 rfl ?_
      refine e_bipush dX8_comes_28 kcb_6 ?_
      refine e_callV1 (μ' := mX8_refuse) (ci := 8) (As := [.int 6]) dX8_comes_30 wl_X8_77 ok_X8_refuse rfl rfl (fx_pi_lt (by decide)) (by decide) (Nat.le_of_ble_eq_true rfl) fx_n1 (s_X8_refuse (m := m) hL 6 (by first | decide | omega) (by first | decide | omega)) rfl ?_
      have hq : q_comes (fx_dr m 1) nd d n = (6, -(nI 6)) := by first | (unfold q_comes; (try dsimp only); (try (first | rw [if_pos c_1] | rw [if_neg c_1] | rw [if_neg (Decidable.not_not.mpr c_1)])); (try (first | rw [if_pos c_2] | rw [if_neg c_2] | rw [if_neg (Decidable.not_not.mpr c_2)])); (try rfl); done) | (exfalso; first | contradiction | (simp_all; done))
      exact e_iret dX8_comes_33 rfl rfl rfl ⟨by rw [hq], by rw [hq]; exact (fx_no_n (by first | decide | omega)).symm⟩
  · refine e_aload_n dX8_comes_11 rfl ?_
    refine e_iconst dX8_comes_12 kci_1 ?_
    refine e_callV1 (μ' := mX8_refuse) (ci := 8) (As := [.int 1]) dX8_comes_13 wl_X8_77 ok_X8_refuse rfl rfl (fx_pi_lt (by decide)) (by decide) (Nat.le_of_ble_eq_true rfl) fx_n1 (s_X8_refuse (m := m) hL 1 (by first | decide | omega) (by first | decide | omega)) rfl ?_
    have hq : q_comes (fx_dr m 1) nd d n = (1, -(nI 1)) := by first | (unfold q_comes; (try dsimp only); (try (first | rw [if_pos c_1] | rw [if_neg c_1] | rw [if_neg (Decidable.not_not.mpr c_1)])); (try rfl); done) | (exfalso; first | contradiction | (simp_all; done))
    exact e_iret dX8_comes_16 rfl rfl rfl ⟨by rw [hq], by rw [hq]; exact (fx_no_n (by first | decide | omega)).symm⟩
