theorem s_X5_hasEl {Γ : fx_G} {m : fx_M} (h : Nat) (H : fx_Sf h) {c : Nat} (hm : m.1 h 2 = nI c) (i : Int32) : fx_Ct Γ mX5_hasElement 0 119 119 [fx_rf Γ h, .int i] m (fx_is (some (.int (if p_el i (nI c) then 1 else 0))) m) := by
  have := s_X5_hasElement (Γ := Γ) (m := m) h H i
  rw [hm] at this
  exact this
theorem s_X5_hasSt {Γ : fx_G} {m : fx_M} (h : Nat) (H : fx_Sf h) {c : Nat} (hm : m.1 h 2 = nI c) (i k : Int32) : fx_Ct Γ mX5_hasStretch 0 119 119 [fx_rf Γ h, .int i, .int k] m (fx_is (some (.int (if 0 ≤ i ∧ i ≤ nI c - k then 1 else 0))) m) := by
  have := s_X5_hasStretch (Γ := Γ) (m := m) h H i k
  rw [hm] at this
  exact this
theorem s_X0_isOfA {Γ : fx_G} {m : fx_M} (o : Nat) (hs : fx_shapes[o]? = some (10 + 0, 7)) (ho : o < 119) (h : ∃ kk : Nat, kk ≤ 6 ∧ m.1 o 0 = nI kk) (w : Int32) : fx_Ct Γ mX0_isOf 1 119 119 [fx_rf Γ o, .int w] m (fx_is (some (.int (if p_isU (m.1 o 0) w then 1 else 0))) m) := by
  obtain ⟨kk, hk, e⟩ := h
  have := s_X0_isOf (Γ := Γ) (m := m) o hs ho hk e w
  rw [← e] at this
  exact this
theorem p_str {c k : Nat} {i : Int32} (hk : k < 2 ^ 31) (hc : c ≤ 160) (h : 0 ≤ i ∧ i ≤ nI c - nI k) : ∃ y : Nat, y + k ≤ c ∧ i = nI y := by
  obtain ⟨y, hy, rfl⟩ := nI_of (Int32.not_lt.mpr h.1)
  refine ⟨y, ?_, rfl⟩
  have h1 := Int32.le_iff_toInt_le.mp h.2
  rw [fb_subI (by rw [nI_toInt (by omega), nI_toInt hk]; omega) (by rw [nI_toInt (by omega), nI_toInt hk]; omega), nI_toInt hy, nI_toInt (by omega), nI_toInt hk] at h1
  omega
def q_row (s o n : Int32) : Nat × Int32 := if ¬ p_in s 0 7 then p_no 1 else if ¬ 0 ≤ n then p_no 4 else if ¬ p_in o 0 3 then p_no 6 else if ¬ n ≤ 160 then p_no 7 else (0, 1)
def fx_mRow (m : fx_M) (h : Nat) (so nn : Int32) : fx_M := fx_zJ (fx_sI (fx_sI (fx_sI (fx_sI (fx_sI m h 1 (-1)) h 2 0) h 3 (-1)) h 1 so) h 2 nn) (h + 1) 160
def q_set (so sa : Nat → Int32) (cn : Nat → Nat) (s i : Int32) : Nat × Int32 := if p_bR so sa s = 0 then (if ¬ p_el i (nI (cn (p_ix s))) then p_no 5 else (0, 1)) else p_no (p_bR so sa s)
def p_bC (so sa : Nat → Int32) (p q : Int32) : Nat := if ¬ p_in p 0 7 then 1 else if ¬ p_in q 0 7 then 1 else if sa (p_ix p) ≠ -1 then 2 else if sa (p_ix q) ≠ -1 then 2 else if ¬ so (p_ix p) ≠ -1 then 3 else if ¬ so (p_ix q) ≠ -1 then 3 else if so (p_ix p) = so (p_ix q) then 0 else 2
theorem p_bC_le (so sa : Nat → Int32) (p q : Int32) : p_bC so sa p q ≤ 7 := by
  unfold p_bC
  repeat (split; decide)
  decide
theorem p_bC_0 {so sa : Nat → Int32} {p q : Int32} (h : p_bC so sa p q = 0) : p_in p 0 7 ∧ p_in q 0 7 := by
  unfold p_bC at h
  split at h
  · cases h
  · split at h
    · cases h
    · exact ⟨Decidable.not_not.mp (by assumption), Decidable.not_not.mp (by assumption)⟩
abbrev p_stP (i k : Int32) (c : Nat) : Prop := 0 ≤ i ∧ i ≤ nI c - k
def q_copy (so sa : Nat → Int32) (cn : Nat → Nat) (p q i j n : Int32) : Nat × Int32 := if p_bC so sa p q = 0 then (if ¬ 0 ≤ n then p_no 4 else if ¬ p_stP i n (cn (p_ix p)) then p_no 5 else if ¬ p_stP j n (cn (p_ix q)) then p_no 5 else (0, 1)) else p_no (p_bC so sa p q)
def q_el (cn : Nat → Nat) (el : Nat → Nat → Int64) (s i : Int32) : Int64 := if ¬ p_in s 0 7 then 0 else if ¬ p_el i (nI (cn (p_ix s))) then 0 else el (p_ix s) (p_ix i)
def q_show (na : Nat) (s x : Int32) : Nat × Int32 := if ¬ p_in s 0 7 then p_no 1 else if x = -1 then (0, 0) else if ¬ p_el x (nI na) then p_no 1 else (0, 1)
def fx_mShow (m : fx_M) (h : Nat) (x : Int32) : fx_M := if x = -1 then fx_sI (fx_sI (fx_sI m h 1 (-1)) h 2 0) h 3 (-1) else fx_sI (fx_sI (fx_sI (fx_sI m h 1 (-1)) h 2 0) h 3 (-1)) h 3 x
def q_holds (so sa : Nat → Int32) (s : Int32) : Int32 := if ¬ p_in s 0 7 then -1 else if so (p_ix s) ≠ -1 then 100 + so (p_ix s) else sa (p_ix s)
def q_says (A : Nat → Nat → Int32) (na : Nat) (so sa : Nat → Int32) (s k : Int32) : Nat × Int32 := if ¬ p_in s 0 7 then p_no 1 else if ¬ p_in k 0 6 then p_no 1 else if so (p_ix s) ≠ -1 then p_no 2 else if ¬ p_el (sa (p_ix s)) (nI na) then p_no 3 else if p_isU (A (p_ix (sa (p_ix s))) 0) k then (0, p_says (A (p_ix (sa (p_ix s)))) k) else p_no 2
set_option maxRecDepth 100000 in
set_option maxHeartbeats 600000 in
theorem s_X8_row {Γ : fx_G} {m : fx_M} (hL : fx_Lay m) (s : Int32) (o : Int32) (n : Int32) : fx_Ct Γ mX8_row 2 119 119 [fx_rf Γ 0, .int s, .int o, .int n] m (fx_is (some (.int (q_row s o n).2)) (fx_qm m (q_row s o n).1 (fx_mRow m (67 + 2 * p_ix s) o n))) := by
  refine fx_Ct.of (j := 0) (by decide) (Nat.le_of_ble_eq_true rfl) (Nat.le_of_ble_eq_true rfl) ?_
  show fx_E Γ mX8_row 2 119 119 _ 119 m 0 [some (fx_rf Γ 0), some (.int s), some (.int o), some (.int n)] []
  refine e_iload_n dX8_row_0 rfl ?_
  refine e_callS1 (μ' := mX8_isShelf) (As := [.int s]) dX8_row_1 wl_X8_73 ok_X8_isShelf (by decide) (Nat.le_of_ble_eq_true rfl) fx_n1 (s_X8_isShelf (m := m) s) rfl ?_
  refine e_if_neB 13 dX8_row_4 rfl (fun c_1 => ?_) (fun c_1 => ?_)
  · refine e_iload_n dX8_row_13 rfl ?_
    refine e_if_ge 23 dX8_row_14 rfl (fun c_2 => ?_) (fun c_2 => ?_)
    · refine e_iload_n dX8_row_23 rfl ?_
      refine e_iconst dX8_row_24 kci_0 ?_
      refine e_iconst dX8_row_25 kci_3 ?_
      refine e_callS1 (μ' := mX8_within) (As := [.int o, .int 0, .int 3]) dX8_row_26 wl_X8_81 ok_X8_within (by decide) (Nat.le_of_ble_eq_true rfl) fx_n1 (s_X8_within (m := m) o 0 3) rfl ?_
      refine e_if_neB 39 dX8_row_29 rfl (fun c_3 => ?_) (fun c_3 => ?_)
      · refine e_iload_n dX8_row_39 rfl ?_
        refine e_sipush dX8_row_40 kcs_160 ?_
        refine e_icmp_le 53 dX8_row_43 rfl (fun c_4 => ?_) (fun c_4 => ?_)
        · obtain ⟨k, hk, ek⟩ := p_in_ex7 c_1
          subst ek
          refine e_aload_n dX8_row_53 rfl ?_
          refine e_getr (o2 := 49) dX8_row_54 ff_X8_28 rfl (fx_pi_lt (by decide)) (by decide) rfl (hL _ _ _ rfl) ?_
          refine e_iload_n dX8_row_57 rfl ?_
          refine e_aald (j := k) (o2 := 67 + 2 * k) dX8_row_58 rfl (Or.inr (Or.inr rfl)) (fx_pi_lt (by decide)) rfl (by omega) (by decide) (fx_r49 hL (by omega)) ?_
          refine e_iload_n dX8_row_59 rfl ?_
          refine e_iload_n dX8_row_60 rfl ?_
          refine e_callV1 (μ' := mX5_holdRow) (ci := 5) (As := [.int o, .int n]) dX8_row_61 wl_X8_85 ok_X5_holdRow (fx_Sf.mk (by omega)).sh rfl (fx_pi_lt (fx_Sf.mk (by omega)).lt) (by decide) (Nat.le_of_ble_eq_true rfl) fx_n1 (s_X5_holdRow (m := m) (67 + 2 * k) (fx_Sf.mk (by omega)) hL o n) rfl ?_
          refine e_iconst dX8_row_64 kci_1 ?_
          have hq : q_row (nI k) o n = (0, 1) := by first | (unfold q_row; (try dsimp only); (try dsimp only); (try rw [p_ix_n (show k < 2 ^ 31 by omega)]); (try (first | rw [if_pos c_1] | rw [if_neg c_1] | rw [if_neg (Decidable.not_not.mpr c_1)])); (try (first | rw [if_pos c_2] | rw [if_neg c_2] | rw [if_neg (Decidable.not_not.mpr c_2)])); (try (first | rw [if_pos c_3] | rw [if_neg c_3] | rw [if_neg (Decidable.not_not.mpr c_3)])); (try (first | rw [if_pos c_4] | rw [if_neg c_4] | rw [if_neg (Decidable.not_not.mpr c_4)])); (try rfl); done) | (exfalso; first | contradiction | (simp_all; done))
          exact e_iret dX8_row_65 rfl rfl rfl ⟨by rw [hq], by rw [hq]; (try dsimp only); (try rw [p_ix_n (show k < 2 ^ 31 by omega)]); (try rfl)⟩
        · refine e_aload_n dX8_row_46 rfl ?_
          refine e_bipush dX8_row_47 kcb_7 ?_
          refine e_callV1 (μ' := mX8_refuse) (ci := 8) (As := [.int 7]) dX8_row_49 wl_X8_77 ok_X8_refuse rfl rfl (fx_pi_lt (by decide)) (by decide) (Nat.le_of_ble_eq_true rfl) fx_n1 (s_X8_refuse (m := m) hL 7 (by first | decide | omega) (by first | decide | omega)) rfl ?_
          have hq : q_row s o n = (7, -(nI 7)) := by first | (unfold q_row; (try dsimp only); (try (first | rw [if_pos c_1] | rw [if_neg c_1] | rw [if_neg (Decidable.not_not.mpr c_1)])); (try (first | rw [if_pos c_2] | rw [if_neg c_2] | rw [if_neg (Decidable.not_not.mpr c_2)])); (try (first | rw [if_pos c_3] | rw [if_neg c_3] | rw [if_neg (Decidable.not_not.mpr c_3)])); (try (first | rw [if_pos c_4] | rw [if_neg c_4] | rw [if_neg (Decidable.not_not.mpr c_4)])); (try rfl); done) | (exfalso; first | contradiction | (simp_all; done))
          exact e_iret dX8_row_52 rfl rfl rfl ⟨by rw [hq], by rw [hq]; exact (fx_qm_n (by first | decide | omega)).symm⟩
      · refine e_aload_n dX8_row_32 rfl ?_
        refine e_bipush dX8_row_33 kcb_6 ?_
        refine e_callV1 (μ' := mX8_refuse) (ci := 8) (As := [.int 6]) dX8_row_35 wl_X8_77 ok_X8_refuse rfl rfl (fx_pi_lt (by decide)) (by decide) (Nat.le_of_ble_eq_true rfl) fx_n1 (s_X8_refuse (m := m) hL 6 (by first | decide | omega) (by first | decide | omega)) rfl ?_
        have hq : q_row s o n = (6, -(nI 6)) := by first | (unfold q_row; (try dsimp only); (try (first | rw [if_pos c_1] | rw [if_neg c_1] | rw [if_neg (Decidable.not_not.mpr c_1)])); (try (first | rw [if_pos c_2] | rw [if_neg c_2] | rw [if_neg (Decidable.not_not.mpr c_2)])); (try (first | rw [if_pos c_3] | rw [if_neg c_3] | rw [if_neg (Decidable.not_not.mpr c_3)])); (try rfl); done) | (exfalso; first | contradiction | (simp_all; done))
        exact e_iret dX8_row_38 rfl rfl rfl ⟨by rw [hq], by rw [hq]; exact (fx_qm_n (by first | decide | omega)).symm⟩
    · refine e_aload_n dX8_row_17 rfl ?_
      refine e_iconst dX8_row_18 kci_4 ?_
      refine e_callV1 (μ' := mX8_refuse) (ci := 8) (As := [.int 4]) dX8_row_19 wl_X8_77 ok_X8_refuse rfl rfl (fx_pi_lt (by decide)) (by decide) (Nat.le_of_ble_eq_true rfl) fx_n1 (s_X8_refuse (m := m) hL 4 (by first | decide | omega) (by first | decide | omega)) rfl ?_
      have hq : q_row s o n = (4, -(nI 4)) := by first | (unfold q_row; (try dsimp only); (try (first | rw [if_pos c_1] | rw [if_neg c_1] | rw [if_neg (Decidable.not_not.mpr c_1)])); (try (first | rw [if_pos c_2] | rw [if_neg c_2] | rw [if_neg (Decidable.not_not.mpr c_2)])); (try rfl); done) | (exfalso; first | contradiction | (simp_all; done))
      exact e_iret dX8_row_22 rfl rfl rfl ⟨by rw [hq], by rw [hq]; exact (fx_qm_n (by first | decide | omega)).symm⟩
  · refine e_aload_n dX8_row_7 rfl ?_
    refine e_iconst dX8_row_8 kci_1 ?_
    refine e_callV1 (μ' := mX8_refuse) (ci := 8) (As := [.int 1]) dX8_row_9 wl_X8_77 ok_X8_refuse rfl rfl (fx_pi_lt (by decide)) (by decide) (Nat.le_of_ble_eq_true rfl) fx_n1 (s_X8_refuse (m := m) hL 1 (by first | decide | omega) (by first | decide | omega)) rfl ?_
    have hq : q_row s o n = (1, -(nI 1)) := by first | (unfold q_row; (try dsimp only); (try (first | rw [if_pos c_1] | rw [if_neg c_1] | rw [if_neg (Decidable.not_not.mpr c_1)])); (try rfl); done) | (exfalso; first | contradiction | (simp_all; done))
    exact e_iret dX8_row_12 rfl rfl rfl ⟨by rw [hq], by rw [hq]; exact (fx_qm_n (by first | decide | omega)).symm⟩
set_option maxRecDepth 100000 in
set_option maxHeartbeats 600000 in
theorem s_X8_set {Γ : fx_G} {m : fx_M} (hL : fx_Lay m) {cn : Nat → Nat} (hcn : ∀ k, k < 8 → m.1 (67 + 2 * k) 2 = nI (cn k) ∧ cn k ≤ 160) (s : Int32) (i : Int32) (v : Int64) : fx_Ct Γ mX8_set 3 119 119 [fx_rf Γ 0, .int s, .int i, .long v] m (fx_is (some (.int (q_set (fun k => m.1 (67 + 2 * k) 1) (fun k => m.1 (67 + 2 * k) 3) cn s i).2)) (fx_qm m (q_set (fun k => m.1 (67 + 2 * k) 1) (fun k => m.1 (67 + 2 * k) 3) cn s i).1 (fx_sJ m (67 + 2 * p_ix s + 1) (p_ix i) (p_nw (m.1 (67 + 2 * p_ix s) 1) v)))) := by
  refine fx_Ct.of (j := 1) (by decide) (Nat.le_of_ble_eq_true rfl) (Nat.le_of_ble_eq_true rfl) ?_
  show fx_E Γ mX8_set 3 119 119 _ 119 m 0 [some (fx_rf Γ 0), some (.int s), some (.int i), some (.long v), none, none] []
  refine e_aload_n dX8_set_0 rfl ?_
  refine e_iload_n dX8_set_1 rfl ?_
  refine e_callV1 (μ' := mX8_barToRow) (ci := 8) (As := [.int s]) dX8_set_2 wl_X8_89 ok_X8_barToRow rfl rfl (fx_pi_lt (by decide)) (by decide) (Nat.le_of_ble_eq_true rfl) fx_n1 (s_X8_barToRow (m := m) hL s) rfl ?_
  refine e_istore dX8_set_5 (by decide) rfl ?_
  refine e_iload dX8_set_7 rfl ?_
  refine e_if_eq 19 dX8_set_9 rfl (fun c_1 => ?_) (fun c_1 => ?_)
  · have hb7 := p_bR_le (fun k => m.1 (67 + 2 * k) 1) (fun k => m.1 (67 + 2 * k) 3) s
    have hb0 : p_bR (fun k => m.1 (67 + 2 * k) 1) (fun k => m.1 (67 + 2 * k) 3) s = 0 := (nI_0i (by omega)).mp c_1
    have hB := p_bR_0 hb0
    obtain ⟨k, hk, ek⟩ := p_in_ex7 hB.1
    subst ek
    refine e_aload_n dX8_set_19 rfl ?_
    refine e_getr (o2 := 49) dX8_set_20 ff_X8_28 rfl (fx_pi_lt (by decide)) (by decide) rfl (hL _ _ _ rfl) ?_
    refine e_iload_n dX8_set_23 rfl ?_
    refine e_aald (j := k) (o2 := 67 + 2 * k) dX8_set_24 rfl (Or.inr (Or.inr rfl)) (fx_pi_lt (by decide)) rfl (by omega) (by decide) (fx_r49 hL (by omega)) ?_
    refine e_iload_n dX8_set_25 rfl ?_
    refine e_callV1 (μ' := mX5_hasElement) (ci := 5) (As := [.int i]) dX8_set_26 wl_X8_92 ok_X5_hasElement (fx_Sf.mk (by omega)).sh rfl (fx_pi_lt (fx_Sf.mk (by omega)).lt) (by decide) (Nat.le_of_ble_eq_true rfl) fx_n1 (s_X5_hasEl (m := m) (67 + 2 * k) (fx_Sf.mk (by omega)) (hcn k (by omega)).1 i) rfl ?_
    refine e_if_neB 38 dX8_set_29 rfl (fun c_2 => ?_) (fun c_2 => ?_)
    · have hck := hcn k hk
      obtain ⟨y, hy, ey⟩ := p_el_ex c_2 (by omega)
      subst ey
      refine e_aload_n dX8_set_38 rfl ?_
      refine e_getr (o2 := 49) dX8_set_39 ff_X8_28 rfl (fx_pi_lt (by decide)) (by decide) rfl (hL _ _ _ rfl) ?_
      refine e_iload_n dX8_set_42 rfl ?_
      refine e_aald (j := k) (o2 := 67 + 2 * k) dX8_set_43 rfl (Or.inr (Or.inr rfl)) (fx_pi_lt (by decide)) rfl (by omega) (by decide) (fx_r49 hL (by omega)) ?_
      refine e_iload_n dX8_set_44 rfl ?_
      refine e_lload_n dX8_set_45 rfl ?_
      refine e_callV1 (μ' := mX5_put) (ci := 5) (As := [.int (nI y), .long v]) dX8_set_46 wl_X8_95 ok_X5_put (fx_Sf.mk (by omega)).sh rfl (fx_pi_lt (fx_Sf.mk (by omega)).lt) (by decide) (Nat.le_of_ble_eq_true rfl) fx_n1 (s_X5_put (m := m) (67 + 2 * k) (fx_Sf.mk (by omega)) hL (c := cn k) (j := y) (hcn k (by omega)).2 (hcn k (by omega)).1 (by omega) v) rfl ?_
      refine e_iconst dX8_set_49 kci_1 ?_
      have hq : q_set (fun k => m.1 (67 + 2 * k) 1) (fun k => m.1 (67 + 2 * k) 3) cn (nI k) (nI y) = (0, 1) := by unfold q_set; rw [if_pos hb0]; (try dsimp only); (try rw [p_ix_n (show k < 2 ^ 31 by omega)]); (try dsimp only); (try rw [p_ix_n (show y < 2 ^ 31 by omega)]); (try (first | rw [if_pos c_2] | rw [if_neg c_2] | rw [if_neg (Decidable.not_not.mpr c_2)])); (try rfl)
      exact e_iret dX8_set_50 rfl rfl rfl ⟨by rw [hq], by rw [hq]; (try dsimp only); (try rw [p_ix_n (show k < 2 ^ 31 by omega)]); (try dsimp only); (try rw [p_ix_n (show y < 2 ^ 31 by omega)]); (try rfl)⟩
    · refine e_aload_n dX8_set_32 rfl ?_
      refine e_iconst dX8_set_33 kci_5 ?_
      refine e_callV1 (μ' := mX8_refuse) (ci := 8) (As := [.int 5]) dX8_set_34 wl_X8_77 ok_X8_refuse rfl rfl (fx_pi_lt (by decide)) (by decide) (Nat.le_of_ble_eq_true rfl) fx_n1 (s_X8_refuse (m := m) hL 5 (by first | decide | omega) (by first | decide | omega)) rfl ?_
      have hq : q_set (fun k => m.1 (67 + 2 * k) 1) (fun k => m.1 (67 + 2 * k) 3) cn (nI k) i = (5, -(nI 5)) := by unfold q_set; rw [if_pos hb0]; (try dsimp only); (try rw [p_ix_n (show k < 2 ^ 31 by omega)]); (try (first | rw [if_pos c_2] | rw [if_neg c_2] | rw [if_neg (Decidable.not_not.mpr c_2)])); (try rfl)
      exact e_iret dX8_set_37 rfl rfl rfl ⟨by rw [hq], by rw [hq]; exact (fx_qm_n (by decide)).symm⟩
  · have hb7 := p_bR_le (fun k => m.1 (67 + 2 * k) 1) (fun k => m.1 (67 + 2 * k) 3) s
    have hb1 : 1 ≤ p_bR (fun k => m.1 (67 + 2 * k) 1) (fun k => m.1 (67 + 2 * k) 3) s := by have q : p_bR (fun k => m.1 (67 + 2 * k) 1) (fun k => m.1 (67 + 2 * k) 3) s ≠ 0 := mt (nI_0i (by omega)).mpr c_1; omega
    refine e_aload_n dX8_set_12 rfl ?_
    refine e_iload dX8_set_13 rfl ?_
    refine e_callV1 (μ' := mX8_refuse) (ci := 8) (As := [.int (nI (p_bR (fun k => m.1 (67 + 2 * k) 1) (fun k => m.1 (67 + 2 * k) 3) s))]) dX8_set_15 wl_X8_77 ok_X8_refuse rfl rfl (fx_pi_lt (by decide)) (by decide) (Nat.le_of_ble_eq_true rfl) fx_n1 (s_X8_refuse (m := m) hL (p_bR (fun k => m.1 (67 + 2 * k) 1) (fun k => m.1 (67 + 2 * k) 3) s) (by first | decide | omega) (by first | decide | omega)) rfl ?_
    have hq : q_set (fun k => m.1 (67 + 2 * k) 1) (fun k => m.1 (67 + 2 * k) 3) cn s i = ((p_bR (fun k => m.1 (67 + 2 * k) 1) (fun k => m.1 (67 + 2 * k) 3) s), -(nI (p_bR (fun k => m.1 (67 + 2 * k) 1) (fun k => m.1 (67 + 2 * k) 3) s))) := by unfold q_set; exact if_neg (by omega)
    exact e_iret dX8_set_18 rfl rfl rfl ⟨by rw [hq], by rw [hq]; exact (fx_qm_n (by omega)).symm⟩
set_option maxRecDepth 100000 in
set_option maxHeartbeats 600000 in
theorem s_X8_barToCopy {Γ : fx_G} {m : fx_M} (hL : fx_Lay m) (p q : Int32) : fx_Ct Γ mX8_barToCopy 2 119 119 [fx_rf Γ 0, .int p, .int q] m (fx_is (some (.int (nI (p_bC (fun k => m.1 (67 + 2 * k) 1) (fun k => m.1 (67 + 2 * k) 3) p q)))) m) := by
  refine fx_Ct.of (j := 2) (by decide) (Nat.le_of_ble_eq_true rfl) (Nat.le_of_ble_eq_true rfl) ?_
  show fx_E Γ mX8_barToCopy 2 119 119 _ 119 m 0 [some (fx_rf Γ 0), some (.int p), some (.int q), none, none] []
  refine e_iload_n dX8_barToCopy_0 rfl ?_
  refine e_callS1 (μ' := mX8_isShelf) (As := [.int p]) dX8_barToCopy_1 wl_X8_73 ok_X8_isShelf (by decide) (Nat.le_of_ble_eq_true rfl) fx_n1 (s_X8_isShelf (m := m) p) rfl ?_
  refine e_if_eqB 14 dX8_barToCopy_4 rfl (fun c_1 => ?_) (fun c_1 => ?_)
  · refine e_iconst dX8_barToCopy_14 kci_1 ?_
    have hq : p_bC (fun k => m.1 (67 + 2 * k) 1) (fun k => m.1 (67 + 2 * k) 3) p q = 1 := by unfold p_bC; (try dsimp only); (try (first | rw [if_pos c_1] | rw [if_neg c_1] | rw [if_neg (Decidable.not_not.mpr c_1)])); (try rfl)
    exact e_iret dX8_barToCopy_15 rfl rfl rfl ⟨by rw [hq]; rfl, rfl⟩
  · refine e_iload_n dX8_barToCopy_7 rfl ?_
    refine e_callS1 (μ' := mX8_isShelf) (As := [.int q]) dX8_barToCopy_8 wl_X8_73 ok_X8_isShelf (by decide) (Nat.le_of_ble_eq_true rfl) fx_n1 (s_X8_isShelf (m := m) q) rfl ?_
    refine e_if_neB 16 dX8_barToCopy_11 rfl (fun c_2 => ?_) (fun c_2 => ?_)
    · obtain ⟨k, hk, ek⟩ := p_in_ex7 c_1
      subst ek
      obtain ⟨l, hl, el⟩ := p_in_ex7 c_2
      subst el
      refine e_aload_n dX8_barToCopy_16 rfl ?_
      refine e_getr (o2 := 49) dX8_barToCopy_17 ff_X8_28 rfl (fx_pi_lt (by decide)) (by decide) rfl (hL _ _ _ rfl) ?_
      refine e_iload_n dX8_barToCopy_20 rfl ?_
      refine e_aald (j := k) (o2 := 67 + 2 * k) dX8_barToCopy_21 rfl (Or.inr (Or.inr rfl)) (fx_pi_lt (by decide)) rfl (by omega) (by decide) (fx_r49 hL (by omega)) ?_
      refine e_astore_n dX8_barToCopy_22 (by decide) rfl ?_
      refine e_aload_n dX8_barToCopy_23 rfl ?_
      refine e_getr (o2 := 49) dX8_barToCopy_24 ff_X8_28 rfl (fx_pi_lt (by decide)) (by decide) rfl (hL _ _ _ rfl) ?_
      refine e_iload_n dX8_barToCopy_27 rfl ?_
      refine e_aald (j := l) (o2 := 67 + 2 * l) dX8_barToCopy_28 rfl (Or.inr (Or.inr rfl)) (fx_pi_lt (by decide)) rfl (by omega) (by decide) (fx_r49 hL (by omega)) ?_
      refine e_astore dX8_barToCopy_29 (by decide) rfl ?_
      refine e_aload_n dX8_barToCopy_31 rfl ?_
      refine e_callV1 (μ' := mX5_hasArm) (ci := 5) (As := []) dX8_barToCopy_32 wl_X8_350 ok_X5_hasArm (fx_Sf.mk (by omega)).sh rfl (fx_pi_lt (fx_Sf.mk (by omega)).lt) (by decide) (Nat.le_of_ble_eq_true rfl) fx_n1 (s_X5_hasArm (m := m) (67 + 2 * k) (fx_Sf.mk (by omega)) ) rfl ?_
      refine e_if_neB 46 dX8_barToCopy_35 rfl (fun c_3 => ?_) (fun c_3 => ?_)
      · refine e_iconst dX8_barToCopy_46 kci_2 ?_
        have hq : p_bC (fun k => m.1 (67 + 2 * k) 1) (fun k => m.1 (67 + 2 * k) 3) (nI k) (nI l) = 2 := by unfold p_bC; (try dsimp only); (try dsimp only); (try rw [p_ix_n (show k < 2 ^ 31 by omega)]); (try dsimp only); (try rw [p_ix_n (show l < 2 ^ 31 by omega)]); (try (first | rw [if_pos c_1] | rw [if_neg c_1] | rw [if_neg (Decidable.not_not.mpr c_1)])); (try (first | rw [if_pos c_2] | rw [if_neg c_2] | rw [if_neg (Decidable.not_not.mpr c_2)])); (try (first | rw [if_pos c_3] | rw [if_neg c_3] | rw [if_neg (Decidable.not_not.mpr c_3)])); (try rfl)
        exact e_iret dX8_barToCopy_47 rfl rfl rfl ⟨by rw [hq]; rfl, rfl⟩
      · refine e_aload dX8_barToCopy_38 rfl ?_
        refine e_callV1 (μ' := mX5_hasArm) (ci := 5) (As := []) dX8_barToCopy_40 wl_X8_350 ok_X5_hasArm (fx_Sf.mk (by omega)).sh rfl (fx_pi_lt (fx_Sf.mk (by omega)).lt) (by decide) (Nat.le_of_ble_eq_true rfl) fx_n1 (s_X5_hasArm (m := m) (67 + 2 * l) (fx_Sf.mk (by omega)) ) rfl ?_
        refine e_if_eqB 48 dX8_barToCopy_43 rfl (fun c_4 => ?_) (fun c_4 => ?_)
        · refine e_aload_n dX8_barToCopy_48 rfl ?_
          refine e_callV1 (μ' := mX5_hasRow) (ci := 5) (As := []) dX8_barToCopy_49 wl_X8_127 ok_X5_hasRow (fx_Sf.mk (by omega)).sh rfl (fx_pi_lt (fx_Sf.mk (by omega)).lt) (by decide) (Nat.le_of_ble_eq_true rfl) fx_n1 (s_X5_hasRow (m := m) (67 + 2 * k) (fx_Sf.mk (by omega)) ) rfl ?_
          refine e_if_eqB 63 dX8_barToCopy_52 rfl (fun c_5 => ?_) (fun c_5 => ?_)
          · refine e_iconst dX8_barToCopy_63 kci_3 ?_
            have hq : p_bC (fun k => m.1 (67 + 2 * k) 1) (fun k => m.1 (67 + 2 * k) 3) (nI k) (nI l) = 3 := by unfold p_bC; (try dsimp only); (try dsimp only); (try rw [p_ix_n (show k < 2 ^ 31 by omega)]); (try dsimp only); (try rw [p_ix_n (show l < 2 ^ 31 by omega)]); (try (first | rw [if_pos c_1] | rw [if_neg c_1] | rw [if_neg (Decidable.not_not.mpr c_1)])); (try (first | rw [if_pos c_2] | rw [if_neg c_2] | rw [if_neg (Decidable.not_not.mpr c_2)])); (try (first | rw [if_pos c_3] | rw [if_neg c_3] | rw [if_neg (Decidable.not_not.mpr c_3)])); (try (first | rw [if_pos c_4] | rw [if_neg c_4] | rw [if_neg (Decidable.not_not.mpr c_4)])); (try (first | rw [if_pos c_5] | rw [if_neg c_5] | rw [if_neg (Decidable.not_not.mpr c_5)])); (try rfl)
            exact e_iret dX8_barToCopy_64 rfl rfl rfl ⟨by rw [hq]; rfl, rfl⟩
          · refine e_aload dX8_barToCopy_55 rfl ?_
            refine e_callV1 (μ' := mX5_hasRow) (ci := 5) (As := []) dX8_barToCopy_57 wl_X8_127 ok_X5_hasRow (fx_Sf.mk (by omega)).sh rfl (fx_pi_lt (fx_Sf.mk (by omega)).lt) (by decide) (Nat.le_of_ble_eq_true rfl) fx_n1 (s_X5_hasRow (m := m) (67 + 2 * l) (fx_Sf.mk (by omega)) ) rfl ?_
            refine e_if_neB 65 dX8_barToCopy_60 rfl (fun c_6 => ?_) (fun c_6 => ?_)
            · refine e_aload_n dX8_barToCopy_65 rfl ?_
              refine e_get dX8_barToCopy_66 ff_X8_131 (fx_Sf.mk (by omega)).sh (fx_pi_lt (fx_Sf.mk (by omega)).lt) (by decide) rfl ?_
              refine e_aload dX8_barToCopy_69 rfl ?_
              refine e_get dX8_barToCopy_71 ff_X8_131 (fx_Sf.mk (by omega)).sh (fx_pi_lt (fx_Sf.mk (by omega)).lt) (by decide) rfl ?_
              refine e_icmp_ne 81 dX8_barToCopy_74 rfl (fun c_7 => ?_) (fun c_7 => ?_)
              · refine e_iconst dX8_barToCopy_81 kci_2 ?_
                have hq : p_bC (fun k => m.1 (67 + 2 * k) 1) (fun k => m.1 (67 + 2 * k) 3) (nI k) (nI l) = 2 := by unfold p_bC; (try dsimp only); (try dsimp only); (try rw [p_ix_n (show k < 2 ^ 31 by omega)]); (try dsimp only); (try rw [p_ix_n (show l < 2 ^ 31 by omega)]); (try (first | rw [if_pos c_1] | rw [if_neg c_1] | rw [if_neg (Decidable.not_not.mpr c_1)])); (try (first | rw [if_pos c_2] | rw [if_neg c_2] | rw [if_neg (Decidable.not_not.mpr c_2)])); (try (first | rw [if_pos c_3] | rw [if_neg c_3] | rw [if_neg (Decidable.not_not.mpr c_3)])); (try (first | rw [if_pos c_4] | rw [if_neg c_4] | rw [if_neg (Decidable.not_not.mpr c_4)])); (try (first | rw [if_pos c_5] | rw [if_neg c_5] | rw [if_neg (Decidable.not_not.mpr c_5)])); (try (first | rw [if_pos c_6] | rw [if_neg c_6] | rw [if_neg (Decidable.not_not.mpr c_6)])); (try (first | rw [if_pos c_7] | rw [if_neg c_7] | rw [if_neg (Decidable.not_not.mpr c_7)])); (try rfl)
                exact e_iret dX8_barToCopy_82 rfl rfl rfl ⟨by rw [hq]; rfl, rfl⟩
              · refine e_iconst dX8_barToCopy_77 kci_0 ?_
                refine e_goto 82 dX8_barToCopy_78 rfl ?_
                have hq : p_bC (fun k => m.1 (67 + 2 * k) 1) (fun k => m.1 (67 + 2 * k) 3) (nI k) (nI l) = 0 := by unfold p_bC; (try dsimp only); (try dsimp only); (try rw [p_ix_n (show k < 2 ^ 31 by omega)]); (try dsimp only); (try rw [p_ix_n (show l < 2 ^ 31 by omega)]); (try (first | rw [if_pos c_1] | rw [if_neg c_1] | rw [if_neg (Decidable.not_not.mpr c_1)])); (try (first | rw [if_pos c_2] | rw [if_neg c_2] | rw [if_neg (Decidable.not_not.mpr c_2)])); (try (first | rw [if_pos c_3] | rw [if_neg c_3] | rw [if_neg (Decidable.not_not.mpr c_3)])); (try (first | rw [if_pos c_4] | rw [if_neg c_4] | rw [if_neg (Decidable.not_not.mpr c_4)])); (try (first | rw [if_pos c_5] | rw [if_neg c_5] | rw [if_neg (Decidable.not_not.mpr c_5)])); (try (first | rw [if_pos c_6] | rw [if_neg c_6] | rw [if_neg (Decidable.not_not.mpr c_6)])); (try (first | rw [if_pos c_7] | rw [if_neg c_7] | rw [if_neg (Decidable.not_not.mpr c_7)])); (try rfl)
                exact e_iret dX8_barToCopy_82 rfl rfl rfl ⟨by rw [hq]; rfl, rfl⟩
            · refine e_iconst dX8_barToCopy_63 kci_3 ?_
              have hq : p_bC (fun k => m.1 (67 + 2 * k) 1) (fun k => m.1 (67 + 2 * k) 3) (nI k) (nI l) = 3 := by unfold p_bC; (try dsimp only); (try dsimp only); (try rw [p_ix_n (show k < 2 ^ 31 by omega)]); (try dsimp only); (try rw [p_ix_n (show l < 2 ^ 31 by omega)]); (try (first | rw [if_pos c_1] | rw [if_neg c_1] | rw [if_neg (Decidable.not_not.mpr c_1)])); (try (first | rw [if_pos c_2] | rw [if_neg c_2] | rw [if_neg (Decidable.not_not.mpr c_2)])); (try (first | rw [if_pos c_3] | rw [if_neg c_3] | rw [if_neg (Decidable.not_not.mpr c_3)])); (try (first | rw [if_pos c_4] | rw [if_neg c_4] | rw [if_neg (Decidable.not_not.mpr c_4)])); (try (first | rw [if_pos c_5] | rw [if_neg c_5] | rw [if_neg (Decidable.not_not.mpr c_5)])); (try (first | rw [if_pos c_6] | rw [if_neg c_6] | rw [if_neg (Decidable.not_not.mpr c_6)])); (try rfl)
              exact e_iret dX8_barToCopy_64 rfl rfl rfl ⟨by rw [hq]; rfl, rfl⟩
        · refine e_iconst dX8_barToCopy_46 kci_2 ?_
          have hq : p_bC (fun k => m.1 (67 + 2 * k) 1) (fun k => m.1 (67 + 2 * k) 3) (nI k) (nI l) = 2 := by unfold p_bC; (try dsimp only); (try dsimp only); (try rw [p_ix_n (show k < 2 ^ 31 by omega)]); (try dsimp only); (try rw [p_ix_n (show l < 2 ^ 31 by omega)]); (try (first | rw [if_pos c_1] | rw [if_neg c_1] | rw [if_neg (Decidable.not_not.mpr c_1)])); (try (first | rw [if_pos c_2] | rw [if_neg c_2] | rw [if_neg (Decidable.not_not.mpr c_2)])); (try (first | rw [if_pos c_3] | rw [if_neg c_3] | rw [if_neg (Decidable.not_not.mpr c_3)])); (try (first | rw [if_pos c_4] | rw [if_neg c_4] | rw [if_neg (Decidable.not_not.mpr c_4)])); (try rfl)
          exact e_iret dX8_barToCopy_47 rfl rfl rfl ⟨by rw [hq]; rfl, rfl⟩
    · refine e_iconst dX8_barToCopy_14 kci_1 ?_
      have hq : p_bC (fun k => m.1 (67 + 2 * k) 1) (fun k => m.1 (67 + 2 * k) 3) p q = 1 := by unfold p_bC; (try dsimp only); (try (first | rw [if_pos c_1] | rw [if_neg c_1] | rw [if_neg (Decidable.not_not.mpr c_1)])); (try (first | rw [if_pos c_2] | rw [if_neg c_2] | rw [if_neg (Decidable.not_not.mpr c_2)])); (try rfl)
      exact e_iret dX8_barToCopy_15 rfl rfl rfl ⟨by rw [hq]; rfl, rfl⟩
set_option maxRecDepth 100000 in
set_option maxHeartbeats 600000 in
theorem s_X8_copy {Γ : fx_G} {m : fx_M} (hL : fx_Lay m) {cn : Nat → Nat} (hcn : ∀ k, k < 8 → m.1 (67 + 2 * k) 2 = nI (cn k) ∧ cn k ≤ 160) (p : Int32) (q : Int32) (i : Int32) (j : Int32) (n : Int32) : fx_Ct Γ mX8_copy 3 119 119 [fx_rf Γ 0, .int p, .int q, .int i, .int j, .int n] m (fx_is (some (.int (q_copy (fun k => m.1 (67 + 2 * k) 1) (fun k => m.1 (67 + 2 * k) 3) cn p q i j n).2)) (fx_qm m (q_copy (fun k => m.1 (67 + 2 * k) 1) (fun k => m.1 (67 + 2 * k) 3) cn p q i j n).1 (fx_cpJ m (67 + 2 * p_ix p + 1) (67 + 2 * p_ix q + 1) (p_ix i) (p_ix j) (p_ix n)))) := by
  refine fx_Ct.of (j := 1) (by decide) (Nat.le_of_ble_eq_true rfl) (Nat.le_of_ble_eq_true rfl) ?_
  show fx_E Γ mX8_copy 3 119 119 _ 119 m 0 [some (fx_rf Γ 0), some (.int p), some (.int q), some (.int i), some (.int j), some (.int n), none] []
  refine e_aload_n dX8_copy_0 rfl ?_
  refine e_iload_n dX8_copy_1 rfl ?_
  refine e_iload_n dX8_copy_2 rfl ?_
  refine e_callV1 (μ' := mX8_barToCopy) (ci := 8) (As := [.int p, .int q]) dX8_copy_3 wl_X8_99 ok_X8_barToCopy rfl rfl (fx_pi_lt (by decide)) (by decide) (Nat.le_of_ble_eq_true rfl) fx_n1 (s_X8_barToCopy (m := m) hL p q) rfl ?_
  refine e_istore dX8_copy_6 (by decide) rfl ?_
  refine e_iload dX8_copy_8 rfl ?_
  refine e_if_eq 20 dX8_copy_10 rfl (fun c_1 => ?_) (fun c_1 => ?_)
  · have hb7 := p_bC_le (fun k => m.1 (67 + 2 * k) 1) (fun k => m.1 (67 + 2 * k) 3) p q
    have hb0 : p_bC (fun k => m.1 (67 + 2 * k) 1) (fun k => m.1 (67 + 2 * k) 3) p q = 0 := (nI_0i (by omega)).mp c_1
    have hB := p_bC_0 hb0
    obtain ⟨k, hk, ek⟩ := p_in_ex7 hB.1
    subst ek
    obtain ⟨l, hl, el⟩ := p_in_ex7 hB.2
    subst el
    refine e_iload dX8_copy_20 rfl ?_
    refine e_if_ge 31 dX8_copy_22 rfl (fun c_2 => ?_) (fun c_2 => ?_)
    · refine e_aload_n dX8_copy_31 rfl ?_
      refine e_getr (o2 := 49) dX8_copy_32 ff_X8_28 rfl (fx_pi_lt (by decide)) (by decide) rfl (hL _ _ _ rfl) ?_
      refine e_iload_n dX8_copy_35 rfl ?_
      refine e_aald (j := k) (o2 := 67 + 2 * k) dX8_copy_36 rfl (Or.inr (Or.inr rfl)) (fx_pi_lt (by decide)) rfl (by omega) (by decide) (fx_r49 hL (by omega)) ?_
      refine e_iload_n dX8_copy_37 rfl ?_
      refine e_iload dX8_copy_38 rfl ?_
      refine e_callV1 (μ' := mX5_hasStretch) (ci := 5) (As := [.int i, .int n]) dX8_copy_40 wl_X8_103 ok_X5_hasStretch (fx_Sf.mk (by omega)).sh rfl (fx_pi_lt (fx_Sf.mk (by omega)).lt) (by decide) (Nat.le_of_ble_eq_true rfl) fx_n1 (s_X5_hasSt (m := m) (67 + 2 * k) (fx_Sf.mk (by omega)) (hcn k (by omega)).1 i n) rfl ?_
      refine e_if_eqB 62 dX8_copy_43 rfl (fun c_3 => ?_) (fun c_3 => ?_)
      · refine e_aload_n dX8_copy_62 rfl ?_
        refine e_iconst dX8_copy_63 kci_5 ?_
        refine e_callV1 (μ' := mX8_refuse) (ci := 8) (As := [.int 5]) dX8_copy_64 wl_X8_77 ok_X8_refuse rfl rfl (fx_pi_lt (by decide)) (by decide) (Nat.le_of_ble_eq_true rfl) fx_n1 (s_X8_refuse (m := m) hL 5 (by first | decide | omega) (by first | decide | omega)) rfl ?_
        have hq : q_copy (fun k => m.1 (67 + 2 * k) 1) (fun k => m.1 (67 + 2 * k) 3) cn (nI k) (nI l) i j n = (5, -(nI 5)) := by unfold q_copy; rw [if_pos hb0]; (try dsimp only); (try rw [p_ix_n (show k < 2 ^ 31 by omega)]); (try dsimp only); (try rw [p_ix_n (show l < 2 ^ 31 by omega)]); (try (first | rw [if_pos c_2] | rw [if_neg c_2] | rw [if_neg (Decidable.not_not.mpr c_2)])); (try (first | rw [if_pos c_3] | rw [if_neg c_3] | rw [if_neg (Decidable.not_not.mpr c_3)])); (try rfl)
        exact e_iret dX8_copy_67 rfl rfl rfl ⟨by rw [hq], by rw [hq]; exact (fx_qm_n (by decide)).symm⟩
      · refine e_aload_n dX8_copy_46 rfl ?_
        refine e_getr (o2 := 49) dX8_copy_47 ff_X8_28 rfl (fx_pi_lt (by decide)) (by decide) rfl (hL _ _ _ rfl) ?_
        refine e_iload_n dX8_copy_50 rfl ?_
        refine e_aald (j := l) (o2 := 67 + 2 * l) dX8_copy_51 rfl (Or.inr (Or.inr rfl)) (fx_pi_lt (by decide)) rfl (by omega) (by decide) (fx_r49 hL (by omega)) ?_
        refine e_iload dX8_copy_52 rfl ?_
        refine e_iload dX8_copy_54 rfl ?_
        refine e_callV1 (μ' := mX5_hasStretch) (ci := 5) (As := [.int j, .int n]) dX8_copy_56 wl_X8_103 ok_X5_hasStretch (fx_Sf.mk (by omega)).sh rfl (fx_pi_lt (fx_Sf.mk (by omega)).lt) (by decide) (Nat.le_of_ble_eq_true rfl) fx_n1 (s_X5_hasSt (m := m) (67 + 2 * l) (fx_Sf.mk (by omega)) (hcn l (by omega)).1 j n) rfl ?_
        refine e_if_neB 68 dX8_copy_59 rfl (fun c_4 => ?_) (fun c_4 => ?_)
        · have hck := hcn k hk
          have hcj := hcn l hl
          obtain ⟨w, hw, ew⟩ := nI_of (Int32.not_lt.mpr c_2)
          subst ew
          obtain ⟨y, hy, ey⟩ := p_str hw hck.2 c_3
          subst ey
          obtain ⟨z, hz, ez⟩ := p_str hw hcj.2 c_4
          subst ez
          refine e_aload_n dX8_copy_68 rfl ?_
          refine e_getr (o2 := 49) dX8_copy_69 ff_X8_28 rfl (fx_pi_lt (by decide)) (by decide) rfl (hL _ _ _ rfl) ?_
          refine e_iload_n dX8_copy_72 rfl ?_
          refine e_aald (j := k) (o2 := 67 + 2 * k) dX8_copy_73 rfl (Or.inr (Or.inr rfl)) (fx_pi_lt (by decide)) rfl (by omega) (by decide) (fx_r49 hL (by omega)) ?_
          refine e_getr (o2 := 67 + 2 * k + 1) dX8_copy_74 ff_X8_107 (fx_Sf.mk (by omega)).sh (fx_pi_lt (fx_Sf.mk (by omega)).lt) (by decide) rfl ((fx_Sf.mk (by omega)).el hL) ?_
          refine e_iload_n dX8_copy_77 rfl ?_
          refine e_aload_n dX8_copy_78 rfl ?_
          refine e_getr (o2 := 49) dX8_copy_79 ff_X8_28 rfl (fx_pi_lt (by decide)) (by decide) rfl (hL _ _ _ rfl) ?_
          refine e_iload_n dX8_copy_82 rfl ?_
          refine e_aald (j := l) (o2 := 67 + 2 * l) dX8_copy_83 rfl (Or.inr (Or.inr rfl)) (fx_pi_lt (by decide)) rfl (by omega) (by decide) (fx_r49 hL (by omega)) ?_
          refine e_getr (o2 := 67 + 2 * l + 1) dX8_copy_84 ff_X8_107 (fx_Sf.mk (by omega)).sh (fx_pi_lt (fx_Sf.mk (by omega)).lt) (by decide) rfl ((fx_Sf.mk (by omega)).el hL) ?_
          refine e_iload dX8_copy_87 rfl ?_
          refine e_iload dX8_copy_89 rfl ?_
          refine e_copyL (sp := y) (dp := z) (k := w) dX8_copy_91 wl_X8_111 wnat_Systemarraycopy_LjavalangObjectILjavalangObjectIIV wt_Systemarraycopy_LjavalangObjectILjavalangObjectIIV wz_System (fx_Sf.mk (by omega)).she (fx_Sf.mk (by omega)).she (fx_pi_lt (fx_Sf.mk (by omega)).lte) (fx_pi_lt (fx_Sf.mk (by omega)).lte) (by omega) (by omega) (by decide) (by decide) (by decide) (Nat.le_of_ble_eq_true rfl) ?_
          refine e_iconst dX8_copy_94 kci_1 ?_
          have hq : q_copy (fun k => m.1 (67 + 2 * k) 1) (fun k => m.1 (67 + 2 * k) 3) cn (nI k) (nI l) (nI y) (nI z) (nI w) = (0, 1) := by unfold q_copy; rw [if_pos hb0]; (try dsimp only); (try rw [p_ix_n (show k < 2 ^ 31 by omega)]); (try dsimp only); (try rw [p_ix_n (show l < 2 ^ 31 by omega)]); (try dsimp only); (try rw [p_ix_n (show w < 2 ^ 31 by omega)]); (try dsimp only); (try rw [p_ix_n (show y < 2 ^ 31 by omega)]); (try dsimp only); (try rw [p_ix_n (show z < 2 ^ 31 by omega)]); (try (first | rw [if_pos c_2] | rw [if_neg c_2] | rw [if_neg (Decidable.not_not.mpr c_2)])); (try (first | rw [if_pos c_3] | rw [if_neg c_3] | rw [if_neg (Decidable.not_not.mpr c_3)])); (try (first | rw [if_pos c_4] | rw [if_neg c_4] | rw [if_neg (Decidable.not_not.mpr c_4)])); (try rfl)
          exact e_iret dX8_copy_95 rfl rfl rfl ⟨by rw [hq], by rw [hq]; (try dsimp only); (try rw [p_ix_n (show k < 2 ^ 31 by omega)]); (try dsimp only); (try rw [p_ix_n (show l < 2 ^ 31 by omega)]); (try dsimp only); (try rw [p_ix_n (show w < 2 ^ 31 by omega)]); (try dsimp only); (try rw [p_ix_n (show y < 2 ^ 31 by omega)]); (try dsimp only); (try rw [p_ix_n (show z < 2 ^ 31 by omega)]); (try rfl)⟩
        · refine e_aload_n dX8_copy_62 rfl ?_
          refine e_iconst dX8_copy_63 kci_5 ?_
          refine e_callV1 (μ' := mX8_refuse) (ci := 8) (As := [.int 5]) dX8_copy_64 wl_X8_77 ok_X8_refuse rfl rfl (fx_pi_lt (by decide)) (by decide) (Nat.le_of_ble_eq_true rfl) fx_n1 (s_X8_refuse (m := m) hL 5 (by first | decide | omega) (by first | decide | omega)) rfl ?_
          have hq : q_copy (fun k => m.1 (67 + 2 * k) 1) (fun k => m.1 (67 + 2 * k) 3) cn (nI k) (nI l) i j n = (5, -(nI 5)) := by unfold q_copy; rw [if_pos hb0]; (try dsimp only); (try rw [p_ix_n (show k < 2 ^ 31 by omega)]); (try dsimp only); (try rw [p_ix_n (show l < 2 ^ 31 by omega)]); (try (first | rw [if_pos c_2] | rw [if_neg c_2] | rw [if_neg (Decidable.not_not.mpr c_2)])); (try (first | rw [if_pos c_3] | rw [if_neg c_3] | rw [if_neg (Decidable.not_not.mpr c_3)])); (try (first | rw [if_pos c_4] | rw [if_neg c_4] | rw [if_neg (Decidable.not_not.mpr c_4)])); (try rfl)
          exact e_iret dX8_copy_67 rfl rfl rfl ⟨by rw [hq], by rw [hq]; exact (fx_qm_n (by decide)).symm⟩
    · refine e_aload_n dX8_copy_25 rfl ?_
      refine e_iconst dX8_copy_26 kci_4 ?_
      refine e_callV1 (μ' := mX8_refuse) (ci := 8) (As := [.int 4]) dX8_copy_27 wl_X8_77 ok_X8_refuse rfl rfl (fx_pi_lt (by decide)) (by decide) (Nat.le_of_ble_eq_true rfl) fx_n1 (s_X8_refuse (m := m) hL 4 (by first | decide | omega) (by first | decide | omega)) rfl ?_
      have hq : q_copy (fun k => m.1 (67 + 2 * k) 1) (fun k => m.1 (67 + 2 * k) 3) cn (nI k) (nI l) i j n = (4, -(nI 4)) := by unfold q_copy; rw [if_pos hb0]; (try dsimp only); (try rw [p_ix_n (show k < 2 ^ 31 by omega)]); (try dsimp only); (try rw [p_ix_n (show l < 2 ^ 31 by omega)]); (try (first | rw [if_pos c_2] | rw [if_neg c_2] | rw [if_neg (Decidable.not_not.mpr c_2)])); (try rfl)
      exact e_iret dX8_copy_30 rfl rfl rfl ⟨by rw [hq], by rw [hq]; exact (fx_qm_n (by decide)).symm⟩
  · have hb7 := p_bC_le (fun k => m.1 (67 + 2 * k) 1) (fun k => m.1 (67 + 2 * k) 3) p q
    have hb1 : 1 ≤ p_bC (fun k => m.1 (67 + 2 * k) 1) (fun k => m.1 (67 + 2 * k) 3) p q := by have q : p_bC (fun k => m.1 (67 + 2 * k) 1) (fun k => m.1 (67 + 2 * k) 3) p q ≠ 0 := mt (nI_0i (by omega)).mpr c_1; omega
    refine e_aload_n dX8_copy_13 rfl ?_
    refine e_iload dX8_copy_14 rfl ?_
    refine e_callV1 (μ' := mX8_refuse) (ci := 8) (As := [.int (nI (p_bC (fun k => m.1 (67 + 2 * k) 1) (fun k => m.1 (67 + 2 * k) 3) p q))]) dX8_copy_16 wl_X8_77 ok_X8_refuse rfl rfl (fx_pi_lt (by decide)) (by decide) (Nat.le_of_ble_eq_true rfl) fx_n1 (s_X8_refuse (m := m) hL (p_bC (fun k => m.1 (67 + 2 * k) 1) (fun k => m.1 (67 + 2 * k) 3) p q) (by first | decide | omega) (by first | decide | omega)) rfl ?_
    have hq : q_copy (fun k => m.1 (67 + 2 * k) 1) (fun k => m.1 (67 + 2 * k) 3) cn p q i j n = ((p_bC (fun k => m.1 (67 + 2 * k) 1) (fun k => m.1 (67 + 2 * k) 3) p q), -(nI (p_bC (fun k => m.1 (67 + 2 * k) 1) (fun k => m.1 (67 + 2 * k) 3) p q))) := by unfold q_copy; exact if_neg (by omega)
    exact e_iret dX8_copy_19 rfl rfl rfl ⟨by rw [hq], by rw [hq]; exact (fx_qm_n (by omega)).symm⟩
set_option maxRecDepth 100000 in
set_option maxHeartbeats 600000 in
theorem s_X8_element {Γ : fx_G} {m : fx_M} (hL : fx_Lay m) {cn : Nat → Nat} (hcn : ∀ k, k < 8 → m.1 (67 + 2 * k) 2 = nI (cn k) ∧ cn k ≤ 160) (s i : Int32) : fx_Ct Γ mX8_element 2 119 119 [fx_rf Γ 0, .int s, .int i] m (fx_is (some (.long (q_el cn (fun k => m.2.1 (67 + 2 * k + 1)) s i))) m) := by
  refine fx_Ct.of (j := 0) (by decide) (Nat.le_of_ble_eq_true rfl) (Nat.le_of_ble_eq_true rfl) ?_
  show fx_E Γ mX8_element 2 119 119 _ 119 m 0 [some (fx_rf Γ 0), some (.int s), some (.int i)] []
  refine e_iload_n dX8_element_0 rfl ?_
  refine e_callS1 (μ' := mX8_isShelf) (As := [.int s]) dX8_element_1 wl_X8_73 ok_X8_isShelf (by decide) (Nat.le_of_ble_eq_true rfl) fx_n1 (s_X8_isShelf (m := m) s) rfl ?_
  refine e_if_eqB 20 dX8_element_4 rfl (fun c_1 => ?_) (fun c_1 => ?_)
  · refine e_lconst (v := 0) dX8_element_20 rfl ?_
    have hq : q_el cn (fun k => m.2.1 (67 + 2 * k + 1)) s i = 0 := by unfold q_el; (try dsimp only); (try (first | rw [if_pos c_1] | rw [if_neg c_1] | rw [if_neg (Decidable.not_not.mpr c_1)])); (try rfl)
    exact e_lret dX8_element_21 rfl rfl ⟨by rw [hq], rfl⟩
  · obtain ⟨k, hk, ek⟩ := p_in_ex7 c_1
    subst ek
    refine e_aload_n dX8_element_7 rfl ?_
    refine e_getr (o2 := 49) dX8_element_8 ff_X8_28 rfl (fx_pi_lt (by decide)) (by decide) rfl (hL _ _ _ rfl) ?_
    refine e_iload_n dX8_element_11 rfl ?_
    refine e_aald (j := k) (o2 := 67 + 2 * k) dX8_element_12 rfl (Or.inr (Or.inr rfl)) (fx_pi_lt (by decide)) rfl (by omega) (by decide) (fx_r49 hL (by omega)) ?_
    refine e_iload_n dX8_element_13 rfl ?_
    refine e_callV1 (μ' := mX5_hasElement) (ci := 5) (As := [.int i]) dX8_element_14 wl_X8_92 ok_X5_hasElement (fx_Sf.mk (by omega)).sh rfl (fx_pi_lt (fx_Sf.mk (by omega)).lt) (by decide) (Nat.le_of_ble_eq_true rfl) fx_n1 (s_X5_hasEl (m := m) (67 + 2 * k) (fx_Sf.mk (by omega)) (hcn k (by omega)).1 i) rfl ?_
    refine e_if_neB 22 dX8_element_17 rfl (fun c_2 => ?_) (fun c_2 => ?_)
    · have hck := hcn k hk
      obtain ⟨y, hy, ey⟩ := p_el_ex c_2 (by omega)
      subst ey
      refine e_aload_n dX8_element_22 rfl ?_
      refine e_getr (o2 := 49) dX8_element_23 ff_X8_28 rfl (fx_pi_lt (by decide)) (by decide) rfl (hL _ _ _ rfl) ?_
      refine e_iload_n dX8_element_26 rfl ?_
      refine e_aald (j := k) (o2 := 67 + 2 * k) dX8_element_27 rfl (Or.inr (Or.inr rfl)) (fx_pi_lt (by decide)) rfl (by omega) (by decide) (fx_r49 hL (by omega)) ?_
      refine e_getr (o2 := 67 + 2 * k + 1) dX8_element_28 ff_X8_107 (fx_Sf.mk (by omega)).sh (fx_pi_lt (fx_Sf.mk (by omega)).lt) (by decide) rfl ((fx_Sf.mk (by omega)).el hL) ?_
      refine e_iload_n dX8_element_31 rfl ?_
      refine e_lald (j := y) dX8_element_32 (fx_Sf.mk (by omega)).she (fx_pi_lt (fx_Sf.mk (by omega)).lte) rfl (by omega) (by decide) ?_
      have hq : q_el cn (fun k => m.2.1 (67 + 2 * k + 1)) (nI k) (nI y) = m.2.1 (67 + 2 * k + 1) y := by unfold q_el; (try dsimp only); (try dsimp only); (try rw [p_ix_n (show k < 2 ^ 31 by omega)]); (try dsimp only); (try rw [p_ix_n (show y < 2 ^ 31 by omega)]); (try (first | rw [if_pos c_1] | rw [if_neg c_1] | rw [if_neg (Decidable.not_not.mpr c_1)])); (try (first | rw [if_pos c_2] | rw [if_neg c_2] | rw [if_neg (Decidable.not_not.mpr c_2)])); (try rfl)
      exact e_lret dX8_element_33 rfl rfl ⟨by rw [hq], rfl⟩
    · refine e_lconst (v := 0) dX8_element_20 rfl ?_
      have hq : q_el cn (fun k => m.2.1 (67 + 2 * k + 1)) (nI k) i = 0 := by unfold q_el; (try dsimp only); (try dsimp only); (try rw [p_ix_n (show k < 2 ^ 31 by omega)]); (try (first | rw [if_pos c_1] | rw [if_neg c_1] | rw [if_neg (Decidable.not_not.mpr c_1)])); (try (first | rw [if_pos c_2] | rw [if_neg c_2] | rw [if_neg (Decidable.not_not.mpr c_2)])); (try rfl)
      exact e_lret dX8_element_21 rfl rfl ⟨by rw [hq], rfl⟩
set_option maxRecDepth 100000 in
set_option maxHeartbeats 600000 in
theorem s_X8_show {Γ : fx_G} {m : fx_M} (hL : fx_Lay m) {na : Nat} (hna : m.1 1 2 = nI na) (h8 : na ≤ 8) (s : Int32) (x : Int32) : fx_Ct Γ mX8_show 3 119 119 [fx_rf Γ 0, .int s, .int x] m (fx_is (some (.int (q_show na s x).2)) (fx_qm m (q_show na s x).1 (fx_mShow m (67 + 2 * p_ix s) x))) := by
  refine fx_Ct.of (j := 0) (by decide) (Nat.le_of_ble_eq_true rfl) (Nat.le_of_ble_eq_true rfl) ?_
  show fx_E Γ mX8_show 3 119 119 _ 119 m 0 [some (fx_rf Γ 0), some (.int s), some (.int x)] []
  refine e_iload_n dX8_show_0 rfl ?_
  refine e_callS1 (μ' := mX8_isShelf) (As := [.int s]) dX8_show_1 wl_X8_73 ok_X8_isShelf (by decide) (Nat.le_of_ble_eq_true rfl) fx_n1 (s_X8_isShelf (m := m) s) rfl ?_
  refine e_if_eqB 23 dX8_show_4 rfl (fun c_1 => ?_) (fun c_1 => ?_)
  · refine e_aload_n dX8_show_23 rfl ?_
    refine e_iconst dX8_show_24 kci_1 ?_
    refine e_callV1 (μ' := mX8_refuse) (ci := 8) (As := [.int 1]) dX8_show_25 wl_X8_77 ok_X8_refuse rfl rfl (fx_pi_lt (by decide)) (by decide) (Nat.le_of_ble_eq_true rfl) fx_n1 (s_X8_refuse (m := m) hL 1 (by first | decide | omega) (by first | decide | omega)) rfl ?_
    have hq : q_show na s x = (1, -(nI 1)) := by first | (unfold q_show; (try dsimp only); (try (first | rw [if_pos c_1] | rw [if_neg c_1] | rw [if_neg (Decidable.not_not.mpr c_1)])); (try rfl); done) | (exfalso; first | contradiction | (simp_all; done))
    exact e_iret dX8_show_28 rfl rfl rfl ⟨by rw [hq], by rw [hq]; exact (fx_qm_n (by first | decide | omega)).symm⟩
  · refine e_iload_n dX8_show_7 rfl ?_
    refine e_iconst dX8_show_8 kci_m1 ?_
    refine e_icmp_eq 29 dX8_show_9 rfl (fun c_2 => ?_) (fun c_2 => ?_)
    · obtain ⟨k, hk, ek⟩ := p_in_ex7 c_1
      subst ek
      refine e_iload_n dX8_show_29 rfl ?_
      refine e_iconst dX8_show_30 kci_m1 ?_
      refine e_icmp_ne 45 dX8_show_31 rfl (fun c_3 => ?_) (fun c_3 => ?_)
      · refine e_aload_n dX8_show_45 rfl ?_
        refine e_getr (o2 := 49) dX8_show_46 ff_X8_28 rfl (fx_pi_lt (by decide)) (by decide) rfl (hL _ _ _ rfl) ?_
        refine e_iload_n dX8_show_49 rfl ?_
        refine e_aald (j := k) (o2 := 67 + 2 * k) dX8_show_50 rfl (Or.inr (Or.inr rfl)) (fx_pi_lt (by decide)) rfl (by omega) (by decide) (fx_r49 hL (by omega)) ?_
        refine e_iload_n dX8_show_51 rfl ?_
        refine e_callV1 (μ' := mX5_holdArm) (ci := 5) (As := [.int x]) dX8_show_52 wl_X8_123 ok_X5_holdArm (fx_Sf.mk (by omega)).sh rfl (fx_pi_lt (fx_Sf.mk (by omega)).lt) (by decide) (Nat.le_of_ble_eq_true rfl) fx_n1 (s_X5_holdArm (m := m) (67 + 2 * k) (fx_Sf.mk (by omega)) x) rfl ?_
        refine e_iconst dX8_show_55 kci_1 ?_
        have hq : q_show na (nI k) x = (0, 1) := by first | (unfold q_show; (try dsimp only); (try dsimp only); (try rw [p_ix_n (show k < 2 ^ 31 by omega)]); (try (first | rw [if_pos c_1] | rw [if_neg c_1] | rw [if_neg (Decidable.not_not.mpr c_1)])); (try (first | rw [if_pos c_2] | rw [if_neg c_2] | rw [if_neg (Decidable.not_not.mpr c_2)])); (try (first | rw [if_pos c_3] | rw [if_neg c_3] | rw [if_neg (Decidable.not_not.mpr c_3)])); (try rfl); done) | (exfalso; first | contradiction | (simp_all; done))
        exact e_iret dX8_show_56 rfl rfl rfl ⟨by rw [hq], by rw [hq]; (try dsimp only); (try rw [p_ix_n (show k < 2 ^ 31 by omega)]); (first | contradiction | (unfold fx_mShow; first | (rw [if_pos c_2]; rfl) | (rw [if_neg c_2]; rfl)) | rfl); (try rfl)⟩
      · refine e_aload_n dX8_show_34 rfl ?_
        refine e_getr (o2 := 49) dX8_show_35 ff_X8_28 rfl (fx_pi_lt (by decide)) (by decide) rfl (hL _ _ _ rfl) ?_
        refine e_iload_n dX8_show_38 rfl ?_
        refine e_aald (j := k) (o2 := 67 + 2 * k) dX8_show_39 rfl (Or.inr (Or.inr rfl)) (fx_pi_lt (by decide)) rfl (by omega) (by decide) (fx_r49 hL (by omega)) ?_
        refine e_callV1 (μ' := mX5_holdNothing) (ci := 5) (As := []) dX8_show_40 wl_X8_120 ok_X5_holdNothing (fx_Sf.mk (by omega)).sh rfl (fx_pi_lt (fx_Sf.mk (by omega)).lt) (by decide) (Nat.le_of_ble_eq_true rfl) fx_n1 (s_X5_holdNothing (m := m) (67 + 2 * k) (fx_Sf.mk (by omega))) rfl ?_
        refine e_iconst dX8_show_43 kci_0 ?_
        have hq : q_show na (nI k) x = (0, 0) := by first | (unfold q_show; (try dsimp only); (try dsimp only); (try rw [p_ix_n (show k < 2 ^ 31 by omega)]); (try (first | rw [if_pos c_1] | rw [if_neg c_1] | rw [if_neg (Decidable.not_not.mpr c_1)])); (try (first | rw [if_pos c_2] | rw [if_neg c_2] | rw [if_neg (Decidable.not_not.mpr c_2)])); (try (first | rw [if_pos c_3] | rw [if_neg c_3] | rw [if_neg (Decidable.not_not.mpr c_3)])); (try rfl); done) | (exfalso; first | contradiction | (simp_all; done))
        exact e_iret dX8_show_44 rfl rfl rfl ⟨by rw [hq], by rw [hq]; (try dsimp only); (try rw [p_ix_n (show k < 2 ^ 31 by omega)]); (first | contradiction | (unfold fx_mShow; first | (rw [if_pos c_2]; rfl) | (rw [if_neg c_2]; rfl)) | rfl); (try rfl)⟩
    · refine e_aload_n dX8_show_12 rfl ?_
      refine e_getr (o2 := 1) dX8_show_13 ff_X8_10 rfl (fx_pi_lt (by decide)) (by decide) rfl (hL _ _ _ rfl) ?_
      refine e_iload_n dX8_show_16 rfl ?_
      refine e_callV1 (μ' := mX6_isArm) (ci := 6) (As := [.int x]) dX8_show_17 wl_X8_117 ok_X6_isArm rfl rfl (fx_pi_lt (by decide)) (by decide) (Nat.le_of_ble_eq_true rfl) fx_n1 (s_X6_isArm (m := m) 1 fx_s1 (na := na) hna x) rfl ?_
      refine e_if_neB 29 dX8_show_20 rfl (fun c_4 => ?_) (fun c_4 => ?_)
      · obtain ⟨k, hk, ek⟩ := p_in_ex7 c_1
        subst ek
        refine e_iload_n dX8_show_29 rfl ?_
        refine e_iconst dX8_show_30 kci_m1 ?_
        refine e_icmp_ne 45 dX8_show_31 rfl (fun c_5 => ?_) (fun c_5 => ?_)
        · refine e_aload_n dX8_show_45 rfl ?_
          refine e_getr (o2 := 49) dX8_show_46 ff_X8_28 rfl (fx_pi_lt (by decide)) (by decide) rfl (hL _ _ _ rfl) ?_
          refine e_iload_n dX8_show_49 rfl ?_
          refine e_aald (j := k) (o2 := 67 + 2 * k) dX8_show_50 rfl (Or.inr (Or.inr rfl)) (fx_pi_lt (by decide)) rfl (by omega) (by decide) (fx_r49 hL (by omega)) ?_
          refine e_iload_n dX8_show_51 rfl ?_
          refine e_callV1 (μ' := mX5_holdArm) (ci := 5) (As := [.int x]) dX8_show_52 wl_X8_123 ok_X5_holdArm (fx_Sf.mk (by omega)).sh rfl (fx_pi_lt (fx_Sf.mk (by omega)).lt) (by decide) (Nat.le_of_ble_eq_true rfl) fx_n1 (s_X5_holdArm (m := m) (67 + 2 * k) (fx_Sf.mk (by omega)) x) rfl ?_
          refine e_iconst dX8_show_55 kci_1 ?_
          have hq : q_show na (nI k) x = (0, 1) := by first | (unfold q_show; (try dsimp only); (try dsimp only); (try rw [p_ix_n (show k < 2 ^ 31 by omega)]); (try (first | rw [if_pos c_1] | rw [if_neg c_1] | rw [if_neg (Decidable.not_not.mpr c_1)])); (try (first | rw [if_pos c_2] | rw [if_neg c_2] | rw [if_neg (Decidable.not_not.mpr c_2)])); (try (first | rw [if_pos c_4] | rw [if_neg c_4] | rw [if_neg (Decidable.not_not.mpr c_4)])); (try (first | rw [if_pos c_5] | rw [if_neg c_5] | rw [if_neg (Decidable.not_not.mpr c_5)])); (try rfl); done) | (exfalso; first | contradiction | (simp_all; done))
          exact e_iret dX8_show_56 rfl rfl rfl ⟨by rw [hq], by rw [hq]; (try dsimp only); (try rw [p_ix_n (show k < 2 ^ 31 by omega)]); (first | contradiction | (unfold fx_mShow; first | (rw [if_pos c_2]; rfl) | (rw [if_neg c_2]; rfl)) | rfl); (try rfl)⟩
        · refine e_aload_n dX8_show_34 rfl ?_
          refine e_getr (o2 := 49) dX8_show_35 ff_X8_28 rfl (fx_pi_lt (by decide)) (by decide) rfl (hL _ _ _ rfl) ?_
          refine e_iload_n dX8_show_38 rfl ?_
          refine e_aald (j := k) (o2 := 67 + 2 * k) dX8_show_39 rfl (Or.inr (Or.inr rfl)) (fx_pi_lt (by decide)) rfl (by omega) (by decide) (fx_r49 hL (by omega)) ?_
          refine e_callV1 (μ' := mX5_holdNothing) (ci := 5) (As := []) dX8_show_40 wl_X8_120 ok_X5_holdNothing (fx_Sf.mk (by omega)).sh rfl (fx_pi_lt (fx_Sf.mk (by omega)).lt) (by decide) (Nat.le_of_ble_eq_true rfl) fx_n1 (s_X5_holdNothing (m := m) (67 + 2 * k) (fx_Sf.mk (by omega))) rfl ?_
          refine e_iconst dX8_show_43 kci_0 ?_
          have hq : q_show na (nI k) x = (0, 0) := by first | (unfold q_show; (try dsimp only); (try dsimp only); (try rw [p_ix_n (show k < 2 ^ 31 by omega)]); (try (first | rw [if_pos c_1] | rw [if_neg c_1] | rw [if_neg (Decidable.not_not.mpr c_1)])); (try (first | rw [if_pos c_2] | rw [if_neg c_2] | rw [if_neg (Decidable.not_not.mpr c_2)])); (try (first | rw [if_pos c_4] | rw [if_neg c_4] | rw [if_neg (Decidable.not_not.mpr c_4)])); (try (first | rw [if_pos c_5] | rw [if_neg c_5] | rw [if_neg (Decidable.not_not.mpr c_5)])); (try rfl); done) | (exfalso; first | contradiction | (simp_all; done))
          exact e_iret dX8_show_44 rfl rfl rfl ⟨by rw [hq], by rw [hq]; (try dsimp only); (try rw [p_ix_n (show k < 2 ^ 31 by omega)]); (first | contradiction | (unfold fx_mShow; first | (rw [if_pos c_2]; rfl) | (rw [if_neg c_2]; rfl)) | rfl); (try rfl)⟩
      · refine e_aload_n dX8_show_23 rfl ?_
        refine e_iconst dX8_show_24 kci_1 ?_
        refine e_callV1 (μ' := mX8_refuse) (ci := 8) (As := [.int 1]) dX8_show_25 wl_X8_77 ok_X8_refuse rfl rfl (fx_pi_lt (by decide)) (by decide) (Nat.le_of_ble_eq_true rfl) fx_n1 (s_X8_refuse (m := m) hL 1 (by first | decide | omega) (by first | decide | omega)) rfl ?_
        have hq : q_show na s x = (1, -(nI 1)) := by first | (unfold q_show; (try dsimp only); (try (first | rw [if_pos c_1] | rw [if_neg c_1] | rw [if_neg (Decidable.not_not.mpr c_1)])); (try (first | rw [if_pos c_2] | rw [if_neg c_2] | rw [if_neg (Decidable.not_not.mpr c_2)])); (try (first | rw [if_pos c_4] | rw [if_neg c_4] | rw [if_neg (Decidable.not_not.mpr c_4)])); (try rfl); done) | (exfalso; first | contradiction | (simp_all; done))
        exact e_iret dX8_show_28 rfl rfl rfl ⟨by rw [hq], by rw [hq]; exact (fx_qm_n (by first | decide | omega)).symm⟩
set_option maxRecDepth 100000 in
set_option maxHeartbeats 600000 in
theorem s_X8_holds {Γ : fx_G} {m : fx_M} (hL : fx_Lay m) (s : Int32) : fx_Ct Γ mX8_holds 2 119 119 [fx_rf Γ 0, .int s] m (fx_is (some (.int (q_holds (fun k => m.1 (67 + 2 * k) 1) (fun k => m.1 (67 + 2 * k) 3) s))) m) := by
  refine fx_Ct.of (j := 1) (by decide) (Nat.le_of_ble_eq_true rfl) (Nat.le_of_ble_eq_true rfl) ?_
  show fx_E Γ mX8_holds 2 119 119 _ 119 m 0 [some (fx_rf Γ 0), some (.int s), none] []
  refine e_iload_n dX8_holds_0 rfl ?_
  refine e_callS1 (μ' := mX8_isShelf) (As := [.int s]) dX8_holds_1 wl_X8_73 ok_X8_isShelf (by decide) (Nat.le_of_ble_eq_true rfl) fx_n1 (s_X8_isShelf (m := m) s) rfl ?_
  refine e_if_neB 9 dX8_holds_4 rfl (fun c_1 => ?_) (fun c_1 => ?_)
  · obtain ⟨k, hk, ek⟩ := p_in_ex7 c_1
    subst ek
    refine e_aload_n dX8_holds_9 rfl ?_
    refine e_getr (o2 := 49) dX8_holds_10 ff_X8_28 rfl (fx_pi_lt (by decide)) (by decide) rfl (hL _ _ _ rfl) ?_
    refine e_iload_n dX8_holds_13 rfl ?_
    refine e_aald (j := k) (o2 := 67 + 2 * k) dX8_holds_14 rfl (Or.inr (Or.inr rfl)) (fx_pi_lt (by decide)) rfl (by omega) (by decide) (fx_r49 hL (by omega)) ?_
    refine e_astore_n dX8_holds_15 (by decide) rfl ?_
    refine e_aload_n dX8_holds_16 rfl ?_
    refine e_callV1 (μ' := mX5_hasRow) (ci := 5) (As := []) dX8_holds_17 wl_X8_127 ok_X5_hasRow (fx_Sf.mk (by omega)).sh rfl (fx_pi_lt (fx_Sf.mk (by omega)).lt) (by decide) (Nat.le_of_ble_eq_true rfl) fx_n1 (s_X5_hasRow (m := m) (67 + 2 * k) (fx_Sf.mk (by omega)) ) rfl ?_
    refine e_if_eqB 33 dX8_holds_20 rfl (fun c_2 => ?_) (fun c_2 => ?_)
    · refine e_aload_n dX8_holds_33 rfl ?_
      refine e_get dX8_holds_34 ff_X8_135 (fx_Sf.mk (by omega)).sh (fx_pi_lt (fx_Sf.mk (by omega)).lt) (by decide) rfl ?_
      have hq : q_holds (fun k => m.1 (67 + 2 * k) 1) (fun k => m.1 (67 + 2 * k) 3) (nI k) = m.1 (67 + 2 * k) 3 := by unfold q_holds; (try dsimp only); (try dsimp only); (try rw [p_ix_n (show k < 2 ^ 31 by omega)]); (try (first | rw [if_pos c_1] | rw [if_neg c_1] | rw [if_neg (Decidable.not_not.mpr c_1)])); (try (first | rw [if_pos c_2] | rw [if_neg c_2] | rw [if_neg (Decidable.not_not.mpr c_2)])); (try rfl)
      exact e_iret dX8_holds_37 rfl rfl rfl ⟨by rw [hq], rfl⟩
    · refine e_bipush dX8_holds_23 kcb_100 ?_
      refine e_aload_n dX8_holds_25 rfl ?_
      refine e_get dX8_holds_26 ff_X8_131 (fx_Sf.mk (by omega)).sh (fx_pi_lt (fx_Sf.mk (by omega)).lt) (by decide) rfl ?_
      refine e_iadd dX8_holds_29 ?_
      refine e_goto 37 dX8_holds_30 rfl ?_
      have hq : q_holds (fun k => m.1 (67 + 2 * k) 1) (fun k => m.1 (67 + 2 * k) 3) (nI k) = 100 + (m.1 (67 + 2 * k) 1) := by unfold q_holds; (try dsimp only); (try dsimp only); (try rw [p_ix_n (show k < 2 ^ 31 by omega)]); (try (first | rw [if_pos c_1] | rw [if_neg c_1] | rw [if_neg (Decidable.not_not.mpr c_1)])); (try (first | rw [if_pos c_2] | rw [if_neg c_2] | rw [if_neg (Decidable.not_not.mpr c_2)])); (try rfl)
      exact e_iret dX8_holds_37 rfl rfl rfl ⟨by rw [hq], rfl⟩
  · refine e_iconst dX8_holds_7 kci_m1 ?_
    have hq : q_holds (fun k => m.1 (67 + 2 * k) 1) (fun k => m.1 (67 + 2 * k) 3) s = (-1) := by unfold q_holds; (try dsimp only); (try (first | rw [if_pos c_1] | rw [if_neg c_1] | rw [if_neg (Decidable.not_not.mpr c_1)])); (try rfl)
    exact e_iret dX8_holds_8 rfl rfl rfl ⟨by rw [hq], rfl⟩
set_option maxRecDepth 100000 in
set_option maxHeartbeats 600000 in
theorem s_X8_says {Γ : fx_G} {m : fx_M} (hL : fx_Lay m) {na : Nat} (hna : m.1 1 2 = nI na) (h8 : na ≤ 8) (hkd : ∀ x, x < na → ∃ kk : Nat, kk ≤ 6 ∧ m.1 (1 + 3 + x) 0 = nI kk) (s : Int32) (k : Int32) : fx_Ct Γ mX8_says 3 119 119 [fx_rf Γ 0, .int s, .int k] m (fx_is (some (.int (q_says (fx_ar m 1) na (fun k => m.1 (67 + 2 * k) 1) (fun k => m.1 (67 + 2 * k) 3) s k).2)) (fx_no m (q_says (fx_ar m 1) na (fun k => m.1 (67 + 2 * k) 1) (fun k => m.1 (67 + 2 * k) 3) s k).1)) := by
  refine fx_Ct.of (j := 2) (by decide) (Nat.le_of_ble_eq_true rfl) (Nat.le_of_ble_eq_true rfl) ?_
  show fx_E Γ mX8_says 3 119 119 _ 119 m 0 [some (fx_rf Γ 0), some (.int s), some (.int k), none, none] []
  refine e_iload_n dX8_says_0 rfl ?_
  refine e_callS1 (μ' := mX8_isShelf) (As := [.int s]) dX8_says_1 wl_X8_73 ok_X8_isShelf (by decide) (Nat.le_of_ble_eq_true rfl) fx_n1 (s_X8_isShelf (m := m) s) rfl ?_
  refine e_if_eqB 17 dX8_says_4 rfl (fun c_1 => ?_) (fun c_1 => ?_)
  · refine e_aload_n dX8_says_17 rfl ?_
    refine e_iconst dX8_says_18 kci_1 ?_
    refine e_callV1 (μ' := mX8_refuse) (ci := 8) (As := [.int 1]) dX8_says_19 wl_X8_77 ok_X8_refuse rfl rfl (fx_pi_lt (by decide)) (by decide) (Nat.le_of_ble_eq_true rfl) fx_n1 (s_X8_refuse (m := m) hL 1 (by first | decide | omega) (by first | decide | omega)) rfl ?_
    have hq : q_says (fx_ar m 1) na (fun k => m.1 (67 + 2 * k) 1) (fun k => m.1 (67 + 2 * k) 3) s k = (1, -(nI 1)) := by first | (unfold q_says; (try dsimp only); (try (first | rw [if_pos c_1] | rw [if_neg c_1] | rw [if_neg (Decidable.not_not.mpr c_1)])); (try rfl); done) | (exfalso; first | contradiction | (simp_all; done))
    exact e_iret dX8_says_22 rfl rfl rfl ⟨by rw [hq], by rw [hq]; exact (fx_no_n (by first | decide | omega)).symm⟩
  · refine e_iload_n dX8_says_7 rfl ?_
    refine e_iconst dX8_says_8 kci_0 ?_
    refine e_bipush dX8_says_9 kcb_6 ?_
    refine e_callS1 (μ' := mX8_within) (As := [.int k, .int 0, .int 6]) dX8_says_11 wl_X8_81 ok_X8_within (by decide) (Nat.le_of_ble_eq_true rfl) fx_n1 (s_X8_within (m := m) k 0 6) rfl ?_
    refine e_if_neB 23 dX8_says_14 rfl (fun c_2 => ?_) (fun c_2 => ?_)
    · obtain ⟨z, hz, ez⟩ := p_in_ex7 c_1
      subst ez
      refine e_aload_n dX8_says_23 rfl ?_
      refine e_getr (o2 := 49) dX8_says_24 ff_X8_28 rfl (fx_pi_lt (by decide)) (by decide) rfl (hL _ _ _ rfl) ?_
      refine e_iload_n dX8_says_27 rfl ?_
      refine e_aald (j := z) (o2 := 67 + 2 * z) dX8_says_28 rfl (Or.inr (Or.inr rfl)) (fx_pi_lt (by decide)) rfl (by omega) (by decide) (fx_r49 hL (by omega)) ?_
      refine e_callV1 (μ' := mX5_hasRow) (ci := 5) (As := []) dX8_says_29 wl_X8_127 ok_X5_hasRow (fx_Sf.mk (by omega)).sh rfl (fx_pi_lt (fx_Sf.mk (by omega)).lt) (by decide) (Nat.le_of_ble_eq_true rfl) fx_n1 (s_X5_hasRow (m := m) (67 + 2 * z) (fx_Sf.mk (by omega)) ) rfl ?_
      refine e_if_eqB 41 dX8_says_32 rfl (fun c_3 => ?_) (fun c_3 => ?_)
      · refine e_aload_n dX8_says_41 rfl ?_
        refine e_getr (o2 := 49) dX8_says_42 ff_X8_28 rfl (fx_pi_lt (by decide)) (by decide) rfl (hL _ _ _ rfl) ?_
        refine e_iload_n dX8_says_45 rfl ?_
        refine e_aald (j := z) (o2 := 67 + 2 * z) dX8_says_46 rfl (Or.inr (Or.inr rfl)) (fx_pi_lt (by decide)) rfl (by omega) (by decide) (fx_r49 hL (by omega)) ?_
        refine e_get dX8_says_47 ff_X8_135 (fx_Sf.mk (by omega)).sh (fx_pi_lt (fx_Sf.mk (by omega)).lt) (by decide) rfl ?_
        refine e_istore_n dX8_says_50 (by decide) rfl ?_
        refine e_aload_n dX8_says_51 rfl ?_
        refine e_getr (o2 := 1) dX8_says_52 ff_X8_10 rfl (fx_pi_lt (by decide)) (by decide) rfl (hL _ _ _ rfl) ?_
        refine e_iload_n dX8_says_55 rfl ?_
        refine e_callV1 (μ' := mX6_isArm) (ci := 6) (As := [.int (m.1 (67 + 2 * z) 3)]) dX8_says_56 wl_X8_117 ok_X6_isArm rfl rfl (fx_pi_lt (by decide)) (by decide) (Nat.le_of_ble_eq_true rfl) fx_n1 (s_X6_isArm (m := m) 1 fx_s1 (na := na) hna (m.1 (67 + 2 * z) 3)) rfl ?_
        refine e_if_neB 68 dX8_says_59 rfl (fun c_4 => ?_) (fun c_4 => ?_)
        · obtain ⟨y, hy, ey⟩ := p_el_ex c_4 (by omega)
          rw [ey]
          refine e_aload_n dX8_says_68 rfl ?_
          refine e_getr (o2 := 1) dX8_says_69 ff_X8_10 rfl (fx_pi_lt (by decide)) (by decide) rfl (hL _ _ _ rfl) ?_
          refine e_getr (o2 := 2) dX8_says_72 ff_X8_62 rfl (fx_pi_lt (by decide)) (by decide) rfl (hL _ _ _ rfl) ?_
          refine e_iload_n dX8_says_75 rfl ?_
          refine e_aald (j := y) (o2 := 1 + 3 + y) dX8_says_76 rfl (Or.inl rfl) (fx_pi_lt (by decide)) rfl (by omega) (by decide) (fx_s1.ra hL (by omega)) ?_
          refine e_astore dX8_says_77 (by decide) rfl ?_
          refine e_aload dX8_says_79 rfl ?_
          refine e_iload_n dX8_says_81 rfl ?_
          refine e_callV1 (μ' := mX0_isOf) (ci := 0) (As := [.int k]) dX8_says_82 wl_X8_140 ok_X0_isOf (fx_s1.sa (by omega)) rfl (fx_pi_lt (fx_s1.la (by omega))) (by decide) (Nat.le_of_ble_eq_true rfl) fx_n1 (s_X0_isOfA (m := m) (1 + 3 + y) (fx_s1.sa (by omega)) (fx_s1.la (by omega)) (hkd _ (by omega)) k) rfl ?_
          refine e_if_eqB 97 dX8_says_85 rfl (fun c_5 => ?_) (fun c_5 => ?_)
          · refine e_aload_n dX8_says_97 rfl ?_
            refine e_iconst dX8_says_98 kci_2 ?_
            refine e_callV1 (μ' := mX8_refuse) (ci := 8) (As := [.int 2]) dX8_says_99 wl_X8_77 ok_X8_refuse rfl rfl (fx_pi_lt (by decide)) (by decide) (Nat.le_of_ble_eq_true rfl) fx_n1 (s_X8_refuse (m := m) hL 2 (by first | decide | omega) (by first | decide | omega)) rfl ?_
            have hq : q_says (fx_ar m 1) na (fun k => m.1 (67 + 2 * k) 1) (fun k => m.1 (67 + 2 * k) 3) (nI z) k = (2, -(nI 2)) := by first | (unfold q_says; (try dsimp only); (try dsimp only); (try rw [p_ix_n (show z < 2 ^ 31 by omega)]); (try (first | rw [if_pos c_1] | rw [if_neg c_1] | rw [if_neg (Decidable.not_not.mpr c_1)])); (try (first | rw [if_pos c_2] | rw [if_neg c_2] | rw [if_neg (Decidable.not_not.mpr c_2)])); (try (first | rw [if_pos c_3] | rw [if_neg c_3] | rw [if_neg (Decidable.not_not.mpr c_3)])); (try (first | rw [if_pos c_4] | rw [if_neg c_4] | rw [if_neg (Decidable.not_not.mpr c_4)])); (try (first | rw [if_pos c_5] | rw [if_neg c_5] | rw [if_neg (Decidable.not_not.mpr c_5)])); (try simp only [ey, p_ix_n (show y < 2 ^ 31 by omega)]); (try (first | rw [if_pos c_5] | rw [if_neg c_5] | rw [if_neg (Decidable.not_not.mpr c_5)])); (try rfl); done) | (exfalso; first | contradiction | (simp_all; done))
            exact e_iret dX8_says_102 rfl rfl rfl ⟨by rw [hq], by rw [hq]; exact (fx_no_n (by first | decide | omega)).symm⟩
          · refine e_aload dX8_says_88 rfl ?_
            refine e_iload_n dX8_says_90 rfl ?_
            refine e_callV1 (μ' := mX0_saysAs) (ci := 0) (As := [.int k]) dX8_says_91 wl_X8_143 ok_X0_saysAs (fx_s1.sa (by omega)) rfl (fx_pi_lt (fx_s1.la (by omega))) (by decide) (Nat.le_of_ble_eq_true rfl) fx_n1 (s_X0_saysAs (m := m) (1 + 3 + y) (fx_s1.sa (by omega)) (fx_s1.la (by omega)) k) rfl ?_
            refine e_goto 102 dX8_says_94 rfl ?_
            have hq : q_says (fx_ar m 1) na (fun k => m.1 (67 + 2 * k) 1) (fun k => m.1 (67 + 2 * k) 3) (nI z) k = (0, p_says (m.1 (1 + 3 + y)) k) := by first | (unfold q_says; (try dsimp only); (try dsimp only); (try rw [p_ix_n (show z < 2 ^ 31 by omega)]); (try (first | rw [if_pos c_1] | rw [if_neg c_1] | rw [if_neg (Decidable.not_not.mpr c_1)])); (try (first | rw [if_pos c_2] | rw [if_neg c_2] | rw [if_neg (Decidable.not_not.mpr c_2)])); (try (first | rw [if_pos c_3] | rw [if_neg c_3] | rw [if_neg (Decidable.not_not.mpr c_3)])); (try (first | rw [if_pos c_4] | rw [if_neg c_4] | rw [if_neg (Decidable.not_not.mpr c_4)])); (try (first | rw [if_pos c_5] | rw [if_neg c_5] | rw [if_neg (Decidable.not_not.mpr c_5)])); (try simp only [ey, p_ix_n (show y < 2 ^ 31 by omega)]); (try (first | rw [if_pos c_5] | rw [if_neg c_5] | rw [if_neg (Decidable.not_not.mpr c_5)])); (try rfl); done) | (exfalso; first | contradiction | (simp_all; done))
            exact e_iret dX8_says_102 rfl rfl rfl ⟨by rw [hq], by rw [hq]; rfl⟩
        · refine e_aload_n dX8_says_62 rfl ?_
          refine e_iconst dX8_says_63 kci_3 ?_
          refine e_callV1 (μ' := mX8_refuse) (ci := 8) (As := [.int 3]) dX8_says_64 wl_X8_77 ok_X8_refuse rfl rfl (fx_pi_lt (by decide)) (by decide) (Nat.le_of_ble_eq_true rfl) fx_n1 (s_X8_refuse (m := m) hL 3 (by first | decide | omega) (by first | decide | omega)) rfl ?_
          have hq : q_says (fx_ar m 1) na (fun k => m.1 (67 + 2 * k) 1) (fun k => m.1 (67 + 2 * k) 3) (nI z) k = (3, -(nI 3)) := by first | (unfold q_says; (try dsimp only); (try dsimp only); (try rw [p_ix_n (show z < 2 ^ 31 by omega)]); (try (first | rw [if_pos c_1] | rw [if_neg c_1] | rw [if_neg (Decidable.not_not.mpr c_1)])); (try (first | rw [if_pos c_2] | rw [if_neg c_2] | rw [if_neg (Decidable.not_not.mpr c_2)])); (try (first | rw [if_pos c_3] | rw [if_neg c_3] | rw [if_neg (Decidable.not_not.mpr c_3)])); (try (first | rw [if_pos c_4] | rw [if_neg c_4] | rw [if_neg (Decidable.not_not.mpr c_4)])); (try rfl); done) | (exfalso; first | contradiction | (simp_all; done))
          exact e_iret dX8_says_67 rfl rfl rfl ⟨by rw [hq], by rw [hq]; exact (fx_no_n (by first | decide | omega)).symm⟩
      · refine e_aload_n dX8_says_35 rfl ?_
        refine e_iconst dX8_says_36 kci_2 ?_
        refine e_callV1 (μ' := mX8_refuse) (ci := 8) (As := [.int 2]) dX8_says_37 wl_X8_77 ok_X8_refuse rfl rfl (fx_pi_lt (by decide)) (by decide) (Nat.le_of_ble_eq_true rfl) fx_n1 (s_X8_refuse (m := m) hL 2 (by first | decide | omega) (by first | decide | omega)) rfl ?_
        have hq : q_says (fx_ar m 1) na (fun k => m.1 (67 + 2 * k) 1) (fun k => m.1 (67 + 2 * k) 3) (nI z) k = (2, -(nI 2)) := by first | (unfold q_says; (try dsimp only); (try dsimp only); (try rw [p_ix_n (show z < 2 ^ 31 by omega)]); (try (first | rw [if_pos c_1] | rw [if_neg c_1] | rw [if_neg (Decidable.not_not.mpr c_1)])); (try (first | rw [if_pos c_2] | rw [if_neg c_2] | rw [if_neg (Decidable.not_not.mpr c_2)])); (try (first | rw [if_pos c_3] | rw [if_neg c_3] | rw [if_neg (Decidable.not_not.mpr c_3)])); (try rfl); done) | (exfalso; first | contradiction | (simp_all; done))
        exact e_iret dX8_says_40 rfl rfl rfl ⟨by rw [hq], by rw [hq]; exact (fx_no_n (by first | decide | omega)).symm⟩
    · refine e_aload_n dX8_says_17 rfl ?_
      refine e_iconst dX8_says_18 kci_1 ?_
      refine e_callV1 (μ' := mX8_refuse) (ci := 8) (As := [.int 1]) dX8_says_19 wl_X8_77 ok_X8_refuse rfl rfl (fx_pi_lt (by decide)) (by decide) (Nat.le_of_ble_eq_true rfl) fx_n1 (s_X8_refuse (m := m) hL 1 (by first | decide | omega) (by first | decide | omega)) rfl ?_
      have hq : q_says (fx_ar m 1) na (fun k => m.1 (67 + 2 * k) 1) (fun k => m.1 (67 + 2 * k) 3) s k = (1, -(nI 1)) := by first | (unfold q_says; (try dsimp only); (try (first | rw [if_pos c_1] | rw [if_neg c_1] | rw [if_neg (Decidable.not_not.mpr c_1)])); (try (first | rw [if_pos c_2] | rw [if_neg c_2] | rw [if_neg (Decidable.not_not.mpr c_2)])); (try rfl); done) | (exfalso; first | contradiction | (simp_all; done))
      exact e_iret dX8_says_22 rfl rfl rfl ⟨by rw [hq], by rw [hq]; exact (fx_no_n (by first | decide | omega)).symm⟩
