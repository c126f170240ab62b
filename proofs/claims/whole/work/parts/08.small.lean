theorem fx_inc1 (x : Int32) : x + Int32.ofInt 1 = x + 1 := by rw [kci_1]
theorem fx_rd0 {m : fx_M} {o k : Nat} {v : Int32} : (fx_sI m o k v).1 o k = v := by simp [fx_sI]
theorem fx_rd1 {m : fx_M} {o o2 k j : Nat} {v : Int32} (h : o ≠ o2) : (fx_sI m o k v).1 o2 j = m.1 o2 j := by simp [fx_sI, Ne.symm h]
theorem fx_rd2 {m : fx_M} {o k j : Nat} {v : Int32} (h : k ≠ j) : (fx_sI m o k v).1 o j = m.1 o j := by simp [fx_sI, Ne.symm h]
abbrev p_in (v lo hi : Int32) : Prop := lo ≤ v ∧ v ≤ hi
theorem p_in_n {b lo hi : Nat} (h1 : lo ≤ b) (h2 : b ≤ hi) (hb : hi < 2 ^ 31) : p_in (nI b) (nI lo) (nI hi) := ⟨nI_le h1 (by omega), nI_le h2 hb⟩
theorem p_in_ex {v : Int32} {hi : Nat} (h : p_in v 0 (nI hi)) (hb : hi < 2 ^ 31) : ∃ j : Nat, j ≤ hi ∧ v = nI j := by
  have h0 : ¬ v < 0 := Int32.not_lt.mpr h.1
  exact nI_of2 (nI_toInt hb) h0 h.2
theorem p_in_not {b lo hi : Nat} (h : b < lo ∨ hi < b) (hl : lo < 2 ^ 31) (hb : b < 2 ^ 31) (hh : hi < 2 ^ 31) : ¬ p_in (nI b) (nI lo) (nI hi) := by
  rintro ⟨h1, h2⟩
  rcases h with h | h
  · exact absurd h1 (nI_ge h hl)
  · exact absurd h2 (nI_ge h hb)
set_option maxRecDepth 100000 in
set_option maxHeartbeats 600000 in
theorem s_X8_within {Γ : fx_G} {m : fx_M} (v a b : Int32) : fx_Ct Γ mX8_within 0 119 119 [.int v, .int a, .int b] m (fx_is (some (.int (if p_in v a b then 1 else 0))) m) := by
  refine fx_Ct.of (j := 0) (by decide) (Nat.le_of_ble_eq_true rfl) (Nat.le_of_ble_eq_true rfl) ?_
  show fx_E Γ mX8_within 0 119 119 _ 119 m 0 [some (.int v), some (.int a), some (.int b)] []
  refine e_iload_n dX8_within_0 rfl ?_
  refine e_iload_n dX8_within_1 rfl ?_
  refine e_icmp_lt 14 dX8_within_2 rfl (fun c_1 => ?_) (fun c_1 => ?_)
  · refine e_iconst dX8_within_14 kci_0 ?_
    exact e_iret dX8_within_15 rfl rfl rfl ⟨by rw [if_neg (by rintro ⟨h1, h2⟩; first | exact absurd h1 (Int32.not_le.mpr c_1) | exact absurd h2 (Int32.not_le.mpr c_2))], rfl⟩
  · refine e_iload_n dX8_within_5 rfl ?_
    refine e_iload_n dX8_within_6 rfl ?_
    refine e_icmp_gt 14 dX8_within_7 rfl (fun c_2 => ?_) (fun c_2 => ?_)
    · refine e_iconst dX8_within_14 kci_0 ?_
      exact e_iret dX8_within_15 rfl rfl rfl ⟨by rw [if_neg (by rintro ⟨h1, h2⟩; first | exact absurd h1 (Int32.not_le.mpr c_1) | exact absurd h2 (Int32.not_le.mpr c_2))], rfl⟩
    · refine e_iconst dX8_within_10 kci_1 ?_
      refine e_goto 15 dX8_within_11 rfl ?_
      exact e_iret dX8_within_15 rfl rfl rfl ⟨by rw [if_pos ⟨Int32.not_lt.mp c_1, Int32.not_lt.mp c_2⟩], rfl⟩
set_option maxRecDepth 100000 in
set_option maxHeartbeats 600000 in
theorem s_X8_isFigure {Γ : fx_G} {m : fx_M} (v : Int32) : fx_Ct Γ mX8_isFigure 1 119 119 [.int v] m (fx_is (some (.int (if p_in v 0 9 then 1 else 0))) m) := by
  refine fx_Ct.of (j := 0) (by decide) (Nat.le_of_ble_eq_true rfl) (Nat.le_of_ble_eq_true rfl) ?_
  show fx_E Γ mX8_isFigure 1 119 119 _ 119 m 0 [some (.int v)] []
  refine e_iload_n dX8_isFigure_0 rfl ?_
  refine e_iconst dX8_isFigure_1 kci_0 ?_
  refine e_bipush dX8_isFigure_2 kcb_9 ?_
  refine e_callS1 (μ' := mX8_within) (As := [.int v, .int 0, .int 9]) dX8_isFigure_4 wl_X8_81 ok_X8_within (by decide) (Nat.le_of_ble_eq_true rfl) fx_n1 (s_X8_within (m := m) v 0 9) rfl ?_
  exact e_iret dX8_isFigure_7 rfl rfl (by split <;> rfl) ⟨rfl, rfl⟩
set_option maxRecDepth 100000 in
set_option maxHeartbeats 600000 in
theorem s_X8_isSide {Γ : fx_G} {m : fx_M} (v : Int32) : fx_Ct Γ mX8_isSide 1 119 119 [.int v] m (fx_is (some (.int (if p_in v 0 1 then 1 else 0))) m) := by
  refine fx_Ct.of (j := 0) (by decide) (Nat.le_of_ble_eq_true rfl) (Nat.le_of_ble_eq_true rfl) ?_
  show fx_E Γ mX8_isSide 1 119 119 _ 119 m 0 [some (.int v)] []
  refine e_iload_n dX8_isSide_0 rfl ?_
  refine e_iconst dX8_isSide_1 kci_0 ?_
  refine e_iconst dX8_isSide_2 kci_1 ?_
  refine e_callS1 (μ' := mX8_within) (As := [.int v, .int 0, .int 1]) dX8_isSide_3 wl_X8_81 ok_X8_within (by decide) (Nat.le_of_ble_eq_true rfl) fx_n1 (s_X8_within (m := m) v 0 1) rfl ?_
  exact e_iret dX8_isSide_6 rfl rfl (by split <;> rfl) ⟨rfl, rfl⟩
set_option maxRecDepth 100000 in
set_option maxHeartbeats 600000 in
theorem s_X8_isShelf {Γ : fx_G} {m : fx_M} (v : Int32) : fx_Ct Γ mX8_isShelf 1 119 119 [.int v] m (fx_is (some (.int (if p_in v 0 7 then 1 else 0))) m) := by
  refine fx_Ct.of (j := 0) (by decide) (Nat.le_of_ble_eq_true rfl) (Nat.le_of_ble_eq_true rfl) ?_
  show fx_E Γ mX8_isShelf 1 119 119 _ 119 m 0 [some (.int v)] []
  refine e_iload_n dX8_isShelf_0 rfl ?_
  refine e_iconst dX8_isShelf_1 kci_0 ?_
  refine e_bipush dX8_isShelf_2 kcb_7 ?_
  refine e_callS1 (μ' := mX8_within) (As := [.int v, .int 0, .int 7]) dX8_isShelf_4 wl_X8_81 ok_X8_within (by decide) (Nat.le_of_ble_eq_true rfl) fx_n1 (s_X8_within (m := m) v 0 7) rfl ?_
  exact e_iret dX8_isShelf_7 rfl rfl (by split <;> rfl) ⟨rfl, rfl⟩
set_option maxRecDepth 100000 in
set_option maxHeartbeats 600000 in
theorem s_X8_refuse {Γ : fx_G} {m : fx_M} (hL : fx_Lay m) (b : Nat) (h1 : 1 ≤ b) (h7 : b ≤ 7) : fx_Ct Γ mX8_refuse 1 119 119 [fx_rf Γ 0, .int (nI b)] m (fx_is (some (.int (-(nI b)))) (fx_sI m 50 b (m.1 50 b + 1))) := by
  refine fx_Ct.of (j := 0) (by decide) (Nat.le_of_ble_eq_true rfl) (Nat.le_of_ble_eq_true rfl) ?_
  show fx_E Γ mX8_refuse 1 119 119 _ 119 m 0 [some (fx_rf Γ 0), some (.int (nI b))] []
  refine e_iload_n dX8_refuse_0 rfl ?_
  refine e_iconst dX8_refuse_1 kci_1 ?_
  refine e_bipush dX8_refuse_2 kcb_7 ?_
  refine e_callS1 (μ' := mX8_within) (As := [.int (nI b), .int 1, .int 7]) dX8_refuse_4 wl_X8_81 ok_X8_within (by decide) (Nat.le_of_ble_eq_true rfl) fx_n1 (s_X8_within (m := m) (nI b) 1 7) rfl ?_
  refine e_if_eqB 20 dX8_refuse_7 rfl (fun h => absurd h (not_not_intro (p_in_n h1 h7 (by decide)))) (fun _ => ?_)
  refine e_aload_n dX8_refuse_10 rfl ?_
  refine e_getr (o2 := 50) dX8_refuse_11 ff_X8_32 rfl (fx_pi_lt (by decide)) (by decide) rfl (hL _ _ _ rfl) ?_
  refine e_iload_n dX8_refuse_14 rfl ?_
  refine e_dup2 dX8_refuse_15 rfl rfl ?_
  refine e_iald (j := b) dX8_refuse_16 rfl (fx_pi_lt (by decide)) rfl (by omega) (by decide) ?_
  refine e_iconst dX8_refuse_17 kci_1 ?_
  refine e_iadd dX8_refuse_18 ?_
  refine e_iast (j := b) dX8_refuse_19 rfl (fx_pi_lt (by decide)) rfl (by omega) (by decide) ?_
  refine e_iload_n dX8_refuse_20 rfl ?_
  refine e_ineg dX8_refuse_21 ?_
  exact e_iret dX8_refuse_22 rfl rfl rfl ⟨rfl, rfl⟩
set_option maxRecDepth 100000 in
set_option maxHeartbeats 600000 in
theorem s_X8_refuseApart {Γ : fx_G} {m : fx_M} (hL : fx_Lay m) (b : Nat) (h1 : 1 ≤ b) (h7 : b ≤ 7) : fx_Ct Γ mX8_refuseApart 2 119 119 [fx_rf Γ 0, .int (nI b)] m (fx_is (some (.int (-(nI b) - 10))) (fx_sI m 50 b (m.1 50 b + 1))) := by
  refine fx_Ct.of (j := 0) (by decide) (Nat.le_of_ble_eq_true rfl) (Nat.le_of_ble_eq_true rfl) ?_
  show fx_E Γ mX8_refuseApart 2 119 119 _ 119 m 0 [some (fx_rf Γ 0), some (.int (nI b))] []
  refine e_aload_n dX8_refuseApart_0 rfl ?_
  refine e_iload_n dX8_refuseApart_1 rfl ?_
  refine e_callV1 (μ' := mX8_refuse) (ci := 8) (As := [.int (nI b)]) dX8_refuseApart_2 wl_X8_77 ok_X8_refuse rfl rfl (fx_pi_lt (by decide)) (by decide) (Nat.le_of_ble_eq_true rfl) fx_n1 (s_X8_refuse (m := m) hL b (by first | decide | omega) (by first | decide | omega)) rfl ?_
  refine e_bipush dX8_refuseApart_5 kcb_10 ?_
  refine e_isub dX8_refuseApart_7 ?_
  exact e_iret dX8_refuseApart_8 rfl rfl rfl ⟨rfl, rfl⟩
/-- a shelf's cells: the shelf at h, its elements behind it -/
def fx_Sf (h : Nat) : Prop := ∃ s, s < 8 ∧ h = 67 + 2 * s
theorem fx_Sf.sh {h : Nat} (H : fx_Sf h) : fx_shapes[h]? = some (10 + 5, 4) := by
  obtain ⟨s, hs, rfl⟩ := H
  have : s = 0 ∨ s = 1 ∨ s = 2 ∨ s = 3 ∨ s = 4 ∨ s = 5 ∨ s = 6 ∨ s = 7 := by omega
  rcases this with rfl | rfl | rfl | rfl | rfl | rfl | rfl | rfl <;> rfl
theorem fx_Sf.she {h : Nat} (H : fx_Sf h) : fx_shapes[h + 1]? = some (1, 160) := by
  obtain ⟨s, hs, rfl⟩ := H
  have : s = 0 ∨ s = 1 ∨ s = 2 ∨ s = 3 ∨ s = 4 ∨ s = 5 ∨ s = 6 ∨ s = 7 := by omega
  rcases this with rfl | rfl | rfl | rfl | rfl | rfl | rfl | rfl <;> rfl
theorem fx_Sf.lt {h : Nat} (H : fx_Sf h) : h < 119 := by obtain ⟨s, hs, rfl⟩ := H; omega
theorem fx_Sf.lte {h : Nat} (H : fx_Sf h) : h + 1 < 119 := by obtain ⟨s, hs, rfl⟩ := H; omega
theorem fx_Sf.el {m : fx_M} {h : Nat} (H : fx_Sf h) (hL : fx_Lay m) : m.2.2 h 0 = some (h + 1) := by
  obtain ⟨s, hs, rfl⟩ := H
  have : s = 0 ∨ s = 1 ∨ s = 2 ∨ s = 3 ∨ s = 4 ∨ s = 5 ∨ s = 6 ∨ s = 7 := by omega
  rcases this with rfl | rfl | rfl | rfl | rfl | rfl | rfl | rfl <;> exact hL _ _ _ rfl
set_option maxRecDepth 100000 in
set_option maxHeartbeats 600000 in
theorem s_X5_holdNothing {Γ : fx_G} {m : fx_M} (h : Nat) (H : fx_Sf h) : fx_Ct Γ mX5_holdNothing 0 119 119 [fx_rf Γ h] m (fx_is none (fx_sI (fx_sI (fx_sI m h 1 (-1)) h 2 0) h 3 (-1))) := by
  refine fx_Ct.of (j := 0) (by decide) (Nat.le_of_ble_eq_true rfl) (Nat.le_of_ble_eq_true rfl) ?_
  show fx_E Γ mX5_holdNothing 0 119 119 _ 119 m 0 [some (fx_rf Γ h)] []
  refine e_aload_n dX5_holdNothing_0 rfl ?_
  refine e_iconst dX5_holdNothing_1 kci_m1 ?_
  refine e_put dX5_holdNothing_2 ff_X5_15 H.sh (fx_pi_lt H.lt) (by decide) rfl (Or.inl rfl) ?_
  refine e_aload_n dX5_holdNothing_5 rfl ?_
  refine e_iconst dX5_holdNothing_6 kci_0 ?_
  refine e_put dX5_holdNothing_7 ff_X5_19 H.sh (fx_pi_lt H.lt) (by decide) rfl (Or.inl rfl) ?_
  refine e_aload_n dX5_holdNothing_10 rfl ?_
  refine e_iconst dX5_holdNothing_11 kci_m1 ?_
  refine e_put dX5_holdNothing_12 ff_X5_22 H.sh (fx_pi_lt H.lt) (by decide) rfl (Or.inl rfl) ?_
  exact e_vret dX5_holdNothing_15 rfl rfl ⟨rfl, rfl⟩
set_option maxRecDepth 100000 in
set_option maxHeartbeats 600000 in
theorem s_X5_holdArm {Γ : fx_G} {m : fx_M} (h : Nat) (H : fx_Sf h) (x : Int32) : fx_Ct Γ mX5_holdArm 1 119 119 [fx_rf Γ h, .int x] m (fx_is none (fx_sI (fx_sI (fx_sI (fx_sI m h 1 (-1)) h 2 0) h 3 (-1)) h 3 x)) := by
  refine fx_Ct.of (j := 0) (by decide) (Nat.le_of_ble_eq_true rfl) (Nat.le_of_ble_eq_true rfl) ?_
  show fx_E Γ mX5_holdArm 1 119 119 _ 119 m 0 [some (fx_rf Γ h), some (.int x)] []
  refine e_aload_n dX5_holdArm_0 rfl ?_
  refine e_callV1 (μ' := mX5_holdNothing) (ci := 5) (As := []) dX5_holdArm_1 wl_X5_25 ok_X5_holdNothing H.sh rfl (fx_pi_lt H.lt) (by decide) (Nat.le_of_ble_eq_true rfl) fx_n1 (s_X5_holdNothing (m := m) h H ) rfl ?_
  refine e_aload_n dX5_holdArm_4 rfl ?_
  refine e_iload_n dX5_holdArm_5 rfl ?_
  refine e_put dX5_holdArm_6 ff_X5_22 H.sh (fx_pi_lt H.lt) (by decide) rfl (Or.inl rfl) ?_
  exact e_vret dX5_holdArm_9 rfl rfl ⟨rfl, rfl⟩
set_option maxRecDepth 100000 in
set_option maxHeartbeats 600000 in
theorem s_X5_dropArm {Γ : fx_G} {m : fx_M} (h : Nat) (H : fx_Sf h) : fx_Ct Γ mX5_dropArm 0 119 119 [fx_rf Γ h] m (fx_is none (fx_sI m h 3 (-1))) := by
  refine fx_Ct.of (j := 0) (by decide) (Nat.le_of_ble_eq_true rfl) (Nat.le_of_ble_eq_true rfl) ?_
  show fx_E Γ mX5_dropArm 0 119 119 _ 119 m 0 [some (fx_rf Γ h)] []
  refine e_aload_n dX5_dropArm_0 rfl ?_
  refine e_iconst dX5_dropArm_1 kci_m1 ?_
  refine e_put dX5_dropArm_2 ff_X5_22 H.sh (fx_pi_lt H.lt) (by decide) rfl (Or.inl rfl) ?_
  exact e_vret dX5_dropArm_5 rfl rfl ⟨rfl, rfl⟩
set_option maxRecDepth 100000 in
set_option maxHeartbeats 600000 in
theorem s_X5_hasRow {Γ : fx_G} {m : fx_M} (h : Nat) (H : fx_Sf h) : fx_Ct Γ mX5_hasRow 0 119 119 [fx_rf Γ h] m (fx_is (some (.int (if m.1 h 1 ≠ -1 then 1 else 0))) m) := by
  refine fx_Ct.of (j := 0) (by decide) (Nat.le_of_ble_eq_true rfl) (Nat.le_of_ble_eq_true rfl) ?_
  show fx_E Γ mX5_hasRow 0 119 119 _ 119 m 0 [some (fx_rf Γ h)] []
  refine e_aload_n dX5_hasRow_0 rfl ?_
  refine e_get dX5_hasRow_1 ff_X5_15 H.sh (fx_pi_lt H.lt) (by decide) rfl ?_
  refine e_iconst dX5_hasRow_4 kci_m1 ?_
  refine e_icmp_eq 12 dX5_hasRow_5 rfl (fun c_1 => ?_) (fun c_1 => ?_)
  · refine e_iconst dX5_hasRow_12 kci_0 ?_
    exact e_iret dX5_hasRow_13 rfl rfl rfl ⟨by simp [*], rfl⟩
  · refine e_iconst dX5_hasRow_8 kci_1 ?_
    refine e_goto 13 dX5_hasRow_9 rfl ?_
    exact e_iret dX5_hasRow_13 rfl rfl rfl ⟨by simp [*], rfl⟩
set_option maxRecDepth 100000 in
set_option maxHeartbeats 600000 in
theorem s_X5_hasArm {Γ : fx_G} {m : fx_M} (h : Nat) (H : fx_Sf h) : fx_Ct Γ mX5_hasArm 0 119 119 [fx_rf Γ h] m (fx_is (some (.int (if m.1 h 3 ≠ -1 then 1 else 0))) m) := by
  refine fx_Ct.of (j := 0) (by decide) (Nat.le_of_ble_eq_true rfl) (Nat.le_of_ble_eq_true rfl) ?_
  show fx_E Γ mX5_hasArm 0 119 119 _ 119 m 0 [some (fx_rf Γ h)] []
  refine e_aload_n dX5_hasArm_0 rfl ?_
  refine e_get dX5_hasArm_1 ff_X5_22 H.sh (fx_pi_lt H.lt) (by decide) rfl ?_
  refine e_iconst dX5_hasArm_4 kci_m1 ?_
  refine e_icmp_eq 12 dX5_hasArm_5 rfl (fun c_1 => ?_) (fun c_1 => ?_)
  · refine e_iconst dX5_hasArm_12 kci_0 ?_
    exact e_iret dX5_hasArm_13 rfl rfl rfl ⟨by simp [*], rfl⟩
  · refine e_iconst dX5_hasArm_8 kci_1 ?_
    refine e_goto 13 dX5_hasArm_9 rfl ?_
    exact e_iret dX5_hasArm_13 rfl rfl rfl ⟨by simp [*], rfl⟩
abbrev p_el (i n : Int32) : Prop := 0 ≤ i ∧ i < n
set_option maxRecDepth 100000 in
set_option maxHeartbeats 600000 in
theorem s_X5_hasElement {Γ : fx_G} {m : fx_M} (h : Nat) (H : fx_Sf h) (i : Int32) : fx_Ct Γ mX5_hasElement 0 119 119 [fx_rf Γ h, .int i] m (fx_is (some (.int (if p_el i (m.1 h 2) then 1 else 0))) m) := by
  refine fx_Ct.of (j := 0) (by decide) (Nat.le_of_ble_eq_true rfl) (Nat.le_of_ble_eq_true rfl) ?_
  show fx_E Γ mX5_hasElement 0 119 119 _ 119 m 0 [some (fx_rf Γ h), some (.int i)] []
  refine e_iload_n dX5_hasElement_0 rfl ?_
  refine e_if_lt 16 dX5_hasElement_1 rfl (fun c_1 => ?_) (fun c_1 => ?_)
  · refine e_iconst dX5_hasElement_16 kci_0 ?_
    exact e_iret dX5_hasElement_17 rfl rfl rfl ⟨by rw [if_neg (by rintro ⟨h1, h2⟩; first | exact absurd h1 (Int32.not_le.mpr c_1) | exact absurd h2 (Int32.not_lt.mpr c_2))], rfl⟩
  · refine e_iload_n dX5_hasElement_4 rfl ?_
    refine e_aload_n dX5_hasElement_5 rfl ?_
    refine e_get dX5_hasElement_6 ff_X5_19 H.sh (fx_pi_lt H.lt) (by decide) rfl ?_
    refine e_icmp_ge 16 dX5_hasElement_9 rfl (fun c_2 => ?_) (fun c_2 => ?_)
    · refine e_iconst dX5_hasElement_16 kci_0 ?_
      exact e_iret dX5_hasElement_17 rfl rfl rfl ⟨by rw [if_neg (by rintro ⟨h1, h2⟩; first | exact absurd h1 (Int32.not_le.mpr c_1) | exact absurd h2 (Int32.not_lt.mpr c_2))], rfl⟩
    · refine e_iconst dX5_hasElement_12 kci_1 ?_
      refine e_goto 17 dX5_hasElement_13 rfl ?_
      exact e_iret dX5_hasElement_17 rfl rfl rfl ⟨by rw [if_pos ⟨Int32.not_lt.mp c_1, Int32.not_le.mp c_2⟩], rfl⟩
set_option maxRecDepth 100000 in
set_option maxHeartbeats 600000 in
theorem s_X5_hasStretch {Γ : fx_G} {m : fx_M} (h : Nat) (H : fx_Sf h) (i k : Int32) : fx_Ct Γ mX5_hasStretch 0 119 119 [fx_rf Γ h, .int i, .int k] m (fx_is (some (.int (if 0 ≤ i ∧ i ≤ m.1 h 2 - k then 1 else 0))) m) := by
  refine fx_Ct.of (j := 0) (by decide) (Nat.le_of_ble_eq_true rfl) (Nat.le_of_ble_eq_true rfl) ?_
  show fx_E Γ mX5_hasStretch 0 119 119 _ 119 m 0 [some (fx_rf Γ h), some (.int i), some (.int k)] []
  refine e_iload_n dX5_hasStretch_0 rfl ?_
  refine e_if_lt 18 dX5_hasStretch_1 rfl (fun c_1 => ?_) (fun c_1 => ?_)
  · refine e_iconst dX5_hasStretch_18 kci_0 ?_
    exact e_iret dX5_hasStretch_19 rfl rfl rfl ⟨by rw [if_neg (by rintro ⟨h1, h2⟩; first | exact absurd h1 (Int32.not_le.mpr c_1) | exact absurd h2 (Int32.not_le.mpr c_2))], rfl⟩
  · refine e_iload_n dX5_hasStretch_4 rfl ?_
    refine e_aload_n dX5_hasStretch_5 rfl ?_
    refine e_get dX5_hasStretch_6 ff_X5_19 H.sh (fx_pi_lt H.lt) (by decide) rfl ?_
    refine e_iload_n dX5_hasStretch_9 rfl ?_
    refine e_isub dX5_hasStretch_10 ?_
    refine e_icmp_gt 18 dX5_hasStretch_11 rfl (fun c_2 => ?_) (fun c_2 => ?_)
    · refine e_iconst dX5_hasStretch_18 kci_0 ?_
      exact e_iret dX5_hasStretch_19 rfl rfl rfl ⟨by rw [if_neg (by rintro ⟨h1, h2⟩; first | exact absurd h1 (Int32.not_le.mpr c_1) | exact absurd h2 (Int32.not_le.mpr c_2))], rfl⟩
    · refine e_iconst dX5_hasStretch_14 kci_1 ?_
      refine e_goto 19 dX5_hasStretch_15 rfl ?_
      exact e_iret dX5_hasStretch_19 rfl rfl rfl ⟨by rw [if_pos ⟨Int32.not_lt.mp c_1, Int32.not_lt.mp c_2⟩], rfl⟩
theorem p_el_ex {i : Int32} {c : Nat} (h : p_el i (nI c)) (hc : c < 2 ^ 31) : ∃ j : Nat, j < c ∧ i = nI j := by
  obtain ⟨j, hj, rfl⟩ := nI_of (Int32.not_lt.mpr h.1)
  exact ⟨j, (nI_ltI hj hc).mp h.2, rfl⟩
/-- an element as an int; -1 where there is none -/
def p_rd (L : Nat → Int64) (n i : Int32) : Int32 := if p_el i n then (L i.toNatClampNeg).toInt32 else -1
theorem p_rd_in {L : Nat → Int64} {c j : Nat} (hj : j < c) (hc : c < 2 ^ 31) : p_rd L (nI c) (nI j) = (L j).toInt32 := by
  rw [p_rd, if_pos ⟨nI_pos' (by omega), nI_lt hj hc⟩, nI_clamp (by omega)]
theorem p_rd_out {L : Nat → Int64} {n i : Int32} (h : ¬ p_el i n) : p_rd L n i = -1 := if_neg h
set_option maxRecDepth 100000 in
set_option maxHeartbeats 600000 in
theorem s_X5_read {Γ : fx_G} {m : fx_M} (h : Nat) (H : fx_Sf h) (hL : fx_Lay m) (c : Nat) (hc : c ≤ 160) (hm : m.1 h 2 = nI c) (i : Int32) : fx_Ct Γ mX5_read 0 119 119 [fx_rf Γ h, .int i] m (fx_is (some (.int (p_rd (m.2.1 (h + 1)) (nI c) i))) m) := by
  refine fx_Ct.of (j := 0) (by decide) (Nat.le_of_ble_eq_true rfl) (Nat.le_of_ble_eq_true rfl) ?_
  show fx_E Γ mX5_read 0 119 119 _ 119 m 0 [some (fx_rf Γ h), some (.int i)] []
  refine e_iload_n dX5_read_0 rfl ?_
  refine e_if_lt 22 dX5_read_1 rfl (fun c_1 => ?_) (fun c_1 => ?_)
  · refine e_iconst dX5_read_22 kci_m1 ?_
    exact e_iret dX5_read_23 rfl rfl rfl ⟨by rw [p_rd_out (by rintro ⟨h1, h2⟩; first | exact absurd h1 (Int32.not_le.mpr c_1) | exact absurd h2 (Int32.not_lt.mpr (by rw [← hm]; exact c_2)))], rfl⟩
  · refine e_iload_n dX5_read_4 rfl ?_
    refine e_aload_n dX5_read_5 rfl ?_
    refine e_get dX5_read_6 ff_X5_19 H.sh (fx_pi_lt H.lt) (by decide) rfl ?_
    refine e_icmp_ge 22 dX5_read_9 rfl (fun c_2 => ?_) (fun c_2 => ?_)
    · refine e_iconst dX5_read_22 kci_m1 ?_
      exact e_iret dX5_read_23 rfl rfl rfl ⟨by rw [p_rd_out (by rintro ⟨h1, h2⟩; first | exact absurd h1 (Int32.not_le.mpr c_1) | exact absurd h2 (Int32.not_lt.mpr (by rw [← hm]; exact c_2)))], rfl⟩
    · have hel : p_el i (nI c) := ⟨Int32.not_lt.mp c_1, by rw [← hm]; exact Int32.not_le.mp c_2⟩
      obtain ⟨j, hj, hij⟩ := p_el_ex hel (by omega)
      refine e_aload_n dX5_read_12 rfl ?_
      refine e_getr (o2 := h + 1) dX5_read_13 ff_X5_11 H.sh (fx_pi_lt H.lt) (by decide) rfl (H.el hL) ?_
      refine e_iload_n dX5_read_16 rfl ?_
      refine e_lald (j := j) dX5_read_17 H.she (fx_pi_lt H.lte) hij (by omega) (by decide) ?_
      refine e_l2i dX5_read_18 ?_
      refine e_goto 23 dX5_read_19 rfl ?_
      exact e_iret dX5_read_23 rfl rfl rfl ⟨by rw [hij, p_rd_in hj (by omega)], rfl⟩
