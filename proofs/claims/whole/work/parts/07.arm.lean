/-! what the arms and dolls say: A an arm's record (kind, a, side, size, shade, wear, spot), D a doll's (size, shade, wear, wish, minutes, tears, bears, days) -/
def p_min9 (v : Int32) : Int32 := if 9 < v then 9 else v
def p_shade (A : Nat → Int32) (x : Int32) : Int32 := if A 0 = 1 ∨ A 0 = 3 ∨ A 0 = 6 then p_min9 (x + A 1) else x
def p_wear (A : Nat → Int32) (x : Int32) : Int32 := if A 0 = 2 then 0 else if A 0 = 5 then 9 - A 1 else if A 0 = 3 then p_min9 (x + 1) else if A 0 = 6 then p_min9 (x + 1 + A 1) else x
abbrev p_fit (A D : Nat → Int32) (s : Int32) : Prop := (A 0 = 4 ∨ A 2 = s) ∧ p_abs (A 3 - D 0) ≤ (if A 0 = 6 then 2 else 1)
def p_far (A D : Nat → Int32) (sh we : Int32) : Int32 := if D 3 = 2 then 2 * p_abs (A 3 - D 0) else 2 * p_abs (A 3 - D 0) + p_abs (p_shade A sh - D 1) + (if D 3 = 1 then p_wear A we else p_abs (p_wear A we - D 2))
def p_fig (A : Nat → Int32) (w : Int32) : Int32 := if w = 0 then A 0 else if w = 1 then A 1 else if w = 2 then A 2 else if w = 3 then A 3 else if w = 4 then A 4 else if w = 5 then A 5 else if w = 6 then p_shade A (A 4) else if w = 7 then p_wear A (A 5) else A 6
def p_figD (D : Nat → Int32) (w : Int32) : Int32 := if w = 0 then D 0 else if w = 1 then D 1 else if w = 2 then D 2 else if w = 3 then D 3 else if w = 4 then D 4 else if w = 5 then D 5 else if w = 6 then D 6 else D 7
def p_says (A : Nat → Int32) (k : Int32) : Int32 := if k = 0 then A 3 else if k = 4 then A 2 else if k = 2 ∨ k = 5 then p_wear A (A 5) else p_shade A (A 4)
theorem p_min9_alt (v : Int32) : p_min 9 v = p_min9 v := by
  unfold p_min9 p_min
  by_cases h : v < 9
  · rw [if_pos h, if_neg]
    intro h2
    rw [Int32.lt_iff_toInt_lt] at h h2
    omega
  · rw [if_neg h]
    by_cases h2 : 9 < v
    · rw [if_pos h2]
    · rw [if_neg h2]
      rw [Int32.lt_iff_toInt_lt] at h h2
      exact Int32.toInt_inj.mp (by simp at h h2 ⊢; omega)
set_option maxRecDepth 100000 in
set_option maxHeartbeats 600000 in
theorem s_X0_isInDrawer {Γ : fx_G} {m : fx_M} (o : Nat) (hs : fx_shapes[o]? = some (10 + 0, 7)) (ho : o < 119) : fx_Ct Γ mX0_isInDrawer 0 119 119 [fx_rf Γ o] m (fx_is (some (.int (if m.1 o 6 = 99 then 1 else 0))) m) := by
  refine fx_Ct.of (j := 0) (by decide) (Nat.le_of_ble_eq_true rfl) (Nat.le_of_ble_eq_true rfl) ?_
  show fx_E Γ mX0_isInDrawer 0 119 119 _ 119 m 0 [some (fx_rf Γ o)] []
  refine e_aload_n dX0_isInDrawer_0 rfl ?_
  refine e_get dX0_isInDrawer_1 ff_X0_11 hs (fx_pi_lt ho) (by decide) rfl ?_
  refine e_bipush dX0_isInDrawer_4 kcb_99 ?_
  refine e_icmp_ne 13 dX0_isInDrawer_6 rfl (fun c_1 => ?_) (fun c_1 => ?_)
  · refine e_iconst dX0_isInDrawer_13 kci_0 ?_
    exact e_iret dX0_isInDrawer_14 rfl rfl rfl ⟨by simp [*], rfl⟩
  · refine e_iconst dX0_isInDrawer_9 kci_1 ?_
    refine e_goto 14 dX0_isInDrawer_10 rfl ?_
    exact e_iret dX0_isInDrawer_14 rfl rfl rfl ⟨by simp [*], rfl⟩
set_option maxRecDepth 100000 in
set_option maxHeartbeats 600000 in
theorem s_X0_isOn {Γ : fx_G} {m : fx_M} (o : Nat) (hs : fx_shapes[o]? = some (10 + 0, 7)) (ho : o < 119) (d s : Int32) : fx_Ct Γ mX0_isOn 0 119 119 [fx_rf Γ o, .int d, .int s] m (fx_is (some (.int (if m.1 o 6 = 10 * d + s then 1 else 0))) m) := by
  refine fx_Ct.of (j := 0) (by decide) (Nat.le_of_ble_eq_true rfl) (Nat.le_of_ble_eq_true rfl) ?_
  show fx_E Γ mX0_isOn 0 119 119 _ 119 m 0 [some (fx_rf Γ o), some (.int d), some (.int s)] []
  refine e_aload_n dX0_isOn_0 rfl ?_
  refine e_get dX0_isOn_1 ff_X0_11 hs (fx_pi_lt ho) (by decide) rfl ?_
  refine e_bipush dX0_isOn_4 kcb_10 ?_
  refine e_iload_n dX0_isOn_6 rfl ?_
  refine e_imul dX0_isOn_7 ?_
  refine e_iload_n dX0_isOn_8 rfl ?_
  refine e_iadd dX0_isOn_9 ?_
  refine e_icmp_ne 17 dX0_isOn_10 rfl (fun c_1 => ?_) (fun c_1 => ?_)
  · refine e_iconst dX0_isOn_17 kci_0 ?_
    exact e_iret dX0_isOn_18 rfl rfl rfl ⟨by simp [*], rfl⟩
  · refine e_iconst dX0_isOn_13 kci_1 ?_
    refine e_goto 18 dX0_isOn_14 rfl ?_
    exact e_iret dX0_isOn_18 rfl rfl rfl ⟨by simp [*], rfl⟩
set_option maxRecDepth 100000 in
set_option maxHeartbeats 600000 in
theorem s_X0_comeOn {Γ : fx_G} {m : fx_M} (o : Nat) (hs : fx_shapes[o]? = some (10 + 0, 7)) (ho : o < 119) (d s : Int32) : fx_Ct Γ mX0_comeOn 0 119 119 [fx_rf Γ o, .int d, .int s] m (fx_is none (fx_sI m o 6 (10 * d + s))) := by
  refine fx_Ct.of (j := 0) (by decide) (Nat.le_of_ble_eq_true rfl) (Nat.le_of_ble_eq_true rfl) ?_
  show fx_E Γ mX0_comeOn 0 119 119 _ 119 m 0 [some (fx_rf Γ o), some (.int d), some (.int s)] []
  refine e_aload_n dX0_comeOn_0 rfl ?_
  refine e_bipush dX0_comeOn_1 kcb_10 ?_
  refine e_iload_n dX0_comeOn_3 rfl ?_
  refine e_imul dX0_comeOn_4 ?_
  refine e_iload_n dX0_comeOn_5 rfl ?_
  refine e_iadd dX0_comeOn_6 ?_
  refine e_put dX0_comeOn_7 ff_X0_11 hs (fx_pi_lt ho) (by decide) rfl (Or.inl rfl) ?_
  exact e_vret dX0_comeOn_10 rfl rfl ⟨rfl, rfl⟩
set_option maxRecDepth 100000 in
set_option maxHeartbeats 600000 in
theorem s_X0_comeOff {Γ : fx_G} {m : fx_M} (o : Nat) (hs : fx_shapes[o]? = some (10 + 0, 7)) (ho : o < 119) : fx_Ct Γ mX0_comeOff 0 119 119 [fx_rf Γ o] m (fx_is none (fx_sI m o 6 99)) := by
  refine fx_Ct.of (j := 0) (by decide) (Nat.le_of_ble_eq_true rfl) (Nat.le_of_ble_eq_true rfl) ?_
  show fx_E Γ mX0_comeOff 0 119 119 _ 119 m 0 [some (fx_rf Γ o)] []
  refine e_aload_n dX0_comeOff_0 rfl ?_
  refine e_bipush dX0_comeOff_1 kcb_99 ?_
  refine e_put dX0_comeOff_3 ff_X0_11 hs (fx_pi_lt ho) (by decide) rfl (Or.inl rfl) ?_
  exact e_vret dX0_comeOff_6 rfl rfl ⟨rfl, rfl⟩
set_option maxRecDepth 100000 in
set_option maxHeartbeats 600000 in
theorem s_X0_become {Γ : fx_G} {m : fx_M} (o : Nat) (hs : fx_shapes[o]? = some (10 + 0, 7)) (ho : o < 119) (k a s z h w : Int32) : fx_Ct Γ mX0_become 0 119 119 [fx_rf Γ o, .int k, .int a, .int s, .int z, .int h, .int w] m (fx_is none (fx_sI (fx_sI (fx_sI (fx_sI (fx_sI (fx_sI (fx_sI m o 0 k) o 1 a) o 2 s) o 3 z) o 4 h) o 5 w) o 6 99)) := by
  refine fx_Ct.of (j := 0) (by decide) (Nat.le_of_ble_eq_true rfl) (Nat.le_of_ble_eq_true rfl) ?_
  show fx_E Γ mX0_become 0 119 119 _ 119 m 0 [some (fx_rf Γ o), some (.int k), some (.int a), some (.int s), some (.int z), some (.int h), some (.int w)] []
  refine e_aload_n dX0_become_0 rfl ?_
  refine e_iload_n dX0_become_1 rfl ?_
  refine e_put dX0_become_2 ff_X0_15 hs (fx_pi_lt ho) (by decide) rfl (Or.inl rfl) ?_
  refine e_aload_n dX0_become_5 rfl ?_
  refine e_iload_n dX0_become_6 rfl ?_
  refine e_put dX0_become_7 ff_X0_18 hs (fx_pi_lt ho) (by decide) rfl (Or.inl rfl) ?_
  refine e_aload_n dX0_become_10 rfl ?_
  refine e_iload_n dX0_become_11 rfl ?_
  refine e_put dX0_become_12 ff_X0_21 hs (fx_pi_lt ho) (by decide) rfl (Or.inl rfl) ?_
  refine e_aload_n dX0_become_15 rfl ?_
  refine e_iload dX0_become_16 rfl ?_
  refine e_put dX0_become_18 ff_X0_24 hs (fx_pi_lt ho) (by decide) rfl (Or.inl rfl) ?_
  refine e_aload_n dX0_become_21 rfl ?_
  refine e_iload dX0_become_22 rfl ?_
  refine e_put dX0_become_24 ff_X0_27 hs (fx_pi_lt ho) (by decide) rfl (Or.inl rfl) ?_
  refine e_aload_n dX0_become_27 rfl ?_
  refine e_iload dX0_become_28 rfl ?_
  refine e_put dX0_become_30 ff_X0_30 hs (fx_pi_lt ho) (by decide) rfl (Or.inl rfl) ?_
  refine e_aload_n dX0_become_33 rfl ?_
  refine e_bipush dX0_become_34 kcb_99 ?_
  refine e_put dX0_become_36 ff_X0_11 hs (fx_pi_lt ho) (by decide) rfl (Or.inl rfl) ?_
  exact e_vret dX0_become_39 rfl rfl ⟨rfl, rfl⟩
set_option maxRecDepth 100000 in
set_option maxHeartbeats 600000 in
theorem s_X0_becomeLike {Γ : fx_G} {m : fx_M} (o : Nat) (hs : fx_shapes[o]? = some (10 + 0, 7)) (ho : o < 119) (q : Nat) (hq : fx_shapes[q]? = some (10 + 0, 7)) (hqo : q < 119) (hne : q ≠ o) : fx_Ct Γ mX0_becomeLike 1 119 119 [fx_rf Γ o, fx_rf Γ q] m (fx_is none (fx_sI (fx_sI (fx_sI (fx_sI (fx_sI (fx_sI (fx_sI (fx_sI m o 0 (m.1 q 0)) o 1 (m.1 q 1)) o 2 (m.1 q 2)) o 3 (m.1 q 3)) o 4 (m.1 q 4)) o 5 (m.1 q 5)) o 6 99) o 6 (m.1 q 6))) := by
  refine fx_Ct.of (j := 0) (by decide) (Nat.le_of_ble_eq_true rfl) (Nat.le_of_ble_eq_true rfl) ?_
  show fx_E Γ mX0_becomeLike 1 119 119 _ 119 m 0 [some (fx_rf Γ o), some (fx_rf Γ q)] []
  refine e_aload_n dX0_becomeLike_0 rfl ?_
  refine e_aload_n dX0_becomeLike_1 rfl ?_
  refine e_get dX0_becomeLike_2 ff_X0_15 hq (fx_pi_lt hqo) (by decide) rfl ?_
  refine e_aload_n dX0_becomeLike_5 rfl ?_
  refine e_get dX0_becomeLike_6 ff_X0_18 hq (fx_pi_lt hqo) (by decide) rfl ?_
  refine e_aload_n dX0_becomeLike_9 rfl ?_
  refine e_get dX0_becomeLike_10 ff_X0_21 hq (fx_pi_lt hqo) (by decide) rfl ?_
  refine e_aload_n dX0_becomeLike_13 rfl ?_
  refine e_get dX0_becomeLike_14 ff_X0_24 hq (fx_pi_lt hqo) (by decide) rfl ?_
  refine e_aload_n dX0_becomeLike_17 rfl ?_
  refine e_get dX0_becomeLike_18 ff_X0_27 hq (fx_pi_lt hqo) (by decide) rfl ?_
  refine e_aload_n dX0_becomeLike_21 rfl ?_
  refine e_get dX0_becomeLike_22 ff_X0_30 hq (fx_pi_lt hqo) (by decide) rfl ?_
  refine e_callV1 (μ' := mX0_become) (ci := 0) (As := [.int (m.1 q 0), .int (m.1 q 1), .int (m.1 q 2), .int (m.1 q 3), .int (m.1 q 4), .int (m.1 q 5)]) dX0_becomeLike_25 wl_X0_33 ok_X0_become hs rfl (fx_pi_lt ho) (by decide) (Nat.le_of_ble_eq_true rfl) fx_n1 (s_X0_become (m := m) o hs ho (m.1 q 0) (m.1 q 1) (m.1 q 2) (m.1 q 3) (m.1 q 4) (m.1 q 5)) rfl ?_
  refine e_aload_n dX0_becomeLike_28 rfl ?_
  refine e_aload_n dX0_becomeLike_29 rfl ?_
  refine e_getv (v := m.1 q 6) dX0_becomeLike_30 ff_X0_11 hq (fx_pi_lt hqo) (by decide) rfl (by simp [fx_sI, hne]) ?_
  refine e_put dX0_becomeLike_33 ff_X0_11 hs (fx_pi_lt ho) (by decide) rfl (Or.inl rfl) ?_
  exact e_vret dX0_becomeLike_36 rfl rfl ⟨rfl, rfl⟩
set_option maxRecDepth 100000 in
set_option maxHeartbeats 600000 in
theorem s_X0_shadeSeen {Γ : fx_G} {m : fx_M} (o : Nat) (hs : fx_shapes[o]? = some (10 + 0, 7)) (ho : o < 119) (x : Int32) : fx_Ct Γ mX0_shadeSeen 1 119 119 [fx_rf Γ o, .int x] m (fx_is (some (.int (p_shade (m.1 o) x))) m) := by
  refine fx_Ct.of (j := 1) (by decide) (Nat.le_of_ble_eq_true rfl) (Nat.le_of_ble_eq_true rfl) ?_
  show fx_E Γ mX0_shadeSeen 1 119 119 _ 119 m 0 [some (fx_rf Γ o), some (.int x), none] []
  refine e_aload_n dX0_shadeSeen_0 rfl ?_
  refine e_get dX0_shadeSeen_1 ff_X0_15 hs (fx_pi_lt ho) (by decide) rfl ?_
  refine e_iconst dX0_shadeSeen_4 kci_1 ?_
  refine e_icmp_eq 25 dX0_shadeSeen_5 rfl (fun c_1 => ?_) (fun c_1 => ?_)
  · refine e_iconst dX0_shadeSeen_25 kci_1 ?_
    refine e_goto 30 dX0_shadeSeen_26 rfl ?_
    refine e_istore_n dX0_shadeSeen_30 (by decide) rfl ?_
    refine e_iload_n dX0_shadeSeen_31 rfl ?_
    refine e_if_eq 49 dX0_shadeSeen_32 rfl (fun h => absurd h (by decide)) (fun _ => ?_)
    refine e_bipush dX0_shadeSeen_35 kcb_9 ?_
    refine e_iload_n dX0_shadeSeen_37 rfl ?_
    refine e_aload_n dX0_shadeSeen_38 rfl ?_
    refine e_get dX0_shadeSeen_39 ff_X0_18 hs (fx_pi_lt ho) (by decide) rfl ?_
    refine e_iadd dX0_shadeSeen_42 ?_
    refine e_minP dX0_shadeSeen_43 wl_X0_51 wt_J9_min_7cf53 wz_Math fx_wmin (by decide) (Nat.le_of_ble_eq_true rfl) ?_
    refine e_goto 50 dX0_shadeSeen_46 rfl ?_
    exact e_iret dX0_shadeSeen_50 rfl rfl rfl ⟨by first | (simp [p_shade, p_min9_alt, *]; done) | (exfalso; simp_all; done), rfl⟩
  · refine e_aload_n dX0_shadeSeen_8 rfl ?_
    refine e_get dX0_shadeSeen_9 ff_X0_15 hs (fx_pi_lt ho) (by decide) rfl ?_
    refine e_iconst dX0_shadeSeen_12 kci_3 ?_
    refine e_icmp_eq 25 dX0_shadeSeen_13 rfl (fun c_2 => ?_) (fun c_2 => ?_)
    · refine e_iconst dX0_shadeSeen_25 kci_1 ?_
      refine e_goto 30 dX0_shadeSeen_26 rfl ?_
      refine e_istore_n dX0_shadeSeen_30 (by decide) rfl ?_
      refine e_iload_n dX0_shadeSeen_31 rfl ?_
      refine e_if_eq 49 dX0_shadeSeen_32 rfl (fun h => absurd h (by decide)) (fun _ => ?_)
      refine e_bipush dX0_shadeSeen_35 kcb_9 ?_
      refine e_iload_n dX0_shadeSeen_37 rfl ?_
      refine e_aload_n dX0_shadeSeen_38 rfl ?_
      refine e_get dX0_shadeSeen_39 ff_X0_18 hs (fx_pi_lt ho) (by decide) rfl ?_
      refine e_iadd dX0_shadeSeen_42 ?_
      refine e_minP dX0_shadeSeen_43 wl_X0_51 wt_J9_min_7cf53 wz_Math fx_wmin (by decide) (Nat.le_of_ble_eq_true rfl) ?_
      refine e_goto 50 dX0_shadeSeen_46 rfl ?_
      exact e_iret dX0_shadeSeen_50 rfl rfl rfl ⟨by first | (simp [p_shade, p_min9_alt, *]; done) | (exfalso; simp_all; done), rfl⟩
    · refine e_aload_n dX0_shadeSeen_16 rfl ?_
      refine e_get dX0_shadeSeen_17 ff_X0_15 hs (fx_pi_lt ho) (by decide) rfl ?_
      refine e_bipush dX0_shadeSeen_20 kcb_6 ?_
      refine e_icmp_ne 29 dX0_shadeSeen_22 rfl (fun c_3 => ?_) (fun c_3 => ?_)
      · refine e_iconst dX0_shadeSeen_29 kci_0 ?_
        refine e_istore_n dX0_shadeSeen_30 (by decide) rfl ?_
        refine e_iload_n dX0_shadeSeen_31 rfl ?_
        refine e_if_eq 49 dX0_shadeSeen_32 rfl (fun _ => ?_) (fun h => absurd (by decide) h)
        refine e_iload_n dX0_shadeSeen_49 rfl ?_
        exact e_iret dX0_shadeSeen_50 rfl rfl rfl ⟨by first | (simp [p_shade, p_min9_alt, *]; done) | (exfalso; simp_all; done), rfl⟩
      · refine e_iconst dX0_shadeSeen_25 kci_1 ?_
        refine e_goto 30 dX0_shadeSeen_26 rfl ?_
        refine e_istore_n dX0_shadeSeen_30 (by decide) rfl ?_
        refine e_iload_n dX0_shadeSeen_31 rfl ?_
        refine e_if_eq 49 dX0_shadeSeen_32 rfl (fun h => absurd h (by decide)) (fun _ => ?_)
        refine e_bipush dX0_shadeSeen_35 kcb_9 ?_
        refine e_iload_n dX0_shadeSeen_37 rfl ?_
        refine e_aload_n dX0_shadeSeen_38 rfl ?_
        refine e_get dX0_shadeSeen_39 ff_X0_18 hs (fx_pi_lt ho) (by decide) rfl ?_
        refine e_iadd dX0_shadeSeen_42 ?_
        refine e_minP dX0_shadeSeen_43 wl_X0_51 wt_J9_min_7cf53 wz_Math fx_wmin (by decide) (Nat.le_of_ble_eq_true rfl) ?_
        refine e_goto 50 dX0_shadeSeen_46 rfl ?_
        exact e_iret dX0_shadeSeen_50 rfl rfl rfl ⟨by first | (simp [p_shade, p_min9_alt, *]; done) | (exfalso; simp_all; done), rfl⟩
set_option maxRecDepth 100000 in
set_option maxHeartbeats 600000 in
theorem s_X0_wearSeen {Γ : fx_G} {m : fx_M} (o : Nat) (hs : fx_shapes[o]? = some (10 + 0, 7)) (ho : o < 119) (x : Int32) : fx_Ct Γ mX0_wearSeen 1 119 119 [fx_rf Γ o, .int x] m (fx_is (some (.int (p_wear (m.1 o) x))) m) := by
  refine fx_Ct.of (j := 0) (by decide) (Nat.le_of_ble_eq_true rfl) (Nat.le_of_ble_eq_true rfl) ?_
  show fx_E Γ mX0_wearSeen 1 119 119 _ 119 m 0 [some (fx_rf Γ o), some (.int x)] []
  refine e_aload_n dX0_wearSeen_0 rfl ?_
  refine e_get dX0_wearSeen_1 ff_X0_15 hs (fx_pi_lt ho) (by decide) rfl ?_
  by_cases c_1 : (m.1 o 0) = 2
  · refine e_tableIn (off := 36) 40 dX0_wearSeen_4 (by rw [c_1]; decide) (by rw [c_1]; decide) (by rw [c_1]; decide) rfl ?_
    refine e_iconst dX0_wearSeen_40 kci_0 ?_
    exact e_iret dX0_wearSeen_41 rfl rfl rfl ⟨by first | (simp [p_wear, p_min9_alt, *]; done) | (exfalso; simp_all; done), rfl⟩
  by_cases c_2 : (m.1 o 0) = 3
  · refine e_tableIn (off := 46) 50 dX0_wearSeen_4 (by rw [c_2]; decide) (by rw [c_2]; decide) (by rw [c_2]; decide) rfl ?_
    refine e_bipush dX0_wearSeen_50 kcb_9 ?_
    refine e_iload_n dX0_wearSeen_52 rfl ?_
    refine e_iconst dX0_wearSeen_53 kci_1 ?_
    refine e_iadd dX0_wearSeen_54 ?_
    refine e_minP dX0_wearSeen_55 wl_X0_51 wt_J9_min_7cf53 wz_Math fx_wmin (by decide) (Nat.le_of_ble_eq_true rfl) ?_
    exact e_iret dX0_wearSeen_58 rfl rfl rfl ⟨by first | (simp [p_wear, p_min9_alt, *]; done) | (exfalso; simp_all; done), rfl⟩
  by_cases c_3 : (m.1 o 0) = 4
  · refine e_tableIn (off := 69) 73 dX0_wearSeen_4 (by rw [c_3]; decide) (by rw [c_3]; decide) (by rw [c_3]; decide) rfl ?_
    refine e_iload_n dX0_wearSeen_73 rfl ?_
    exact e_iret dX0_wearSeen_74 rfl rfl rfl ⟨by first | (simp [p_wear, p_min9_alt, *]; done) | (exfalso; simp_all; done), rfl⟩
  by_cases c_4 : (m.1 o 0) = 5
  · refine e_tableIn (off := 38) 42 dX0_wearSeen_4 (by rw [c_4]; decide) (by rw [c_4]; decide) (by rw [c_4]; decide) rfl ?_
    refine e_bipush dX0_wearSeen_42 kcb_9 ?_
    refine e_aload_n dX0_wearSeen_44 rfl ?_
    refine e_get dX0_wearSeen_45 ff_X0_18 hs (fx_pi_lt ho) (by decide) rfl ?_
    refine e_isub dX0_wearSeen_48 ?_
    exact e_iret dX0_wearSeen_49 rfl rfl rfl ⟨by first | (simp [p_wear, p_min9_alt, *]; done) | (exfalso; simp_all; done), rfl⟩
  by_cases c_5 : (m.1 o 0) = 6
  · refine e_tableIn (off := 55) 59 dX0_wearSeen_4 (by rw [c_5]; decide) (by rw [c_5]; decide) (by rw [c_5]; decide) rfl ?_
    refine e_bipush dX0_wearSeen_59 kcb_9 ?_
    refine e_iload_n dX0_wearSeen_61 rfl ?_
    refine e_iconst dX0_wearSeen_62 kci_1 ?_
    refine e_iadd dX0_wearSeen_63 ?_
    refine e_aload_n dX0_wearSeen_64 rfl ?_
    refine e_get dX0_wearSeen_65 ff_X0_18 hs (fx_pi_lt ho) (by decide) rfl ?_
    refine e_iadd dX0_wearSeen_68 ?_
    refine e_minP dX0_wearSeen_69 wl_X0_51 wt_J9_min_7cf53 wz_Math fx_wmin (by decide) (Nat.le_of_ble_eq_true rfl) ?_
    exact e_iret dX0_wearSeen_72 rfl rfl rfl ⟨by first | (simp [p_wear, p_min9_alt, *]; done) | (exfalso; simp_all; done), rfl⟩
  have tc_1 := lv_neT c_1 (show (2 : Int32).toInt = 2 by decide)
  have tc_2 := lv_neT c_2 (show (3 : Int32).toInt = 3 by decide)
  have tc_3 := lv_neT c_3 (show (4 : Int32).toInt = 4 by decide)
  have tc_4 := lv_neT c_4 (show (5 : Int32).toInt = 5 by decide)
  have tc_5 := lv_neT c_5 (show (6 : Int32).toInt = 6 by decide)
  refine e_tableOut 73 dX0_wearSeen_4 (by omega) rfl ?_
  refine e_iload_n dX0_wearSeen_73 rfl ?_
  exact e_iret dX0_wearSeen_74 rfl rfl rfl ⟨by first | (simp [p_wear, p_min9_alt, *]; done) | (exfalso; simp_all; done), rfl⟩
set_option maxRecDepth 100000 in
set_option maxHeartbeats 600000 in
theorem s_X0_figure {Γ : fx_G} {m : fx_M} (o : Nat) (hs : fx_shapes[o]? = some (10 + 0, 7)) (ho : o < 119) (w : Int32) : fx_Ct Γ mX0_figure 2 119 119 [fx_rf Γ o, .int w] m (fx_is (some (.int (p_fig (m.1 o) w))) m) := by
  refine fx_Ct.of (j := 0) (by decide) (Nat.le_of_ble_eq_true rfl) (Nat.le_of_ble_eq_true rfl) ?_
  show fx_E Γ mX0_figure 2 119 119 _ 119 m 0 [some (fx_rf Γ o), some (.int w)] []
  refine e_iload_n dX0_figure_0 rfl ?_
  by_cases c_1 : w = 0
  · refine e_tableIn (off := 47) 48 dX0_figure_1 (by rw [c_1]; decide) (by rw [c_1]; decide) (by rw [c_1]; decide) rfl ?_
    refine e_aload_n dX0_figure_48 rfl ?_
    refine e_get dX0_figure_49 ff_X0_15 hs (fx_pi_lt ho) (by decide) rfl ?_
    exact e_iret dX0_figure_52 rfl rfl rfl ⟨by first | (simp [p_fig, *]; done) | (exfalso; simp_all; done), rfl⟩
  by_cases c_2 : w = 1
  · refine e_tableIn (off := 52) 53 dX0_figure_1 (by rw [c_2]; decide) (by rw [c_2]; decide) (by rw [c_2]; decide) rfl ?_
    refine e_aload_n dX0_figure_53 rfl ?_
    refine e_get dX0_figure_54 ff_X0_18 hs (fx_pi_lt ho) (by decide) rfl ?_
    exact e_iret dX0_figure_57 rfl rfl rfl ⟨by first | (simp [p_fig, *]; done) | (exfalso; simp_all; done), rfl⟩
  by_cases c_3 : w = 2
  · refine e_tableIn (off := 57) 58 dX0_figure_1 (by rw [c_3]; decide) (by rw [c_3]; decide) (by rw [c_3]; decide) rfl ?_
    refine e_aload_n dX0_figure_58 rfl ?_
    refine e_get dX0_figure_59 ff_X0_21 hs (fx_pi_lt ho) (by decide) rfl ?_
    exact e_iret dX0_figure_62 rfl rfl rfl ⟨by first | (simp [p_fig, *]; done) | (exfalso; simp_all; done), rfl⟩
  by_cases c_4 : w = 3
  · refine e_tableIn (off := 62) 63 dX0_figure_1 (by rw [c_4]; decide) (by rw [c_4]; decide) (by rw [c_4]; decide) rfl ?_
    refine e_aload_n dX0_figure_63 rfl ?_
    refine e_get dX0_figure_64 ff_X0_24 hs (fx_pi_lt ho) (by decide) rfl ?_
    exact e_iret dX0_figure_67 rfl rfl rfl ⟨by first | (simp [p_fig, *]; done) | (exfalso; simp_all; done), rfl⟩
  by_cases c_5 : w = 4
  · refine e_tableIn (off := 67) 68 dX0_figure_1 (by rw [c_5]; decide) (by rw [c_5]; decide) (by rw [c_5]; decide) rfl ?_
    refine e_aload_n dX0_figure_68 rfl ?_
    refine e_get dX0_figure_69 ff_X0_27 hs (fx_pi_lt ho) (by decide) rfl ?_
    exact e_iret dX0_figure_72 rfl rfl rfl ⟨by first | (simp [p_fig, *]; done) | (exfalso; simp_all; done), rfl⟩
  by_cases c_6 : w = 5
  · refine e_tableIn (off := 72) 73 dX0_figure_1 (by rw [c_6]; decide) (by rw [c_6]; decide) (by rw [c_6]; decide) rfl ?_
    refine e_aload_n dX0_figure_73 rfl ?_
    refine e_get dX0_figure_74 ff_X0_30 hs (fx_pi_lt ho) (by decide) rfl ?_
    exact e_iret dX0_figure_77 rfl rfl rfl ⟨by first | (simp [p_fig, *]; done) | (exfalso; simp_all; done), rfl⟩
  by_cases c_7 : w = 6
  · refine e_tableIn (off := 77) 78 dX0_figure_1 (by rw [c_7]; decide) (by rw [c_7]; decide) (by rw [c_7]; decide) rfl ?_
    refine e_aload_n dX0_figure_78 rfl ?_
    refine e_aload_n dX0_figure_79 rfl ?_
    refine e_get dX0_figure_80 ff_X0_27 hs (fx_pi_lt ho) (by decide) rfl ?_
    refine e_callV1 (μ' := mX0_shadeSeen) (ci := 0) (As := [.int (m.1 o 4)]) dX0_figure_83 wl_X0_48 ok_X0_shadeSeen hs rfl (fx_pi_lt ho) (by decide) (Nat.le_of_ble_eq_true rfl) fx_n1 (s_X0_shadeSeen (m := m) o hs ho (m.1 o 4)) rfl ?_
    exact e_iret dX0_figure_86 rfl rfl rfl ⟨by first | (simp [p_fig, *]; done) | (exfalso; simp_all; done), rfl⟩
  by_cases c_8 : w = 7
  · refine e_tableIn (off := 86) 87 dX0_figure_1 (by rw [c_8]; decide) (by rw [c_8]; decide) (by rw [c_8]; decide) rfl ?_
    refine e_aload_n dX0_figure_87 rfl ?_
    refine e_aload_n dX0_figure_88 rfl ?_
    refine e_get dX0_figure_89 ff_X0_30 hs (fx_pi_lt ho) (by decide) rfl ?_
    refine e_callV1 (μ' := mX0_wearSeen) (ci := 0) (As := [.int (m.1 o 5)]) dX0_figure_92 wl_X0_45 ok_X0_wearSeen hs rfl (fx_pi_lt ho) (by decide) (Nat.le_of_ble_eq_true rfl) fx_n1 (s_X0_wearSeen (m := m) o hs ho (m.1 o 5)) rfl ?_
    exact e_iret dX0_figure_95 rfl rfl rfl ⟨by first | (simp [p_fig, *]; done) | (exfalso; simp_all; done), rfl⟩
  have tc_1 := lv_neT c_1 (show (0 : Int32).toInt = 0 by decide)
  have tc_2 := lv_neT c_2 (show (1 : Int32).toInt = 1 by decide)
  have tc_3 := lv_neT c_3 (show (2 : Int32).toInt = 2 by decide)
  have tc_4 := lv_neT c_4 (show (3 : Int32).toInt = 3 by decide)
  have tc_5 := lv_neT c_5 (show (4 : Int32).toInt = 4 by decide)
  have tc_6 := lv_neT c_6 (show (5 : Int32).toInt = 5 by decide)
  have tc_7 := lv_neT c_7 (show (6 : Int32).toInt = 6 by decide)
  have tc_8 := lv_neT c_8 (show (7 : Int32).toInt = 7 by decide)
  refine e_tableOut 96 dX0_figure_1 (by omega) rfl ?_
  refine e_aload_n dX0_figure_96 rfl ?_
  refine e_get dX0_figure_97 ff_X0_11 hs (fx_pi_lt ho) (by decide) rfl ?_
  exact e_iret dX0_figure_100 rfl rfl rfl ⟨by first | (simp [p_fig, *]; done) | (exfalso; simp_all; done), rfl⟩
set_option maxRecDepth 100000 in
set_option maxHeartbeats 600000 in
theorem s_X0_saysAs {Γ : fx_G} {m : fx_M} (o : Nat) (hs : fx_shapes[o]? = some (10 + 0, 7)) (ho : o < 119) (k : Int32) : fx_Ct Γ mX0_saysAs 2 119 119 [fx_rf Γ o, .int k] m (fx_is (some (.int (p_says (m.1 o) k))) m) := by
  refine fx_Ct.of (j := 0) (by decide) (Nat.le_of_ble_eq_true rfl) (Nat.le_of_ble_eq_true rfl) ?_
  show fx_E Γ mX0_saysAs 2 119 119 _ 119 m 0 [some (fx_rf Γ o), some (.int k)] []
  refine e_iload_n dX0_saysAs_0 rfl ?_
  by_cases c_1 : k = 0
  · refine e_tableIn (off := 39) 40 dX0_saysAs_1 (by rw [c_1]; decide) (by rw [c_1]; decide) (by rw [c_1]; decide) rfl ?_
    refine e_aload_n dX0_saysAs_40 rfl ?_
    refine e_get dX0_saysAs_41 ff_X0_24 hs (fx_pi_lt ho) (by decide) rfl ?_
    exact e_iret dX0_saysAs_44 rfl rfl rfl ⟨by first | (simp [p_says, *]; done) | (exfalso; simp_all; done), rfl⟩
  by_cases c_2 : k = 1
  · refine e_tableIn (off := 58) 59 dX0_saysAs_1 (by rw [c_2]; decide) (by rw [c_2]; decide) (by rw [c_2]; decide) rfl ?_
    refine e_aload_n dX0_saysAs_59 rfl ?_
    refine e_aload_n dX0_saysAs_60 rfl ?_
    refine e_get dX0_saysAs_61 ff_X0_27 hs (fx_pi_lt ho) (by decide) rfl ?_
    refine e_callV1 (μ' := mX0_shadeSeen) (ci := 0) (As := [.int (m.1 o 4)]) dX0_saysAs_64 wl_X0_48 ok_X0_shadeSeen hs rfl (fx_pi_lt ho) (by decide) (Nat.le_of_ble_eq_true rfl) fx_n1 (s_X0_shadeSeen (m := m) o hs ho (m.1 o 4)) rfl ?_
    exact e_iret dX0_saysAs_67 rfl rfl rfl ⟨by first | (simp [p_says, *]; done) | (exfalso; simp_all; done), rfl⟩
  by_cases c_3 : k = 2
  · refine e_tableIn (off := 49) 50 dX0_saysAs_1 (by rw [c_3]; decide) (by rw [c_3]; decide) (by rw [c_3]; decide) rfl ?_
    refine e_aload_n dX0_saysAs_50 rfl ?_
    refine e_aload_n dX0_saysAs_51 rfl ?_
    refine e_get dX0_saysAs_52 ff_X0_30 hs (fx_pi_lt ho) (by decide) rfl ?_
    refine e_callV1 (μ' := mX0_wearSeen) (ci := 0) (As := [.int (m.1 o 5)]) dX0_saysAs_55 wl_X0_45 ok_X0_wearSeen hs rfl (fx_pi_lt ho) (by decide) (Nat.le_of_ble_eq_true rfl) fx_n1 (s_X0_wearSeen (m := m) o hs ho (m.1 o 5)) rfl ?_
    exact e_iret dX0_saysAs_58 rfl rfl rfl ⟨by first | (simp [p_says, *]; done) | (exfalso; simp_all; done), rfl⟩
  by_cases c_4 : k = 3
  · refine e_tableIn (off := 58) 59 dX0_saysAs_1 (by rw [c_4]; decide) (by rw [c_4]; decide) (by rw [c_4]; decide) rfl ?_
    refine e_aload_n dX0_saysAs_59 rfl ?_
    refine e_aload_n dX0_saysAs_60 rfl ?_
    refine e_get dX0_saysAs_61 ff_X0_27 hs (fx_pi_lt ho) (by decide) rfl ?_
    refine e_callV1 (μ' := mX0_shadeSeen) (ci := 0) (As := [.int (m.1 o 4)]) dX0_saysAs_64 wl_X0_48 ok_X0_shadeSeen hs rfl (fx_pi_lt ho) (by decide) (Nat.le_of_ble_eq_true rfl) fx_n1 (s_X0_shadeSeen (m := m) o hs ho (m.1 o 4)) rfl ?_
    exact e_iret dX0_saysAs_67 rfl rfl rfl ⟨by first | (simp [p_says, *]; done) | (exfalso; simp_all; done), rfl⟩
  by_cases c_5 : k = 4
  · refine e_tableIn (off := 44) 45 dX0_saysAs_1 (by rw [c_5]; decide) (by rw [c_5]; decide) (by rw [c_5]; decide) rfl ?_
    refine e_aload_n dX0_saysAs_45 rfl ?_
    refine e_get dX0_saysAs_46 ff_X0_21 hs (fx_pi_lt ho) (by decide) rfl ?_
    exact e_iret dX0_saysAs_49 rfl rfl rfl ⟨by first | (simp [p_says, *]; done) | (exfalso; simp_all; done), rfl⟩
  by_cases c_6 : k = 5
  · refine e_tableIn (off := 49) 50 dX0_saysAs_1 (by rw [c_6]; decide) (by rw [c_6]; decide) (by rw [c_6]; decide) rfl ?_
    refine e_aload_n dX0_saysAs_50 rfl ?_
    refine e_aload_n dX0_saysAs_51 rfl ?_
    refine e_get dX0_saysAs_52 ff_X0_30 hs (fx_pi_lt ho) (by decide) rfl ?_
    refine e_callV1 (μ' := mX0_wearSeen) (ci := 0) (As := [.int (m.1 o 5)]) dX0_saysAs_55 wl_X0_45 ok_X0_wearSeen hs rfl (fx_pi_lt ho) (by decide) (Nat.le_of_ble_eq_true rfl) fx_n1 (s_X0_wearSeen (m := m) o hs ho (m.1 o 5)) rfl ?_
    exact e_iret dX0_saysAs_58 rfl rfl rfl ⟨by first | (simp [p_says, *]; done) | (exfalso; simp_all; done), rfl⟩
  have tc_1 := lv_neT c_1 (show (0 : Int32).toInt = 0 by decide)
  have tc_2 := lv_neT c_2 (show (1 : Int32).toInt = 1 by decide)
  have tc_3 := lv_neT c_3 (show (2 : Int32).toInt = 2 by decide)
  have tc_4 := lv_neT c_4 (show (3 : Int32).toInt = 3 by decide)
  have tc_5 := lv_neT c_5 (show (4 : Int32).toInt = 4 by decide)
  have tc_6 := lv_neT c_6 (show (5 : Int32).toInt = 5 by decide)
  refine e_tableOut 59 dX0_saysAs_1 (by omega) rfl ?_
  refine e_aload_n dX0_saysAs_59 rfl ?_
  refine e_aload_n dX0_saysAs_60 rfl ?_
  refine e_get dX0_saysAs_61 ff_X0_27 hs (fx_pi_lt ho) (by decide) rfl ?_
  refine e_callV1 (μ' := mX0_shadeSeen) (ci := 0) (As := [.int (m.1 o 4)]) dX0_saysAs_64 wl_X0_48 ok_X0_shadeSeen hs rfl (fx_pi_lt ho) (by decide) (Nat.le_of_ble_eq_true rfl) fx_n1 (s_X0_shadeSeen (m := m) o hs ho (m.1 o 4)) rfl ?_
  exact e_iret dX0_saysAs_67 rfl rfl rfl ⟨by first | (simp [p_says, *]; done) | (exfalso; simp_all; done), rfl⟩
set_option maxRecDepth 100000 in
set_option maxHeartbeats 600000 in
theorem s_X0_suits {Γ : fx_G} {m : fx_M} (o : Nat) (hs : fx_shapes[o]? = some (10 + 0, 7)) (ho : o < 119) (q : Nat) (hq : fx_shapes[q]? = some (10 + 1, 8)) (hqo : q < 119) (s : Int32) : fx_Ct Γ mX0_suits 1 119 119 [fx_rf Γ o, fx_rf Γ q, .int s] m (fx_is (some (.int (if p_fit (m.1 o) (m.1 q) s then 1 else 0))) m) := by
  refine fx_Ct.of (j := 1) (by decide) (Nat.le_of_ble_eq_true rfl) (Nat.le_of_ble_eq_true rfl) ?_
  show fx_E Γ mX0_suits 1 119 119 _ 119 m 0 [some (fx_rf Γ o), some (fx_rf Γ q), some (.int s), none] []
  refine e_aload_n dX0_suits_0 rfl ?_
  refine e_get dX0_suits_1 ff_X0_15 hs (fx_pi_lt ho) (by decide) rfl ?_
  refine e_bipush dX0_suits_4 kcb_6 ?_
  refine e_icmp_ne 13 dX0_suits_6 rfl (fun c_1 => ?_) (fun c_1 => ?_)
  · refine e_iconst dX0_suits_13 kci_1 ?_
    refine e_istore_n dX0_suits_14 (by decide) rfl ?_
    refine e_aload_n dX0_suits_15 rfl ?_
    refine e_get dX0_suits_16 ff_X0_15 hs (fx_pi_lt ho) (by decide) rfl ?_
    refine e_iconst dX0_suits_19 kci_4 ?_
    refine e_icmp_eq 31 dX0_suits_20 rfl (fun c_2 => ?_) (fun c_2 => ?_)
    · refine e_aload_n dX0_suits_31 rfl ?_
      refine e_get dX0_suits_32 ff_X0_24 hs (fx_pi_lt ho) (by decide) rfl ?_
      refine e_aload_n dX0_suits_35 rfl ?_
      refine e_get dX0_suits_36 ff_X0_57 hq (fx_pi_lt hqo) (by decide) rfl ?_
      refine e_isub dX0_suits_39 ?_
      refine e_absP dX0_suits_40 wl_X0_60 wt_J9_abs_0f7a4 wz_Math fx_wabs (by decide) (Nat.le_of_ble_eq_true rfl) ?_
      refine e_iload_n dX0_suits_43 rfl ?_
      refine e_icmp_gt 51 dX0_suits_44 rfl (fun c_3 => ?_) (fun c_3 => ?_)
      · refine e_iconst dX0_suits_51 kci_0 ?_
        exact e_iret dX0_suits_52 rfl rfl rfl ⟨by first | (simp [p_fit, *]; done) | (exfalso; simp_all; done), rfl⟩
      · refine e_iconst dX0_suits_47 kci_1 ?_
        refine e_goto 52 dX0_suits_48 rfl ?_
        exact e_iret dX0_suits_52 rfl rfl rfl ⟨by first | (simp [p_fit, *]; done) | (exfalso; simp_all; done), rfl⟩
    · refine e_aload_n dX0_suits_23 rfl ?_
      refine e_get dX0_suits_24 ff_X0_21 hs (fx_pi_lt ho) (by decide) rfl ?_
      refine e_iload_n dX0_suits_27 rfl ?_
      refine e_icmp_ne 51 dX0_suits_28 rfl (fun c_4 => ?_) (fun c_4 => ?_)
      · refine e_iconst dX0_suits_51 kci_0 ?_
        exact e_iret dX0_suits_52 rfl rfl rfl ⟨by first | (simp [p_fit, *]; done) | (exfalso; simp_all; done), rfl⟩
      · refine e_aload_n dX0_suits_31 rfl ?_
        refine e_get dX0_suits_32 ff_X0_24 hs (fx_pi_lt ho) (by decide) rfl ?_
        refine e_aload_n dX0_suits_35 rfl ?_
        refine e_get dX0_suits_36 ff_X0_57 hq (fx_pi_lt hqo) (by decide) rfl ?_
        refine e_isub dX0_suits_39 ?_
        refine e_absP dX0_suits_40 wl_X0_60 wt_J9_abs_0f7a4 wz_Math fx_wabs (by decide) (Nat.le_of_ble_eq_true rfl) ?_
        refine e_iload_n dX0_suits_43 rfl ?_
        refine e_icmp_gt 51 dX0_suits_44 rfl (fun c_5 => ?_) (fun c_5 => ?_)
        · refine e_iconst dX0_suits_51 kci_0 ?_
          exact e_iret dX0_suits_52 rfl rfl rfl ⟨by first | (simp [p_fit, *]; done) | (exfalso; simp_all; done), rfl⟩
        · refine e_iconst dX0_suits_47 kci_1 ?_
          refine e_goto 52 dX0_suits_48 rfl ?_
          exact e_iret dX0_suits_52 rfl rfl rfl ⟨by first | (simp [p_fit, *]; done) | (exfalso; simp_all; done), rfl⟩
  · refine e_iconst dX0_suits_9 kci_2 ?_
    refine e_goto 14 dX0_suits_10 rfl ?_
    refine e_istore_n dX0_suits_14 (by decide) rfl ?_
    refine e_aload_n dX0_suits_15 rfl ?_
    refine e_get dX0_suits_16 ff_X0_15 hs (fx_pi_lt ho) (by decide) rfl ?_
    refine e_iconst dX0_suits_19 kci_4 ?_
    refine e_icmp_eq 31 dX0_suits_20 rfl (fun c_6 => ?_) (fun c_6 => ?_)
    · refine e_aload_n dX0_suits_31 rfl ?_
      refine e_get dX0_suits_32 ff_X0_24 hs (fx_pi_lt ho) (by decide) rfl ?_
      refine e_aload_n dX0_suits_35 rfl ?_
      refine e_get dX0_suits_36 ff_X0_57 hq (fx_pi_lt hqo) (by decide) rfl ?_
      refine e_isub dX0_suits_39 ?_
      refine e_absP dX0_suits_40 wl_X0_60 wt_J9_abs_0f7a4 wz_Math fx_wabs (by decide) (Nat.le_of_ble_eq_true rfl) ?_
      refine e_iload_n dX0_suits_43 rfl ?_
      refine e_icmp_gt 51 dX0_suits_44 rfl (fun c_7 => ?_) (fun c_7 => ?_)
      · refine e_iconst dX0_suits_51 kci_0 ?_
        exact e_iret dX0_suits_52 rfl rfl rfl ⟨by first | (simp [p_fit, *]; done) | (exfalso; simp_all; done), rfl⟩
      · refine e_iconst dX0_suits_47 kci_1 ?_
        refine e_goto 52 dX0_suits_48 rfl ?_
        exact e_iret dX0_suits_52 rfl rfl rfl ⟨by first | (simp [p_fit, *]; done) | (exfalso; simp_all; done), rfl⟩
    · refine e_aload_n dX0_suits_23 rfl ?_
      refine e_get dX0_suits_24 ff_X0_21 hs (fx_pi_lt ho) (by decide) rfl ?_
      refine e_iload_n dX0_suits_27 rfl ?_
      refine e_icmp_ne 51 dX0_suits_28 rfl (fun c_8 => ?_) (fun c_8 => ?_)
      · refine e_iconst dX0_suits_51 kci_0 ?_
        exact e_iret dX0_suits_52 rfl rfl rfl ⟨by first | (simp [p_fit, *]; done) | (exfalso; simp_all; done), rfl⟩
      · refine e_aload_n dX0_suits_31 rfl ?_
        refine e_get dX0_suits_32 ff_X0_24 hs (fx_pi_lt ho) (by decide) rfl ?_
        refine e_aload_n dX0_suits_35 rfl ?_
        refine e_get dX0_suits_36 ff_X0_57 hq (fx_pi_lt hqo) (by decide) rfl ?_
        refine e_isub dX0_suits_39 ?_
        refine e_absP dX0_suits_40 wl_X0_60 wt_J9_abs_0f7a4 wz_Math fx_wabs (by decide) (Nat.le_of_ble_eq_true rfl) ?_
        refine e_iload_n dX0_suits_43 rfl ?_
        refine e_icmp_gt 51 dX0_suits_44 rfl (fun c_9 => ?_) (fun c_9 => ?_)
        · refine e_iconst dX0_suits_51 kci_0 ?_
          exact e_iret dX0_suits_52 rfl rfl rfl ⟨by first | (simp [p_fit, *]; done) | (exfalso; simp_all; done), rfl⟩
        · refine e_iconst dX0_suits_47 kci_1 ?_
          refine e_goto 52 dX0_suits_48 rfl ?_
          exact e_iret dX0_suits_52 rfl rfl rfl ⟨by first | (simp [p_fit, *]; done) | (exfalso; simp_all; done), rfl⟩
set_option maxRecDepth 100000 in
set_option maxHeartbeats 600000 in
theorem s_X0_farIf {Γ : fx_G} {m : fx_M} (o : Nat) (hs : fx_shapes[o]? = some (10 + 0, 7)) (ho : o < 119) (q : Nat) (hq : fx_shapes[q]? = some (10 + 1, 8)) (hqo : q < 119) (x w : Int32) : fx_Ct Γ mX0_farIf 2 119 119 [fx_rf Γ o, fx_rf Γ q, .int x, .int w] m (fx_is (some (.int (p_far (m.1 o) (m.1 q) x w))) m) := by
  refine fx_Ct.of (j := 2) (by decide) (Nat.le_of_ble_eq_true rfl) (Nat.le_of_ble_eq_true rfl) ?_
  show fx_E Γ mX0_farIf 2 119 119 _ 119 m 0 [some (fx_rf Γ o), some (fx_rf Γ q), some (.int x), some (.int w), none, none] []
  refine e_iconst dX0_farIf_0 kci_2 ?_
  refine e_aload_n dX0_farIf_1 rfl ?_
  refine e_get dX0_farIf_2 ff_X0_24 hs (fx_pi_lt ho) (by decide) rfl ?_
  refine e_aload_n dX0_farIf_5 rfl ?_
  refine e_get dX0_farIf_6 ff_X0_57 hq (fx_pi_lt hqo) (by decide) rfl ?_
  refine e_isub dX0_farIf_9 ?_
  refine e_absP dX0_farIf_10 wl_X0_60 wt_J9_abs_0f7a4 wz_Math fx_wabs (by decide) (Nat.le_of_ble_eq_true rfl) ?_
  refine e_imul dX0_farIf_13 ?_
  refine e_istore dX0_farIf_14 (by decide) rfl ?_
  refine e_aload_n dX0_farIf_16 rfl ?_
  refine e_get dX0_farIf_17 ff_X0_67 hq (fx_pi_lt hqo) (by decide) rfl ?_
  refine e_iconst dX0_farIf_20 kci_2 ?_
  refine e_icmp_ne 27 dX0_farIf_21 rfl (fun c_1 => ?_) (fun c_1 => ?_)
  · refine e_iload dX0_farIf_27 rfl ?_
    refine e_aload_n dX0_farIf_29 rfl ?_
    refine e_iload_n dX0_farIf_30 rfl ?_
    refine e_callV1 (μ' := mX0_shadeSeen) (ci := 0) (As := [.int x]) dX0_farIf_31 wl_X0_48 ok_X0_shadeSeen hs rfl (fx_pi_lt ho) (by decide) (Nat.le_of_ble_eq_true rfl) fx_n1 (s_X0_shadeSeen (m := m) o hs ho x) rfl ?_
    refine e_aload_n dX0_farIf_34 rfl ?_
    refine e_get dX0_farIf_35 ff_X0_70 hq (fx_pi_lt hqo) (by decide) rfl ?_
    refine e_isub dX0_farIf_38 ?_
    refine e_absP dX0_farIf_39 wl_X0_60 wt_J9_abs_0f7a4 wz_Math fx_wabs (by decide) (Nat.le_of_ble_eq_true rfl) ?_
    refine e_iadd dX0_farIf_42 ?_
    refine e_istore dX0_farIf_43 (by decide) rfl ?_
    refine e_aload_n dX0_farIf_45 rfl ?_
    refine e_iload_n dX0_farIf_46 rfl ?_
    refine e_callV1 (μ' := mX0_wearSeen) (ci := 0) (As := [.int w]) dX0_farIf_47 wl_X0_45 ok_X0_wearSeen hs rfl (fx_pi_lt ho) (by decide) (Nat.le_of_ble_eq_true rfl) fx_n1 (s_X0_wearSeen (m := m) o hs ho w) rfl ?_
    refine e_istore dX0_farIf_50 (by decide) rfl ?_
    refine e_iload dX0_farIf_52 rfl ?_
    refine e_aload_n dX0_farIf_54 rfl ?_
    refine e_get dX0_farIf_55 ff_X0_67 hq (fx_pi_lt hqo) (by decide) rfl ?_
    refine e_iconst dX0_farIf_58 kci_1 ?_
    refine e_icmp_ne 67 dX0_farIf_59 rfl (fun c_2 => ?_) (fun c_2 => ?_)
    · refine e_iload dX0_farIf_67 rfl ?_
      refine e_aload_n dX0_farIf_69 rfl ?_
      refine e_get dX0_farIf_70 ff_X0_71 hq (fx_pi_lt hqo) (by decide) rfl ?_
      refine e_isub dX0_farIf_73 ?_
      refine e_absP dX0_farIf_74 wl_X0_60 wt_J9_abs_0f7a4 wz_Math fx_wabs (by decide) (Nat.le_of_ble_eq_true rfl) ?_
      refine e_iadd dX0_farIf_77 ?_
      exact e_iret dX0_farIf_78 rfl rfl rfl ⟨by first | (simp [p_far, *]; done) | (exfalso; simp_all; done), rfl⟩
    · refine e_iload dX0_farIf_62 rfl ?_
      refine e_goto 77 dX0_farIf_64 rfl ?_
      refine e_iadd dX0_farIf_77 ?_
      exact e_iret dX0_farIf_78 rfl rfl rfl ⟨by first | (simp [p_far, *]; done) | (exfalso; simp_all; done), rfl⟩
  · refine e_iload dX0_farIf_24 rfl ?_
    exact e_iret dX0_farIf_26 rfl rfl rfl ⟨by first | (simp [p_far, *]; done) | (exfalso; simp_all; done), rfl⟩
set_option maxRecDepth 100000 in
set_option maxHeartbeats 600000 in
theorem s_X0_farFrom {Γ : fx_G} {m : fx_M} (o : Nat) (hs : fx_shapes[o]? = some (10 + 0, 7)) (ho : o < 119) (q : Nat) (hq : fx_shapes[q]? = some (10 + 1, 8)) (hqo : q < 119) : fx_Ct Γ mX0_farFrom 3 119 119 [fx_rf Γ o, fx_rf Γ q] m (fx_is (some (.int (p_far (m.1 o) (m.1 q) (m.1 o 4) (m.1 o 5)))) m) := by
  refine fx_Ct.of (j := 0) (by decide) (Nat.le_of_ble_eq_true rfl) (Nat.le_of_ble_eq_true rfl) ?_
  show fx_E Γ mX0_farFrom 3 119 119 _ 119 m 0 [some (fx_rf Γ o), some (fx_rf Γ q)] []
  refine e_aload_n dX0_farFrom_0 rfl ?_
  refine e_aload_n dX0_farFrom_1 rfl ?_
  refine e_aload_n dX0_farFrom_2 rfl ?_
  refine e_get dX0_farFrom_3 ff_X0_27 hs (fx_pi_lt ho) (by decide) rfl ?_
  refine e_aload_n dX0_farFrom_6 rfl ?_
  refine e_get dX0_farFrom_7 ff_X0_30 hs (fx_pi_lt ho) (by decide) rfl ?_
  refine e_callV1 (μ' := mX0_farIf) (ci := 0) (As := [fx_rf Γ q, .int (m.1 o 4), .int (m.1 o 5)]) dX0_farFrom_10 wl_X0_63 ok_X0_farIf hs rfl (fx_pi_lt ho) (by decide) (Nat.le_of_ble_eq_true rfl) fx_n1 (s_X0_farIf (m := m) o hs ho q hq hqo (m.1 o 4) (m.1 o 5)) rfl ?_
  exact e_iret dX0_farFrom_13 rfl rfl rfl ⟨rfl, rfl⟩
set_option maxRecDepth 100000 in
set_option maxHeartbeats 600000 in
theorem s_X1_become {Γ : fx_G} {m : fx_M} (o : Nat) (hs : fx_shapes[o]? = some (10 + 1, 8)) (ho : o < 119) (z h w v n t b : Int32) : fx_Ct Γ mX1_become 0 119 119 [fx_rf Γ o, .int z, .int h, .int w, .int v, .int n, .int t, .int b] m (fx_is none (fx_sI (fx_sI (fx_sI (fx_sI (fx_sI (fx_sI (fx_sI (fx_sI m o 0 z) o 1 h) o 2 w) o 3 v) o 4 n) o 5 t) o 6 b) o 7 0)) := by
  refine fx_Ct.of (j := 0) (by decide) (Nat.le_of_ble_eq_true rfl) (Nat.le_of_ble_eq_true rfl) ?_
  show fx_E Γ mX1_become 0 119 119 _ 119 m 0 [some (fx_rf Γ o), some (.int z), some (.int h), some (.int w), some (.int v), some (.int n), some (.int t), some (.int b)] []
  refine e_aload_n dX1_become_0 rfl ?_
  refine e_iload_n dX1_become_1 rfl ?_
  refine e_put dX1_become_2 ff_X1_9 hs (fx_pi_lt ho) (by decide) rfl (Or.inl rfl) ?_
  refine e_aload_n dX1_become_5 rfl ?_
  refine e_iload_n dX1_become_6 rfl ?_
  refine e_put dX1_become_7 ff_X1_15 hs (fx_pi_lt ho) (by decide) rfl (Or.inl rfl) ?_
  refine e_aload_n dX1_become_10 rfl ?_
  refine e_iload_n dX1_become_11 rfl ?_
  refine e_put dX1_become_12 ff_X1_18 hs (fx_pi_lt ho) (by decide) rfl (Or.inl rfl) ?_
  refine e_aload_n dX1_become_15 rfl ?_
  refine e_iload dX1_become_16 rfl ?_
  refine e_put dX1_become_18 ff_X1_21 hs (fx_pi_lt ho) (by decide) rfl (Or.inl rfl) ?_
  refine e_aload_n dX1_become_21 rfl ?_
  refine e_iload dX1_become_22 rfl ?_
  refine e_put dX1_become_24 ff_X1_24 hs (fx_pi_lt ho) (by decide) rfl (Or.inl rfl) ?_
  refine e_aload_n dX1_become_27 rfl ?_
  refine e_iload dX1_become_28 rfl ?_
  refine e_put dX1_become_30 ff_X1_27 hs (fx_pi_lt ho) (by decide) rfl (Or.inl rfl) ?_
  refine e_aload_n dX1_become_33 rfl ?_
  refine e_iload dX1_become_34 rfl ?_
  refine e_put dX1_become_36 ff_X1_30 hs (fx_pi_lt ho) (by decide) rfl (Or.inl rfl) ?_
  refine e_aload_n dX1_become_39 rfl ?_
  refine e_iconst dX1_become_40 kci_0 ?_
  refine e_put dX1_become_41 ff_X1_33 hs (fx_pi_lt ho) (by decide) rfl (Or.inl rfl) ?_
  exact e_vret dX1_become_44 rfl rfl ⟨rfl, rfl⟩
set_option maxRecDepth 100000 in
set_option maxHeartbeats 600000 in
theorem s_X1_becomeLike {Γ : fx_G} {m : fx_M} (o : Nat) (hs : fx_shapes[o]? = some (10 + 1, 8)) (ho : o < 119) (q : Nat) (hq : fx_shapes[q]? = some (10 + 1, 8)) (hqo : q < 119) (hne : q ≠ o) : fx_Ct Γ mX1_becomeLike 1 119 119 [fx_rf Γ o, fx_rf Γ q] m (fx_is none (fx_sI (fx_sI (fx_sI (fx_sI (fx_sI (fx_sI (fx_sI (fx_sI (fx_sI m o 0 (m.1 q 0)) o 1 (m.1 q 1)) o 2 (m.1 q 2)) o 3 (m.1 q 3)) o 4 (m.1 q 4)) o 5 (m.1 q 5)) o 6 (m.1 q 6)) o 7 0) o 7 (m.1 q 7))) := by
  refine fx_Ct.of (j := 0) (by decide) (Nat.le_of_ble_eq_true rfl) (Nat.le_of_ble_eq_true rfl) ?_
  show fx_E Γ mX1_becomeLike 1 119 119 _ 119 m 0 [some (fx_rf Γ o), some (fx_rf Γ q)] []
  refine e_aload_n dX1_becomeLike_0 rfl ?_
  refine e_aload_n dX1_becomeLike_1 rfl ?_
  refine e_get dX1_becomeLike_2 ff_X1_9 hq (fx_pi_lt hqo) (by decide) rfl ?_
  refine e_aload_n dX1_becomeLike_5 rfl ?_
  refine e_get dX1_becomeLike_6 ff_X1_15 hq (fx_pi_lt hqo) (by decide) rfl ?_
  refine e_aload_n dX1_becomeLike_9 rfl ?_
  refine e_get dX1_becomeLike_10 ff_X1_18 hq (fx_pi_lt hqo) (by decide) rfl ?_
  refine e_aload_n dX1_becomeLike_13 rfl ?_
  refine e_get dX1_becomeLike_14 ff_X1_21 hq (fx_pi_lt hqo) (by decide) rfl ?_
  refine e_aload_n dX1_becomeLike_17 rfl ?_
  refine e_get dX1_becomeLike_18 ff_X1_24 hq (fx_pi_lt hqo) (by decide) rfl ?_
  refine e_aload_n dX1_becomeLike_21 rfl ?_
  refine e_get dX1_becomeLike_22 ff_X1_27 hq (fx_pi_lt hqo) (by decide) rfl ?_
  refine e_aload_n dX1_becomeLike_25 rfl ?_
  refine e_get dX1_becomeLike_26 ff_X1_30 hq (fx_pi_lt hqo) (by decide) rfl ?_
  refine e_callV1 (μ' := mX1_become) (ci := 1) (As := [.int (m.1 q 0), .int (m.1 q 1), .int (m.1 q 2), .int (m.1 q 3), .int (m.1 q 4), .int (m.1 q 5), .int (m.1 q 6)]) dX1_becomeLike_29 wl_X1_36 ok_X1_become hs rfl (fx_pi_lt ho) (by decide) (Nat.le_of_ble_eq_true rfl) fx_n1 (s_X1_become (m := m) o hs ho (m.1 q 0) (m.1 q 1) (m.1 q 2) (m.1 q 3) (m.1 q 4) (m.1 q 5) (m.1 q 6)) rfl ?_
  refine e_aload_n dX1_becomeLike_32 rfl ?_
  refine e_aload_n dX1_becomeLike_33 rfl ?_
  refine e_getv (v := m.1 q 7) dX1_becomeLike_34 ff_X1_33 hq (fx_pi_lt hqo) (by decide) rfl (by simp [fx_sI, hne]) ?_
  refine e_put dX1_becomeLike_37 ff_X1_33 hs (fx_pi_lt ho) (by decide) rfl (Or.inl rfl) ?_
  exact e_vret dX1_becomeLike_40 rfl rfl ⟨rfl, rfl⟩
def p_mostD (w : Int32) : Int32 := if w = 0 then 2 else if w = 1 then 9 else if w = 2 then 40 else if w = 3 then 99 else -1
set_option maxRecDepth 100000 in
set_option maxHeartbeats 600000 in
theorem s_X1_mostOf {Γ : fx_G} {m : fx_M} (w : Int32) : fx_Ct Γ mX1_mostOf 0 119 119 [.int w] m (fx_is (some (.int (p_mostD w))) m) := by
  refine fx_Ct.of (j := 0) (by decide) (Nat.le_of_ble_eq_true rfl) (Nat.le_of_ble_eq_true rfl) ?_
  show fx_E Γ mX1_mostOf 0 119 119 _ 119 m 0 [some (.int w)] []
  refine e_iload_n dX1_mostOf_0 rfl ?_
  by_cases c_1 : w = 0
  · refine e_tableIn (off := 31) 32 dX1_mostOf_1 (by rw [c_1]; decide) (by rw [c_1]; decide) (by rw [c_1]; decide) rfl ?_
    refine e_iconst dX1_mostOf_32 kci_2 ?_
    exact e_iret dX1_mostOf_33 rfl rfl rfl ⟨by first | (simp [p_mostD, *]; done) | (exfalso; simp_all; done), rfl⟩
  by_cases c_2 : w = 1
  · refine e_tableIn (off := 33) 34 dX1_mostOf_1 (by rw [c_2]; decide) (by rw [c_2]; decide) (by rw [c_2]; decide) rfl ?_
    refine e_bipush dX1_mostOf_34 kcb_9 ?_
    exact e_iret dX1_mostOf_36 rfl rfl rfl ⟨by first | (simp [p_mostD, *]; done) | (exfalso; simp_all; done), rfl⟩
  by_cases c_3 : w = 2
  · refine e_tableIn (off := 36) 37 dX1_mostOf_1 (by rw [c_3]; decide) (by rw [c_3]; decide) (by rw [c_3]; decide) rfl ?_
    refine e_bipush dX1_mostOf_37 kcb_40 ?_
    exact e_iret dX1_mostOf_39 rfl rfl rfl ⟨by first | (simp [p_mostD, *]; done) | (exfalso; simp_all; done), rfl⟩
  by_cases c_4 : w = 3
  · refine e_tableIn (off := 39) 40 dX1_mostOf_1 (by rw [c_4]; decide) (by rw [c_4]; decide) (by rw [c_4]; decide) rfl ?_
    refine e_bipush dX1_mostOf_40 kcb_99 ?_
    exact e_iret dX1_mostOf_42 rfl rfl rfl ⟨by first | (simp [p_mostD, *]; done) | (exfalso; simp_all; done), rfl⟩
  have tc_1 := lv_neT c_1 (show (0 : Int32).toInt = 0 by decide)
  have tc_2 := lv_neT c_2 (show (1 : Int32).toInt = 1 by decide)
  have tc_3 := lv_neT c_3 (show (2 : Int32).toInt = 2 by decide)
  have tc_4 := lv_neT c_4 (show (3 : Int32).toInt = 3 by decide)
  refine e_tableOut 43 dX1_mostOf_1 (by omega) rfl ?_
  refine e_iconst dX1_mostOf_43 kci_m1 ?_
  exact e_iret dX1_mostOf_44 rfl rfl rfl ⟨by first | (simp [p_mostD, *]; done) | (exfalso; simp_all; done), rfl⟩
set_option maxRecDepth 100000 in
set_option maxHeartbeats 600000 in
theorem s_X1_figure {Γ : fx_G} {m : fx_M} (o : Nat) (hs : fx_shapes[o]? = some (10 + 1, 8)) (ho : o < 119) (w : Int32) : fx_Ct Γ mX1_figure 0 119 119 [fx_rf Γ o, .int w] m (fx_is (some (.int (p_figD (m.1 o) w))) m) := by
  refine fx_Ct.of (j := 0) (by decide) (Nat.le_of_ble_eq_true rfl) (Nat.le_of_ble_eq_true rfl) ?_
  show fx_E Γ mX1_figure 0 119 119 _ 119 m 0 [some (fx_rf Γ o), some (.int w)] []
  refine e_iload_n dX1_figure_0 rfl ?_
  by_cases c_1 : w = 0
  · refine e_tableIn (off := 43) 44 dX1_figure_1 (by rw [c_1]; decide) (by rw [c_1]; decide) (by rw [c_1]; decide) rfl ?_
    refine e_aload_n dX1_figure_44 rfl ?_
    refine e_get dX1_figure_45 ff_X1_9 hs (fx_pi_lt ho) (by decide) rfl ?_
    exact e_iret dX1_figure_48 rfl rfl rfl ⟨by first | (simp [p_figD, *]; done) | (exfalso; simp_all; done), rfl⟩
  by_cases c_2 : w = 1
  · refine e_tableIn (off := 48) 49 dX1_figure_1 (by rw [c_2]; decide) (by rw [c_2]; decide) (by rw [c_2]; decide) rfl ?_
    refine e_aload_n dX1_figure_49 rfl ?_
    refine e_get dX1_figure_50 ff_X1_15 hs (fx_pi_lt ho) (by decide) rfl ?_
    exact e_iret dX1_figure_53 rfl rfl rfl ⟨by first | (simp [p_figD, *]; done) | (exfalso; simp_all; done), rfl⟩
  by_cases c_3 : w = 2
  · refine e_tableIn (off := 53) 54 dX1_figure_1 (by rw [c_3]; decide) (by rw [c_3]; decide) (by rw [c_3]; decide) rfl ?_
    refine e_aload_n dX1_figure_54 rfl ?_
    refine e_get dX1_figure_55 ff_X1_18 hs (fx_pi_lt ho) (by decide) rfl ?_
    exact e_iret dX1_figure_58 rfl rfl rfl ⟨by first | (simp [p_figD, *]; done) | (exfalso; simp_all; done), rfl⟩
  by_cases c_4 : w = 3
  · refine e_tableIn (off := 58) 59 dX1_figure_1 (by rw [c_4]; decide) (by rw [c_4]; decide) (by rw [c_4]; decide) rfl ?_
    refine e_aload_n dX1_figure_59 rfl ?_
    refine e_get dX1_figure_60 ff_X1_21 hs (fx_pi_lt ho) (by decide) rfl ?_
    exact e_iret dX1_figure_63 rfl rfl rfl ⟨by first | (simp [p_figD, *]; done) | (exfalso; simp_all; done), rfl⟩
  by_cases c_5 : w = 4
  · refine e_tableIn (off := 63) 64 dX1_figure_1 (by rw [c_5]; decide) (by rw [c_5]; decide) (by rw [c_5]; decide) rfl ?_
    refine e_aload_n dX1_figure_64 rfl ?_
    refine e_get dX1_figure_65 ff_X1_24 hs (fx_pi_lt ho) (by decide) rfl ?_
    exact e_iret dX1_figure_68 rfl rfl rfl ⟨by first | (simp [p_figD, *]; done) | (exfalso; simp_all; done), rfl⟩
  by_cases c_6 : w = 5
  · refine e_tableIn (off := 68) 69 dX1_figure_1 (by rw [c_6]; decide) (by rw [c_6]; decide) (by rw [c_6]; decide) rfl ?_
    refine e_aload_n dX1_figure_69 rfl ?_
    refine e_get dX1_figure_70 ff_X1_27 hs (fx_pi_lt ho) (by decide) rfl ?_
    exact e_iret dX1_figure_73 rfl rfl rfl ⟨by first | (simp [p_figD, *]; done) | (exfalso; simp_all; done), rfl⟩
  by_cases c_7 : w = 6
  · refine e_tableIn (off := 73) 74 dX1_figure_1 (by rw [c_7]; decide) (by rw [c_7]; decide) (by rw [c_7]; decide) rfl ?_
    refine e_aload_n dX1_figure_74 rfl ?_
    refine e_get dX1_figure_75 ff_X1_30 hs (fx_pi_lt ho) (by decide) rfl ?_
    exact e_iret dX1_figure_78 rfl rfl rfl ⟨by first | (simp [p_figD, *]; done) | (exfalso; simp_all; done), rfl⟩
  have tc_1 := lv_neT c_1 (show (0 : Int32).toInt = 0 by decide)
  have tc_2 := lv_neT c_2 (show (1 : Int32).toInt = 1 by decide)
  have tc_3 := lv_neT c_3 (show (2 : Int32).toInt = 2 by decide)
  have tc_4 := lv_neT c_4 (show (3 : Int32).toInt = 3 by decide)
  have tc_5 := lv_neT c_5 (show (4 : Int32).toInt = 4 by decide)
  have tc_6 := lv_neT c_6 (show (5 : Int32).toInt = 5 by decide)
  have tc_7 := lv_neT c_7 (show (6 : Int32).toInt = 6 by decide)
  refine e_tableOut 79 dX1_figure_1 (by omega) rfl ?_
  refine e_aload_n dX1_figure_79 rfl ?_
  refine e_get dX1_figure_80 ff_X1_33 hs (fx_pi_lt ho) (by decide) rfl ?_
  exact e_iret dX1_figure_83 rfl rfl rfl ⟨by first | (simp [p_figD, *]; done) | (exfalso; simp_all; done), rfl⟩
def p_retI (w : Int32) : Nat := if w = 0 then 3 else if w = 1 then 5 else if w = 2 then 6 else 7
set_option maxRecDepth 100000 in
set_option maxHeartbeats 600000 in
theorem s_X1_retell {Γ : fx_G} {m : fx_M} (o : Nat) (hs : fx_shapes[o]? = some (10 + 1, 8)) (ho : o < 119) (w v : Int32) : fx_Ct Γ mX1_retell 0 119 119 [fx_rf Γ o, .int w, .int v] m (fx_is (some (.int (m.1 o (p_retI w)))) (fx_sI m o (p_retI w) v)) := by
  refine fx_Ct.of (j := 1) (by decide) (Nat.le_of_ble_eq_true rfl) (Nat.le_of_ble_eq_true rfl) ?_
  show fx_E Γ mX1_retell 0 119 119 _ 119 m 0 [some (fx_rf Γ o), some (.int w), some (.int v), none] []
  refine e_iload_n dX1_retell_0 rfl ?_
  by_cases c_1 : w = 0
  · refine e_tableIn (off := 27) 28 dX1_retell_1 (by rw [c_1]; decide) (by rw [c_1]; decide) (by rw [c_1]; decide) rfl ?_
    refine e_aload_n dX1_retell_28 rfl ?_
    refine e_get dX1_retell_29 ff_X1_21 hs (fx_pi_lt ho) (by decide) rfl ?_
    refine e_istore_n dX1_retell_32 (by decide) rfl ?_
    refine e_aload_n dX1_retell_33 rfl ?_
    refine e_iload_n dX1_retell_34 rfl ?_
    refine e_put dX1_retell_35 ff_X1_21 hs (fx_pi_lt ho) (by decide) rfl (Or.inl rfl) ?_
    refine e_goto 77 dX1_retell_38 rfl ?_
    refine e_iload_n dX1_retell_77 rfl ?_
    exact e_iret dX1_retell_78 rfl rfl rfl ⟨by simp [p_retI, *], by simp [p_retI, *]⟩
  by_cases c_2 : w = 1
  · refine e_tableIn (off := 40) 41 dX1_retell_1 (by rw [c_2]; decide) (by rw [c_2]; decide) (by rw [c_2]; decide) rfl ?_
    refine e_aload_n dX1_retell_41 rfl ?_
    refine e_get dX1_retell_42 ff_X1_27 hs (fx_pi_lt ho) (by decide) rfl ?_
    refine e_istore_n dX1_retell_45 (by decide) rfl ?_
    refine e_aload_n dX1_retell_46 rfl ?_
    refine e_iload_n dX1_retell_47 rfl ?_
    refine e_put dX1_retell_48 ff_X1_27 hs (fx_pi_lt ho) (by decide) rfl (Or.inl rfl) ?_
    refine e_goto 77 dX1_retell_51 rfl ?_
    refine e_iload_n dX1_retell_77 rfl ?_
    exact e_iret dX1_retell_78 rfl rfl rfl ⟨by simp [p_retI, *], by simp [p_retI, *]⟩
  by_cases c_3 : w = 2
  · refine e_tableIn (off := 53) 54 dX1_retell_1 (by rw [c_3]; decide) (by rw [c_3]; decide) (by rw [c_3]; decide) rfl ?_
    refine e_aload_n dX1_retell_54 rfl ?_
    refine e_get dX1_retell_55 ff_X1_30 hs (fx_pi_lt ho) (by decide) rfl ?_
    refine e_istore_n dX1_retell_58 (by decide) rfl ?_
    refine e_aload_n dX1_retell_59 rfl ?_
    refine e_iload_n dX1_retell_60 rfl ?_
    refine e_put dX1_retell_61 ff_X1_30 hs (fx_pi_lt ho) (by decide) rfl (Or.inl rfl) ?_
    refine e_goto 77 dX1_retell_64 rfl ?_
    refine e_iload_n dX1_retell_77 rfl ?_
    exact e_iret dX1_retell_78 rfl rfl rfl ⟨by simp [p_retI, *], by simp [p_retI, *]⟩
  have tc_1 := lv_neT c_1 (show (0 : Int32).toInt = 0 by decide)
  have tc_2 := lv_neT c_2 (show (1 : Int32).toInt = 1 by decide)
  have tc_3 := lv_neT c_3 (show (2 : Int32).toInt = 2 by decide)
  refine e_tableOut 67 dX1_retell_1 (by omega) rfl ?_
  refine e_aload_n dX1_retell_67 rfl ?_
  refine e_get dX1_retell_68 ff_X1_33 hs (fx_pi_lt ho) (by decide) rfl ?_
  refine e_istore_n dX1_retell_71 (by decide) rfl ?_
  refine e_aload_n dX1_retell_72 rfl ?_
  refine e_iload_n dX1_retell_73 rfl ?_
  refine e_put dX1_retell_74 ff_X1_33 hs (fx_pi_lt ho) (by decide) rfl (Or.inl rfl) ?_
  refine e_iload_n dX1_retell_77 rfl ?_
  exact e_iret dX1_retell_78 rfl rfl rfl ⟨by simp [p_retI, *], by simp [p_retI, *]⟩
