def p_nw (sort : Int32) (v : Int64) : Int64 := if sort = 0 then v.toInt32.toInt8.toInt32.toInt64 else if sort = 1 then v.toInt32.toInt16.toInt32.toInt64 else if sort = 2 then v.toInt32.toInt64 else v
/-- zeros in a row's first k places -/
def fx_zJ (m : fx_M) (o k : Nat) : fx_M := (m.1, fun a b => if a = o ∧ b < k then 0 else m.2.1 a b, m.2.2)
theorem fx_zJ_0 (m : fx_M) (o : Nat) : fx_zJ m o 0 = m := by
  simp [fx_zJ]
theorem fx_zJ_s (m : fx_M) (o k : Nat) : fx_sJ (fx_zJ m o k) o k 0 = fx_zJ m o (k + 1) := by
  unfold fx_sJ fx_zJ
  congr 1
  congr 1
  funext a b
  by_cases ha : a = o
  · subst ha
    by_cases hb : b = k
    · subst hb; simp
    · by_cases h2 : b < k
      · simp [hb, h2, show b < k + 1 by omega]
      · simp [hb, h2, show ¬ b < k + 1 by omega]
  · simp [ha]
set_option maxRecDepth 100000 in
set_option maxHeartbeats 600000 in
theorem s_X5_put {Γ : fx_G} {m : fx_M} (h : Nat) (H : fx_Sf h) (hL : fx_Lay m) {c j : Nat} (hc : c ≤ 160) (hm : m.1 h 2 = nI c) (hj : j < c) (v : Int64) : fx_Ct Γ mX5_put 1 119 119 [fx_rf Γ h, .int (nI j), .long v] m (fx_is none (fx_sJ m (h + 1) j (p_nw (m.1 h 1) v))) := by
  refine fx_Ct.of (j := 0) (by decide) (Nat.le_of_ble_eq_true rfl) (Nat.le_of_ble_eq_true rfl) ?_
  show fx_E Γ mX5_put 1 119 119 _ 119 m 0 [some (fx_rf Γ h), some (.int (nI j)), some (.long v), none] []
  refine e_aload_n dX5_put_0 rfl ?_
  refine e_iload_n dX5_put_1 rfl ?_
  refine e_callV1 (μ' := mX5_hasElement) (ci := 5) (As := [.int (nI j)]) dX5_put_2 wl_X5_28 ok_X5_hasElement H.sh rfl (fx_pi_lt H.lt) (by decide) (Nat.le_of_ble_eq_true rfl) fx_n1 (s_X5_hasElement (m := m) h H (nI j)) rfl ?_
  refine e_if_neB 9 dX5_put_5 rfl (fun _ => ?_) (fun h => absurd ⟨nI_pos' (by omega), by rw [hm]; exact nI_lt hj (by omega)⟩ h)
  refine e_aload_n dX5_put_9 rfl ?_
  refine e_get dX5_put_10 ff_X5_15 H.sh (fx_pi_lt H.lt) (by decide) rfl ?_
  by_cases c_1 : (m.1 h 1) = 0
  · refine e_tableIn (off := 27) 40 dX5_put_13 (by rw [c_1]; decide) (by rw [c_1]; decide) (by rw [c_1]; decide) rfl ?_
    refine e_aload_n dX5_put_40 rfl ?_
    refine e_getr (o2 := h + 1) dX5_put_41 ff_X5_11 H.sh (fx_pi_lt H.lt) (by decide) rfl (H.el hL) ?_
    refine e_iload_n dX5_put_44 rfl ?_
    refine e_lload_n dX5_put_45 rfl ?_
    refine e_l2i dX5_put_46 ?_
    refine e_i2b dX5_put_47 ?_
    refine e_i2l dX5_put_48 ?_
    refine e_last (j := j) dX5_put_49 H.she (fx_pi_lt H.lte) rfl (by omega) (by decide) ?_
    refine e_goto 85 dX5_put_50 rfl ?_
    exact e_vret dX5_put_85 rfl rfl ⟨rfl, by simp [p_nw, *]⟩
  by_cases c_2 : (m.1 h 1) = 1
  · refine e_tableIn (off := 40) 53 dX5_put_13 (by rw [c_2]; decide) (by rw [c_2]; decide) (by rw [c_2]; decide) rfl ?_
    refine e_aload_n dX5_put_53 rfl ?_
    refine e_getr (o2 := h + 1) dX5_put_54 ff_X5_11 H.sh (fx_pi_lt H.lt) (by decide) rfl (H.el hL) ?_
    refine e_iload_n dX5_put_57 rfl ?_
    refine e_lload_n dX5_put_58 rfl ?_
    refine e_l2i dX5_put_59 ?_
    refine e_i2s dX5_put_60 ?_
    refine e_i2l dX5_put_61 ?_
    refine e_last (j := j) dX5_put_62 H.she (fx_pi_lt H.lte) rfl (by omega) (by decide) ?_
    refine e_goto 85 dX5_put_63 rfl ?_
    exact e_vret dX5_put_85 rfl rfl ⟨rfl, by simp [p_nw, *]⟩
  by_cases c_3 : (m.1 h 1) = 2
  · refine e_tableIn (off := 53) 66 dX5_put_13 (by rw [c_3]; decide) (by rw [c_3]; decide) (by rw [c_3]; decide) rfl ?_
    refine e_aload_n dX5_put_66 rfl ?_
    refine e_getr (o2 := h + 1) dX5_put_67 ff_X5_11 H.sh (fx_pi_lt H.lt) (by decide) rfl (H.el hL) ?_
    refine e_iload_n dX5_put_70 rfl ?_
    refine e_lload_n dX5_put_71 rfl ?_
    refine e_l2i dX5_put_72 ?_
    refine e_i2l dX5_put_73 ?_
    refine e_last (j := j) dX5_put_74 H.she (fx_pi_lt H.lte) rfl (by omega) (by decide) ?_
    refine e_goto 85 dX5_put_75 rfl ?_
    exact e_vret dX5_put_85 rfl rfl ⟨rfl, by simp [p_nw, *]⟩
  have tc_1 := lv_neT c_1 (show (0 : Int32).toInt = 0 by decide)
  have tc_2 := lv_neT c_2 (show (1 : Int32).toInt = 1 by decide)
  have tc_3 := lv_neT c_3 (show (2 : Int32).toInt = 2 by decide)
  refine e_tableOut 78 dX5_put_13 (by omega) rfl ?_
  refine e_aload_n dX5_put_78 rfl ?_
  refine e_getr (o2 := h + 1) dX5_put_79 ff_X5_11 H.sh (fx_pi_lt H.lt) (by decide) rfl (H.el hL) ?_
  refine e_iload_n dX5_put_82 rfl ?_
  refine e_lload_n dX5_put_83 rfl ?_
  refine e_last (j := j) dX5_put_84 H.she (fx_pi_lt H.lte) rfl (by omega) (by decide) ?_
  exact e_vret dX5_put_85 rfl rfl ⟨rfl, by simp [p_nw, *]⟩
set_option maxRecDepth 100000 in
set_option maxHeartbeats 600000 in
theorem s_X5_holdRow {Γ : fx_G} {m : fx_M} (h : Nat) (H : fx_Sf h) (hL : fx_Lay m) (so nn : Int32) : fx_Ct Γ mX5_holdRow 1 119 119 [fx_rf Γ h, .int so, .int nn] m (fx_is none (fx_zJ (fx_sI (fx_sI (fx_sI (fx_sI (fx_sI m h 1 (-1)) h 2 0) h 3 (-1)) h 1 so) h 2 nn) (h + 1) 160)) := by
  refine fx_Ct.of (j := 1) (by decide) (Nat.le_of_ble_eq_true rfl) (Nat.le_of_ble_eq_true rfl) ?_
  show fx_E Γ mX5_holdRow 1 119 119 _ 119 m 0 [some (fx_rf Γ h), some (.int so), some (.int nn), none] []
  have lp : ∀ (j : Nat) (k : Nat), k + j = 160 → fx_E Γ mX5_holdRow 1 119 119 (fx_is none (fx_zJ (fx_sI (fx_sI (fx_sI (fx_sI (fx_sI m h 1 (-1)) h 2 0) h 3 (-1)) h 1 so) h 2 nn) (h + 1) 160)) 119 (fx_zJ (fx_sI (fx_sI (fx_sI (fx_sI (fx_sI m h 1 (-1)) h 2 0) h 3 (-1)) h 1 so) h 2 nn) (h + 1) k) 16 [some (fx_rf Γ h), some (.int so), some (.int nn), some (.int (nI k))] [] := by
    intro j
    induction j with
    | zero =>
      intro k hk
      have e : k = 160 := by omega
      subst e
      refine e_iload_n dX5_holdRow_16 rfl ?_
      refine e_sipush dX5_holdRow_17 kcs_160 ?_
      refine e_icmp_ge 36 dX5_holdRow_20 rfl (fun _ => ?_) (fun h => absurd (Int32.le_refl _) h)
      exact e_vret dX5_holdRow_36 rfl rfl ⟨rfl, rfl⟩
    | succ j ih =>
      intro k hk
      refine e_iload_n dX5_holdRow_16 rfl ?_
      refine e_sipush dX5_holdRow_17 kcs_160 ?_
      refine e_icmp_ge 36 dX5_holdRow_20 rfl (fun h => absurd h (nI_ge (a := k) (b := 160) (by omega) (by omega))) (fun _ => ?_)
      refine e_aload_n dX5_holdRow_23 rfl ?_
      refine e_getr (o2 := h + 1) dX5_holdRow_24 ff_X5_11 H.sh (fx_pi_lt H.lt) (by decide) rfl (H.el hL) ?_
      refine e_iload_n dX5_holdRow_27 rfl ?_
      refine e_lconst (v := 0) dX5_holdRow_28 rfl ?_
      refine e_last (j := k) dX5_holdRow_29 H.she (fx_pi_lt H.lte) rfl (by omega) (by decide) ?_
      refine e_iinc (v := nI (k + 1)) dX5_holdRow_30 rfl (fx_inc _) (by decide) rfl ?_
      refine e_goto 16 dX5_holdRow_33 rfl ?_
      rw [fx_zJ_s]
      exact ih (k + 1) (by omega)
  refine e_aload_n dX5_holdRow_0 rfl ?_
  refine e_callV1 (μ' := mX5_holdNothing) (ci := 5) (As := []) dX5_holdRow_1 wl_X5_25 ok_X5_holdNothing H.sh rfl (fx_pi_lt H.lt) (by decide) (Nat.le_of_ble_eq_true rfl) fx_n1 (s_X5_holdNothing (m := m) h H ) rfl ?_
  refine e_aload_n dX5_holdRow_4 rfl ?_
  refine e_iload_n dX5_holdRow_5 rfl ?_
  refine e_put dX5_holdRow_6 ff_X5_15 H.sh (fx_pi_lt H.lt) (by decide) rfl (Or.inl rfl) ?_
  refine e_aload_n dX5_holdRow_9 rfl ?_
  refine e_iload_n dX5_holdRow_10 rfl ?_
  refine e_put dX5_holdRow_11 ff_X5_19 H.sh (fx_pi_lt H.lt) (by decide) rfl (Or.inl rfl) ?_
  refine e_iconst dX5_holdRow_14 kci_0 ?_
  refine e_istore_n dX5_holdRow_15 (by decide) rfl ?_
  have e0 := lp 160 0 (by omega)
  rw [fx_zJ_0] at e0
  exact e0
/-- kind i is k, or under it -/
abbrev p_isU (i k : Int32) : Prop := k = 0 ∨ k = i ∨ (k = 1 ∧ (i = 3 ∨ i = 6)) ∨ (k = 3 ∧ i = 6) ∨ (k = 2 ∧ i = 5)
/-- minutes in tea: from the least so far -/
def p_te (f : Nat → Int32) (k : Nat) (s : Int32 × Int32) : Int32 × Int32 := if f k < s.2 then (nI k, f k) else s
theorem p_te_y {f : Nat → Int32} {k : Nat} {s : Int32 × Int32} (h : f k < s.2) : p_te f k s = (nI k, f k) := if_pos h
theorem p_te_n {f : Nat → Int32} {k : Nat} {s : Int32 × Int32} (h : ¬ f k < s.2) : p_te f k s = s := if_neg h
set_option maxRecDepth 100000 in
set_option maxHeartbeats 600000 in
theorem s_X0_minutesInTea {Γ : fx_G} {m : fx_M} (o : Nat) (hs : fx_shapes[o]? = some (10 + 0, 7)) (ho : o < 119) (q : Nat) (hq : fx_shapes[q]? = some (10 + 1, 8)) (hqo : q < 119) : fx_Ct Γ mX0_minutesInTea 4 119 119 [fx_rf Γ o, fx_rf Γ q] m (fx_is (some (.int ((p_fold (p_te (fun k => p_far (m.1 o) (m.1 q) (p_min 9 (m.1 o 4 + nI k)) (m.1 o 5))) 9 1 (0, p_far (m.1 o) (m.1 q) (m.1 o 4) (m.1 o 5))).1))) m) := by
  refine fx_Ct.of (j := 4) (by decide) (Nat.le_of_ble_eq_true rfl) (Nat.le_of_ble_eq_true rfl) ?_
  show fx_E Γ mX0_minutesInTea 4 119 119 _ 119 m 0 [some (fx_rf Γ o), some (fx_rf Γ q), none, none, none, none] []
  have lp : ∀ (j : Nat) (k : Nat) (t : Int32 × Int32), k + j = 10 → fx_E Γ mX0_minutesInTea 4 119 119 (fx_is (some (.int ((p_fold (p_te (fun k => p_far (m.1 o) (m.1 q) (p_min 9 (m.1 o 4 + nI k)) (m.1 o 5))) j k t).1))) m) 119 m 11 [some (fx_rf Γ o), some (fx_rf Γ q), some (.int t.1), some (.int t.2), some (.int (nI k)), none] [] := by
    intro j
    induction j with
    | zero =>
      intro k t hk
      refine e_iload dX0_minutesInTea_11 rfl ?_
      refine e_bipush dX0_minutesInTea_13 kcb_9 ?_
      refine e_icmp_gt 59 dX0_minutesInTea_15 rfl (fun _ => ?_) (fun h => absurd (nI_lt (a := 9) (b := k) (by omega) (by omega)) h)
      refine e_iload_n dX0_minutesInTea_59 rfl ?_
      exact e_iret dX0_minutesInTea_60 rfl rfl rfl ⟨rfl, rfl⟩
    | succ j ih =>
      intro k t hk
      refine e_iload dX0_minutesInTea_11 rfl ?_
      refine e_bipush dX0_minutesInTea_13 kcb_9 ?_
      refine e_icmp_gt 59 dX0_minutesInTea_15 rfl (fun h => absurd h (nI_nlt (a := 9) (b := k) (by omega) (by omega))) (fun _ => ?_)
      refine e_aload_n dX0_minutesInTea_18 rfl ?_
      refine e_aload_n dX0_minutesInTea_19 rfl ?_
      refine e_bipush dX0_minutesInTea_20 kcb_9 ?_
      refine e_aload_n dX0_minutesInTea_22 rfl ?_
      refine e_get dX0_minutesInTea_23 ff_X0_27 hs (fx_pi_lt ho) (by decide) rfl ?_
      refine e_iload dX0_minutesInTea_26 rfl ?_
      refine e_iadd dX0_minutesInTea_28 ?_
      refine e_minP dX0_minutesInTea_29 wl_X0_51 wt_J9_min_7cf53 wz_Math fx_wmin (by decide) (Nat.le_of_ble_eq_true rfl) ?_
      refine e_aload_n dX0_minutesInTea_32 rfl ?_
      refine e_get dX0_minutesInTea_33 ff_X0_30 hs (fx_pi_lt ho) (by decide) rfl ?_
      refine e_callV1 (μ' := mX0_farIf) (ci := 0) (As := [fx_rf Γ q, .int (p_min 9 ((m.1 o 4) + (nI k))), .int (m.1 o 5)]) dX0_minutesInTea_36 wl_X0_63 ok_X0_farIf hs rfl (fx_pi_lt ho) (by decide) (Nat.le_of_ble_eq_true rfl) fx_n1 (s_X0_farIf (m := m) o hs ho q hq hqo (p_min 9 ((m.1 o 4) + (nI k))) (m.1 o 5)) rfl ?_
      refine e_istore dX0_minutesInTea_39 (by decide) rfl ?_
      refine e_iload dX0_minutesInTea_41 rfl ?_
      refine e_iload_n dX0_minutesInTea_43 rfl ?_
      refine e_icmp_ge 53 dX0_minutesInTea_44 rfl (fun c_g => ?_) (fun c_g => ?_)
      · refine e_iinc (v := nI (k + 1)) dX0_minutesInTea_53 rfl (fx_inc _) (by decide) rfl ?_
        refine e_goto 11 dX0_minutesInTea_56 rfl ?_
        refine e_weak (lv2 := [some (fx_rf Γ o), some (fx_rf Γ q), some (.int t.1), some (.int t.2), some (.int (nI (k + 1))), none]) ⟨rfl, rfl, rfl, rfl, rfl, trivial⟩ ?_
        rw [p_fold_s (p_te_n (f := (fun k => p_far (m.1 o) (m.1 q) (p_min 9 (m.1 o 4 + nI k)) (m.1 o 5))) (k := k) (s := t) (Int32.not_lt.mpr c_g))]
        exact ih (k + 1) t (by omega)
      · refine e_iload dX0_minutesInTea_47 rfl ?_
        refine e_istore_n dX0_minutesInTea_49 (by decide) rfl ?_
        refine e_iload dX0_minutesInTea_50 rfl ?_
        refine e_istore_n dX0_minutesInTea_52 (by decide) rfl ?_
        refine e_iinc (v := nI (k + 1)) dX0_minutesInTea_53 rfl (fx_inc _) (by decide) rfl ?_
        refine e_goto 11 dX0_minutesInTea_56 rfl ?_
        refine e_weak (lv2 := [some (fx_rf Γ o), some (fx_rf Γ q), some (.int (nI k)), some (.int (p_far (m.1 o) (m.1 q) (p_min 9 ((m.1 o 4) + (nI k))) (m.1 o 5))), some (.int (nI (k + 1))), none]) ⟨rfl, rfl, rfl, rfl, rfl, trivial⟩ ?_
        rw [p_fold_s (p_te_y (f := (fun k => p_far (m.1 o) (m.1 q) (p_min 9 (m.1 o 4 + nI k)) (m.1 o 5))) (k := k) (s := t) (Int32.not_le.mp c_g))]
        exact ih (k + 1) (nI k, _) (by omega)
  refine e_iconst dX0_minutesInTea_0 kci_0 ?_
  refine e_istore_n dX0_minutesInTea_1 (by decide) rfl ?_
  refine e_aload_n dX0_minutesInTea_2 rfl ?_
  refine e_aload_n dX0_minutesInTea_3 rfl ?_
  refine e_callV1 (μ' := mX0_farFrom) (ci := 0) (As := [fx_rf Γ q]) dX0_minutesInTea_4 wl_X0_72 ok_X0_farFrom hs rfl (fx_pi_lt ho) (by decide) (Nat.le_of_ble_eq_true rfl) fx_n1 (s_X0_farFrom (m := m) o hs ho q hq hqo ) rfl ?_
  refine e_istore_n dX0_minutesInTea_7 (by decide) rfl ?_
  refine e_iconst dX0_minutesInTea_8 kci_1 ?_
  refine e_istore dX0_minutesInTea_9 (by decide) rfl ?_
  exact lp 9 1 (0, _) (by omega)
set_option maxRecDepth 100000 in
set_option maxHeartbeats 600000 in
theorem s_X0_above0 {Γ : fx_G} {m : fx_M} : fx_Ct Γ mX0_above 0 119 119 [.int 0] m (fx_is (some (.int (-1))) m) := by
  refine fx_Ct.of (j := 0) (by decide) (Nat.le_of_ble_eq_true rfl) (Nat.le_of_ble_eq_true rfl) ?_
  show fx_E Γ mX0_above 0 119 119 _ 119 m 0 [some (.int 0)] []
  refine e_iload_n dX0_above_0 rfl ?_
  refine e_if_le 18 dX0_above_1 rfl (fun _ => ?_) (fun h => absurd (by decide) h)
  refine e_iconst dX0_above_18 kci_m1 ?_
  exact e_iret dX0_above_19 rfl rfl rfl ⟨rfl, rfl⟩
set_option maxRecDepth 100000 in
set_option maxHeartbeats 600000 in
theorem s_X0_above1 {Γ : fx_G} {m : fx_M} : fx_Ct Γ mX0_above 0 119 119 [.int 1] m (fx_is (some (.int 0)) m) := by
  refine fx_Ct.of (j := 0) (by decide) (Nat.le_of_ble_eq_true rfl) (Nat.le_of_ble_eq_true rfl) ?_
  show fx_E Γ mX0_above 0 119 119 _ 119 m 0 [some (.int 1)] []
  refine e_iload_n dX0_above_0 rfl ?_
  refine e_if_le 18 dX0_above_1 rfl (fun h => absurd h (by decide)) (fun _ => ?_)
  refine e_iload_n dX0_above_4 rfl ?_
  refine e_bipush dX0_above_5 kcb_6 ?_
  refine e_icmp_gt 18 dX0_above_7 rfl (fun h => absurd h (by decide)) (fun _ => ?_)
  refine e_gets (j := 0) dX0_above_10 rfl wf_X0_37 ?_
  refine e_iload_n dX0_above_13 rfl ?_
  refine e_sald (j := 0) (i := 1) dX0_above_14 rfl rfl (by decide) (by decide) ?_
  refine e_goto 19 dX0_above_15 rfl ?_
  exact e_iret dX0_above_19 rfl rfl rfl ⟨rfl, rfl⟩
set_option maxRecDepth 100000 in
set_option maxHeartbeats 600000 in
theorem s_X0_above2 {Γ : fx_G} {m : fx_M} : fx_Ct Γ mX0_above 0 119 119 [.int 2] m (fx_is (some (.int 0)) m) := by
  refine fx_Ct.of (j := 0) (by decide) (Nat.le_of_ble_eq_true rfl) (Nat.le_of_ble_eq_true rfl) ?_
  show fx_E Γ mX0_above 0 119 119 _ 119 m 0 [some (.int 2)] []
  refine e_iload_n dX0_above_0 rfl ?_
  refine e_if_le 18 dX0_above_1 rfl (fun h => absurd h (by decide)) (fun _ => ?_)
  refine e_iload_n dX0_above_4 rfl ?_
  refine e_bipush dX0_above_5 kcb_6 ?_
  refine e_icmp_gt 18 dX0_above_7 rfl (fun h => absurd h (by decide)) (fun _ => ?_)
  refine e_gets (j := 0) dX0_above_10 rfl wf_X0_37 ?_
  refine e_iload_n dX0_above_13 rfl ?_
  refine e_sald (j := 0) (i := 2) dX0_above_14 rfl rfl (by decide) (by decide) ?_
  refine e_goto 19 dX0_above_15 rfl ?_
  exact e_iret dX0_above_19 rfl rfl rfl ⟨rfl, rfl⟩
set_option maxRecDepth 100000 in
set_option maxHeartbeats 600000 in
theorem s_X0_above3 {Γ : fx_G} {m : fx_M} : fx_Ct Γ mX0_above 0 119 119 [.int 3] m (fx_is (some (.int 1)) m) := by
  refine fx_Ct.of (j := 0) (by decide) (Nat.le_of_ble_eq_true rfl) (Nat.le_of_ble_eq_true rfl) ?_
  show fx_E Γ mX0_above 0 119 119 _ 119 m 0 [some (.int 3)] []
  refine e_iload_n dX0_above_0 rfl ?_
  refine e_if_le 18 dX0_above_1 rfl (fun h => absurd h (by decide)) (fun _ => ?_)
  refine e_iload_n dX0_above_4 rfl ?_
  refine e_bipush dX0_above_5 kcb_6 ?_
  refine e_icmp_gt 18 dX0_above_7 rfl (fun h => absurd h (by decide)) (fun _ => ?_)
  refine e_gets (j := 0) dX0_above_10 rfl wf_X0_37 ?_
  refine e_iload_n dX0_above_13 rfl ?_
  refine e_sald (j := 0) (i := 3) dX0_above_14 rfl rfl (by decide) (by decide) ?_
  refine e_goto 19 dX0_above_15 rfl ?_
  exact e_iret dX0_above_19 rfl rfl rfl ⟨rfl, rfl⟩
set_option maxRecDepth 100000 in
set_option maxHeartbeats 600000 in
theorem s_X0_above4 {Γ : fx_G} {m : fx_M} : fx_Ct Γ mX0_above 0 119 119 [.int 4] m (fx_is (some (.int 0)) m) := by
  refine fx_Ct.of (j := 0) (by decide) (Nat.le_of_ble_eq_true rfl) (Nat.le_of_ble_eq_true rfl) ?_
  show fx_E Γ mX0_above 0 119 119 _ 119 m 0 [some (.int 4)] []
  refine e_iload_n dX0_above_0 rfl ?_
  refine e_if_le 18 dX0_above_1 rfl (fun h => absurd h (by decide)) (fun _ => ?_)
  refine e_iload_n dX0_above_4 rfl ?_
  refine e_bipush dX0_above_5 kcb_6 ?_
  refine e_icmp_gt 18 dX0_above_7 rfl (fun h => absurd h (by decide)) (fun _ => ?_)
  refine e_gets (j := 0) dX0_above_10 rfl wf_X0_37 ?_
  refine e_iload_n dX0_above_13 rfl ?_
  refine e_sald (j := 0) (i := 4) dX0_above_14 rfl rfl (by decide) (by decide) ?_
  refine e_goto 19 dX0_above_15 rfl ?_
  exact e_iret dX0_above_19 rfl rfl rfl ⟨rfl, rfl⟩
set_option maxRecDepth 100000 in
set_option maxHeartbeats 600000 in
theorem s_X0_above5 {Γ : fx_G} {m : fx_M} : fx_Ct Γ mX0_above 0 119 119 [.int 5] m (fx_is (some (.int 2)) m) := by
  refine fx_Ct.of (j := 0) (by decide) (Nat.le_of_ble_eq_true rfl) (Nat.le_of_ble_eq_true rfl) ?_
  show fx_E Γ mX0_above 0 119 119 _ 119 m 0 [some (.int 5)] []
  refine e_iload_n dX0_above_0 rfl ?_
  refine e_if_le 18 dX0_above_1 rfl (fun h => absurd h (by decide)) (fun _ => ?_)
  refine e_iload_n dX0_above_4 rfl ?_
  refine e_bipush dX0_above_5 kcb_6 ?_
  refine e_icmp_gt 18 dX0_above_7 rfl (fun h => absurd h (by decide)) (fun _ => ?_)
  refine e_gets (j := 0) dX0_above_10 rfl wf_X0_37 ?_
  refine e_iload_n dX0_above_13 rfl ?_
  refine e_sald (j := 0) (i := 5) dX0_above_14 rfl rfl (by decide) (by decide) ?_
  refine e_goto 19 dX0_above_15 rfl ?_
  exact e_iret dX0_above_19 rfl rfl rfl ⟨rfl, rfl⟩
set_option maxRecDepth 100000 in
set_option maxHeartbeats 600000 in
theorem s_X0_above6 {Γ : fx_G} {m : fx_M} : fx_Ct Γ mX0_above 0 119 119 [.int 6] m (fx_is (some (.int 3)) m) := by
  refine fx_Ct.of (j := 0) (by decide) (Nat.le_of_ble_eq_true rfl) (Nat.le_of_ble_eq_true rfl) ?_
  show fx_E Γ mX0_above 0 119 119 _ 119 m 0 [some (.int 6)] []
  refine e_iload_n dX0_above_0 rfl ?_
  refine e_if_le 18 dX0_above_1 rfl (fun h => absurd h (by decide)) (fun _ => ?_)
  refine e_iload_n dX0_above_4 rfl ?_
  refine e_bipush dX0_above_5 kcb_6 ?_
  refine e_icmp_gt 18 dX0_above_7 rfl (fun h => absurd h (by decide)) (fun _ => ?_)
  refine e_gets (j := 0) dX0_above_10 rfl wf_X0_37 ?_
  refine e_iload_n dX0_above_13 rfl ?_
  refine e_sald (j := 0) (i := 6) dX0_above_14 rfl rfl (by decide) (by decide) ?_
  refine e_goto 19 dX0_above_15 rfl ?_
  exact e_iret dX0_above_19 rfl rfl rfl ⟨rfl, rfl⟩
set_option maxRecDepth 100000 in
set_option maxHeartbeats 600000 in
theorem s_X0_isOf {Γ : fx_G} {m : fx_M} (o : Nat) (hs : fx_shapes[o]? = some (10 + 0, 7)) (ho : o < 119) {kk : Nat} (hk : kk ≤ 6) (h0 : m.1 o 0 = nI kk) (w : Int32) : fx_Ct Γ mX0_isOf 1 119 119 [fx_rf Γ o, .int w] m (fx_is (some (.int (if p_isU (nI kk) w then 1 else 0))) m) := by
  refine fx_Ct.of (j := 2) (by decide) (Nat.le_of_ble_eq_true rfl) (Nat.le_of_ble_eq_true rfl) ?_
  show fx_E Γ mX0_isOf 1 119 119 _ 119 m 0 [some (fx_rf Γ o), some (.int w), none, none] []
  have hkk : kk = 0 ∨ kk = 1 ∨ kk = 2 ∨ kk = 3 ∨ kk = 4 ∨ kk = 5 ∨ kk = 6 := by omega
  rcases hkk with rfl | rfl | rfl | rfl | rfl | rfl | rfl
  · refine e_aload_n dX0_isOf_0 rfl ?_
    refine e_getv (v := 0) dX0_isOf_1 ff_X0_15 hs (fx_pi_lt ho) (by decide) rfl h0 ?_
    refine e_istore_n dX0_isOf_4 (by decide) rfl ?_
    refine e_iconst dX0_isOf_5 kci_0 ?_
    refine e_istore_n dX0_isOf_6 (by decide) rfl ?_
    refine e_iload_n dX0_isOf_7 rfl ?_
    refine e_bipush dX0_isOf_8 kcb_6 ?_
    refine e_icmp_gt 36 dX0_isOf_10 rfl (fun h => absurd h (by decide)) (fun _ => ?_)
    refine e_iload_n dX0_isOf_13 rfl ?_
    refine e_iconst dX0_isOf_14 kci_m1 ?_
    refine e_icmp_eq 36 dX0_isOf_15 rfl (fun h => absurd h (by decide)) (fun _ => ?_)
    refine e_iload_n dX0_isOf_18 rfl ?_
    refine e_iload_n dX0_isOf_19 rfl ?_
    refine e_icmp_ne 25 dX0_isOf_20 rfl (fun c_1 => ?_) (fun c_1 => ?_)
    · refine e_iload_n dX0_isOf_25 rfl ?_
      refine e_callS1 (μ' := mX0_above) (As := [.int 0]) dX0_isOf_26 wl_X0_41 ok_X0_above (by decide) (Nat.le_of_ble_eq_true rfl) fx_n1 (s_X0_above0 (m := m) ) rfl ?_
      refine e_istore_n dX0_isOf_29 (by decide) rfl ?_
      refine e_iinc (v := 1) dX0_isOf_30 rfl (by decide) (by decide) rfl ?_
      refine e_goto 7 dX0_isOf_33 rfl ?_
      refine e_iload_n dX0_isOf_7 rfl ?_
      refine e_bipush dX0_isOf_8 kcb_6 ?_
      refine e_icmp_gt 36 dX0_isOf_10 rfl (fun h => absurd h (by decide)) (fun _ => ?_)
      refine e_iload_n dX0_isOf_13 rfl ?_
      refine e_iconst dX0_isOf_14 kci_m1 ?_
      refine e_icmp_eq 36 dX0_isOf_15 rfl (fun _ => ?_) (fun h => absurd (by decide) h)
      refine e_iconst dX0_isOf_36 kci_0 ?_
      exact e_iret dX0_isOf_37 rfl rfl rfl ⟨by simp only [p_isU]; first | (rw [if_pos (by subst_vars; decide)]; done) | (rw [if_neg (by rintro (h | h | ⟨h, h2⟩ | ⟨h, h2⟩ | ⟨h, h2⟩) <;> subst_vars <;> first | contradiction | (rcases h2 with h2 | h2 <;> exact absurd h2 (by decide)) | exact absurd h2 (by decide))]; done), rfl⟩
    · refine e_iconst dX0_isOf_23 kci_1 ?_
      exact e_iret dX0_isOf_24 rfl rfl rfl ⟨by simp only [p_isU]; first | (rw [if_pos (by subst_vars; decide)]; done) | (rw [if_neg (by rintro (h | h | ⟨h, h2⟩ | ⟨h, h2⟩ | ⟨h, h2⟩) <;> subst_vars <;> first | contradiction | (rcases h2 with h2 | h2 <;> exact absurd h2 (by decide)) | exact absurd h2 (by decide))]; done), rfl⟩
  · refine e_aload_n dX0_isOf_0 rfl ?_
    refine e_getv (v := 1) dX0_isOf_1 ff_X0_15 hs (fx_pi_lt ho) (by decide) rfl h0 ?_
    refine e_istore_n dX0_isOf_4 (by decide) rfl ?_
    refine e_iconst dX0_isOf_5 kci_0 ?_
    refine e_istore_n dX0_isOf_6 (by decide) rfl ?_
    refine e_iload_n dX0_isOf_7 rfl ?_
    refine e_bipush dX0_isOf_8 kcb_6 ?_
    refine e_icmp_gt 36 dX0_isOf_10 rfl (fun h => absurd h (by decide)) (fun _ => ?_)
    refine e_iload_n dX0_isOf_13 rfl ?_
    refine e_iconst dX0_isOf_14 kci_m1 ?_
    refine e_icmp_eq 36 dX0_isOf_15 rfl (fun h => absurd h (by decide)) (fun _ => ?_)
    refine e_iload_n dX0_isOf_18 rfl ?_
    refine e_iload_n dX0_isOf_19 rfl ?_
    refine e_icmp_ne 25 dX0_isOf_20 rfl (fun c_1 => ?_) (fun c_1 => ?_)
    · refine e_iload_n dX0_isOf_25 rfl ?_
      refine e_callS1 (μ' := mX0_above) (As := [.int 1]) dX0_isOf_26 wl_X0_41 ok_X0_above (by decide) (Nat.le_of_ble_eq_true rfl) fx_n1 (s_X0_above1 (m := m) ) rfl ?_
      refine e_istore_n dX0_isOf_29 (by decide) rfl ?_
      refine e_iinc (v := 1) dX0_isOf_30 rfl (by decide) (by decide) rfl ?_
      refine e_goto 7 dX0_isOf_33 rfl ?_
      refine e_iload_n dX0_isOf_7 rfl ?_
      refine e_bipush dX0_isOf_8 kcb_6 ?_
      refine e_icmp_gt 36 dX0_isOf_10 rfl (fun h => absurd h (by decide)) (fun _ => ?_)
      refine e_iload_n dX0_isOf_13 rfl ?_
      refine e_iconst dX0_isOf_14 kci_m1 ?_
      refine e_icmp_eq 36 dX0_isOf_15 rfl (fun h => absurd h (by decide)) (fun _ => ?_)
      refine e_iload_n dX0_isOf_18 rfl ?_
      refine e_iload_n dX0_isOf_19 rfl ?_
      refine e_icmp_ne 25 dX0_isOf_20 rfl (fun c_2 => ?_) (fun c_2 => ?_)
      · refine e_iload_n dX0_isOf_25 rfl ?_
        refine e_callS1 (μ' := mX0_above) (As := [.int 0]) dX0_isOf_26 wl_X0_41 ok_X0_above (by decide) (Nat.le_of_ble_eq_true rfl) fx_n1 (s_X0_above0 (m := m) ) rfl ?_
        refine e_istore_n dX0_isOf_29 (by decide) rfl ?_
        refine e_iinc (v := 2) dX0_isOf_30 rfl (by decide) (by decide) rfl ?_
        refine e_goto 7 dX0_isOf_33 rfl ?_
        refine e_iload_n dX0_isOf_7 rfl ?_
        refine e_bipush dX0_isOf_8 kcb_6 ?_
        refine e_icmp_gt 36 dX0_isOf_10 rfl (fun h => absurd h (by decide)) (fun _ => ?_)
        refine e_iload_n dX0_isOf_13 rfl ?_
        refine e_iconst dX0_isOf_14 kci_m1 ?_
        refine e_icmp_eq 36 dX0_isOf_15 rfl (fun _ => ?_) (fun h => absurd (by decide) h)
        refine e_iconst dX0_isOf_36 kci_0 ?_
        exact e_iret dX0_isOf_37 rfl rfl rfl ⟨by simp only [p_isU]; first | (rw [if_pos (by subst_vars; decide)]; done) | (rw [if_neg (by rintro (h | h | ⟨h, h2⟩ | ⟨h, h2⟩ | ⟨h, h2⟩) <;> subst_vars <;> first | contradiction | (rcases h2 with h2 | h2 <;> exact absurd h2 (by decide)) | exact absurd h2 (by decide))]; done), rfl⟩
      · refine e_iconst dX0_isOf_23 kci_1 ?_
        exact e_iret dX0_isOf_24 rfl rfl rfl ⟨by simp only [p_isU]; first | (rw [if_pos (by subst_vars; decide)]; done) | (rw [if_neg (by rintro (h | h | ⟨h, h2⟩ | ⟨h, h2⟩ | ⟨h, h2⟩) <;> subst_vars <;> first | contradiction | (rcases h2 with h2 | h2 <;> exact absurd h2 (by decide)) | exact absurd h2 (by decide))]; done), rfl⟩
    · refine e_iconst dX0_isOf_23 kci_1 ?_
      exact e_iret dX0_isOf_24 rfl rfl rfl ⟨by simp only [p_isU]; first | (rw [if_pos (by subst_vars; decide)]; done) | (rw [if_neg (by rintro (h | h | ⟨h, h2⟩ | ⟨h, h2⟩ | ⟨h, h2⟩) <;> subst_vars <;> first | contradiction | (rcases h2 with h2 | h2 <;> exact absurd h2 (by decide)) | exact absurd h2 (by decide))]; done), rfl⟩
  · refine e_aload_n dX0_isOf_0 rfl ?_
    refine e_getv (v := 2) dX0_isOf_1 ff_X0_15 hs (fx_pi_lt ho) (by decide) rfl h0 ?_
    refine e_istore_n dX0_isOf_4 (by decide) rfl ?_
    refine e_iconst dX0_isOf_5 kci_0 ?_
    refine e_istore_n dX0_isOf_6 (by decide) rfl ?_
    refine e_iload_n dX0_isOf_7 rfl ?_
    refine e_bipush dX0_isOf_8 kcb_6 ?_
    refine e_icmp_gt 36 dX0_isOf_10 rfl (fun h => absurd h (by decide)) (fun _ => ?_)
    refine e_iload_n dX0_isOf_13 rfl ?_
    refine e_iconst dX0_isOf_14 kci_m1 ?_
    refine e_icmp_eq 36 dX0_isOf_15 rfl (fun h => absurd h (by decide)) (fun _ => ?_)
    refine e_iload_n dX0_isOf_18 rfl ?_
    refine e_iload_n dX0_isOf_19 rfl ?_
    refine e_icmp_ne 25 dX0_isOf_20 rfl (fun c_1 => ?_) (fun c_1 => ?_)
    · refine e_iload_n dX0_isOf_25 rfl ?_
      refine e_callS1 (μ' := mX0_above) (As := [.int 2]) dX0_isOf_26 wl_X0_41 ok_X0_above (by decide) (Nat.le_of_ble_eq_true rfl) fx_n1 (s_X0_above2 (m := m) ) rfl ?_
      refine e_istore_n dX0_isOf_29 (by decide) rfl ?_
      refine e_iinc (v := 1) dX0_isOf_30 rfl (by decide) (by decide) rfl ?_
      refine e_goto 7 dX0_isOf_33 rfl ?_
      refine e_iload_n dX0_isOf_7 rfl ?_
      refine e_bipush dX0_isOf_8 kcb_6 ?_
      refine e_icmp_gt 36 dX0_isOf_10 rfl (fun h => absurd h (by decide)) (fun _ => ?_)
      refine e_iload_n dX0_isOf_13 rfl ?_
      refine e_iconst dX0_isOf_14 kci_m1 ?_
      refine e_icmp_eq 36 dX0_isOf_15 rfl (fun h => absurd h (by decide)) (fun _ => ?_)
      refine e_iload_n dX0_isOf_18 rfl ?_
      refine e_iload_n dX0_isOf_19 rfl ?_
      refine e_icmp_ne 25 dX0_isOf_20 rfl (fun c_2 => ?_) (fun c_2 => ?_)
      · refine e_iload_n dX0_isOf_25 rfl ?_
        refine e_callS1 (μ' := mX0_above) (As := [.int 0]) dX0_isOf_26 wl_X0_41 ok_X0_above (by decide) (Nat.le_of_ble_eq_true rfl) fx_n1 (s_X0_above0 (m := m) ) rfl ?_
        refine e_istore_n dX0_isOf_29 (by decide) rfl ?_
        refine e_iinc (v := 2) dX0_isOf_30 rfl (by decide) (by decide) rfl ?_
        refine e_goto 7 dX0_isOf_33 rfl ?_
        refine e_iload_n dX0_isOf_7 rfl ?_
        refine e_bipush dX0_isOf_8 kcb_6 ?_
        refine e_icmp_gt 36 dX0_isOf_10 rfl (fun h => absurd h (by decide)) (fun _ => ?_)
        refine e_iload_n dX0_isOf_13 rfl ?_
        refine e_iconst dX0_isOf_14 kci_m1 ?_
        refine e_icmp_eq 36 dX0_isOf_15 rfl (fun _ => ?_) (fun h => absurd (by decide) h)
        refine e_iconst dX0_isOf_36 kci_0 ?_
        exact e_iret dX0_isOf_37 rfl rfl rfl ⟨by simp only [p_isU]; first | (rw [if_pos (by subst_vars; decide)]; done) | (rw [if_neg (by rintro (h | h | ⟨h, h2⟩ | ⟨h, h2⟩ | ⟨h, h2⟩) <;> subst_vars <;> first | contradiction | (rcases h2 with h2 | h2 <;> exact absurd h2 (by decide)) | exact absurd h2 (by decide))]; done), rfl⟩
      · refine e_iconst dX0_isOf_23 kci_1 ?_
        exact e_iret dX0_isOf_24 rfl rfl rfl ⟨by simp only [p_isU]; first | (rw [if_pos (by subst_vars; decide)]; done) | (rw [if_neg (by rintro (h | h | ⟨h, h2⟩ | ⟨h, h2⟩ | ⟨h, h2⟩) <;> subst_vars <;> first | contradiction | (rcases h2 with h2 | h2 <;> exact absurd h2 (by decide)) | exact absurd h2 (by decide))]; done), rfl⟩
    · refine e_iconst dX0_isOf_23 kci_1 ?_
      exact e_iret dX0_isOf_24 rfl rfl rfl ⟨by simp only [p_isU]; first | (rw [if_pos (by subst_vars; decide)]; done) | (rw [if_neg (by rintro (h | h | ⟨h, h2⟩ | ⟨h, h2⟩ | ⟨h, h2⟩) <;> subst_vars <;> first | contradiction | (rcases h2 with h2 | h2 <;> exact absurd h2 (by decide)) | exact absurd h2 (by decide))]; done), rfl⟩
  · refine e_aload_n dX0_isOf_0 rfl ?_
    refine e_getv (v := 3) dX0_isOf_1 ff_X0_15 hs (fx_pi_lt ho) (by decide) rfl h0 ?_
    refine e_istore_n dX0_isOf_4 (by decide) rfl ?_
    refine e_iconst dX0_isOf_5 kci_0 ?_
    refine e_istore_n dX0_isOf_6 (by decide) rfl ?_
    refine e_iload_n dX0_isOf_7 rfl ?_
    refine e_bipush dX0_isOf_8 kcb_6 ?_
    refine e_icmp_gt 36 dX0_isOf_10 rfl (fun h => absurd h (by decide)) (fun _ => ?_)
    refine e_iload_n dX0_isOf_13 rfl ?_
    refine e_iconst dX0_isOf_14 kci_m1 ?_
    refine e_icmp_eq 36 dX0_isOf_15 rfl (fun h => absurd h (by decide)) (fun _ => ?_)
    refine e_iload_n dX0_isOf_18 rfl ?_
    refine e_iload_n dX0_isOf_19 rfl ?_
    refine e_icmp_ne 25 dX0_isOf_20 rfl (fun c_1 => ?_) (fun c_1 => ?_)
    · refine e_iload_n dX0_isOf_25 rfl ?_
      refine e_callS1 (μ' := mX0_above) (As := [.int 3]) dX0_isOf_26 wl_X0_41 ok_X0_above (by decide) (Nat.le_of_ble_eq_true rfl) fx_n1 (s_X0_above3 (m := m) ) rfl ?_
      refine e_istore_n dX0_isOf_29 (by decide) rfl ?_
      refine e_iinc (v := 1) dX0_isOf_30 rfl (by decide) (by decide) rfl ?_
      refine e_goto 7 dX0_isOf_33 rfl ?_
      refine e_iload_n dX0_isOf_7 rfl ?_
      refine e_bipush dX0_isOf_8 kcb_6 ?_
      refine e_icmp_gt 36 dX0_isOf_10 rfl (fun h => absurd h (by decide)) (fun _ => ?_)
      refine e_iload_n dX0_isOf_13 rfl ?_
      refine e_iconst dX0_isOf_14 kci_m1 ?_
      refine e_icmp_eq 36 dX0_isOf_15 rfl (fun h => absurd h (by decide)) (fun _ => ?_)
      refine e_iload_n dX0_isOf_18 rfl ?_
      refine e_iload_n dX0_isOf_19 rfl ?_
      refine e_icmp_ne 25 dX0_isOf_20 rfl (fun c_2 => ?_) (fun c_2 => ?_)
      · refine e_iload_n dX0_isOf_25 rfl ?_
        refine e_callS1 (μ' := mX0_above) (As := [.int 1]) dX0_isOf_26 wl_X0_41 ok_X0_above (by decide) (Nat.le_of_ble_eq_true rfl) fx_n1 (s_X0_above1 (m := m) ) rfl ?_
        refine e_istore_n dX0_isOf_29 (by decide) rfl ?_
        refine e_iinc (v := 2) dX0_isOf_30 rfl (by decide) (by decide) rfl ?_
        refine e_goto 7 dX0_isOf_33 rfl ?_
        refine e_iload_n dX0_isOf_7 rfl ?_
        refine e_bipush dX0_isOf_8 kcb_6 ?_
        refine e_icmp_gt 36 dX0_isOf_10 rfl (fun h => absurd h (by decide)) (fun _ => ?_)
        refine e_iload_n dX0_isOf_13 rfl ?_
        refine e_iconst dX0_isOf_14 kci_m1 ?_
        refine e_icmp_eq 36 dX0_isOf_15 rfl (fun h => absurd h (by decide)) (fun _ => ?_)
        refine e_iload_n dX0_isOf_18 rfl ?_
        refine e_iload_n dX0_isOf_19 rfl ?_
        refine e_icmp_ne 25 dX0_isOf_20 rfl (fun c_3 => ?_) (fun c_3 => ?_)
        · refine e_iload_n dX0_isOf_25 rfl ?_
          refine e_callS1 (μ' := mX0_above) (As := [.int 0]) dX0_isOf_26 wl_X0_41 ok_X0_above (by decide) (Nat.le_of_ble_eq_true rfl) fx_n1 (s_X0_above0 (m := m) ) rfl ?_
          refine e_istore_n dX0_isOf_29 (by decide) rfl ?_
          refine e_iinc (v := 3) dX0_isOf_30 rfl (by decide) (by decide) rfl ?_
          refine e_goto 7 dX0_isOf_33 rfl ?_
          refine e_iload_n dX0_isOf_7 rfl ?_
          refine e_bipush dX0_isOf_8 kcb_6 ?_
          refine e_icmp_gt 36 dX0_isOf_10 rfl (fun h => absurd h (by decide)) (fun _ => ?_)
          refine e_iload_n dX0_isOf_13 rfl ?_
          refine e_iconst dX0_isOf_14 kci_m1 ?_
          refine e_icmp_eq 36 dX0_isOf_15 rfl (fun _ => ?_) (fun h => absurd (by decide) h)
          refine e_iconst dX0_isOf_36 kci_0 ?_
          exact e_iret dX0_isOf_37 rfl rfl rfl ⟨by simp only [p_isU]; first | (rw [if_pos (by subst_vars; decide)]; done) | (rw [if_neg (by rintro (h | h | ⟨h, h2⟩ | ⟨h, h2⟩ | ⟨h, h2⟩) <;> subst_vars <;> first | contradiction | (rcases h2 with h2 | h2 <;> exact absurd h2 (by decide)) | exact absurd h2 (by decide))]; done), rfl⟩
        · refine e_iconst dX0_isOf_23 kci_1 ?_
          exact e_iret dX0_isOf_24 rfl rfl rfl ⟨by simp only [p_isU]; first | (rw [if_pos (by subst_vars; decide)]; done) | (rw [if_neg (by rintro (h | h | ⟨h, h2⟩ | ⟨h, h2⟩ | ⟨h, h2⟩) <;> subst_vars <;> first | contradiction | (rcases h2 with h2 | h2 <;> exact absurd h2 (by decide)) | exact absurd h2 (by decide))]; done), rfl⟩
      · refine e_iconst dX0_isOf_23 kci_1 ?_
        exact e_iret dX0_isOf_24 rfl rfl rfl ⟨by simp only [p_isU]; first | (rw [if_pos (by subst_vars; decide)]; done) | (rw [if_neg (by rintro (h | h | ⟨h, h2⟩ | ⟨h, h2⟩ | ⟨h, h2⟩) <;> subst_vars <;> first | contradiction | (rcases h2 with h2 | h2 <;> exact absurd h2 (by decide)) | exact absurd h2 (by decide))]; done), rfl⟩
    · refine e_iconst dX0_isOf_23 kci_1 ?_
      exact e_iret dX0_isOf_24 rfl rfl rfl ⟨by simp only [p_isU]; first | (rw [if_pos (by subst_vars; decide)]; done) | (rw [if_neg (by rintro (h | h | ⟨h, h2⟩ | ⟨h, h2⟩ | ⟨h, h2⟩) <;> subst_vars <;> first | contradiction | (rcases h2 with h2 | h2 <;> exact absurd h2 (by decide)) | exact absurd h2 (by decide))]; done), rfl⟩
  · refine e_aload_n dX0_isOf_0 rfl ?_
    refine e_getv (v := 4) dX0_isOf_1 ff_X0_15 hs (fx_pi_lt ho) (by decide) rfl h0 ?_
    refine e_istore_n dX0_isOf_4 (by decide) rfl ?_
    refine e_iconst dX0_isOf_5 kci_0 ?_
    refine e_istore_n dX0_isOf_6 (by decide) rfl ?_
    refine e_iload_n dX0_isOf_7 rfl ?_
    refine e_bipush dX0_isOf_8 kcb_6 ?_
    refine e_icmp_gt 36 dX0_isOf_10 rfl (fun h => absurd h (by decide)) (fun _ => ?_)
    refine e_iload_n dX0_isOf_13 rfl ?_
    refine e_iconst dX0_isOf_14 kci_m1 ?_
    refine e_icmp_eq 36 dX0_isOf_15 rfl (fun h => absurd h (by decide)) (fun _ => ?_)
    refine e_iload_n dX0_isOf_18 rfl ?_
    refine e_iload_n dX0_isOf_19 rfl ?_
    refine e_icmp_ne 25 dX0_isOf_20 rfl (fun c_1 => ?_) (fun c_1 => ?_)
    · refine e_iload_n dX0_isOf_25 rfl ?_
      refine e_callS1 (μ' := mX0_above) (As := [.int 4]) dX0_isOf_26 wl_X0_41 ok_X0_above (by decide) (Nat.le_of_ble_eq_true rfl) fx_n1 (s_X0_above4 (m := m) ) rfl ?_
      refine e_istore_n dX0_isOf_29 (by decide) rfl ?_
      refine e_iinc (v := 1) dX0_isOf_30 rfl (by decide) (by decide) rfl ?_
      refine e_goto 7 dX0_isOf_33 rfl ?_
      refine e_iload_n dX0_isOf_7 rfl ?_
      refine e_bipush dX0_isOf_8 kcb_6 ?_
      refine e_icmp_gt 36 dX0_isOf_10 rfl (fun h => absurd h (by decide)) (fun _ => ?_)
      refine e_iload_n dX0_isOf_13 rfl ?_
      refine e_iconst dX0_isOf_14 kci_m1 ?_
      refine e_icmp_eq 36 dX0_isOf_15 rfl (fun h => absurd h (by decide)) (fun _ => ?_)
      refine e_iload_n dX0_isOf_18 rfl ?_
      refine e_iload_n dX0_isOf_19 rfl ?_
      refine e_icmp_ne 25 dX0_isOf_20 rfl (fun c_2 => ?_) (fun c_2 => ?_)
      · refine e_iload_n dX0_isOf_25 rfl ?_
        refine e_callS1 (μ' := mX0_above) (As := [.int 0]) dX0_isOf_26 wl_X0_41 ok_X0_above (by decide) (Nat.le_of_ble_eq_true rfl) fx_n1 (s_X0_above0 (m := m) ) rfl ?_
        refine e_istore_n dX0_isOf_29 (by decide) rfl ?_
        refine e_iinc (v := 2) dX0_isOf_30 rfl (by decide) (by decide) rfl ?_
        refine e_goto 7 dX0_isOf_33 rfl ?_
        refine e_iload_n dX0_isOf_7 rfl ?_
        refine e_bipush dX0_isOf_8 kcb_6 ?_
        refine e_icmp_gt 36 dX0_isOf_10 rfl (fun h => absurd h (by decide)) (fun _ => ?_)
        refine e_iload_n dX0_isOf_13 rfl ?_
        refine e_iconst dX0_isOf_14 kci_m1 ?_
        refine e_icmp_eq 36 dX0_isOf_15 rfl (fun _ => ?_) (fun h => absurd (by decide) h)
        refine e_iconst dX0_isOf_36 kci_0 ?_
        exact e_iret dX0_isOf_37 rfl rfl rfl ⟨by simp only [p_isU]; first | (rw [if_pos (by subst_vars; decide)]; done) | (rw [if_neg (by rintro (h | h | ⟨h, h2⟩ | ⟨h, h2⟩ | ⟨h, h2⟩) <;> subst_vars <;> first | contradiction | (rcases h2 with h2 | h2 <;> exact absurd h2 (by decide)) | exact absurd h2 (by decide))]; done), rfl⟩
      · refine e_iconst dX0_isOf_23 kci_1 ?_
        exact e_iret dX0_isOf_24 rfl rfl rfl ⟨by simp only [p_isU]; first | (rw [if_pos (by subst_vars; decide)]; done) | (rw [if_neg (by rintro (h | h | ⟨h, h2⟩ | ⟨h, h2⟩ | ⟨h, h2⟩) <;> subst_vars <;> first | contradiction | (rcases h2 with h2 | h2 <;> exact absurd h2 (by decide)) | exact absurd h2 (by decide))]; done), rfl⟩
    · refine e_iconst dX0_isOf_23 kci_1 ?_
      exact e_iret dX0_isOf_24 rfl rfl rfl ⟨by simp only [p_isU]; first | (rw [if_pos (by subst_vars; decide)]; done) | (rw [if_neg (by rintro (h | h | ⟨h, h2⟩ | ⟨h, h2⟩ | ⟨h, h2⟩) <;> subst_vars <;> first | contradiction | (rcases h2 with h2 | h2 <;> exact absurd h2 (by decide)) | exact absurd h2 (by decide))]; done), rfl⟩
  · refine e_aload_n dX0_isOf_0 rfl ?_
    refine e_getv (v := 5) dX0_isOf_1 ff_X0_15 hs (fx_pi_lt ho) (by decide) rfl h0 ?_
    refine e_istore_n dX0_isOf_4 (by decide) rfl ?_
    refine e_iconst dX0_isOf_5 kci_0 ?_
    refine e_istore_n dX0_isOf_6 (by decide) rfl ?_
    refine e_iload_n dX0_isOf_7 rfl ?_
    refine e_bipush dX0_isOf_8 kcb_6 ?_
    refine e_icmp_gt 36 dX0_isOf_10 rfl (fun h => absurd h (by decide)) (fun _ => ?_)
    refine e_iload_n dX0_isOf_13 rfl ?_
    refine e_iconst dX0_isOf_14 kci_m1 ?_
    refine e_icmp_eq 36 dX0_isOf_15 rfl (fun h => absurd h (by decide)) (fun _ => ?_)
    refine e_iload_n dX0_isOf_18 rfl ?_
    refine e_iload_n dX0_isOf_19 rfl ?_
    refine e_icmp_ne 25 dX0_isOf_20 rfl (fun c_1 => ?_) (fun c_1 => ?_)
    · refine e_iload_n dX0_isOf_25 rfl ?_
      refine e_callS1 (μ' := mX0_above) (As := [.int 5]) dX0_isOf_26 wl_X0_41 ok_X0_above (by decide) (Nat.le_of_ble_eq_true rfl) fx_n1 (s_X0_above5 (m := m) ) rfl ?_
      refine e_istore_n dX0_isOf_29 (by decide) rfl ?_
      refine e_iinc (v := 1) dX0_isOf_30 rfl (by decide) (by decide) rfl ?_
      refine e_goto 7 dX0_isOf_33 rfl ?_
      refine e_iload_n dX0_isOf_7 rfl ?_
      refine e_bipush dX0_isOf_8 kcb_6 ?_
      refine e_icmp_gt 36 dX0_isOf_10 rfl (fun h => absurd h (by decide)) (fun _ => ?_)
      refine e_iload_n dX0_isOf_13 rfl ?_
      refine e_iconst dX0_isOf_14 kci_m1 ?_
      refine e_icmp_eq 36 dX0_isOf_15 rfl (fun h => absurd h (by decide)) (fun _ => ?_)
      refine e_iload_n dX0_isOf_18 rfl ?_
      refine e_iload_n dX0_isOf_19 rfl ?_
      refine e_icmp_ne 25 dX0_isOf_20 rfl (fun c_2 => ?_) (fun c_2 => ?_)
      · refine e_iload_n dX0_isOf_25 rfl ?_
        refine e_callS1 (μ' := mX0_above) (As := [.int 2]) dX0_isOf_26 wl_X0_41 ok_X0_above (by decide) (Nat.le_of_ble_eq_true rfl) fx_n1 (s_X0_above2 (m := m) ) rfl ?_
        refine e_istore_n dX0_isOf_29 (by decide) rfl ?_
        refine e_iinc (v := 2) dX0_isOf_30 rfl (by decide) (by decide) rfl ?_
        refine e_goto 7 dX0_isOf_33 rfl ?_
        refine e_iload_n dX0_isOf_7 rfl ?_
        refine e_bipush dX0_isOf_8 kcb_6 ?_
        refine e_icmp_gt 36 dX0_isOf_10 rfl (fun h => absurd h (by decide)) (fun _ => ?_)
        refine e_iload_n dX0_isOf_13 rfl ?_
        refine e_iconst dX0_isOf_14 kci_m1 ?_
        refine e_icmp_eq 36 dX0_isOf_15 rfl (fun h => absurd h (by decide)) (fun _ => ?_)
        refine e_iload_n dX0_isOf_18 rfl ?_
        refine e_iload_n dX0_isOf_19 rfl ?_
        refine e_icmp_ne 25 dX0_isOf_20 rfl (fun c_3 => ?_) (fun c_3 => ?_)
        · refine e_iload_n dX0_isOf_25 rfl ?_
          refine e_callS1 (μ' := mX0_above) (As := [.int 0]) dX0_isOf_26 wl_X0_41 ok_X0_above (by decide) (Nat.le_of_ble_eq_true rfl) fx_n1 (s_X0_above0 (m := m) ) rfl ?_
          refine e_istore_n dX0_isOf_29 (by decide) rfl ?_
          refine e_iinc (v := 3) dX0_isOf_30 rfl (by decide) (by decide) rfl ?_
          refine e_goto 7 dX0_isOf_33 rfl ?_
          refine e_iload_n dX0_isOf_7 rfl ?_
          refine e_bipush dX0_isOf_8 kcb_6 ?_
          refine e_icmp_gt 36 dX0_isOf_10 rfl (fun h => absurd h (by decide)) (fun _ => ?_)
          refine e_iload_n dX0_isOf_13 rfl ?_
          refine e_iconst dX0_isOf_14 kci_m1 ?_
          refine e_icmp_eq 36 dX0_isOf_15 rfl (fun _ => ?_) (fun h => absurd (by decide) h)
          refine e_iconst dX0_isOf_36 kci_0 ?_
          exact e_iret dX0_isOf_37 rfl rfl rfl ⟨by simp only [p_isU]; first | (rw [if_pos (by subst_vars; decide)]; done) | (rw [if_neg (by rintro (h | h | ⟨h, h2⟩ | ⟨h, h2⟩ | ⟨h, h2⟩) <;> subst_vars <;> first | contradiction | (rcases h2 with h2 | h2 <;> exact absurd h2 (by decide)) | exact absurd h2 (by decide))]; done), rfl⟩
        · refine e_iconst dX0_isOf_23 kci_1 ?_
          exact e_iret dX0_isOf_24 rfl rfl rfl ⟨by simp only [p_isU]; first | (rw [if_pos (by subst_vars; decide)]; done) | (rw [if_neg (by rintro (h | h | ⟨h, h2⟩ | ⟨h, h2⟩ | ⟨h, h2⟩) <;> subst_vars <;> first | contradiction | (rcases h2 with h2 | h2 <;> exact absurd h2 (by decide)) | exact absurd h2 (by decide))]; done), rfl⟩
      · refine e_iconst dX0_isOf_23 kci_1 ?_
        exact e_iret dX0_isOf_24 rfl rfl rfl ⟨by simp only [p_isU]; first | (rw [if_pos (by subst_vars; decide)]; done) | (rw [if_neg (by rintro (h | h | ⟨h, h2⟩ | ⟨h, h2⟩ | ⟨h, h2⟩) <;> subst_vars <;> first | contradiction | (rcases h2 with h2 | h2 <;> exact absurd h2 (by decide)) | exact absurd h2 (by decide))]; done), rfl⟩
    · refine e_iconst dX0_isOf_23 kci_1 ?_
      exact e_iret dX0_isOf_24 rfl rfl rfl ⟨by simp only [p_isU]; first | (rw [if_pos (by subst_vars; decide)]; done) | (rw [if_neg (by rintro (h | h | ⟨h, h2⟩ | ⟨h, h2⟩ | ⟨h, h2⟩) <;> subst_vars <;> first | contradiction | (rcases h2 with h2 | h2 <;> exact absurd h2 (by decide)) | exact absurd h2 (by decide))]; done), rfl⟩
  · refine e_aload_n dX0_isOf_0 rfl ?_
    refine e_getv (v := 6) dX0_isOf_1 ff_X0_15 hs (fx_pi_lt ho) (by decide) rfl h0 ?_
    refine e_istore_n dX0_isOf_4 (by decide) rfl ?_
    refine e_iconst dX0_isOf_5 kci_0 ?_
    refine e_istore_n dX0_isOf_6 (by decide) rfl ?_
    refine e_iload_n dX0_isOf_7 rfl ?_
    refine e_bipush dX0_isOf_8 kcb_6 ?_
    refine e_icmp_gt 36 dX0_isOf_10 rfl (fun h => absurd h (by decide)) (fun _ => ?_)
    refine e_iload_n dX0_isOf_13 rfl ?_
    refine e_iconst dX0_isOf_14 kci_m1 ?_
    refine e_icmp_eq 36 dX0_isOf_15 rfl (fun h => absurd h (by decide)) (fun _ => ?_)
    refine e_iload_n dX0_isOf_18 rfl ?_
    refine e_iload_n dX0_isOf_19 rfl ?_
    refine e_icmp_ne 25 dX0_isOf_20 rfl (fun c_1 => ?_) (fun c_1 => ?_)
    · refine e_iload_n dX0_isOf_25 rfl ?_
      refine e_callS1 (μ' := mX0_above) (As := [.int 6]) dX0_isOf_26 wl_X0_41 ok_X0_above (by decide) (Nat.le_of_ble_eq_true rfl) fx_n1 (s_X0_above6 (m := m) ) rfl ?_
      refine e_istore_n dX0_isOf_29 (by decide) rfl ?_
      refine e_iinc (v := 1) dX0_isOf_30 rfl (by decide) (by decide) rfl ?_
      refine e_goto 7 dX0_isOf_33 rfl ?_
      refine e_iload_n dX0_isOf_7 rfl ?_
      refine e_bipush dX0_isOf_8 kcb_6 ?_
      refine e_icmp_gt 36 dX0_isOf_10 rfl (fun h => absurd h (by decide)) (fun _ => ?_)
      refine e_iload_n dX0_isOf_13 rfl ?_
      refine e_iconst dX0_isOf_14 kci_m1 ?_
      refine e_icmp_eq 36 dX0_isOf_15 rfl (fun h => absurd h (by decide)) (fun _ => ?_)
      refine e_iload_n dX0_isOf_18 rfl ?_
      refine e_iload_n dX0_isOf_19 rfl ?_
      refine e_icmp_ne 25 dX0_isOf_20 rfl (fun c_2 => ?_) (fun c_2 => ?_)
      · refine e_iload_n dX0_isOf_25 rfl ?_
        refine e_callS1 (μ' := mX0_above) (As := [.int 3]) dX0_isOf_26 wl_X0_41 ok_X0_above (by decide) (Nat.le_of_ble_eq_true rfl) fx_n1 (s_X0_above3 (m := m) ) rfl ?_
        refine e_istore_n dX0_isOf_29 (by decide) rfl ?_
        refine e_iinc (v := 2) dX0_isOf_30 rfl (by decide) (by decide) rfl ?_
        refine e_goto 7 dX0_isOf_33 rfl ?_
        refine e_iload_n dX0_isOf_7 rfl ?_
        refine e_bipush dX0_isOf_8 kcb_6 ?_
        refine e_icmp_gt 36 dX0_isOf_10 rfl (fun h => absurd h (by decide)) (fun _ => ?_)
        refine e_iload_n dX0_isOf_13 rfl ?_
        refine e_iconst dX0_isOf_14 kci_m1 ?_
        refine e_icmp_eq 36 dX0_isOf_15 rfl (fun h => absurd h (by decide)) (fun _ => ?_)
        refine e_iload_n dX0_isOf_18 rfl ?_
        refine e_iload_n dX0_isOf_19 rfl ?_
        refine e_icmp_ne 25 dX0_isOf_20 rfl (fun c_3 => ?_) (fun c_3 => ?_)
        · refine e_iload_n dX0_isOf_25 rfl ?_
          refine e_callS1 (μ' := mX0_above) (As := [.int 1]) dX0_isOf_26 wl_X0_41 ok_X0_above (by decide) (Nat.le_of_ble_eq_true rfl) fx_n1 (s_X0_above1 (m := m) ) rfl ?_
          refine e_istore_n dX0_isOf_29 (by decide) rfl ?_
          refine e_iinc (v := 3) dX0_isOf_30 rfl (by decide) (by decide) rfl ?_
          refine e_goto 7 dX0_isOf_33 rfl ?_
          refine e_iload_n dX0_isOf_7 rfl ?_
          refine e_bipush dX0_isOf_8 kcb_6 ?_
          refine e_icmp_gt 36 dX0_isOf_10 rfl (fun h => absurd h (by decide)) (fun _ => ?_)
          refine e_iload_n dX0_isOf_13 rfl ?_
          refine e_iconst dX0_isOf_14 kci_m1 ?_
          refine e_icmp_eq 36 dX0_isOf_15 rfl (fun h => absurd h (by decide)) (fun _ => ?_)
          refine e_iload_n dX0_isOf_18 rfl ?_
          refine e_iload_n dX0_isOf_19 rfl ?_
          refine e_icmp_ne 25 dX0_isOf_20 rfl (fun c_4 => ?_) (fun c_4 => ?_)
          · refine e_iload_n dX0_isOf_25 rfl ?_
            refine e_callS1 (μ' := mX0_above) (As := [.int 0]) dX0_isOf_26 wl_X0_41 ok_X0_above (by decide) (Nat.le_of_ble_eq_true rfl) fx_n1 (s_X0_above0 (m := m) ) rfl ?_
            refine e_istore_n dX0_isOf_29 (by decide) rfl ?_
            refine e_iinc (v := 4) dX0_isOf_30 rfl (by decide) (by decide) rfl ?_
            refine e_goto 7 dX0_isOf_33 rfl ?_
            refine e_iload_n dX0_isOf_7 rfl ?_
            refine e_bipush dX0_isOf_8 kcb_6 ?_
            refine e_icmp_gt 36 dX0_isOf_10 rfl (fun h => absurd h (by decide)) (fun _ => ?_)
            refine e_iload_n dX0_isOf_13 rfl ?_
            refine e_iconst dX0_isOf_14 kci_m1 ?_
            refine e_icmp_eq 36 dX0_isOf_15 rfl (fun _ => ?_) (fun h => absurd (by decide) h)
            refine e_iconst dX0_isOf_36 kci_0 ?_
            exact e_iret dX0_isOf_37 rfl rfl rfl ⟨by simp only [p_isU]; first | (rw [if_pos (by subst_vars; decide)]; done) | (rw [if_neg (by rintro (h | h | ⟨h, h2⟩ | ⟨h, h2⟩ | ⟨h, h2⟩) <;> subst_vars <;> first | contradiction | (rcases h2 with h2 | h2 <;> exact absurd h2 (by decide)) | exact absurd h2 (by decide))]; done), rfl⟩
          · refine e_iconst dX0_isOf_23 kci_1 ?_
            exact e_iret dX0_isOf_24 rfl rfl rfl ⟨by simp only [p_isU]; first | (rw [if_pos (by subst_vars; decide)]; done) | (rw [if_neg (by rintro (h | h | ⟨h, h2⟩ | ⟨h, h2⟩ | ⟨h, h2⟩) <;> subst_vars <;> first | contradiction | (rcases h2 with h2 | h2 <;> exact absurd h2 (by decide)) | exact absurd h2 (by decide))]; done), rfl⟩
        · refine e_iconst dX0_isOf_23 kci_1 ?_
          exact e_iret dX0_isOf_24 rfl rfl rfl ⟨by simp only [p_isU]; first | (rw [if_pos (by subst_vars; decide)]; done) | (rw [if_neg (by rintro (h | h | ⟨h, h2⟩ | ⟨h, h2⟩ | ⟨h, h2⟩) <;> subst_vars <;> first | contradiction | (rcases h2 with h2 | h2 <;> exact absurd h2 (by decide)) | exact absurd h2 (by decide))]; done), rfl⟩
      · refine e_iconst dX0_isOf_23 kci_1 ?_
        exact e_iret dX0_isOf_24 rfl rfl rfl ⟨by simp only [p_isU]; first | (rw [if_pos (by subst_vars; decide)]; done) | (rw [if_neg (by rintro (h | h | ⟨h, h2⟩ | ⟨h, h2⟩ | ⟨h, h2⟩) <;> subst_vars <;> first | contradiction | (rcases h2 with h2 | h2 <;> exact absurd h2 (by decide)) | exact absurd h2 (by decide))]; done), rfl⟩
    · refine e_iconst dX0_isOf_23 kci_1 ?_
      exact e_iret dX0_isOf_24 rfl rfl rfl ⟨by simp only [p_isU]; first | (rw [if_pos (by subst_vars; decide)]; done) | (rw [if_neg (by rintro (h | h | ⟨h, h2⟩ | ⟨h, h2⟩ | ⟨h, h2⟩) <;> subst_vars <;> first | contradiction | (rcases h2 with h2 | h2 <;> exact absurd h2 (by decide)) | exact absurd h2 (by decide))]; done), rfl⟩
/-- the sum of f over those of a set -/
def p_sms (B : Nat) (f : Nat → Int32) (d : Nat) (s : Int32) : Int32 := if B.testBit d = true then s + f d else s
abbrev p_sum (B : Nat) (f : Nat → Int32) (nd : Nat) : Int32 := p_fold (p_sms B f) nd 0 0
theorem p_sms_y {B : Nat} {f : Nat → Int32} {d : Nat} {s : Int32} (h : B.testBit d = true) : p_sms B f d s = s + f d := if_pos h
theorem p_sms_n {B : Nat} {f : Nat → Int32} {d : Nat} {s : Int32} (h : B.testBit d = false) : p_sms B f d s = s := if_neg (by rw [h]; decide)
theorem i_bit1 {B k : Nat} (hB : B < 2 ^ 31) (hk : k < 32) (h : ¬ ((nI B >>> (nI k &&& 31)) &&& 1) = 0) : B.testBit k = true := by
  have := mt (i_bit0 hB hk).mpr h
  simpa using this
set_option maxRecDepth 100000 in
set_option maxHeartbeats 600000 in
theorem s_X7_minutesOf {Γ : fx_G} {m : fx_M} (S : Nat) (HS : fx_St S) (hL : fx_Lay m) {nd : Nat} (hnd : m.1 S 3 = nI nd) (h5 : nd ≤ 5) {B : Nat} (hB : B < 2 ^ 31) : fx_Ct Γ mX7_minutesOf 0 119 119 [fx_rf Γ 63, fx_rf Γ S, .int (nI B)] m (fx_is (some (.int (p_sum B (fun d => fx_dr m S d 4) nd))) m) := by
  refine fx_Ct.of (j := 2) (by decide) (Nat.le_of_ble_eq_true rfl) (Nat.le_of_ble_eq_true rfl) ?_
  show fx_E Γ mX7_minutesOf 0 119 119 _ 119 m 0 [some (fx_rf Γ 63), some (fx_rf Γ S), some (.int (nI B)), none, none] []
  have lp : ∀ (j : Nat) (k : Nat) (s : Int32), k + j = nd → fx_E Γ mX7_minutesOf 0 119 119 (fx_is (some (.int (p_fold (p_sms B (fun d => fx_dr m S d 4)) j k s))) m) 119 m 5 [some (fx_rf Γ 63), some (fx_rf Γ S), some (.int (nI B)), some (.int s), some (.int (nI k))] [] := by
    intro j
    induction j with
    | zero =>
      intro k s hk
      refine e_iload dX7_minutesOf_5 rfl ?_
      refine e_aload_n dX7_minutesOf_7 rfl ?_
      refine e_getv (v := nI nd) dX7_minutesOf_8 ff_X7_17 HS.sh (fx_pi_lt HS.lt) (by decide) rfl hnd ?_
      refine e_icmp_ge 42 dX7_minutesOf_11 rfl (fun _ => ?_) (fun h => absurd (nI_le (by omega) (by omega)) h)
      refine e_iload_n dX7_minutesOf_42 rfl ?_
      exact e_iret dX7_minutesOf_43 rfl rfl rfl ⟨rfl, rfl⟩
    | succ j ih =>
      intro k s hk
      refine e_iload dX7_minutesOf_5 rfl ?_
      refine e_aload_n dX7_minutesOf_7 rfl ?_
      refine e_getv (v := nI nd) dX7_minutesOf_8 ff_X7_17 HS.sh (fx_pi_lt HS.lt) (by decide) rfl hnd ?_
      refine e_icmp_ge 42 dX7_minutesOf_11 rfl (fun h => absurd h (nI_ge (by omega) (by omega))) (fun _ => ?_)
      refine e_iload_n dX7_minutesOf_14 rfl ?_
      refine e_iload dX7_minutesOf_15 rfl ?_
      refine e_ishr dX7_minutesOf_17 ?_
      refine e_iconst dX7_minutesOf_18 kci_1 ?_
      refine e_iand dX7_minutesOf_19 ?_
      refine e_if_eq 36 dX7_minutesOf_20 rfl (fun c_b => ?_) (fun c_b => ?_)
      · refine e_iinc (v := nI (k + 1)) dX7_minutesOf_36 rfl (fx_inc _) (by decide) rfl ?_
        refine e_goto 5 dX7_minutesOf_39 rfl ?_
        rw [p_fold_s (p_sms_n (f := (fun d => fx_dr m S d 4)) ((i_bit0 hB (by omega)).mp c_b))]
        exact ih (k + 1) _ (by omega)
      · refine e_iload_n dX7_minutesOf_23 rfl ?_
        refine e_aload_n dX7_minutesOf_24 rfl ?_
        refine e_getr (o2 := S + 2) dX7_minutesOf_25 ff_X7_29 HS.sh (fx_pi_lt HS.lt) (by decide) rfl (HS.r1 hL) ?_
        refine e_iload dX7_minutesOf_28 rfl ?_
        refine e_aald (j := k) (o2 := S + 11 + k) dX7_minutesOf_30 HS.s2 (Or.inr (Or.inl rfl)) (fx_pi_lt HS.l2) rfl (by omega) (by decide) (HS.rd hL (by omega)) ?_
        refine e_get dX7_minutesOf_31 ff_X7_41 (HS.sd (by omega)) (fx_pi_lt (HS.ld (by omega))) (by decide) rfl ?_
        refine e_iadd dX7_minutesOf_34 ?_
        refine e_istore_n dX7_minutesOf_35 (by decide) rfl ?_
        refine e_iinc (v := nI (k + 1)) dX7_minutesOf_36 rfl (fx_inc _) (by decide) rfl ?_
        refine e_goto 5 dX7_minutesOf_39 rfl ?_
        rw [p_fold_s (p_sms_y (f := (fun d => fx_dr m S d 4)) (i_bit1 hB (by omega) c_b))]
        exact ih (k + 1) _ (by omega)
  refine e_iconst dX7_minutesOf_0 kci_0 ?_
  refine e_istore_n dX7_minutesOf_1 (by decide) rfl ?_
  refine e_iconst dX7_minutesOf_2 kci_0 ?_
  refine e_istore dX7_minutesOf_3 (by decide) rfl ?_
  exact lp nd 0 0 (by omega)
set_option maxRecDepth 100000 in
set_option maxHeartbeats 600000 in
theorem s_X7_tearsOf {Γ : fx_G} {m : fx_M} (S : Nat) (HS : fx_St S) (hL : fx_Lay m) {nd : Nat} (hnd : m.1 S 3 = nI nd) (h5 : nd ≤ 5) {B : Nat} (hB : B < 2 ^ 31) : fx_Ct Γ mX7_tearsOf 0 119 119 [fx_rf Γ 63, fx_rf Γ S, .int (nI B)] m (fx_is (some (.int (p_sum B (fun d => fx_dr m S d 5) nd))) m) := by
  refine fx_Ct.of (j := 2) (by decide) (Nat.le_of_ble_eq_true rfl) (Nat.le_of_ble_eq_true rfl) ?_
  show fx_E Γ mX7_tearsOf 0 119 119 _ 119 m 0 [some (fx_rf Γ 63), some (fx_rf Γ S), some (.int (nI B)), none, none] []
  have lp : ∀ (j : Nat) (k : Nat) (s : Int32), k + j = nd → fx_E Γ mX7_tearsOf 0 119 119 (fx_is (some (.int (p_fold (p_sms B (fun d => fx_dr m S d 5)) j k s))) m) 119 m 5 [some (fx_rf Γ 63), some (fx_rf Γ S), some (.int (nI B)), some (.int s), some (.int (nI k))] [] := by
    intro j
    induction j with
    | zero =>
      intro k s hk
      refine e_iload dX7_tearsOf_5 rfl ?_
      refine e_aload_n dX7_tearsOf_7 rfl ?_
      refine e_getv (v := nI nd) dX7_tearsOf_8 ff_X7_17 HS.sh (fx_pi_lt HS.lt) (by decide) rfl hnd ?_
      refine e_icmp_ge 42 dX7_tearsOf_11 rfl (fun _ => ?_) (fun h => absurd (nI_le (by omega) (by omega)) h)
      refine e_iload_n dX7_tearsOf_42 rfl ?_
      exact e_iret dX7_tearsOf_43 rfl rfl rfl ⟨rfl, rfl⟩
    | succ j ih =>
      intro k s hk
      refine e_iload dX7_tearsOf_5 rfl ?_
      refine e_aload_n dX7_tearsOf_7 rfl ?_
      refine e_getv (v := nI nd) dX7_tearsOf_8 ff_X7_17 HS.sh (fx_pi_lt HS.lt) (by decide) rfl hnd ?_
      refine e_icmp_ge 42 dX7_tearsOf_11 rfl (fun h => absurd h (nI_ge (by omega) (by omega))) (fun _ => ?_)
      refine e_iload_n dX7_tearsOf_14 rfl ?_
      refine e_iload dX7_tearsOf_15 rfl ?_
      refine e_ishr dX7_tearsOf_17 ?_
      refine e_iconst dX7_tearsOf_18 kci_1 ?_
      refine e_iand dX7_tearsOf_19 ?_
      refine e_if_eq 36 dX7_tearsOf_20 rfl (fun c_b => ?_) (fun c_b => ?_)
      · refine e_iinc (v := nI (k + 1)) dX7_tearsOf_36 rfl (fx_inc _) (by decide) rfl ?_
        refine e_goto 5 dX7_tearsOf_39 rfl ?_
        rw [p_fold_s (p_sms_n (f := (fun d => fx_dr m S d 5)) ((i_bit0 hB (by omega)).mp c_b))]
        exact ih (k + 1) _ (by omega)
      · refine e_iload_n dX7_tearsOf_23 rfl ?_
        refine e_aload_n dX7_tearsOf_24 rfl ?_
        refine e_getr (o2 := S + 2) dX7_tearsOf_25 ff_X7_29 HS.sh (fx_pi_lt HS.lt) (by decide) rfl (HS.r1 hL) ?_
        refine e_iload dX7_tearsOf_28 rfl ?_
        refine e_aald (j := k) (o2 := S + 11 + k) dX7_tearsOf_30 HS.s2 (Or.inr (Or.inl rfl)) (fx_pi_lt HS.l2) rfl (by omega) (by decide) (HS.rd hL (by omega)) ?_
        refine e_get dX7_tearsOf_31 ff_X7_33 (HS.sd (by omega)) (fx_pi_lt (HS.ld (by omega))) (by decide) rfl ?_
        refine e_iadd dX7_tearsOf_34 ?_
        refine e_istore_n dX7_tearsOf_35 (by decide) rfl ?_
        refine e_iinc (v := nI (k + 1)) dX7_tearsOf_36 rfl (fx_inc _) (by decide) rfl ?_
        refine e_goto 5 dX7_tearsOf_39 rfl ?_
        rw [p_fold_s (p_sms_y (f := (fun d => fx_dr m S d 5)) (i_bit1 hB (by omega) c_b))]
        exact ih (k + 1) _ (by omega)
  refine e_iconst dX7_tearsOf_0 kci_0 ?_
  refine e_istore_n dX7_tearsOf_1 (by decide) rfl ?_
  refine e_iconst dX7_tearsOf_2 kci_0 ?_
  refine e_istore dX7_tearsOf_3 (by decide) rfl ?_
  exact lp nd 0 0 (by omega)
/-- feast: the first set with most tears that can be done in the time -/
def p_fe (mi te : Nat → Int32) (nd : Nat) (t : Int32) (B : Nat) (s : Nat × Int32) : Nat × Int32 := if p_sum B mi nd ≤ t ∧ s.2 < p_sum B te nd then (B, p_sum B te nd) else s
theorem p_fe_y {mi te : Nat → Int32} {nd : Nat} {t : Int32} {B : Nat} {s : Nat × Int32} (h1 : p_sum B mi nd ≤ t) (h2 : s.2 < p_sum B te nd) : p_fe mi te nd t B s = (B, p_sum B te nd) := if_pos ⟨h1, h2⟩
theorem p_fe_n {mi te : Nat → Int32} {nd : Nat} {t : Int32} {B : Nat} {s : Nat × Int32} (h : ¬ (p_sum B mi nd ≤ t ∧ s.2 < p_sum B te nd)) : p_fe mi te nd t B s = s := if_neg h
theorem i_shl1n {k : Nat} (hk : k < 31) : (1 : Int32) <<< (nI k &&& 31) = nI (2 ^ k) := i_shl1 hk
theorem p_two {nd : Nat} (h5 : nd ≤ 5) : 1 ≤ 2 ^ nd ∧ 2 ^ nd ≤ 32 := by
  have : nd = 0 ∨ nd = 1 ∨ nd = 2 ∨ nd = 3 ∨ nd = 4 ∨ nd = 5 := by omega
  rcases this with rfl | rfl | rfl | rfl | rfl | rfl <;> decide
set_option maxRecDepth 100000 in
set_option maxHeartbeats 600000 in
theorem s_X7_doneWithin {Γ : fx_G} {m : fx_M} (S : Nat) (HS : fx_St S) (hL : fx_Lay m) {nd : Nat} (hnd : m.1 S 3 = nI nd) (h5 : nd ≤ 5) (t : Int32) : fx_Ct Γ mX7_doneWithin 1 119 119 [fx_rf Γ 63, fx_rf Γ S, .int t] m (fx_is (some (.int (nI (p_fold (p_fe (fun d => fx_dr m S d 4) (fun d => fx_dr m S d 5) nd t) (2 ^ nd - 1) 1 (0, 0)).1))) m) := by
  refine fx_Ct.of (j := 3) (by decide) (Nat.le_of_ble_eq_true rfl) (Nat.le_of_ble_eq_true rfl) ?_
  show fx_E Γ mX7_doneWithin 1 119 119 _ 119 m 0 [some (fx_rf Γ 63), some (fx_rf Γ S), some (.int t), none, none, none] []
  have lp : ∀ (j : Nat) (k : Nat) (s : Nat × Int32), k + j = 2 ^ nd → fx_E Γ mX7_doneWithin 1 119 119 (fx_is (some (.int (nI (p_fold (p_fe (fun d => fx_dr m S d 4) (fun d => fx_dr m S d 5) nd t) j k s).1))) m) 119 m 8 [some (fx_rf Γ 63), some (fx_rf Γ S), some (.int t), some (.int (nI s.1)), some (.int s.2), some (.int (nI k))] [] := by
    intro j
    induction j with
    | zero =>
      intro k s hk
      have h32 := p_two h5
      refine e_iload dX7_doneWithin_8 rfl ?_
      refine e_iconst dX7_doneWithin_10 kci_1 ?_
      refine e_aload_n dX7_doneWithin_11 rfl ?_
      refine e_getv (v := nI nd) dX7_doneWithin_12 ff_X7_17 HS.sh (fx_pi_lt HS.lt) (by decide) rfl hnd ?_
      refine e_ishl dX7_doneWithin_15 ?_
      rw [i_shl1 (by omega)]
      refine e_icmp_ge 60 dX7_doneWithin_16 rfl (fun _ => ?_) (fun h => absurd (nI_le (by omega) (by omega)) h)
      refine e_iload_n dX7_doneWithin_60 rfl ?_
      exact e_iret dX7_doneWithin_61 rfl rfl rfl ⟨rfl, rfl⟩
    | succ j ih =>
      intro k s hk
      have h32 := p_two h5
      refine e_iload dX7_doneWithin_8 rfl ?_
      refine e_iconst dX7_doneWithin_10 kci_1 ?_
      refine e_aload_n dX7_doneWithin_11 rfl ?_
      refine e_getv (v := nI nd) dX7_doneWithin_12 ff_X7_17 HS.sh (fx_pi_lt HS.lt) (by decide) rfl hnd ?_
      refine e_ishl dX7_doneWithin_15 ?_
      rw [i_shl1 (by omega)]
      refine e_icmp_ge 60 dX7_doneWithin_16 rfl (fun h => absurd h (nI_ge (by omega) (by omega))) (fun _ => ?_)
      refine e_aload_n dX7_doneWithin_19 rfl ?_
      refine e_aload_n dX7_doneWithin_20 rfl ?_
      refine e_iload dX7_doneWithin_21 rfl ?_
      refine e_callV1 (μ' := mX7_minutesOf) (ci := 7) (As := [fx_rf Γ S, .int (nI k)]) dX7_doneWithin_23 wl_X7_38 ok_X7_minutesOf rfl rfl (fx_pi_lt (by decide)) (by decide) (Nat.le_of_ble_eq_true rfl) fx_n1 (s_X7_minutesOf (m := m) S HS hL hnd h5 (B := k) (by omega)) rfl ?_
      refine e_iload_n dX7_doneWithin_26 rfl ?_
      refine e_icmp_gt 54 dX7_doneWithin_27 rfl (fun c_m => ?_) (fun c_m => ?_)
      · refine e_iinc (v := nI (k + 1)) dX7_doneWithin_54 rfl (fx_inc _) (by decide) rfl ?_
        refine e_goto 8 dX7_doneWithin_57 rfl ?_
        rw [p_fold_s (p_fe_n (mi := (fun d => fx_dr m S d 4)) (te := (fun d => fx_dr m S d 5)) (B := k) (s := s) (by rintro ⟨h1, h2⟩; first | exact absurd h1 (Int32.not_le.mpr c_m) | exact absurd h2 (Int32.not_lt.mpr c_t)))]
        exact ih (k + 1) s (by omega)
      · refine e_aload_n dX7_doneWithin_30 rfl ?_
        refine e_aload_n dX7_doneWithin_31 rfl ?_
        refine e_iload dX7_doneWithin_32 rfl ?_
        refine e_callV1 (μ' := mX7_tearsOf) (ci := 7) (As := [fx_rf Γ S, .int (nI k)]) dX7_doneWithin_34 wl_X7_44 ok_X7_tearsOf rfl rfl (fx_pi_lt (by decide)) (by decide) (Nat.le_of_ble_eq_true rfl) fx_n1 (s_X7_tearsOf (m := m) S HS hL hnd h5 (B := k) (by omega)) rfl ?_
        refine e_iload dX7_doneWithin_37 rfl ?_
        refine e_icmp_le 54 dX7_doneWithin_39 rfl (fun c_t => ?_) (fun c_t => ?_)
        · refine e_iinc (v := nI (k + 1)) dX7_doneWithin_54 rfl (fx_inc _) (by decide) rfl ?_
          refine e_goto 8 dX7_doneWithin_57 rfl ?_
          rw [p_fold_s (p_fe_n (mi := (fun d => fx_dr m S d 4)) (te := (fun d => fx_dr m S d 5)) (B := k) (s := s) (by rintro ⟨h1, h2⟩; first | exact absurd h1 (Int32.not_le.mpr c_m) | exact absurd h2 (Int32.not_lt.mpr c_t)))]
          exact ih (k + 1) s (by omega)
        · refine e_iload dX7_doneWithin_42 rfl ?_
          refine e_istore_n dX7_doneWithin_44 (by decide) rfl ?_
          refine e_aload_n dX7_doneWithin_45 rfl ?_
          refine e_aload_n dX7_doneWithin_46 rfl ?_
          refine e_iload dX7_doneWithin_47 rfl ?_
          refine e_callV1 (μ' := mX7_tearsOf) (ci := 7) (As := [fx_rf Γ S, .int (nI k)]) dX7_doneWithin_49 wl_X7_44 ok_X7_tearsOf rfl rfl (fx_pi_lt (by decide)) (by decide) (Nat.le_of_ble_eq_true rfl) fx_n1 (s_X7_tearsOf (m := m) S HS hL hnd h5 (B := k) (by omega)) rfl ?_
          refine e_istore dX7_doneWithin_52 (by decide) rfl ?_
          refine e_iinc (v := nI (k + 1)) dX7_doneWithin_54 rfl (fx_inc _) (by decide) rfl ?_
          refine e_goto 8 dX7_doneWithin_57 rfl ?_
          rw [p_fold_s (p_fe_y (mi := (fun d => fx_dr m S d 4)) (te := (fun d => fx_dr m S d 5)) (B := k) (s := s) (Int32.not_lt.mp c_m) (Int32.not_le.mp c_t))]
          exact ih (k + 1) (_, _) (by omega)
  refine e_iconst dX7_doneWithin_0 kci_0 ?_
  refine e_istore_n dX7_doneWithin_1 (by decide) rfl ?_
  refine e_iconst dX7_doneWithin_2 kci_0 ?_
  refine e_istore dX7_doneWithin_3 (by decide) rfl ?_
  refine e_iconst dX7_doneWithin_5 kci_1 ?_
  refine e_istore dX7_doneWithin_6 (by decide) rfl ?_
  have := p_two h5
  exact lp (2 ^ nd - 1) 1 (0, 0) (by omega)
