def q_queue (mi te : Nat → Int32) (nd : Nat) (T : Nat → Int32) (i : Int32) : Nat × Int32 := if i = -1 then (0, T 0) else if ¬ p_el i (nI nd) then p_no 5 else (0, p_oi (p_nxt mi te nd T (p_gr (p_nxt mi te nd T) (p_ix i) 0)))
def p_fst (mi te : Nat → Int32) (nd : Nat) (t : Int32) : Nat := (p_fold (p_fe mi te nd t) (2 ^ nd - 1) 1 (0, 0)).1
def q_feast (mi te : Nat → Int32) (nd : Nat) (t w : Int32) : Nat × Int32 := if ¬ p_in w 0 1 then p_no 5 else if ¬ p_in t 0 400 then p_no 6 else if w = 0 then (0, nI (p_fst mi te nd t)) else (0, p_sum (p_fst mi te nd t) te nd)
theorem p_fe_lt {mi te : Nat → Int32} {nd : Nat} {t : Int32} {N : Nat} : ∀ (j k : Nat) (s : Nat × Int32), k + j ≤ N → s.1 < N → (p_fold (p_fe mi te nd t) j k s).1 < N
  | 0, _, _, _, h => h
  | j + 1, k, s, hk, h => by
    refine p_fe_lt j (k + 1) _ (by omega) ?_
    unfold p_fe
    split
    · show k < N; omega
    · exact h
theorem p_fst_lt {mi te : Nat → Int32} {nd : Nat} {t : Int32} : p_fst mi te nd t < 2 ^ nd := by
  have := Nat.two_pow_pos nd
  exact p_fe_lt _ _ _ (by omega) this
theorem p_gr_congr {N N' : Nat → Option Nat} {n : Nat} (h : ∀ B, B < 2 ^ n → N B = N' B) (hN : ∀ B d, B < 2 ^ n → N' B = some d → d < n) : ∀ (i B : Nat), B < 2 ^ n → p_gr N i B = p_gr N' i B ∧ p_gr N' i B < 2 ^ n
  | 0, B, hB => ⟨rfl, hB⟩
  | i + 1, B, hB => by
    rw [p_gr, p_gr, h B hB]
    cases e : N' B with
    | none => exact p_gr_congr h hN i B hB
    | some d => exact p_gr_congr h hN i _ (p_or_lt hB (hN B d hB e))
set_option maxRecDepth 100000 in
set_option maxHeartbeats 600000 in
theorem s_X8_queue {Γ : fx_G} {m : fx_M} (hL : fx_Lay m) {nd : Nat} (hnd : m.1 1 3 = nI nd) (h5 : nd ≤ 5) (i : Int32) : fx_Ct Γ mX8_queue 4 119 119 [fx_rf Γ 0, .int i] m (fun r m' => r = some (.int (q_queue (fun d => fx_dr m 1 d 4) (fun d => fx_dr m 1 d 5) nd (m'.1 64) i).2) ∧ fx_oP (fun o => o = 64) (fx_no m (q_queue (fun d => fx_dr m 1 d 4) (fun d => fx_dr m 1 d 5) nd (m'.1 64) i).1) m' ∧ ((q_queue (fun d => fx_dr m 1 d 4) (fun d => fx_dr m 1 d 5) nd (m'.1 64) i).1 = 0 → ∀ B, B < 2 ^ nd → p_LqE (fun d => fx_dr m 1 d 4) (fun d => fx_dr m 1 d 5) nd (m'.1 64) B)) := by
  refine fx_Ct.of (j := 0) (by decide) (Nat.le_of_ble_eq_true rfl) (Nat.le_of_ble_eq_true rfl) ?_
  show fx_E Γ mX8_queue 4 119 119 _ 119 m 0 [some (fx_rf Γ 0), some (.int i)] []
  refine e_iload_n dX8_queue_0 rfl ?_
  refine e_iconst dX8_queue_1 kci_m1 ?_
  refine e_icmp_eq 22 dX8_queue_2 rfl (fun c_e => ?_) (fun c_e => ?_)
  · refine e_aload_n dX8_queue_22 rfl ?_
    refine e_getr (o2 := 63) dX8_queue_23 ff_X8_46 rfl (fx_pi_lt (by decide)) (by decide) rfl (hL _ _ _ rfl) ?_
    refine e_aload_n dX8_queue_26 rfl ?_
    refine e_getr (o2 := 1) dX8_queue_27 ff_X8_10 rfl (fx_pi_lt (by decide)) (by decide) rfl (hL _ _ _ rfl) ?_
    refine e_callV (μ' := mX7_weigh) (ci := 7) (As := [fx_rf Γ 1]) dX8_queue_30 wl_X8_254 ok_X7_weigh rfl rfl (fx_pi_lt (by decide)) (by decide) (Nat.le_of_ble_eq_true rfl) fx_n1 (s_X7_weigh (m := m) 1 fx_s1 hL hnd h5) rfl (fun r_ m_ hpost => ?_)
    revert m_
    intro m1 hpost
    obtain ⟨rfl, o1, L1⟩ := hpost
    have hL1 : fx_Lay m1 := fun o k v h => by rw [o1.1]; exact hL o k v h
    have hnd1 : m1.1 1 3 = nI nd := by rw [o1.2 1 (by decide)]; exact hnd
    have eD : ∀ d, d < nd → fx_dr m1 1 d = fx_dr m 1 d := fun d hd => o1.2 _ (by omega)
    refine e_iload_n dX8_queue_33 rfl ?_
    refine e_iconst dX8_queue_34 kci_m1 ?_
    refine e_icmp_ne 48 dX8_queue_35 rfl (fun c_e2 => ?_) (fun c_e2 => ?_)
    · have c_q2 : p_el i (nI nd) := by first | exact c_q | exact absurd c_e c_e2
      obtain ⟨y, hy, ey⟩ := p_el_ex c_q2 (by omega)
      subst ey
      refine e_aload_n dX8_queue_48 rfl ?_
      refine e_getr (o2 := 63) dX8_queue_49 ff_X8_46 rfl (fx_pi_lt (by decide)) (by decide) rfl (hL1 _ _ _ rfl) ?_
      refine e_aload_n dX8_queue_52 rfl ?_
      refine e_getr (o2 := 1) dX8_queue_53 ff_X8_10 rfl (fx_pi_lt (by decide)) (by decide) rfl (hL1 _ _ _ rfl) ?_
      refine e_iload_n dX8_queue_56 rfl ?_
      refine e_callV (μ' := mX7_dollAt) (ci := 7) (As := [fx_rf Γ 1, .int (nI y)]) dX8_queue_57 wl_X8_258 ok_X7_dollAt rfl rfl (fx_pi_lt (by decide)) (by decide) (Nat.le_of_ble_eq_true rfl) fx_n1 (s_X7_dollAt (m := m1) 1 fx_s1 hL1 hnd1 h5 (i := y) (by omega)) rfl (fun r_ m_ hpost => ?_)
      obtain ⟨rfl, e2⟩ := hpost
      have e2 := e2.symm
      subst e2
      have eN : ∀ B, B < 2 ^ nd → p_nxt (fun d => fx_dr m1 1 d 4) (fun d => fx_dr m1 1 d 5) nd (m1.1 64) B = p_nxt (fun d => fx_dr m 1 d 4) (fun d => fx_dr m 1 d 5) nd (m1.1 64) B := fun B hB => p_nxt_congr (fun d hd => congrFun (eD d hd) 4) (fun d hd => congrFun (eD d hd) 5) hB (fun C _ _ => rfl)
      have eG := p_gr_congr eN (fun B d hB h => (p_nxt_lt h).1) y 0 (Nat.two_pow_pos nd)
      rw [eG.1, eN _ eG.2]
      have hq : q_queue (fun d => fx_dr m 1 d 4) (fun d => fx_dr m 1 d 5) nd (m1.1 64) (nI y) = (0, p_oi (p_nxt (fun d => fx_dr m 1 d 4) (fun d => fx_dr m 1 d 5) nd (m1.1 64) (p_gr (p_nxt (fun d => fx_dr m 1 d 4) (fun d => fx_dr m 1 d 5) nd (m1.1 64)) y 0))) := by first | (unfold q_queue; (try dsimp only); (try dsimp only); (try rw [p_ix_n (show y < 2 ^ 31 by omega)]); (try (first | rw [if_pos c_e] | rw [if_neg c_e] | rw [if_neg (Decidable.not_not.mpr c_e)])); (try (first | rw [if_pos c_e2] | rw [if_neg c_e2] | rw [if_neg (Decidable.not_not.mpr c_e2)])); (try rfl); done) | (exfalso; first | contradiction | (simp_all; done))
      exact e_iret dX8_queue_60 rfl rfl rfl ⟨by rw [hq], by rw [hq]; exact o1, fun _ B hB => L1 B hB⟩
    · refine e_aload_n dX8_queue_38 rfl ?_
      refine e_getr (o2 := 63) dX8_queue_39 ff_X8_46 rfl (fx_pi_lt (by decide)) (by decide) rfl (hL1 _ _ _ rfl) ?_
      refine e_callV1 (μ' := mX7_tearsInAll) (ci := 7) (As := []) dX8_queue_42 wl_X8_255 ok_X7_tearsInAll rfl rfl (fx_pi_lt (by decide)) (by decide) (Nat.le_of_ble_eq_true rfl) fx_n1 (s_X7_tearsInAll (m := m1) hL1) rfl ?_
      refine e_goto 60 dX8_queue_45 rfl ?_
      have hq : q_queue (fun d => fx_dr m 1 d 4) (fun d => fx_dr m 1 d 5) nd (m1.1 64) i = (0, m1.1 64 0) := by first | (unfold q_queue; (try dsimp only); (try (first | rw [if_pos c_e] | rw [if_neg c_e] | rw [if_neg (Decidable.not_not.mpr c_e)])); (try (first | rw [if_pos c_e2] | rw [if_neg c_e2] | rw [if_neg (Decidable.not_not.mpr c_e2)])); (try rfl); done) | (exfalso; first | contradiction | (simp_all; done))
      exact e_iret dX8_queue_60 rfl rfl rfl ⟨by rw [hq], by rw [hq]; exact o1, fun _ B hB => L1 B hB⟩
  · refine e_aload_n dX8_queue_5 rfl ?_
    refine e_getr (o2 := 1) dX8_queue_6 ff_X8_10 rfl (fx_pi_lt (by decide)) (by decide) rfl (hL _ _ _ rfl) ?_
    refine e_iload_n dX8_queue_9 rfl ?_
    refine e_callV1 (μ' := mX6_isDoll) (ci := 6) (As := [.int i]) dX8_queue_10 wl_X8_174 ok_X6_isDoll rfl rfl (fx_pi_lt (by decide)) (by decide) (Nat.le_of_ble_eq_true rfl) fx_n1 (s_X6_isDoll (m := m) 1 fx_s1 (nd := nd) hnd i) rfl ?_
    refine e_if_neB 22 dX8_queue_13 rfl (fun c_q => ?_) (fun c_q => ?_)
    · refine e_aload_n dX8_queue_22 rfl ?_
      refine e_getr (o2 := 63) dX8_queue_23 ff_X8_46 rfl (fx_pi_lt (by decide)) (by decide) rfl (hL _ _ _ rfl) ?_
      refine e_aload_n dX8_queue_26 rfl ?_
      refine e_getr (o2 := 1) dX8_queue_27 ff_X8_10 rfl (fx_pi_lt (by decide)) (by decide) rfl (hL _ _ _ rfl) ?_
      refine e_callV (μ' := mX7_weigh) (ci := 7) (As := [fx_rf Γ 1]) dX8_queue_30 wl_X8_254 ok_X7_weigh rfl rfl (fx_pi_lt (by decide)) (by decide) (Nat.le_of_ble_eq_true rfl) fx_n1 (s_X7_weigh (m := m) 1 fx_s1 hL hnd h5) rfl (fun r_ m_ hpost => ?_)
      revert m_
      intro m1 hpost
      obtain ⟨rfl, o1, L1⟩ := hpost
      have hL1 : fx_Lay m1 := fun o k v h => by rw [o1.1]; exact hL o k v h
      have hnd1 : m1.1 1 3 = nI nd := by rw [o1.2 1 (by decide)]; exact hnd
      have eD : ∀ d, d < nd → fx_dr m1 1 d = fx_dr m 1 d := fun d hd => o1.2 _ (by omega)
      refine e_iload_n dX8_queue_33 rfl ?_
      refine e_iconst dX8_queue_34 kci_m1 ?_
      refine e_icmp_ne 48 dX8_queue_35 rfl (fun c_e2 => ?_) (fun c_e2 => ?_)
      · have c_q2 : p_el i (nI nd) := by first | exact c_q | exact absurd c_e c_e2
        obtain ⟨y, hy, ey⟩ := p_el_ex c_q2 (by omega)
        subst ey
        refine e_aload_n dX8_queue_48 rfl ?_
        refine e_getr (o2 := 63) dX8_queue_49 ff_X8_46 rfl (fx_pi_lt (by decide)) (by decide) rfl (hL1 _ _ _ rfl) ?_
        refine e_aload_n dX8_queue_52 rfl ?_
        refine e_getr (o2 := 1) dX8_queue_53 ff_X8_10 rfl (fx_pi_lt (by decide)) (by decide) rfl (hL1 _ _ _ rfl) ?_
        refine e_iload_n dX8_queue_56 rfl ?_
        refine e_callV (μ' := mX7_dollAt) (ci := 7) (As := [fx_rf Γ 1, .int (nI y)]) dX8_queue_57 wl_X8_258 ok_X7_dollAt rfl rfl (fx_pi_lt (by decide)) (by decide) (Nat.le_of_ble_eq_true rfl) fx_n1 (s_X7_dollAt (m := m1) 1 fx_s1 hL1 hnd1 h5 (i := y) (by omega)) rfl (fun r_ m_ hpost => ?_)
        obtain ⟨rfl, e2⟩ := hpost
        have e2 := e2.symm
        subst e2
        have eN : ∀ B, B < 2 ^ nd → p_nxt (fun d => fx_dr m1 1 d 4) (fun d => fx_dr m1 1 d 5) nd (m1.1 64) B = p_nxt (fun d => fx_dr m 1 d 4) (fun d => fx_dr m 1 d 5) nd (m1.1 64) B := fun B hB => p_nxt_congr (fun d hd => congrFun (eD d hd) 4) (fun d hd => congrFun (eD d hd) 5) hB (fun C _ _ => rfl)
        have eG := p_gr_congr eN (fun B d hB h => (p_nxt_lt h).1) y 0 (Nat.two_pow_pos nd)
        rw [eG.1, eN _ eG.2]
        have hq : q_queue (fun d => fx_dr m 1 d 4) (fun d => fx_dr m 1 d 5) nd (m1.1 64) (nI y) = (0, p_oi (p_nxt (fun d => fx_dr m 1 d 4) (fun d => fx_dr m 1 d 5) nd (m1.1 64) (p_gr (p_nxt (fun d => fx_dr m 1 d 4) (fun d => fx_dr m 1 d 5) nd (m1.1 64)) y 0))) := by first | (unfold q_queue; (try dsimp only); (try dsimp only); (try rw [p_ix_n (show y < 2 ^ 31 by omega)]); (try (first | rw [if_pos c_e] | rw [if_neg c_e] | rw [if_neg (Decidable.not_not.mpr c_e)])); (try (first | rw [if_pos c_q] | rw [if_neg c_q] | rw [if_neg (Decidable.not_not.mpr c_q)])); (try (first | rw [if_pos c_e2] | rw [if_neg c_e2] | rw [if_neg (Decidable.not_not.mpr c_e2)])); (try rfl); done) | (exfalso; first | contradiction | (simp_all; done))
        exact e_iret dX8_queue_60 rfl rfl rfl ⟨by rw [hq], by rw [hq]; exact o1, fun _ B hB => L1 B hB⟩
      · refine e_aload_n dX8_queue_38 rfl ?_
        refine e_getr (o2 := 63) dX8_queue_39 ff_X8_46 rfl (fx_pi_lt (by decide)) (by decide) rfl (hL1 _ _ _ rfl) ?_
        refine e_callV1 (μ' := mX7_tearsInAll) (ci := 7) (As := []) dX8_queue_42 wl_X8_255 ok_X7_tearsInAll rfl rfl (fx_pi_lt (by decide)) (by decide) (Nat.le_of_ble_eq_true rfl) fx_n1 (s_X7_tearsInAll (m := m1) hL1) rfl ?_
        refine e_goto 60 dX8_queue_45 rfl ?_
        have hq : q_queue (fun d => fx_dr m 1 d 4) (fun d => fx_dr m 1 d 5) nd (m1.1 64) i = (0, m1.1 64 0) := by first | (unfold q_queue; (try dsimp only); (try (first | rw [if_pos c_e] | rw [if_neg c_e] | rw [if_neg (Decidable.not_not.mpr c_e)])); (try (first | rw [if_pos c_q] | rw [if_neg c_q] | rw [if_neg (Decidable.not_not.mpr c_q)])); (try (first | rw [if_pos c_e2] | rw [if_neg c_e2] | rw [if_neg (Decidable.not_not.mpr c_e2)])); (try rfl); done) | (exfalso; first | contradiction | (simp_all; done))
        exact e_iret dX8_queue_60 rfl rfl rfl ⟨by rw [hq], by rw [hq]; exact o1, fun _ B hB => L1 B hB⟩
    · refine e_aload_n dX8_queue_16 rfl ?_
      refine e_iconst dX8_queue_17 kci_5 ?_
      refine e_callV1 (μ' := mX8_refuse) (ci := 8) (As := [.int 5]) dX8_queue_18 wl_X8_77 ok_X8_refuse rfl rfl (fx_pi_lt (by decide)) (by decide) (Nat.le_of_ble_eq_true rfl) fx_n1 (s_X8_refuse (m := m) hL 5 (by first | decide | omega) (by first | decide | omega)) rfl ?_
      have hq : q_queue (fun d => fx_dr m 1 d 4) (fun d => fx_dr m 1 d 5) nd ((fx_sI m 50 5 (m.1 50 5 + 1)).1 64) i = (5, -(nI 5)) := by first | (unfold q_queue; (try dsimp only); (try (first | rw [if_pos c_e] | rw [if_neg c_e] | rw [if_neg (Decidable.not_not.mpr c_e)])); (try (first | rw [if_pos c_q] | rw [if_neg c_q] | rw [if_neg (Decidable.not_not.mpr c_q)])); (try rfl); done) | (exfalso; first | contradiction | (simp_all; done))
      exact e_iret dX8_queue_21 rfl rfl rfl ⟨by rw [hq], by rw [hq, fx_no_n (show 5 ≠ 0 by decide)]; exact fx_oP.refl _ _, fun h => by rw [hq] at h; cases h⟩
set_option maxRecDepth 100000 in
set_option maxHeartbeats 600000 in
theorem s_X8_feast {Γ : fx_G} {m : fx_M} (hL : fx_Lay m) {nd : Nat} (hnd : m.1 1 3 = nI nd) (h5 : nd ≤ 5) (t : Int32) (w : Int32) : fx_Ct Γ mX8_feast 3 119 119 [fx_rf Γ 0, .int t, .int w] m (fx_is (some (.int (q_feast (fun d => fx_dr m 1 d 4) (fun d => fx_dr m 1 d 5) nd t w).2)) (fx_no m (q_feast (fun d => fx_dr m 1 d 4) (fun d => fx_dr m 1 d 5) nd t w).1)) := by
  refine fx_Ct.of (j := 1) (by decide) (Nat.le_of_ble_eq_true rfl) (Nat.le_of_ble_eq_true rfl) ?_
  show fx_E Γ mX8_feast 3 119 119 _ 119 m 0 [some (fx_rf Γ 0), some (.int t), some (.int w), none] []
  refine e_iload_n dX8_feast_0 rfl ?_
  refine e_iconst dX8_feast_1 kci_0 ?_
  refine e_iconst dX8_feast_2 kci_1 ?_
  refine e_callS1 (μ' := mX8_within) (As := [.int w, .int 0, .int 1]) dX8_feast_3 wl_X8_81 ok_X8_within (by decide) (Nat.le_of_ble_eq_true rfl) fx_n1 (s_X8_within (m := m) w 0 1) rfl ?_
  refine e_if_neB 15 dX8_feast_6 rfl (fun c_1 => ?_) (fun c_1 => ?_)
  · refine e_iload_n dX8_feast_15 rfl ?_
    refine e_iconst dX8_feast_16 kci_0 ?_
    refine e_sipush dX8_feast_17 kcs_400 ?_
    refine e_callS1 (μ' := mX8_within) (As := [.int t, .int 0, .int 400]) dX8_feast_20 wl_X8_81 ok_X8_within (by decide) (Nat.le_of_ble_eq_true rfl) fx_n1 (s_X8_within (m := m) t 0 400) rfl ?_
    refine e_if_neB 33 dX8_feast_23 rfl (fun c_2 => ?_) (fun c_2 => ?_)
    · refine e_aload_n dX8_feast_33 rfl ?_
      refine e_getr (o2 := 63) dX8_feast_34 ff_X8_46 rfl (fx_pi_lt (by decide)) (by decide) rfl (hL _ _ _ rfl) ?_
      refine e_aload_n dX8_feast_37 rfl ?_
      refine e_getr (o2 := 1) dX8_feast_38 ff_X8_10 rfl (fx_pi_lt (by decide)) (by decide) rfl (hL _ _ _ rfl) ?_
      refine e_iload_n dX8_feast_41 rfl ?_
      refine e_callV (μ' := mX7_doneWithin) (ci := 7) (As := [fx_rf Γ 1, .int t]) dX8_feast_42 wl_X8_262 ok_X7_doneWithin rfl rfl (fx_pi_lt (by decide)) (by decide) (Nat.le_of_ble_eq_true rfl) fx_n1 (s_X7_doneWithin (m := m) 1 fx_s1 hL hnd h5 t) rfl (fun r_ m_ hpost => ?_)
      obtain ⟨rfl, e2⟩ := hpost
      have e2 := e2.symm
      subst e2
      rw [show (p_fold (p_fe (fun d => fx_dr m 1 d 4) (fun d => fx_dr m 1 d 5) nd t) (2 ^ nd - 1) 1 (0, 0)).1 = p_fst (fun d => fx_dr m 1 d 4) (fun d => fx_dr m 1 d 5) nd t from rfl]
      have hf := Nat.lt_of_lt_of_le (p_fst_lt (mi := (fun d => fx_dr m 1 d 4)) (te := (fun d => fx_dr m 1 d 5)) (nd := nd) (t := t)) (p_two h5).2
      refine e_istore_n dX8_feast_45 (by decide) rfl ?_
      refine e_iload_n dX8_feast_46 rfl ?_
      refine e_if_ne 54 dX8_feast_47 rfl (fun c_3 => ?_) (fun c_3 => ?_)
      · refine e_aload_n dX8_feast_54 rfl ?_
        refine e_getr (o2 := 63) dX8_feast_55 ff_X8_46 rfl (fx_pi_lt (by decide)) (by decide) rfl (hL _ _ _ rfl) ?_
        refine e_aload_n dX8_feast_58 rfl ?_
        refine e_getr (o2 := 1) dX8_feast_59 ff_X8_10 rfl (fx_pi_lt (by decide)) (by decide) rfl (hL _ _ _ rfl) ?_
        refine e_iload_n dX8_feast_62 rfl ?_
        refine e_callV1 (μ' := mX7_tearsOf) (ci := 7) (As := [fx_rf Γ 1, .int (nI (p_fst (fun d => fx_dr m 1 d 4) (fun d => fx_dr m 1 d 5) nd t))]) dX8_feast_63 wl_X8_265 ok_X7_tearsOf rfl rfl (fx_pi_lt (by decide)) (by decide) (Nat.le_of_ble_eq_true rfl) fx_n1 (s_X7_tearsOf (m := m) 1 fx_s1 hL hnd h5 (B := (p_fst (fun d => fx_dr m 1 d 4) (fun d => fx_dr m 1 d 5) nd t)) (by omega)) rfl ?_
        have hq : q_feast (fun d => fx_dr m 1 d 4) (fun d => fx_dr m 1 d 5) nd t w = (0, p_sum (p_fst (fun d => fx_dr m 1 d 4) (fun d => fx_dr m 1 d 5) nd t) (fun d => fx_dr m 1 d 5) nd) := by first | (unfold q_feast; (try dsimp only); (try (first | rw [if_pos c_1] | rw [if_neg c_1] | rw [if_neg (Decidable.not_not.mpr c_1)])); (try (first | rw [if_pos c_2] | rw [if_neg c_2] | rw [if_neg (Decidable.not_not.mpr c_2)])); (try (first | rw [if_pos c_3] | rw [if_neg c_3] | rw [if_neg (Decidable.not_not.mpr c_3)])); (try rfl); done) | (exfalso; first | contradiction | (simp_all; done))
        exact e_iret dX8_feast_66 rfl rfl rfl ⟨by rw [hq], by rw [hq]; rfl⟩
      · refine e_iload_n dX8_feast_50 rfl ?_
        refine e_goto 66 dX8_feast_51 rfl ?_
        have hq : q_feast (fun d => fx_dr m 1 d 4) (fun d => fx_dr m 1 d 5) nd t w = (0, nI (p_fst (fun d => fx_dr m 1 d 4) (fun d => fx_dr m 1 d 5) nd t)) := by first | (unfold q_feast; (try dsimp only); (try (first | rw [if_pos c_1] | rw [if_neg c_1] | rw [if_neg (Decidable.not_not.mpr c_1)])); (try (first | rw [if_pos c_2] | rw [if_neg c_2] | rw [if_neg (Decidable.not_not.mpr c_2)])); (try (first | rw [if_pos c_3] | rw [if_neg c_3] | rw [if_neg (Decidable.not_not.mpr c_3)])); (try rfl); done) | (exfalso; first | contradiction | (simp_all; done))
        exact e_iret dX8_feast_66 rfl rfl rfl ⟨by rw [hq], by rw [hq]; rfl⟩
    · refine e_aload_n dX8_feast_26 rfl ?_
      refine e_bipush dX8_feast_27 kcb_6 ?_
      refine e_callV1 (μ' := mX8_refuse) (ci := 8) (As := [.int 6]) dX8_feast_29 wl_X8_77 ok_X8_refuse rfl rfl (fx_pi_lt (by decide)) (by decide) (Nat.le_of_ble_eq_true rfl) fx_n1 (s_X8_refuse (m := m) hL 6 (by first | decide | omega) (by first | decide | omega)) rfl ?_
      have hq : q_feast (fun d => fx_dr m 1 d 4) (fun d => fx_dr m 1 d 5) nd t w = (6, -(nI 6)) := by first | (unfold q_feast; (try dsimp only); (try (first | rw [if_pos c_1] | rw [if_neg c_1] | rw [if_neg (Decidable.not_not.mpr c_1)])); (try (first | rw [if_pos c_2] | rw [if_neg c_2] | rw [if_neg (Decidable.not_not.mpr c_2)])); (try rfl); done) | (exfalso; first | contradiction | (simp_all; done))
      exact e_iret dX8_feast_32 rfl rfl rfl ⟨by rw [hq], by rw [hq]; exact (fx_no_n (by first | decide | omega)).symm⟩
  · refine e_aload_n dX8_feast_9 rfl ?_
    refine e_iconst dX8_feast_10 kci_5 ?_
    refine e_callV1 (μ' := mX8_refuse) (ci := 8) (As := [.int 5]) dX8_feast_11 wl_X8_77 ok_X8_refuse rfl rfl (fx_pi_lt (by decide)) (by decide) (Nat.le_of_ble_eq_true rfl) fx_n1 (s_X8_refuse (m := m) hL 5 (by first | decide | omega) (by first | decide | omega)) rfl ?_
    have hq : q_feast (fun d => fx_dr m 1 d 4) (fun d => fx_dr m 1 d 5) nd t w = (5, -(nI 5)) := by first | (unfold q_feast; (try dsimp only); (try (first | rw [if_pos c_1] | rw [if_neg c_1] | rw [if_neg (Decidable.not_not.mpr c_1)])); (try rfl); done) | (exfalso; first | contradiction | (simp_all; done))
    exact e_iret dX8_feast_14 rfl rfl rfl ⟨by rw [hq], by rw [hq]; exact (fx_no_n (by first | decide | omega)).symm⟩
def p_dys (na nd : Nat) : Nat → p_Sg → p_Sg
  | 0, t => t
  | j + 1, t => p_dys na nd j (p_day na nd t)
def p_daB (na nd : Nat) (n : Int32) : Nat := if nI na = 0 then 5 else if nI nd = 0 then 5 else if ¬ p_in n 1 60 then 6 else 0
theorem fx_E.post {Γ : fx_G} {μ : fx_MD} {d n0 n1 n : Nat} {post post' : Option Value → fx_M → Prop} {m : fx_M} {pc : Nat} {lv : List (Option Value)} {st : List Value} (h : ∀ r m', post r m' → post' r m') (k : fx_E Γ μ d n0 n1 post n m pc lv st) : fx_E Γ μ d n0 n1 post' n m pc lv st := by
  intro p l e R s mid args below meth c H locs Q ls hX hH hz hS hl hn hK
  exact k p l e R s mid args below meth c H locs Q ls hX hH hz hS hl hn (fun r m' H' locs' pc' ls' ins hp => hK r m' H' locs' pc' ls' ins (h r m' hp))
set_option maxRecDepth 100000 in
set_option maxHeartbeats 600000 in
theorem s_X8_days {Γ : fx_G} {m : fx_M} (hL : fx_Lay m) {na nd : Nat} (h8 : na ≤ 8) (h5 : nd ≤ 5) {A D : Nat → Nat → Int32} {c : Nat → Int32} (H : fx_HS m 1 na nd A D c) (n : Int32) : fx_Ct Γ mX8_days 5 119 119 [fx_rf Γ 0, .int n] m (fun r m' => (p_daB na nd n ≠ 0 → r = some (.int (-(nI (p_daB na nd n)))) ∧ m' = fx_no m (p_daB na nd n)) ∧ (p_daB na nd n = 0 → r = some (.int ((p_dys na nd (p_ix n) (A, D, c)).2.2 0)) ∧ fx_fr 1 m m' ∧ fx_HT m' 1 na nd (p_dys na nd (p_ix n) (A, D, c)))) := by
  refine fx_Ct.of (j := 1) (by decide) (Nat.le_of_ble_eq_true rfl) (Nat.le_of_ble_eq_true rfl) ?_
  show fx_E Γ mX8_days 5 119 119 _ 119 m 0 [some (fx_rf Γ 0), some (.int n), none] []
  refine e_aload_n dX8_days_0 rfl ?_
  refine e_getr (o2 := 1) dX8_days_1 ff_X8_10 rfl (fx_pi_lt (by decide)) (by decide) rfl (hL _ _ _ rfl) ?_
  refine e_getv (v := nI na) dX8_days_4 ff_X8_319 rfl (fx_pi_lt (by decide)) (by decide) rfl H.1 ?_
  refine e_if_eq 20 dX8_days_7 rfl (fun a_0 => ?_) (fun a_0 => ?_)
  · refine e_aload_n dX8_days_20 rfl ?_
    refine e_iconst dX8_days_21 kci_5 ?_
    refine e_callV1 (μ' := mX8_refuse) (ci := 8) (As := [.int 5]) dX8_days_22 wl_X8_77 ok_X8_refuse rfl rfl (fx_pi_lt (by decide)) (by decide) (Nat.le_of_ble_eq_true rfl) fx_n1 (s_X8_refuse (m := m) hL 5 (by first | decide | omega) (by first | decide | omega)) rfl ?_
    have hB : p_daB na nd n = 5 := by unfold p_daB; (try (first | rw [if_pos a_0] | rw [if_neg a_0] | rw [if_neg (Decidable.not_not.mpr a_0)])); (try rfl)
    exact e_iret dX8_days_25 rfl rfl rfl ⟨fun _ => by rw [hB]; exact ⟨rfl, (fx_no_n (by decide)).symm⟩, fun q => by rw [hB] at q; cases q⟩
  · refine e_aload_n dX8_days_10 rfl ?_
    refine e_getr (o2 := 1) dX8_days_11 ff_X8_10 rfl (fx_pi_lt (by decide)) (by decide) rfl (hL _ _ _ rfl) ?_
    refine e_getv (v := nI nd) dX8_days_14 ff_X8_238 rfl (fx_pi_lt (by decide)) (by decide) rfl H.2.1 ?_
    refine e_if_ne 26 dX8_days_17 rfl (fun a_1 => ?_) (fun a_1 => ?_)
    · have hn0 : 0 < na := Nat.pos_of_ne_zero (fun e => a_0 (by rw [e]; rfl))
      have hd0 : 0 < nd := Nat.pos_of_ne_zero (fun e => a_1 (by rw [e]; rfl))
      refine e_iload_n dX8_days_26 rfl ?_
      refine e_iconst dX8_days_27 kci_1 ?_
      refine e_bipush dX8_days_28 kcb_60 ?_
      refine e_callS1 (μ' := mX8_within) (As := [.int n, .int 1, .int 60]) dX8_days_30 wl_X8_81 ok_X8_within (by decide) (Nat.le_of_ble_eq_true rfl) fx_n1 (s_X8_within (m := m) n 1 60) rfl ?_
      refine e_if_neB 43 dX8_days_33 rfl (fun c_1 => ?_) (fun c_1 => ?_)
      · refine e_iconst dX8_days_43 kci_0 ?_
        refine e_istore_n dX8_days_44 (by decide) rfl ?_
        obtain ⟨N, hN60, eN⟩ := p_in_ex (v := n) (hi := 60) ⟨Int32.le_trans (by decide) c_1.1, c_1.2⟩ (by decide)
        subst eN
        have hB : p_daB na nd (nI N) = 0 := by unfold p_daB; rw [if_neg a_0, if_neg a_1, if_neg (Decidable.not_not.mpr c_1)]
        refine fx_E.post (fun r m' (h : r = some (.int ((p_dys na nd N (A, D, c)).2.2 0)) ∧ fx_fr 1 m m' ∧ fx_HT m' 1 na nd (p_dys na nd N (A, D, c))) => ⟨fun q => absurd hB q, fun _ => by rw [p_ix_n (show N < 2 ^ 31 by omega)]; exact h⟩) ?_
        have lp : ∀ (j : Nat) (k : Nat) (m1 : fx_M) (t : p_Sg), k + j = N → fx_fr 1 m m1 → fx_HT m1 1 na nd t → fx_E Γ mX8_days 5 119 119 (fun r m' => r = some (.int ((p_dys na nd j t).2.2 0)) ∧ fx_fr 1 m m' ∧ fx_HT m' 1 na nd (p_dys na nd j t)) 119 m1 45 [some (fx_rf Γ 0), some (.int (nI N)), some (.int (nI k))] [] := by
          intro j
          induction j with
          | zero =>
            intro k m1 t hk f1 H1
            have hL1 := f1.lay hL
            refine e_iload_n dX8_days_45 rfl ?_
            refine e_iload_n dX8_days_46 rfl ?_
            refine e_icmp_ge 63 dX8_days_47 rfl (fun _ => ?_) (fun h => absurd (nI_le (by omega) (by omega)) h)
            refine e_aload_n dX8_days_63 rfl ?_
            refine e_getr (o2 := 1) dX8_days_64 ff_X8_10 rfl (fx_pi_lt (by decide)) (by decide) rfl (hL1 _ _ _ rfl) ?_
            refine e_getv (v := t.2.2 0) dX8_days_67 ff_X8_297 rfl (fx_pi_lt (by decide)) (by decide) rfl (H1.2.2.2.2 0 (by decide)) ?_
            exact e_iret dX8_days_70 rfl rfl rfl ⟨rfl, f1, H1⟩
          | succ j ih =>
            intro k m1 t hk f1 H1
            have hL1 := f1.lay hL
            refine e_iload_n dX8_days_45 rfl ?_
            refine e_iload_n dX8_days_46 rfl ?_
            refine e_icmp_ge 63 dX8_days_47 rfl (fun h => absurd h (nI_ge (by omega) (by omega))) (fun _ => ?_)
            refine e_aload_n dX8_days_50 rfl ?_
            refine e_getr (o2 := 1) dX8_days_51 ff_X8_10 rfl (fx_pi_lt (by decide)) (by decide) rfl (hL1 _ _ _ rfl) ?_
            refine e_callV (μ' := mX6_passDay) (ci := 6) (As := []) dX8_days_54 wl_X8_322 ok_X6_passDay rfl rfl (fx_pi_lt (by decide)) (by decide) (Nat.le_of_ble_eq_true rfl) fx_n1 (s_X6_passDay (m := m1) 1 fx_s1 hL1 h8 h5 (by omega) (by omega) H1) rfl (fun r_ m_ hpost => ?_)
            revert m_
            intro m2 hpost
            obtain ⟨rfl, f2, H2⟩ := hpost
            refine e_iinc (v := nI (k + 1)) dX8_days_57 rfl (fx_inc _) (by decide) rfl ?_
            refine e_goto 45 dX8_days_60 rfl ?_
            have ih2 := ih (k + 1) m2 (p_day na nd t) (by omega) (f1.trans f2) H2
            exact ih2
        exact lp N 0 m (A, D, c) (by omega) (fx_fr.refl 1 m) H
      · refine e_aload_n dX8_days_36 rfl ?_
        refine e_bipush dX8_days_37 kcb_6 ?_
        refine e_callV1 (μ' := mX8_refuse) (ci := 8) (As := [.int 6]) dX8_days_39 wl_X8_77 ok_X8_refuse rfl rfl (fx_pi_lt (by decide)) (by decide) (Nat.le_of_ble_eq_true rfl) fx_n1 (s_X8_refuse (m := m) hL 6 (by first | decide | omega) (by first | decide | omega)) rfl ?_
        have hB : p_daB na nd n = 6 := by unfold p_daB; (try (first | rw [if_pos a_0] | rw [if_neg a_0] | rw [if_neg (Decidable.not_not.mpr a_0)])); (try (first | rw [if_pos a_1] | rw [if_neg a_1] | rw [if_neg (Decidable.not_not.mpr a_1)])); (try (first | rw [if_pos c_1] | rw [if_neg c_1] | rw [if_neg (Decidable.not_not.mpr c_1)])); (try rfl)
        exact e_iret dX8_days_42 rfl rfl rfl ⟨fun _ => by rw [hB]; exact ⟨rfl, (fx_no_n (by decide)).symm⟩, fun q => by rw [hB] at q; cases q⟩
    · refine e_aload_n dX8_days_20 rfl ?_
      refine e_iconst dX8_days_21 kci_5 ?_
      refine e_callV1 (μ' := mX8_refuse) (ci := 8) (As := [.int 5]) dX8_days_22 wl_X8_77 ok_X8_refuse rfl rfl (fx_pi_lt (by decide)) (by decide) (Nat.le_of_ble_eq_true rfl) fx_n1 (s_X8_refuse (m := m) hL 5 (by first | decide | omega) (by first | decide | omega)) rfl ?_
      have hB : p_daB na nd n = 5 := by unfold p_daB; (try (first | rw [if_pos a_0] | rw [if_neg a_0] | rw [if_neg (Decidable.not_not.mpr a_0)])); (try (first | rw [if_pos a_1] | rw [if_neg a_1] | rw [if_neg (Decidable.not_not.mpr a_1)])); (try rfl)
      exact e_iret dX8_days_25 rfl rfl rfl ⟨fun _ => by rw [hB]; exact ⟨rfl, (fx_no_n (by decide)).symm⟩, fun q => by rw [hB] at q; cases q⟩
