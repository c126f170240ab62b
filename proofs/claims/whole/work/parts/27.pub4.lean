def q_arm (na : Nat) (k a s z h w : Int32) : Nat × Int32 := if ¬ p_in k 0 6 then p_no 1 else if ¬ p_in a 0 9 then p_no 6 else if ¬ p_in s 0 1 then p_no 6 else if ¬ p_in z 0 9 then p_no 6 else if ¬ p_in h 0 9 then p_no 6 else if ¬ p_in w 0 9 then p_no 6 else if ¬ na < 8 then p_no 7 else (0, nI na)
def fx_mArm (m : fx_M) (S na : Nat) (k a s z h w : Int32) : fx_M := fx_sI (fx_sI (fx_sI (fx_sI (fx_sI (fx_sI (fx_sI (fx_sI m (S + 3 + na) 0 k) (S + 3 + na) 1 a) (S + 3 + na) 2 s) (S + 3 + na) 3 z) (S + 3 + na) 4 h) (S + 3 + na) 5 w) (S + 3 + na) 6 99) S 2 (nI (na + 1))
def q_doll (nd : Nat) (z h w v n t b : Int32) : Nat × Int32 := if ¬ p_in z 0 9 then p_no 6 else if ¬ p_in h 0 9 then p_no 6 else if ¬ p_in w 0 9 then p_no 6 else if ¬ p_in v 0 2 then p_no 6 else if ¬ p_in n 1 99 then p_no 6 else if ¬ p_in t 0 9 then p_no 6 else if ¬ p_in b 0 40 then p_no 6 else if ¬ nd < 5 then p_no 7 else (0, nI nd)
def fx_mDoll (m : fx_M) (S nd : Nat) (z h w v n t b : Int32) : fx_M := fx_sI (fx_sI (fx_sI (fx_sI (fx_sI (fx_sI (fx_sI (fx_sI (fx_sI m (S + 11 + nd) 0 z) (S + 11 + nd) 1 h) (S + 11 + nd) 2 w) (S + 11 + nd) 3 v) (S + 11 + nd) 4 n) (S + 11 + nd) 5 t) (S + 11 + nd) 6 b) (S + 11 + nd) 7 0) S 3 (nI (nd + 1))
def q_dye (A : Nat → Nat → Int32) (na : Nat) (x w v : Int32) : Nat × Int32 := if ¬ p_el x (nI na) then p_no 1 else if ¬ p_in w 0 1 then p_no 6 else if ¬ p_in v 0 9 then p_no 6 else if w = 0 then (0, A (p_ix x) 4) else (0, A (p_ix x) 5)
def p_dyI (w : Int32) : Nat := if w = 0 then 4 else 5
def q_tell (D : Nat → Nat → Int32) (nd : Nat) (d w v : Int32) : Nat × Int32 := if ¬ p_el d (nI nd) then p_no 1 else if v < 0 then p_no 6 else if ¬ v ≤ p_mostD w then p_no 6 else (0, D (p_ix d) (p_retI w))
def q_mend (A D : Nat → Nat → Int32) (na nd : Nat) (sp : Int32) (x d s : Int32) : Nat × Int32 := if ¬ p_el x (nI na) then p_no 1 else if ¬ p_el d (nI nd) then p_no 1 else if ¬ p_in s 0 1 then p_no 6 else if ¬ p_can A D na (p_ix x) (p_ix d) s then p_no 6 else (0, sp + D (p_ix d) 4)
def fx_mMend (m : fx_M) (S x d : Nat) (s : Int32) : fx_M := fx_sI (fx_sI (fx_sI m (S + 3 + x) 6 (10 * nI d + s)) S 5 (m.1 S 5 + m.1 (S + 11 + d) 4)) S 4 (m.1 S 4 + 1)
def q_off (A : Nat → Nat → Int32) (na : Nat) (x : Int32) : Nat × Int32 := if ¬ p_el x (nI na) then p_no 1 else if A (p_ix x) 6 = 99 then p_no 6 else (0, A (p_ix x) 6)
set_option maxRecDepth 100000 in
set_option maxHeartbeats 600000 in
theorem s_X8_arm {Γ : fx_G} {m : fx_M} (hL : fx_Lay m) {na : Nat} (hna : m.1 1 2 = nI na) (h8 : na ≤ 8) (k : Int32) (a : Int32) (s : Int32) (z : Int32) (h : Int32) (w : Int32) : fx_Ct Γ mX8_arm 3 119 119 [fx_rf Γ 0, .int k, .int a, .int s, .int z, .int h, .int w] m (fx_is (some (.int (q_arm na k a s z h w).2)) (fx_qm m (q_arm na k a s z h w).1 (fx_mArm m 1 na k a s z h w))) := by
  refine fx_Ct.of (j := 0) (by decide) (Nat.le_of_ble_eq_true rfl) (Nat.le_of_ble_eq_true rfl) ?_
  show fx_E Γ mX8_arm 3 119 119 _ 119 m 0 [some (fx_rf Γ 0), some (.int k), some (.int a), some (.int s), some (.int z), some (.int h), some (.int w)] []
  refine e_iload_n dX8_arm_0 rfl ?_
  refine e_iconst dX8_arm_1 kci_0 ?_
  refine e_bipush dX8_arm_2 kcb_6 ?_
  refine e_callS1 (μ' := mX8_within) (As := [.int k, .int 0, .int 6]) dX8_arm_4 wl_X8_81 ok_X8_within (by decide) (Nat.le_of_ble_eq_true rfl) fx_n1 (s_X8_within (m := m) k 0 6) rfl ?_
  refine e_if_neB 16 dX8_arm_7 rfl (fun c_1 => ?_) (fun c_1 => ?_)
  · refine e_iload_n dX8_arm_16 rfl ?_
    refine e_callS1 (μ' := mX8_isFigure) (As := [.int a]) dX8_arm_17 wl_X8_146 ok_X8_isFigure (by decide) (Nat.le_of_ble_eq_true rfl) fx_n1 (s_X8_isFigure (m := m) a) rfl ?_
    refine e_if_eqB 54 dX8_arm_20 rfl (fun c_2 => ?_) (fun c_2 => ?_)
    · refine e_aload_n dX8_arm_54 rfl ?_
      refine e_bipush dX8_arm_55 kcb_6 ?_
      refine e_callV1 (μ' := mX8_refuse) (ci := 8) (As := [.int 6]) dX8_arm_57 wl_X8_77 ok_X8_refuse rfl rfl (fx_pi_lt (by decide)) (by decide) (Nat.le_of_ble_eq_true rfl) fx_n1 (s_X8_refuse (m := m) hL 6 (by first | decide | omega) (by first | decide | omega)) rfl ?_
      have hq : q_arm na k a s z h w = (6, -(nI 6)) := by first | (unfold q_arm; (try dsimp only); (try (first | rw [if_pos c_1] | rw [if_neg c_1] | rw [if_neg (Decidable.not_not.mpr c_1)])); (try (first | rw [if_pos c_2] | rw [if_neg c_2] | rw [if_neg (Decidable.not_not.mpr c_2)])); (try rfl); done) | (exfalso; first | contradiction | (simp_all; done))
      exact e_iret dX8_arm_60 rfl rfl rfl ⟨by rw [hq], by rw [hq]; exact (fx_qm_n (by first | decide | omega)).symm⟩
    · refine e_iload_n dX8_arm_23 rfl ?_
      refine e_callS1 (μ' := mX8_isSide) (As := [.int s]) dX8_arm_24 wl_X8_149 ok_X8_isSide (by decide) (Nat.le_of_ble_eq_true rfl) fx_n1 (s_X8_isSide (m := m) s) rfl ?_
      refine e_if_eqB 54 dX8_arm_27 rfl (fun c_3 => ?_) (fun c_3 => ?_)
      · refine e_aload_n dX8_arm_54 rfl ?_
        refine e_bipush dX8_arm_55 kcb_6 ?_
        refine e_callV1 (μ' := mX8_refuse) (ci := 8) (As := [.int 6]) dX8_arm_57 wl_X8_77 ok_X8_refuse rfl rfl (fx_pi_lt (by decide)) (by decide) (Nat.le_of_ble_eq_true rfl) fx_n1 (s_X8_refuse (m := m) hL 6 (by first | decide | omega) (by first | decide | omega)) rfl ?_
        have hq : q_arm na k a s z h w = (6, -(nI 6)) := by first | (unfold q_arm; (try dsimp only); (try (first | rw [if_pos c_1] | rw [if_neg c_1] | rw [if_neg (Decidable.not_not.mpr c_1)])); (try (first | rw [if_pos c_2] | rw [if_neg c_2] | rw [if_neg (Decidable.not_not.mpr c_2)])); (try (first | rw [if_pos c_3] | rw [if_neg c_3] | rw [if_neg (Decidable.not_not.mpr c_3)])); (try rfl); done) | (exfalso; first | contradiction | (simp_all; done))
        exact e_iret dX8_arm_60 rfl rfl rfl ⟨by rw [hq], by rw [hq]; exact (fx_qm_n (by first | decide | omega)).symm⟩
      · refine e_iload dX8_arm_30 rfl ?_
        refine e_callS1 (μ' := mX8_isFigure) (As := [.int z]) dX8_arm_32 wl_X8_146 ok_X8_isFigure (by decide) (Nat.le_of_ble_eq_true rfl) fx_n1 (s_X8_isFigure (m := m) z) rfl ?_
        refine e_if_eqB 54 dX8_arm_35 rfl (fun c_4 => ?_) (fun c_4 => ?_)
        · refine e_aload_n dX8_arm_54 rfl ?_
          refine e_bipush dX8_arm_55 kcb_6 ?_
          refine e_callV1 (μ' := mX8_refuse) (ci := 8) (As := [.int 6]) dX8_arm_57 wl_X8_77 ok_X8_refuse rfl rfl (fx_pi_lt (by decide)) (by decide) (Nat.le_of_ble_eq_true rfl) fx_n1 (s_X8_refuse (m := m) hL 6 (by first | decide | omega) (by first | decide | omega)) rfl ?_
          have hq : q_arm na k a s z h w = (6, -(nI 6)) := by first | (unfold q_arm; (try dsimp only); (try (first | rw [if_pos c_1] | rw [if_neg c_1] | rw [if_neg (Decidable.not_not.mpr c_1)])); (try (first | rw [if_pos c_2] | rw [if_neg c_2] | rw [if_neg (Decidable.not_not.mpr c_2)])); (try (first | rw [if_pos c_3] | rw [if_neg c_3] | rw [if_neg (Decidable.not_not.mpr c_3)])); (try (first | rw [if_pos c_4] | rw [if_neg c_4] | rw [if_neg (Decidable.not_not.mpr c_4)])); (try rfl); done) | (exfalso; first | contradiction | (simp_all; done))
          exact e_iret dX8_arm_60 rfl rfl rfl ⟨by rw [hq], by rw [hq]; exact (fx_qm_n (by first | decide | omega)).symm⟩
        · refine e_iload dX8_arm_38 rfl ?_
          refine e_callS1 (μ' := mX8_isFigure) (As := [.int h]) dX8_arm_40 wl_X8_146 ok_X8_isFigure (by decide) (Nat.le_of_ble_eq_true rfl) fx_n1 (s_X8_isFigure (m := m) h) rfl ?_
          refine e_if_eqB 54 dX8_arm_43 rfl (fun c_5 => ?_) (fun c_5 => ?_)
          · refine e_aload_n dX8_arm_54 rfl ?_
            refine e_bipush dX8_arm_55 kcb_6 ?_
            refine e_callV1 (μ' := mX8_refuse) (ci := 8) (As := [.int 6]) dX8_arm_57 wl_X8_77 ok_X8_refuse rfl rfl (fx_pi_lt (by decide)) (by decide) (Nat.le_of_ble_eq_true rfl) fx_n1 (s_X8_refuse (m := m) hL 6 (by first | decide | omega) (by first | decide | omega)) rfl ?_
            have hq : q_arm na k a s z h w = (6, -(nI 6)) := by first | (unfold q_arm; (try dsimp only); (try (first | rw [if_pos c_1] | rw [if_neg c_1] | rw [if_neg (Decidable.not_not.mpr c_1)])); (try (first | rw [if_pos c_2] | rw [if_neg c_2] | rw [if_neg (Decidable.not_not.mpr c_2)])); (try (first | rw [if_pos c_3] | rw [if_neg c_3] | rw [if_neg (Decidable.not_not.mpr c_3)])); (try (first | rw [if_pos c_4] | rw [if_neg c_4] | rw [if_neg (Decidable.not_not.mpr c_4)])); (try (first | rw [if_pos c_5] | rw [if_neg c_5] | rw [if_neg (Decidable.not_not.mpr c_5)])); (try rfl); done) | (exfalso; first | contradiction | (simp_all; done))
            exact e_iret dX8_arm_60 rfl rfl rfl ⟨by rw [hq], by rw [hq]; exact (fx_qm_n (by first | decide | omega)).symm⟩
          · refine e_iload dX8_arm_46 rfl ?_
            refine e_callS1 (μ' := mX8_isFigure) (As := [.int w]) dX8_arm_48 wl_X8_146 ok_X8_isFigure (by decide) (Nat.le_of_ble_eq_true rfl) fx_n1 (s_X8_isFigure (m := m) w) rfl ?_
            refine e_if_neB 61 dX8_arm_51 rfl (fun c_6 => ?_) (fun c_6 => ?_)
            · refine e_aload_n dX8_arm_61 rfl ?_
              refine e_getr (o2 := 1) dX8_arm_62 ff_X8_10 rfl (fx_pi_lt (by decide)) (by decide) rfl (hL _ _ _ rfl) ?_
              refine e_callV1 (μ' := mX6_hasRoomForArm) (ci := 6) (As := []) dX8_arm_65 wl_X8_152 ok_X6_hasRoomForArm rfl rfl (fx_pi_lt (by decide)) (by decide) (Nat.le_of_ble_eq_true rfl) fx_n1 (s_X6_hasRoomForArm (m := m) 1 fx_s1 (na := na) hna h8) rfl ?_
              refine e_if_neB 78 dX8_arm_68 rfl (fun c_7 => ?_) (fun c_7 => ?_)
              · refine e_aload_n dX8_arm_78 rfl ?_
                refine e_getr (o2 := 1) dX8_arm_79 ff_X8_10 rfl (fx_pi_lt (by decide)) (by decide) rfl (hL _ _ _ rfl) ?_
                refine e_iload_n dX8_arm_82 rfl ?_
                refine e_iload_n dX8_arm_83 rfl ?_
                refine e_iload_n dX8_arm_84 rfl ?_
                refine e_iload dX8_arm_85 rfl ?_
                refine e_iload dX8_arm_87 rfl ?_
                refine e_iload dX8_arm_89 rfl ?_
                refine e_callV1 (μ' := mX6_addArm) (ci := 6) (As := [.int k, .int a, .int s, .int z, .int h, .int w]) dX8_arm_91 wl_X8_155 ok_X6_addArm rfl rfl (fx_pi_lt (by decide)) (by decide) (Nat.le_of_ble_eq_true rfl) fx_n1 (s_X6_addArm (m := m) 1 fx_s1 hL (na := na) hna (by omega) k a s z h w) rfl ?_
                have hq : q_arm na k a s z h w = (0, nI na) := by first | (unfold q_arm; (try dsimp only); (try (first | rw [if_pos c_1] | rw [if_neg c_1] | rw [if_neg (Decidable.not_not.mpr c_1)])); (try (first | rw [if_pos c_2] | rw [if_neg c_2] | rw [if_neg (Decidable.not_not.mpr c_2)])); (try (first | rw [if_pos c_3] | rw [if_neg c_3] | rw [if_neg (Decidable.not_not.mpr c_3)])); (try (first | rw [if_pos c_4] | rw [if_neg c_4] | rw [if_neg (Decidable.not_not.mpr c_4)])); (try (first | rw [if_pos c_5] | rw [if_neg c_5] | rw [if_neg (Decidable.not_not.mpr c_5)])); (try (first | rw [if_pos c_6] | rw [if_neg c_6] | rw [if_neg (Decidable.not_not.mpr c_6)])); (try (first | rw [if_pos c_7] | rw [if_neg c_7] | rw [if_neg (Decidable.not_not.mpr c_7)])); (try rfl); done) | (exfalso; first | contradiction | (simp_all; done))
                exact e_iret dX8_arm_94 rfl rfl rfl ⟨by rw [hq], by rw [hq]; (try rfl)⟩
              · refine e_aload_n dX8_arm_71 rfl ?_
                refine e_bipush dX8_arm_72 kcb_7 ?_
                refine e_callV1 (μ' := mX8_refuse) (ci := 8) (As := [.int 7]) dX8_arm_74 wl_X8_77 ok_X8_refuse rfl rfl (fx_pi_lt (by decide)) (by decide) (Nat.le_of_ble_eq_true rfl) fx_n1 (s_X8_refuse (m := m) hL 7 (by first | decide | omega) (by first | decide | omega)) rfl ?_
                have hq : q_arm na k a s z h w = (7, -(nI 7)) := by first | (unfold q_arm; (try dsimp only); (try (first | rw [if_pos c_1] | rw [if_neg c_1] | rw [if_neg (Decidable.not_not.mpr c_1)])); (try (first | rw [if_pos c_2] | rw [if_neg c_2] | rw [if_neg (Decidable.not_not.mpr c_2)])); (try (first | rw [if_pos c_3] | rw [if_neg c_3] | rw [if_neg (Decidable.not_not.mpr c_3)])); (try (first | rw [if_pos c_4] | rw [if_neg c_4] | rw [if_neg (Decidable.not_not.mpr c_4)])); (try (first | rw [if_pos c_5] | rw [if_neg c_5] | rw [if_neg (Decidable.not_not.mpr c_5)])); (try (first | rw [if_pos c_6] | rw [if_neg c_6] | rw [if_neg (Decidable.not_not.mpr c_6)])); (try (first | rw [if_pos c_7] | rw [if_neg c_7] | rw [if_neg (Decidable.not_not.mpr c_7)])); (try rfl); done) | (exfalso; first | contradiction | (simp_all; done))
                exact e_iret dX8_arm_77 rfl rfl rfl ⟨by rw [hq], by rw [hq]; exact (fx_qm_n (by first | decide | omega)).symm⟩
            · refine e_aload_n dX8_arm_54 rfl ?_
              refine e_bipush dX8_arm_55 kcb_6 ?_
              refine e_callV1 (μ' := mX8_refuse) (ci := 8) (As := [.int 6]) dX8_arm_57 wl_X8_77 ok_X8_refuse rfl rfl (fx_pi_lt (by decide)) (by decide) (Nat.le_of_ble_eq_true rfl) fx_n1 (s_X8_refuse (m := m) hL 6 (by first | decide | omega) (by first | decide | omega)) rfl ?_
              have hq : q_arm na k a s z h w = (6, -(nI 6)) := by first | (unfold q_arm; (try dsimp only); (try (first | rw [if_pos c_1] | rw [if_neg c_1] | rw [if_neg (Decidable.not_not.mpr c_1)])); (try (first | rw [if_pos c_2] | rw [if_neg c_2] | rw [if_neg (Decidable.not_not.mpr c_2)])); (try (first | rw [if_pos c_3] | rw [if_neg c_3] | rw [if_neg (Decidable.not_not.mpr c_3)])); (try (first | rw [if_pos c_4] | rw [if_neg c_4] | rw [if_neg (Decidable.not_not.mpr c_4)])); (try (first | rw [if_pos c_5] | rw [if_neg c_5] | rw [if_neg (Decidable.not_not.mpr c_5)])); (try (first | rw [if_pos c_6] | rw [if_neg c_6] | rw [if_neg (Decidable.not_not.mpr c_6)])); (try rfl); done) | (exfalso; first | contradiction | (simp_all; done))
              exact e_iret dX8_arm_60 rfl rfl rfl ⟨by rw [hq], by rw [hq]; exact (fx_qm_n (by first | decide | omega)).symm⟩
  · refine e_aload_n dX8_arm_10 rfl ?_
    refine e_iconst dX8_arm_11 kci_1 ?_
    refine e_callV1 (μ' := mX8_refuse) (ci := 8) (As := [.int 1]) dX8_arm_12 wl_X8_77 ok_X8_refuse rfl rfl (fx_pi_lt (by decide)) (by decide) (Nat.le_of_ble_eq_true rfl) fx_n1 (s_X8_refuse (m := m) hL 1 (by first | decide | omega) (by first | decide | omega)) rfl ?_
    have hq : q_arm na k a s z h w = (1, -(nI 1)) := by first | (unfold q_arm; (try dsimp only); (try (first | rw [if_pos c_1] | rw [if_neg c_1] | rw [if_neg (Decidable.not_not.mpr c_1)])); (try rfl); done) | (exfalso; first | contradiction | (simp_all; done))
    exact e_iret dX8_arm_15 rfl rfl rfl ⟨by rw [hq], by rw [hq]; exact (fx_qm_n (by first | decide | omega)).symm⟩
set_option maxRecDepth 100000 in
set_option maxHeartbeats 600000 in
theorem s_X8_doll {Γ : fx_G} {m : fx_M} (hL : fx_Lay m) {nd : Nat} (hnd : m.1 1 3 = nI nd) (h5 : nd ≤ 5) (z : Int32) (h : Int32) (w : Int32) (v : Int32) (n : Int32) (t : Int32) (b : Int32) : fx_Ct Γ mX8_doll 3 119 119 [fx_rf Γ 0, .int z, .int h, .int w, .int v, .int n, .int t, .int b] m (fx_is (some (.int (q_doll nd z h w v n t b).2)) (fx_qm m (q_doll nd z h w v n t b).1 (fx_mDoll m 1 nd z h w v n t b))) := by
  refine fx_Ct.of (j := 0) (by decide) (Nat.le_of_ble_eq_true rfl) (Nat.le_of_ble_eq_true rfl) ?_
  show fx_E Γ mX8_doll 3 119 119 _ 119 m 0 [some (fx_rf Γ 0), some (.int z), some (.int h), some (.int w), some (.int v), some (.int n), some (.int t), some (.int b)] []
  refine e_iload_n dX8_doll_0 rfl ?_
  refine e_callS1 (μ' := mX8_isFigure) (As := [.int z]) dX8_doll_1 wl_X8_146 ok_X8_isFigure (by decide) (Nat.le_of_ble_eq_true rfl) fx_n1 (s_X8_isFigure (m := m) z) rfl ?_
  refine e_if_eqB 61 dX8_doll_4 rfl (fun c_1 => ?_) (fun c_1 => ?_)
  · refine e_aload_n dX8_doll_61 rfl ?_
    refine e_bipush dX8_doll_62 kcb_6 ?_
    refine e_callV1 (μ' := mX8_refuse) (ci := 8) (As := [.int 6]) dX8_doll_64 wl_X8_77 ok_X8_refuse rfl rfl (fx_pi_lt (by decide)) (by decide) (Nat.le_of_ble_eq_true rfl) fx_n1 (s_X8_refuse (m := m) hL 6 (by first | decide | omega) (by first | decide | omega)) rfl ?_
    have hq : q_doll nd z h w v n t b = (6, -(nI 6)) := by first | (unfold q_doll; (try dsimp only); (try (first | rw [if_pos c_1] | rw [if_neg c_1] | rw [if_neg (Decidable.not_not.mpr c_1)])); (try rfl); done) | (exfalso; first | contradiction | (simp_all; done))
    exact e_iret dX8_doll_67 rfl rfl rfl ⟨by rw [hq], by rw [hq]; exact (fx_qm_n (by first | decide | omega)).symm⟩
  · refine e_iload_n dX8_doll_7 rfl ?_
    refine e_callS1 (μ' := mX8_isFigure) (As := [.int h]) dX8_doll_8 wl_X8_146 ok_X8_isFigure (by decide) (Nat.le_of_ble_eq_true rfl) fx_n1 (s_X8_isFigure (m := m) h) rfl ?_
    refine e_if_eqB 61 dX8_doll_11 rfl (fun c_2 => ?_) (fun c_2 => ?_)
    · refine e_aload_n dX8_doll_61 rfl ?_
      refine e_bipush dX8_doll_62 kcb_6 ?_
      refine e_callV1 (μ' := mX8_refuse) (ci := 8) (As := [.int 6]) dX8_doll_64 wl_X8_77 ok_X8_refuse rfl rfl (fx_pi_lt (by decide)) (by decide) (Nat.le_of_ble_eq_true rfl) fx_n1 (s_X8_refuse (m := m) hL 6 (by first | decide | omega) (by first | decide | omega)) rfl ?_
      have hq : q_doll nd z h w v n t b = (6, -(nI 6)) := by first | (unfold q_doll; (try dsimp only); (try (first | rw [if_pos c_1] | rw [if_neg c_1] | rw [if_neg (Decidable.not_not.mpr c_1)])); (try (first | rw [if_pos c_2] | rw [if_neg c_2] | rw [if_neg (Decidable.not_not.mpr c_2)])); (try rfl); done) | (exfalso; first | contradiction | (simp_all; done))
      exact e_iret dX8_doll_67 rfl rfl rfl ⟨by rw [hq], by rw [hq]; exact (fx_qm_n (by first | decide | omega)).symm⟩
    · refine e_iload_n dX8_doll_14 rfl ?_
      refine e_callS1 (μ' := mX8_isFigure) (As := [.int w]) dX8_doll_15 wl_X8_146 ok_X8_isFigure (by decide) (Nat.le_of_ble_eq_true rfl) fx_n1 (s_X8_isFigure (m := m) w) rfl ?_
      refine e_if_eqB 61 dX8_doll_18 rfl (fun c_3 => ?_) (fun c_3 => ?_)
      · refine e_aload_n dX8_doll_61 rfl ?_
        refine e_bipush dX8_doll_62 kcb_6 ?_
        refine e_callV1 (μ' := mX8_refuse) (ci := 8) (As := [.int 6]) dX8_doll_64 wl_X8_77 ok_X8_refuse rfl rfl (fx_pi_lt (by decide)) (by decide) (Nat.le_of_ble_eq_true rfl) fx_n1 (s_X8_refuse (m := m) hL 6 (by first | decide | omega) (by first | decide | omega)) rfl ?_
        have hq : q_doll nd z h w v n t b = (6, -(nI 6)) := by first | (unfold q_doll; (try dsimp only); (try (first | rw [if_pos c_1] | rw [if_neg c_1] | rw [if_neg (Decidable.not_not.mpr c_1)])); (try (first | rw [if_pos c_2] | rw [if_neg c_2] | rw [if_neg (Decidable.not_not.mpr c_2)])); (try (first | rw [if_pos c_3] | rw [if_neg c_3] | rw [if_neg (Decidable.not_not.mpr c_3)])); (try rfl); done) | (exfalso; first | contradiction | (simp_all; done))
        exact e_iret dX8_doll_67 rfl rfl rfl ⟨by rw [hq], by rw [hq]; exact (fx_qm_n (by first | decide | omega)).symm⟩
      · refine e_iload dX8_doll_21 rfl ?_
        refine e_iconst dX8_doll_23 kci_0 ?_
        refine e_iconst dX8_doll_24 kci_2 ?_
        refine e_callS1 (μ' := mX8_within) (As := [.int v, .int 0, .int 2]) dX8_doll_25 wl_X8_81 ok_X8_within (by decide) (Nat.le_of_ble_eq_true rfl) fx_n1 (s_X8_within (m := m) v 0 2) rfl ?_
        refine e_if_eqB 61 dX8_doll_28 rfl (fun c_4 => ?_) (fun c_4 => ?_)
        · refine e_aload_n dX8_doll_61 rfl ?_
          refine e_bipush dX8_doll_62 kcb_6 ?_
          refine e_callV1 (μ' := mX8_refuse) (ci := 8) (As := [.int 6]) dX8_doll_64 wl_X8_77 ok_X8_refuse rfl rfl (fx_pi_lt (by decide)) (by decide) (Nat.le_of_ble_eq_true rfl) fx_n1 (s_X8_refuse (m := m) hL 6 (by first | decide | omega) (by first | decide | omega)) rfl ?_
          have hq : q_doll nd z h w v n t b = (6, -(nI 6)) := by first | (unfold q_doll; (try dsimp only); (try (first | rw [if_pos c_1] | rw [if_neg c_1] | rw [if_neg (Decidable.not_not.mpr c_1)])); (try (first | rw [if_pos c_2] | rw [if_neg c_2] | rw [if_neg (Decidable.not_not.mpr c_2)])); (try (first | rw [if_pos c_3] | rw [if_neg c_3] | rw [if_neg (Decidable.not_not.mpr c_3)])); (try (first | rw [if_pos c_4] | rw [if_neg c_4] | rw [if_neg (Decidable.not_not.mpr c_4)])); (try rfl); done) | (exfalso; first | contradiction | (simp_all; done))
          exact e_iret dX8_doll_67 rfl rfl rfl ⟨by rw [hq], by rw [hq]; exact (fx_qm_n (by first | decide | omega)).symm⟩
        · refine e_iload dX8_doll_31 rfl ?_
          refine e_iconst dX8_doll_33 kci_1 ?_
          refine e_bipush dX8_doll_34 kcb_99 ?_
          refine e_callS1 (μ' := mX8_within) (As := [.int n, .int 1, .int 99]) dX8_doll_36 wl_X8_81 ok_X8_within (by decide) (Nat.le_of_ble_eq_true rfl) fx_n1 (s_X8_within (m := m) n 1 99) rfl ?_
          refine e_if_eqB 61 dX8_doll_39 rfl (fun c_5 => ?_) (fun c_5 => ?_)
          · refine e_aload_n dX8_doll_61 rfl ?_
            refine e_bipush dX8_doll_62 kcb_6 ?_
            refine e_callV1 (μ' := mX8_refuse) (ci := 8) (As := [.int 6]) dX8_doll_64 wl_X8_77 ok_X8_refuse rfl rfl (fx_pi_lt (by decide)) (by decide) (Nat.le_of_ble_eq_true rfl) fx_n1 (s_X8_refuse (m := m) hL 6 (by first | decide | omega) (by first | decide | omega)) rfl ?_
            have hq : q_doll nd z h w v n t b = (6, -(nI 6)) := by first | (unfold q_doll; (try dsimp only); (try (first | rw [if_pos c_1] | rw [if_neg c_1] | rw [if_neg (Decidable.not_not.mpr c_1)])); (try (first | rw [if_pos c_2] | rw [if_neg c_2] | rw [if_neg (Decidable.not_not.mpr c_2)])); (try (first | rw [if_pos c_3] | rw [if_neg c_3] | rw [if_neg (Decidable.not_not.mpr c_3)])); (try (first | rw [if_pos c_4] | rw [if_neg c_4] | rw [if_neg (Decidable.not_not.mpr c_4)])); (try (first | rw [if_pos c_5] | rw [if_neg c_5] | rw [if_neg (Decidable.not_not.mpr c_5)])); (try rfl); done) | (exfalso; first | contradiction | (simp_all; done))
            exact e_iret dX8_doll_67 rfl rfl rfl ⟨by rw [hq], by rw [hq]; exact (fx_qm_n (by first | decide | omega)).symm⟩
          · refine e_iload dX8_doll_42 rfl ?_
            refine e_callS1 (μ' := mX8_isFigure) (As := [.int t]) dX8_doll_44 wl_X8_146 ok_X8_isFigure (by decide) (Nat.le_of_ble_eq_true rfl) fx_n1 (s_X8_isFigure (m := m) t) rfl ?_
            refine e_if_eqB 61 dX8_doll_47 rfl (fun c_6 => ?_) (fun c_6 => ?_)
            · refine e_aload_n dX8_doll_61 rfl ?_
              refine e_bipush dX8_doll_62 kcb_6 ?_
              refine e_callV1 (μ' := mX8_refuse) (ci := 8) (As := [.int 6]) dX8_doll_64 wl_X8_77 ok_X8_refuse rfl rfl (fx_pi_lt (by decide)) (by decide) (Nat.le_of_ble_eq_true rfl) fx_n1 (s_X8_refuse (m := m) hL 6 (by first | decide | omega) (by first | decide | omega)) rfl ?_
              have hq : q_doll nd z h w v n t b = (6, -(nI 6)) := by first | (unfold q_doll; (try dsimp only); (try (first | rw [if_pos c_1] | rw [if_neg c_1] | rw [if_neg (Decidable.not_not.mpr c_1)])); (try (first | rw [if_pos c_2] | rw [if_neg c_2] | rw [if_neg (Decidable.not_not.mpr c_2)])); (try (first | rw [if_pos c_3] | rw [if_neg c_3] | rw [if_neg (Decidable.not_not.mpr c_3)])); (try (first | rw [if_pos c_4] | rw [if_neg c_4] | rw [if_neg (Decidable.not_not.mpr c_4)])); (try (first | rw [if_pos c_5] | rw [if_neg c_5] | rw [if_neg (Decidable.not_not.mpr c_5)])); (try (first | rw [if_pos c_6] | rw [if_neg c_6] | rw [if_neg (Decidable.not_not.mpr c_6)])); (try rfl); done) | (exfalso; first | contradiction | (simp_all; done))
              exact e_iret dX8_doll_67 rfl rfl rfl ⟨by rw [hq], by rw [hq]; exact (fx_qm_n (by first | decide | omega)).symm⟩
            · refine e_iload dX8_doll_50 rfl ?_
              refine e_iconst dX8_doll_52 kci_0 ?_
              refine e_bipush dX8_doll_53 kcb_40 ?_
              refine e_callS1 (μ' := mX8_within) (As := [.int b, .int 0, .int 40]) dX8_doll_55 wl_X8_81 ok_X8_within (by decide) (Nat.le_of_ble_eq_true rfl) fx_n1 (s_X8_within (m := m) b 0 40) rfl ?_
              refine e_if_neB 68 dX8_doll_58 rfl (fun c_7 => ?_) (fun c_7 => ?_)
              · refine e_aload_n dX8_doll_68 rfl ?_
                refine e_getr (o2 := 1) dX8_doll_69 ff_X8_10 rfl (fx_pi_lt (by decide)) (by decide) rfl (hL _ _ _ rfl) ?_
                refine e_callV1 (μ' := mX6_hasRoomForDoll) (ci := 6) (As := []) dX8_doll_72 wl_X8_161 ok_X6_hasRoomForDoll rfl rfl (fx_pi_lt (by decide)) (by decide) (Nat.le_of_ble_eq_true rfl) fx_n1 (s_X6_hasRoomForDoll (m := m) 1 fx_s1 (nd := nd) hnd h5) rfl ?_
                refine e_if_neB 85 dX8_doll_75 rfl (fun c_8 => ?_) (fun c_8 => ?_)
                · refine e_aload_n dX8_doll_85 rfl ?_
                  refine e_getr (o2 := 1) dX8_doll_86 ff_X8_10 rfl (fx_pi_lt (by decide)) (by decide) rfl (hL _ _ _ rfl) ?_
                  refine e_iload_n dX8_doll_89 rfl ?_
                  refine e_iload_n dX8_doll_90 rfl ?_
                  refine e_iload_n dX8_doll_91 rfl ?_
                  refine e_iload dX8_doll_92 rfl ?_
                  refine e_iload dX8_doll_94 rfl ?_
                  refine e_iload dX8_doll_96 rfl ?_
                  refine e_iload dX8_doll_98 rfl ?_
                  refine e_callV1 (μ' := mX6_addDoll) (ci := 6) (As := [.int z, .int h, .int w, .int v, .int n, .int t, .int b]) dX8_doll_100 wl_X8_164 ok_X6_addDoll rfl rfl (fx_pi_lt (by decide)) (by decide) (Nat.le_of_ble_eq_true rfl) fx_n1 (s_X6_addDoll (m := m) 1 fx_s1 hL (nd := nd) hnd (by omega) z h w v n t b) rfl ?_
                  have hq : q_doll nd z h w v n t b = (0, nI nd) := by first | (unfold q_doll; (try dsimp only); (try (first | rw [if_pos c_1] | rw [if_neg c_1] | rw [if_neg (Decidable.not_not.mpr c_1)])); (try (first | rw [if_pos c_2] | rw [if_neg c_2] | rw [if_neg (Decidable.not_not.mpr c_2)])); (try (first | rw [if_pos c_3] | rw [if_neg c_3] | rw [if_neg (Decidable.not_not.mpr c_3)])); (try (first | rw [if_pos c_4] | rw [if_neg c_4] | rw [if_neg (Decidable.not_not.mpr c_4)])); (try (first | rw [if_pos c_5] | rw [if_neg c_5] | rw [if_neg (Decidable.not_not.mpr c_5)])); (try (first | rw [if_pos c_6] | rw [if_neg c_6] | rw [if_neg (Decidable.not_not.mpr c_6)])); (try (first | rw [if_pos c_7] | rw [if_neg c_7] | rw [if_neg (Decidable.not_not.mpr c_7)])); (try (first | rw [if_pos c_8] | rw [if_neg c_8] | rw [if_neg (Decidable.not_not.mpr c_8)])); (try rfl); done) | (exfalso; first | contradiction | (simp_all; done))
                  exact e_iret dX8_doll_103 rfl rfl rfl ⟨by rw [hq], by rw [hq]; (try rfl)⟩
                · refine e_aload_n dX8_doll_78 rfl ?_
                  refine e_bipush dX8_doll_79 kcb_7 ?_
                  refine e_callV1 (μ' := mX8_refuse) (ci := 8) (As := [.int 7]) dX8_doll_81 wl_X8_77 ok_X8_refuse rfl rfl (fx_pi_lt (by decide)) (by decide) (Nat.le_of_ble_eq_true rfl) fx_n1 (s_X8_refuse (m := m) hL 7 (by first | decide | omega) (by first | decide | omega)) rfl ?_
                  have hq : q_doll nd z h w v n t b = (7, -(nI 7)) := by first | (unfold q_doll; (try dsimp only); (try (first | rw [if_pos c_1] | rw [if_neg c_1] | rw [if_neg (Decidable.not_not.mpr c_1)])); (try (first | rw [if_pos c_2] | rw [if_neg c_2] | rw [if_neg (Decidable.not_not.mpr c_2)])); (try (first | rw [if_pos c_3] | rw [if_neg c_3] | rw [if_neg (Decidable.not_not.mpr c_3)])); (try (first | rw [if_pos c_4] | rw [if_neg c_4] | rw [if_neg (Decidable.not_not.mpr c_4)])); (try (first | rw [if_pos c_5] | rw [if_neg c_5] | rw [if_neg (Decidable.not_not.mpr c_5)])); (try (first | rw [if_pos c_6] | rw [if_neg c_6] | rw [if_neg (Decidable.not_not.mpr c_6)])); (try (first | rw [if_pos c_7] | rw [if_neg c_7] | rw [if_neg (Decidable.not_not.mpr c_7)])); (try (first | rw [if_pos c_8] | rw [if_neg c_8] | rw [if_neg (Decidable.not_not.mpr c_8)])); (try rfl); done) | (exfalso; first | contradiction | (simp_all; done))
                  exact e_iret dX8_doll_84 rfl rfl rfl ⟨by rw [hq], by rw [hq]; exact (fx_qm_n (by first | decide | omega)).symm⟩
              · refine e_aload_n dX8_doll_61 rfl ?_
                refine e_bipush dX8_doll_62 kcb_6 ?_
                refine e_callV1 (μ' := mX8_refuse) (ci := 8) (As := [.int 6]) dX8_doll_64 wl_X8_77 ok_X8_refuse rfl rfl (fx_pi_lt (by decide)) (by decide) (Nat.le_of_ble_eq_true rfl) fx_n1 (s_X8_refuse (m := m) hL 6 (by first | decide | omega) (by first | decide | omega)) rfl ?_
                have hq : q_doll nd z h w v n t b = (6, -(nI 6)) := by first | (unfold q_doll; (try dsimp only); (try (first | rw [if_pos c_1] | rw [if_neg c_1] | rw [if_neg (Decidable.not_not.mpr c_1)])); (try (first | rw [if_pos c_2] | rw [if_neg c_2] | rw [if_neg (Decidable.not_not.mpr c_2)])); (try (first | rw [if_pos c_3] | rw [if_neg c_3] | rw [if_neg (Decidable.not_not.mpr c_3)])); (try (first | rw [if_pos c_4] | rw [if_neg c_4] | rw [if_neg (Decidable.not_not.mpr c_4)])); (try (first | rw [if_pos c_5] | rw [if_neg c_5] | rw [if_neg (Decidable.not_not.mpr c_5)])); (try (first | rw [if_pos c_6] | rw [if_neg c_6] | rw [if_neg (Decidable.not_not.mpr c_6)])); (try (first | rw [if_pos c_7] | rw [if_neg c_7] | rw [if_neg (Decidable.not_not.mpr c_7)])); (try rfl); done) | (exfalso; first | contradiction | (simp_all; done))
                exact e_iret dX8_doll_67 rfl rfl rfl ⟨by rw [hq], by rw [hq]; exact (fx_qm_n (by first | decide | omega)).symm⟩
set_option maxRecDepth 100000 in
set_option maxHeartbeats 600000 in
theorem s_X8_dye {Γ : fx_G} {m : fx_M} (hL : fx_Lay m) {na : Nat} (hna : m.1 1 2 = nI na) (h8 : na ≤ 8) (x : Int32) (w : Int32) (v : Int32) : fx_Ct Γ mX8_dye 2 119 119 [fx_rf Γ 0, .int x, .int w, .int v] m (fx_is (some (.int (q_dye (fx_ar m 1) na x w v).2)) (fx_qm m (q_dye (fx_ar m 1) na x w v).1 (fx_sI m (1 + 3 + p_ix x) (p_dyI w) v))) := by
  refine fx_Ct.of (j := 2) (by decide) (Nat.le_of_ble_eq_true rfl) (Nat.le_of_ble_eq_true rfl) ?_
  show fx_E Γ mX8_dye 2 119 119 _ 119 m 0 [some (fx_rf Γ 0), some (.int x), some (.int w), some (.int v), none, none] []
  refine e_aload_n dX8_dye_0 rfl ?_
  refine e_getr (o2 := 1) dX8_dye_1 ff_X8_10 rfl (fx_pi_lt (by decide)) (by decide) rfl (hL _ _ _ rfl) ?_
  refine e_iload_n dX8_dye_4 rfl ?_
  refine e_callV1 (μ' := mX6_isArm) (ci := 6) (As := [.int x]) dX8_dye_5 wl_X8_117 ok_X6_isArm rfl rfl (fx_pi_lt (by decide)) (by decide) (Nat.le_of_ble_eq_true rfl) fx_n1 (s_X6_isArm (m := m) 1 fx_s1 (na := na) hna x) rfl ?_
  refine e_if_neB 17 dX8_dye_8 rfl (fun c_1 => ?_) (fun c_1 => ?_)
  · refine e_iload_n dX8_dye_17 rfl ?_
    refine e_iconst dX8_dye_18 kci_0 ?_
    refine e_iconst dX8_dye_19 kci_1 ?_
    refine e_callS1 (μ' := mX8_within) (As := [.int w, .int 0, .int 1]) dX8_dye_20 wl_X8_81 ok_X8_within (by decide) (Nat.le_of_ble_eq_true rfl) fx_n1 (s_X8_within (m := m) w 0 1) rfl ?_
    refine e_if_eqB 33 dX8_dye_23 rfl (fun c_2 => ?_) (fun c_2 => ?_)
    · refine e_aload_n dX8_dye_33 rfl ?_
      refine e_bipush dX8_dye_34 kcb_6 ?_
      refine e_callV1 (μ' := mX8_refuse) (ci := 8) (As := [.int 6]) dX8_dye_36 wl_X8_77 ok_X8_refuse rfl rfl (fx_pi_lt (by decide)) (by decide) (Nat.le_of_ble_eq_true rfl) fx_n1 (s_X8_refuse (m := m) hL 6 (by first | decide | omega) (by first | decide | omega)) rfl ?_
      have hq : q_dye (fx_ar m 1) na x w v = (6, -(nI 6)) := by first | (unfold q_dye; (try dsimp only); (try (first | rw [if_pos c_1] | rw [if_neg c_1] | rw [if_neg (Decidable.not_not.mpr c_1)])); (try (first | rw [if_pos c_2] | rw [if_neg c_2] | rw [if_neg (Decidable.not_not.mpr c_2)])); (try rfl); done) | (exfalso; first | contradiction | (simp_all; done))
      exact e_iret dX8_dye_39 rfl rfl rfl ⟨by rw [hq], by rw [hq]; exact (fx_qm_n (by first | decide | omega)).symm⟩
    · refine e_iload_n dX8_dye_26 rfl ?_
      refine e_callS1 (μ' := mX8_isFigure) (As := [.int v]) dX8_dye_27 wl_X8_146 ok_X8_isFigure (by decide) (Nat.le_of_ble_eq_true rfl) fx_n1 (s_X8_isFigure (m := m) v) rfl ?_
      refine e_if_neB 40 dX8_dye_30 rfl (fun c_3 => ?_) (fun c_3 => ?_)
      · obtain ⟨y, hy, ey⟩ := p_el_ex c_1 (by omega)
        subst ey
        refine e_aload_n dX8_dye_40 rfl ?_
        refine e_getr (o2 := 1) dX8_dye_41 ff_X8_10 rfl (fx_pi_lt (by decide)) (by decide) rfl (hL _ _ _ rfl) ?_
        refine e_getr (o2 := 2) dX8_dye_44 ff_X8_62 rfl (fx_pi_lt (by decide)) (by decide) rfl (hL _ _ _ rfl) ?_
        refine e_iload_n dX8_dye_47 rfl ?_
        refine e_aald (j := y) (o2 := 1 + 3 + y) dX8_dye_48 rfl (Or.inl rfl) (fx_pi_lt (by decide)) rfl (by omega) (by decide) (fx_s1.ra hL (by omega)) ?_
        refine e_astore dX8_dye_49 (by decide) rfl ?_
        refine e_iload_n dX8_dye_51 rfl ?_
        refine e_if_ne 71 dX8_dye_52 rfl (fun c_4 => ?_) (fun c_4 => ?_)
        · refine e_aload dX8_dye_71 rfl ?_
          refine e_get dX8_dye_73 ff_X8_171 (fx_s1.sa (by omega)) (fx_pi_lt (fx_s1.la (by omega))) (by decide) rfl ?_
          refine e_istore dX8_dye_76 (by decide) rfl ?_
          refine e_aload dX8_dye_78 rfl ?_
          refine e_iload_n dX8_dye_80 rfl ?_
          refine e_put dX8_dye_81 ff_X8_171 (fx_s1.sa (by omega)) (fx_pi_lt (fx_s1.la (by omega))) (by decide) rfl (Or.inl rfl) ?_
          refine e_iload dX8_dye_84 rfl ?_
          have hq : q_dye (fx_ar m 1) na (nI y) w v = (0, m.1 (1 + 3 + y) 5) := by first | (unfold q_dye; (try dsimp only); (try dsimp only); (try rw [p_ix_n (show y < 2 ^ 31 by omega)]); (try (first | rw [if_pos c_1] | rw [if_neg c_1] | rw [if_neg (Decidable.not_not.mpr c_1)])); (try (first | rw [if_pos c_2] | rw [if_neg c_2] | rw [if_neg (Decidable.not_not.mpr c_2)])); (try (first | rw [if_pos c_3] | rw [if_neg c_3] | rw [if_neg (Decidable.not_not.mpr c_3)])); (try (first | rw [if_pos c_4] | rw [if_neg c_4] | rw [if_neg (Decidable.not_not.mpr c_4)])); (try rfl); done) | (exfalso; first | contradiction | (simp_all; done))
          exact e_iret dX8_dye_86 rfl rfl rfl ⟨by rw [hq], by rw [hq]; (try dsimp only); (try rw [p_ix_n (show y < 2 ^ 31 by omega)]); (first | rw [p_dyI, if_pos c_4] | rw [p_dyI, if_neg c_4]); (try rfl)⟩
        · refine e_aload dX8_dye_55 rfl ?_
          refine e_get dX8_dye_57 ff_X8_168 (fx_s1.sa (by omega)) (fx_pi_lt (fx_s1.la (by omega))) (by decide) rfl ?_
          refine e_istore dX8_dye_60 (by decide) rfl ?_
          refine e_aload dX8_dye_62 rfl ?_
          refine e_iload_n dX8_dye_64 rfl ?_
          refine e_put dX8_dye_65 ff_X8_168 (fx_s1.sa (by omega)) (fx_pi_lt (fx_s1.la (by omega))) (by decide) rfl (Or.inl rfl) ?_
          refine e_goto 84 dX8_dye_68 rfl ?_
          refine e_iload dX8_dye_84 rfl ?_
          have hq : q_dye (fx_ar m 1) na (nI y) w v = (0, m.1 (1 + 3 + y) 4) := by first | (unfold q_dye; (try dsimp only); (try dsimp only); (try rw [p_ix_n (show y < 2 ^ 31 by omega)]); (try (first | rw [if_pos c_1] | rw [if_neg c_1] | rw [if_neg (Decidable.not_not.mpr c_1)])); (try (first | rw [if_pos c_2] | rw [if_neg c_2] | rw [if_neg (Decidable.not_not.mpr c_2)])); (try (first | rw [if_pos c_3] | rw [if_neg c_3] | rw [if_neg (Decidable.not_not.mpr c_3)])); (try (first | rw [if_pos c_4] | rw [if_neg c_4] | rw [if_neg (Decidable.not_not.mpr c_4)])); (try rfl); done) | (exfalso; first | contradiction | (simp_all; done))
          exact e_iret dX8_dye_86 rfl rfl rfl ⟨by rw [hq], by rw [hq]; (try dsimp only); (try rw [p_ix_n (show y < 2 ^ 31 by omega)]); (first | rw [p_dyI, if_pos c_4] | rw [p_dyI, if_neg c_4]); (try rfl)⟩
      · refine e_aload_n dX8_dye_33 rfl ?_
        refine e_bipush dX8_dye_34 kcb_6 ?_
        refine e_callV1 (μ' := mX8_refuse) (ci := 8) (As := [.int 6]) dX8_dye_36 wl_X8_77 ok_X8_refuse rfl rfl (fx_pi_lt (by decide)) (by decide) (Nat.le_of_ble_eq_true rfl) fx_n1 (s_X8_refuse (m := m) hL 6 (by first | decide | omega) (by first | decide | omega)) rfl ?_
        have hq : q_dye (fx_ar m 1) na x w v = (6, -(nI 6)) := by first | (unfold q_dye; (try dsimp only); (try (first | rw [if_pos c_1] | rw [if_neg c_1] | rw [if_neg (Decidable.not_not.mpr c_1)])); (try (first | rw [if_pos c_2] | rw [if_neg c_2] | rw [if_neg (Decidable.not_not.mpr c_2)])); (try (first | rw [if_pos c_3] | rw [if_neg c_3] | rw [if_neg (Decidable.not_not.mpr c_3)])); (try rfl); done) | (exfalso; first | contradiction | (simp_all; done))
        exact e_iret dX8_dye_39 rfl rfl rfl ⟨by rw [hq], by rw [hq]; exact (fx_qm_n (by first | decide | omega)).symm⟩
  · refine e_aload_n dX8_dye_11 rfl ?_
    refine e_iconst dX8_dye_12 kci_1 ?_
    refine e_callV1 (μ' := mX8_refuse) (ci := 8) (As := [.int 1]) dX8_dye_13 wl_X8_77 ok_X8_refuse rfl rfl (fx_pi_lt (by decide)) (by decide) (Nat.le_of_ble_eq_true rfl) fx_n1 (s_X8_refuse (m := m) hL 1 (by first | decide | omega) (by first | decide | omega)) rfl ?_
    have hq : q_dye (fx_ar m 1) na x w v = (1, -(nI 1)) := by first | (unfold q_dye; (try dsimp only); (try (first | rw [if_pos c_1] | rw [if_neg c_1] | rw [if_neg (Decidable.not_not.mpr c_1)])); (try rfl); done) | (exfalso; first | contradiction | (simp_all; done))
    exact e_iret dX8_dye_16 rfl rfl rfl ⟨by rw [hq], by rw [hq]; exact (fx_qm_n (by first | decide | omega)).symm⟩
set_option maxRecDepth 100000 in
set_option maxHeartbeats 600000 in
theorem s_X8_tell {Γ : fx_G} {m : fx_M} (hL : fx_Lay m) {nd : Nat} (hnd : m.1 1 3 = nI nd) (h5 : nd ≤ 5) (d : Int32) (w : Int32) (v : Int32) : fx_Ct Γ mX8_tell 2 119 119 [fx_rf Γ 0, .int d, .int w, .int v] m (fx_is (some (.int (q_tell (fx_dr m 1) nd d w v).2)) (fx_qm m (q_tell (fx_dr m 1) nd d w v).1 (fx_sI m (1 + 11 + p_ix d) (p_retI w) v))) := by
  refine fx_Ct.of (j := 0) (by decide) (Nat.le_of_ble_eq_true rfl) (Nat.le_of_ble_eq_true rfl) ?_
  show fx_E Γ mX8_tell 2 119 119 _ 119 m 0 [some (fx_rf Γ 0), some (.int d), some (.int w), some (.int v)] []
  refine e_aload_n dX8_tell_0 rfl ?_
  refine e_getr (o2 := 1) dX8_tell_1 ff_X8_10 rfl (fx_pi_lt (by decide)) (by decide) rfl (hL _ _ _ rfl) ?_
  refine e_iload_n dX8_tell_4 rfl ?_
  refine e_callV1 (μ' := mX6_isDoll) (ci := 6) (As := [.int d]) dX8_tell_5 wl_X8_174 ok_X6_isDoll rfl rfl (fx_pi_lt (by decide)) (by decide) (Nat.le_of_ble_eq_true rfl) fx_n1 (s_X6_isDoll (m := m) 1 fx_s1 (nd := nd) hnd d) rfl ?_
  refine e_if_neB 17 dX8_tell_8 rfl (fun c_1 => ?_) (fun c_1 => ?_)
  · refine e_iload_n dX8_tell_17 rfl ?_
    refine e_if_lt 29 dX8_tell_18 rfl (fun c_2 => ?_) (fun c_2 => ?_)
    · refine e_aload_n dX8_tell_29 rfl ?_
      refine e_bipush dX8_tell_30 kcb_6 ?_
      refine e_callV1 (μ' := mX8_refuse) (ci := 8) (As := [.int 6]) dX8_tell_32 wl_X8_77 ok_X8_refuse rfl rfl (fx_pi_lt (by decide)) (by decide) (Nat.le_of_ble_eq_true rfl) fx_n1 (s_X8_refuse (m := m) hL 6 (by first | decide | omega) (by first | decide | omega)) rfl ?_
      have hq : q_tell (fx_dr m 1) nd d w v = (6, -(nI 6)) := by first | (unfold q_tell; (try dsimp only); (try (first | rw [if_pos c_1] | rw [if_neg c_1] | rw [if_neg (Decidable.not_not.mpr c_1)])); (try (first | rw [if_pos c_2] | rw [if_neg c_2] | rw [if_neg (Decidable.not_not.mpr c_2)])); (try rfl); done) | (exfalso; first | contradiction | (simp_all; done))
      exact e_iret dX8_tell_35 rfl rfl rfl ⟨by rw [hq], by rw [hq]; exact (fx_qm_n (by first | decide | omega)).symm⟩
    · refine e_iload_n dX8_tell_21 rfl ?_
      refine e_iload_n dX8_tell_22 rfl ?_
      refine e_callS1 (μ' := mX1_mostOf) (As := [.int w]) dX8_tell_23 wl_X8_177 ok_X1_mostOf (by decide) (Nat.le_of_ble_eq_true rfl) fx_n1 (s_X1_mostOf (m := m) w) rfl ?_
      refine e_icmp_le 36 dX8_tell_26 rfl (fun c_3 => ?_) (fun c_3 => ?_)
      · obtain ⟨y, hy, ey⟩ := p_el_ex c_1 (by omega)
        subst ey
        refine e_aload_n dX8_tell_36 rfl ?_
        refine e_getr (o2 := 1) dX8_tell_37 ff_X8_10 rfl (fx_pi_lt (by decide)) (by decide) rfl (hL _ _ _ rfl) ?_
        refine e_getr (o2 := 3) dX8_tell_40 ff_X8_180 rfl (fx_pi_lt (by decide)) (by decide) rfl (hL _ _ _ rfl) ?_
        refine e_iload_n dX8_tell_43 rfl ?_
        refine e_aald (j := y) (o2 := 1 + 11 + y) dX8_tell_44 rfl (Or.inr (Or.inl rfl)) (fx_pi_lt (by decide)) rfl (by omega) (by decide) (fx_s1.rd hL (by omega)) ?_
        refine e_iload_n dX8_tell_45 rfl ?_
        refine e_iload_n dX8_tell_46 rfl ?_
        refine e_callV1 (μ' := mX1_retell) (ci := 1) (As := [.int w, .int v]) dX8_tell_47 wl_X8_184 ok_X1_retell (fx_s1.sd (by omega)) rfl (fx_pi_lt (fx_s1.ld (by omega))) (by decide) (Nat.le_of_ble_eq_true rfl) fx_n1 (s_X1_retell (m := m) (1 + 11 + y) (fx_s1.sd (by omega)) (fx_s1.ld (by omega)) w v) rfl ?_
        have hq : q_tell (fx_dr m 1) nd (nI y) w v = (0, m.1 (1 + 11 + y) (p_retI w)) := by first | (unfold q_tell; (try dsimp only); (try dsimp only); (try rw [p_ix_n (show y < 2 ^ 31 by omega)]); (try (first | rw [if_pos c_1] | rw [if_neg c_1] | rw [if_neg (Decidable.not_not.mpr c_1)])); (try (first | rw [if_pos c_2] | rw [if_neg c_2] | rw [if_neg (Decidable.not_not.mpr c_2)])); (try (first | rw [if_pos c_3] | rw [if_neg c_3] | rw [if_neg (Decidable.not_not.mpr c_3)])); (try rfl); done) | (exfalso; first | contradiction | (simp_all; done))
        exact e_iret dX8_tell_50 rfl rfl rfl ⟨by rw [hq], by rw [hq]; (try dsimp only); (try rw [p_ix_n (show y < 2 ^ 31 by omega)]); (try rfl)⟩
      · refine e_aload_n dX8_tell_29 rfl ?_
        refine e_bipush dX8_tell_30 kcb_6 ?_
        refine e_callV1 (μ' := mX8_refuse) (ci := 8) (As := [.int 6]) dX8_tell_32 wl_X8_77 ok_X8_refuse rfl rfl (fx_pi_lt (by decide)) (by decide) (Nat.le_of_ble_eq_true rfl) fx_n1 (s_X8_refuse (m := m) hL 6 (by first | decide | omega) (by first | decide | omega)) rfl ?_
        have hq : q_tell (fx_dr m 1) nd d w v = (6, -(nI 6)) := by first | (unfold q_tell; (try dsimp only); (try (first | rw [if_pos c_1] | rw [if_neg c_1] | rw [if_neg (Decidable.not_not.mpr c_1)])); (try (first | rw [if_pos c_2] | rw [if_neg c_2] | rw [if_neg (Decidable.not_not.mpr c_2)])); (try (first | rw [if_pos c_3] | rw [if_neg c_3] | rw [if_neg (Decidable.not_not.mpr c_3)])); (try rfl); done) | (exfalso; first | contradiction | (simp_all; done))
        exact e_iret dX8_tell_35 rfl rfl rfl ⟨by rw [hq], by rw [hq]; exact (fx_qm_n (by first | decide | omega)).symm⟩
  · refine e_aload_n dX8_tell_11 rfl ?_
    refine e_iconst dX8_tell_12 kci_1 ?_
    refine e_callV1 (μ' := mX8_refuse) (ci := 8) (As := [.int 1]) dX8_tell_13 wl_X8_77 ok_X8_refuse rfl rfl (fx_pi_lt (by decide)) (by decide) (Nat.le_of_ble_eq_true rfl) fx_n1 (s_X8_refuse (m := m) hL 1 (by first | decide | omega) (by first | decide | omega)) rfl ?_
    have hq : q_tell (fx_dr m 1) nd d w v = (1, -(nI 1)) := by first | (unfold q_tell; (try dsimp only); (try (first | rw [if_pos c_1] | rw [if_neg c_1] | rw [if_neg (Decidable.not_not.mpr c_1)])); (try rfl); done) | (exfalso; first | contradiction | (simp_all; done))
    exact e_iret dX8_tell_16 rfl rfl rfl ⟨by rw [hq], by rw [hq]; exact (fx_qm_n (by first | decide | omega)).symm⟩
theorem fx_mMend_5 {m : fx_M} {x d : Nat} {s : Int32} (hx : x < 8) : (fx_mMend m 1 x d s).1 1 5 = m.1 1 5 + m.1 (1 + 11 + d) 4 := by
  unfold fx_mMend
  rw [fx_rd2 (by decide), fx_rd0]
set_option maxRecDepth 100000 in
set_option maxHeartbeats 600000 in
theorem s_X8_mend {Γ : fx_G} {m : fx_M} (hL : fx_Lay m) {na : Nat} (hna : m.1 1 2 = nI na) (h8 : na ≤ 8) {nd : Nat} (hnd : m.1 1 3 = nI nd) (h5 : nd ≤ 5) (x : Int32) (d : Int32) (s : Int32) : fx_Ct Γ mX8_mend 3 119 119 [fx_rf Γ 0, .int x, .int d, .int s] m (fx_is (some (.int (q_mend (fx_ar m 1) (fx_dr m 1) na nd (m.1 1 5) x d s).2)) (fx_qm m (q_mend (fx_ar m 1) (fx_dr m 1) na nd (m.1 1 5) x d s).1 (fx_mMend m 1 (p_ix x) (p_ix d) s))) := by
  refine fx_Ct.of (j := 0) (by decide) (Nat.le_of_ble_eq_true rfl) (Nat.le_of_ble_eq_true rfl) ?_
  show fx_E Γ mX8_mend 3 119 119 _ 119 m 0 [some (fx_rf Γ 0), some (.int x), some (.int d), some (.int s)] []
  refine e_aload_n dX8_mend_0 rfl ?_
  refine e_getr (o2 := 1) dX8_mend_1 ff_X8_10 rfl (fx_pi_lt (by decide)) (by decide) rfl (hL _ _ _ rfl) ?_
  refine e_iload_n dX8_mend_4 rfl ?_
  refine e_callV1 (μ' := mX6_isArm) (ci := 6) (As := [.int x]) dX8_mend_5 wl_X8_117 ok_X6_isArm rfl rfl (fx_pi_lt (by decide)) (by decide) (Nat.le_of_ble_eq_true rfl) fx_n1 (s_X6_isArm (m := m) 1 fx_s1 (na := na) hna x) rfl ?_
  refine e_if_eqB 22 dX8_mend_8 rfl (fun c_1 => ?_) (fun c_1 => ?_)
  · refine e_aload_n dX8_mend_22 rfl ?_
    refine e_iconst dX8_mend_23 kci_1 ?_
    refine e_callV1 (μ' := mX8_refuse) (ci := 8) (As := [.int 1]) dX8_mend_24 wl_X8_77 ok_X8_refuse rfl rfl (fx_pi_lt (by decide)) (by decide) (Nat.le_of_ble_eq_true rfl) fx_n1 (s_X8_refuse (m := m) hL 1 (by first | decide | omega) (by first | decide | omega)) rfl ?_
    have hq : q_mend (fx_ar m 1) (fx_dr m 1) na nd (m.1 1 5) x d s = (1, -(nI 1)) := by first | (unfold q_mend; (try dsimp only); (try (first | rw [if_pos c_1] | rw [if_neg c_1] | rw [if_neg (Decidable.not_not.mpr c_1)])); (try rfl); done) | (exfalso; first | contradiction | (simp_all; done))
    exact e_iret dX8_mend_27 rfl rfl rfl ⟨by rw [hq], by rw [hq]; exact (fx_qm_n (by first | decide | omega)).symm⟩
  · refine e_aload_n dX8_mend_11 rfl ?_
    refine e_getr (o2 := 1) dX8_mend_12 ff_X8_10 rfl (fx_pi_lt (by decide)) (by decide) rfl (hL _ _ _ rfl) ?_
    refine e_iload_n dX8_mend_15 rfl ?_
    refine e_callV1 (μ' := mX6_isDoll) (ci := 6) (As := [.int d]) dX8_mend_16 wl_X8_174 ok_X6_isDoll rfl rfl (fx_pi_lt (by decide)) (by decide) (Nat.le_of_ble_eq_true rfl) fx_n1 (s_X6_isDoll (m := m) 1 fx_s1 (nd := nd) hnd d) rfl ?_
    refine e_if_neB 28 dX8_mend_19 rfl (fun c_2 => ?_) (fun c_2 => ?_)
    · refine e_iload_n dX8_mend_28 rfl ?_
      refine e_callS1 (μ' := mX8_isSide) (As := [.int s]) dX8_mend_29 wl_X8_149 ok_X8_isSide (by decide) (Nat.le_of_ble_eq_true rfl) fx_n1 (s_X8_isSide (m := m) s) rfl ?_
      refine e_if_eqB 48 dX8_mend_32 rfl (fun c_3 => ?_) (fun c_3 => ?_)
      · refine e_aload_n dX8_mend_48 rfl ?_
        refine e_bipush dX8_mend_49 kcb_6 ?_
        refine e_callV1 (μ' := mX8_refuse) (ci := 8) (As := [.int 6]) dX8_mend_51 wl_X8_77 ok_X8_refuse rfl rfl (fx_pi_lt (by decide)) (by decide) (Nat.le_of_ble_eq_true rfl) fx_n1 (s_X8_refuse (m := m) hL 6 (by first | decide | omega) (by first | decide | omega)) rfl ?_
        have hq : q_mend (fx_ar m 1) (fx_dr m 1) na nd (m.1 1 5) x d s = (6, -(nI 6)) := by first | (unfold q_mend; (try dsimp only); (try (first | rw [if_pos c_1] | rw [if_neg c_1] | rw [if_neg (Decidable.not_not.mpr c_1)])); (try (first | rw [if_pos c_2] | rw [if_neg c_2] | rw [if_neg (Decidable.not_not.mpr c_2)])); (try (first | rw [if_pos c_3] | rw [if_neg c_3] | rw [if_neg (Decidable.not_not.mpr c_3)])); (try rfl); done) | (exfalso; first | contradiction | (simp_all; done))
        exact e_iret dX8_mend_54 rfl rfl rfl ⟨by rw [hq], by rw [hq]; exact (fx_qm_n (by first | decide | omega)).symm⟩
      · obtain ⟨y, hy, ey⟩ := p_el_ex c_1 (by omega)
        subst ey
        obtain ⟨z, hz, ez⟩ := p_el_ex c_2 (by omega)
        subst ez
        refine e_aload_n dX8_mend_35 rfl ?_
        refine e_getr (o2 := 1) dX8_mend_36 ff_X8_10 rfl (fx_pi_lt (by decide)) (by decide) rfl (hL _ _ _ rfl) ?_
        refine e_iload_n dX8_mend_39 rfl ?_
        refine e_iload_n dX8_mend_40 rfl ?_
        refine e_iload_n dX8_mend_41 rfl ?_
        refine e_callV1 (μ' := mX6_canCome) (ci := 6) (As := [.int (nI y), .int (nI z), .int s]) dX8_mend_42 wl_X8_300 ok_X6_canCome rfl rfl (fx_pi_lt (by decide)) (by decide) (Nat.le_of_ble_eq_true rfl) fx_n1 (s_X6_canCome (m := m) 1 fx_s1 hL (na := na) hna h8 (nd := nd) hnd h5 (x := y) (d := z) (by omega) (by omega) s) rfl ?_
        refine e_if_neB 55 dX8_mend_45 rfl (fun c_4 => ?_) (fun c_4 => ?_)
        · refine e_aload_n dX8_mend_55 rfl ?_
          refine e_getr (o2 := 1) dX8_mend_56 ff_X8_10 rfl (fx_pi_lt (by decide)) (by decide) rfl (hL _ _ _ rfl) ?_
          refine e_iload_n dX8_mend_59 rfl ?_
          refine e_iload_n dX8_mend_60 rfl ?_
          refine e_iload_n dX8_mend_61 rfl ?_
          refine e_callV1 (μ' := mX6_mendWith) (ci := 6) (As := [.int (nI y), .int (nI z), .int s]) dX8_mend_62 wl_X8_303 ok_X6_mendWith rfl rfl (fx_pi_lt (by decide)) (by decide) (Nat.le_of_ble_eq_true rfl) fx_n1 (s_X6_mendWith (m := m) 1 fx_s1 hL (x := y) (d := z) (by omega) (by omega) s) rfl ?_
          refine e_aload_n dX8_mend_65 rfl ?_
          refine e_getr (o2 := 1) dX8_mend_66 ff_X8_10 rfl (fx_pi_lt (by decide)) (by decide) rfl (hL _ _ _ rfl) ?_
          refine e_getv (v := m.1 1 5 + m.1 (1 + 11 + z) 4) dX8_mend_69 ff_X8_307 rfl (fx_pi_lt (by decide)) (by decide) rfl (fx_mMend_5 (by omega)) ?_
          have hq : q_mend (fx_ar m 1) (fx_dr m 1) na nd (m.1 1 5) (nI y) (nI z) s = (0, m.1 1 5 + m.1 (1 + 11 + z) 4) := by first | (unfold q_mend; (try dsimp only); (try dsimp only); (try rw [p_ix_n (show y < 2 ^ 31 by omega)]); (try dsimp only); (try rw [p_ix_n (show z < 2 ^ 31 by omega)]); (try (first | rw [if_pos c_1] | rw [if_neg c_1] | rw [if_neg (Decidable.not_not.mpr c_1)])); (try (first | rw [if_pos c_2] | rw [if_neg c_2] | rw [if_neg (Decidable.not_not.mpr c_2)])); (try (first | rw [if_pos c_3] | rw [if_neg c_3] | rw [if_neg (Decidable.not_not.mpr c_3)])); (try (first | rw [if_pos c_4] | rw [if_neg c_4] | rw [if_neg (Decidable.not_not.mpr c_4)])); (try rfl); done) | (exfalso; first | contradiction | (simp_all; done))
          exact e_iret dX8_mend_72 rfl rfl rfl ⟨by rw [hq], by rw [hq]; (try dsimp only); (try rw [p_ix_n (show y < 2 ^ 31 by omega)]); (try dsimp only); (try rw [p_ix_n (show z < 2 ^ 31 by omega)]); (try rfl)⟩
        · refine e_aload_n dX8_mend_48 rfl ?_
          refine e_bipush dX8_mend_49 kcb_6 ?_
          refine e_callV1 (μ' := mX8_refuse) (ci := 8) (As := [.int 6]) dX8_mend_51 wl_X8_77 ok_X8_refuse rfl rfl (fx_pi_lt (by decide)) (by decide) (Nat.le_of_ble_eq_true rfl) fx_n1 (s_X8_refuse (m := m) hL 6 (by first | decide | omega) (by first | decide | omega)) rfl ?_
          have hq : q_mend (fx_ar m 1) (fx_dr m 1) na nd (m.1 1 5) (nI y) (nI z) s = (6, -(nI 6)) := by first | (unfold q_mend; (try dsimp only); (try dsimp only); (try rw [p_ix_n (show y < 2 ^ 31 by omega)]); (try dsimp only); (try rw [p_ix_n (show z < 2 ^ 31 by omega)]); (try (first | rw [if_pos c_1] | rw [if_neg c_1] | rw [if_neg (Decidable.not_not.mpr c_1)])); (try (first | rw [if_pos c_2] | rw [if_neg c_2] | rw [if_neg (Decidable.not_not.mpr c_2)])); (try (first | rw [if_pos c_3] | rw [if_neg c_3] | rw [if_neg (Decidable.not_not.mpr c_3)])); (try (first | rw [if_pos c_4] | rw [if_neg c_4] | rw [if_neg (Decidable.not_not.mpr c_4)])); (try rfl); done) | (exfalso; first | contradiction | (simp_all; done))
          exact e_iret dX8_mend_54 rfl rfl rfl ⟨by rw [hq], by rw [hq]; exact (fx_qm_n (by first | decide | omega)).symm⟩
    · refine e_aload_n dX8_mend_22 rfl ?_
      refine e_iconst dX8_mend_23 kci_1 ?_
      refine e_callV1 (μ' := mX8_refuse) (ci := 8) (As := [.int 1]) dX8_mend_24 wl_X8_77 ok_X8_refuse rfl rfl (fx_pi_lt (by decide)) (by decide) (Nat.le_of_ble_eq_true rfl) fx_n1 (s_X8_refuse (m := m) hL 1 (by first | decide | omega) (by first | decide | omega)) rfl ?_
      have hq : q_mend (fx_ar m 1) (fx_dr m 1) na nd (m.1 1 5) x d s = (1, -(nI 1)) := by first | (unfold q_mend; (try dsimp only); (try (first | rw [if_pos c_1] | rw [if_neg c_1] | rw [if_neg (Decidable.not_not.mpr c_1)])); (try (first | rw [if_pos c_2] | rw [if_neg c_2] | rw [if_neg (Decidable.not_not.mpr c_2)])); (try rfl); done) | (exfalso; first | contradiction | (simp_all; done))
      exact e_iret dX8_mend_27 rfl rfl rfl ⟨by rw [hq], by rw [hq]; exact (fx_qm_n (by first | decide | omega)).symm⟩
set_option maxRecDepth 100000 in
set_option maxHeartbeats 600000 in
theorem s_X8_off {Γ : fx_G} {m : fx_M} (hL : fx_Lay m) {na : Nat} (hna : m.1 1 2 = nI na) (h8 : na ≤ 8) (x : Int32) : fx_Ct Γ mX8_off 2 119 119 [fx_rf Γ 0, .int x] m (fx_is (some (.int (q_off (fx_ar m 1) na x).2)) (fx_qm m (q_off (fx_ar m 1) na x).1 (fx_sI m (1 + 3 + p_ix x) 6 99))) := by
  refine fx_Ct.of (j := 1) (by decide) (Nat.le_of_ble_eq_true rfl) (Nat.le_of_ble_eq_true rfl) ?_
  show fx_E Γ mX8_off 2 119 119 _ 119 m 0 [some (fx_rf Γ 0), some (.int x), none] []
  refine e_aload_n dX8_off_0 rfl ?_
  refine e_getr (o2 := 1) dX8_off_1 ff_X8_10 rfl (fx_pi_lt (by decide)) (by decide) rfl (hL _ _ _ rfl) ?_
  refine e_iload_n dX8_off_4 rfl ?_
  refine e_callV1 (μ' := mX6_isArm) (ci := 6) (As := [.int x]) dX8_off_5 wl_X8_117 ok_X6_isArm rfl rfl (fx_pi_lt (by decide)) (by decide) (Nat.le_of_ble_eq_true rfl) fx_n1 (s_X6_isArm (m := m) 1 fx_s1 (na := na) hna x) rfl ?_
  refine e_if_neB 17 dX8_off_8 rfl (fun c_1 => ?_) (fun c_1 => ?_)
  · obtain ⟨y, hy, ey⟩ := p_el_ex c_1 (by omega)
    subst ey
    refine e_aload_n dX8_off_17 rfl ?_
    refine e_getr (o2 := 1) dX8_off_18 ff_X8_10 rfl (fx_pi_lt (by decide)) (by decide) rfl (hL _ _ _ rfl) ?_
    refine e_getr (o2 := 2) dX8_off_21 ff_X8_62 rfl (fx_pi_lt (by decide)) (by decide) rfl (hL _ _ _ rfl) ?_
    refine e_iload_n dX8_off_24 rfl ?_
    refine e_aald (j := y) (o2 := 1 + 3 + y) dX8_off_25 rfl (Or.inl rfl) (fx_pi_lt (by decide)) rfl (by omega) (by decide) (fx_s1.ra hL (by omega)) ?_
    refine e_callV1 (μ' := mX0_isInDrawer) (ci := 0) (As := []) dX8_off_26 wl_X8_310 ok_X0_isInDrawer (fx_s1.sa (by omega)) rfl (fx_pi_lt (fx_s1.la (by omega))) (by decide) (Nat.le_of_ble_eq_true rfl) fx_n1 (s_X0_isInDrawer (m := m) (1 + 3 + y) (fx_s1.sa (by omega)) (fx_s1.la (by omega)) ) rfl ?_
    refine e_if_eqB 39 dX8_off_29 rfl (fun c_2 => ?_) (fun c_2 => ?_)
    · refine e_aload_n dX8_off_39 rfl ?_
      refine e_getr (o2 := 1) dX8_off_40 ff_X8_10 rfl (fx_pi_lt (by decide)) (by decide) rfl (hL _ _ _ rfl) ?_
      refine e_getr (o2 := 2) dX8_off_43 ff_X8_62 rfl (fx_pi_lt (by decide)) (by decide) rfl (hL _ _ _ rfl) ?_
      refine e_iload_n dX8_off_46 rfl ?_
      refine e_aald (j := y) (o2 := 1 + 3 + y) dX8_off_47 rfl (Or.inl rfl) (fx_pi_lt (by decide)) rfl (by omega) (by decide) (fx_s1.ra hL (by omega)) ?_
      refine e_get dX8_off_48 ff_X8_313 (fx_s1.sa (by omega)) (fx_pi_lt (fx_s1.la (by omega))) (by decide) rfl ?_
      refine e_istore_n dX8_off_51 (by decide) rfl ?_
      refine e_aload_n dX8_off_52 rfl ?_
      refine e_getr (o2 := 1) dX8_off_53 ff_X8_10 rfl (fx_pi_lt (by decide)) (by decide) rfl (hL _ _ _ rfl) ?_
      refine e_getr (o2 := 2) dX8_off_56 ff_X8_62 rfl (fx_pi_lt (by decide)) (by decide) rfl (hL _ _ _ rfl) ?_
      refine e_iload_n dX8_off_59 rfl ?_
      refine e_aald (j := y) (o2 := 1 + 3 + y) dX8_off_60 rfl (Or.inl rfl) (fx_pi_lt (by decide)) rfl (by omega) (by decide) (fx_s1.ra hL (by omega)) ?_
      refine e_callV1 (μ' := mX0_comeOff) (ci := 0) (As := []) dX8_off_61 wl_X8_316 ok_X0_comeOff (fx_s1.sa (by omega)) rfl (fx_pi_lt (fx_s1.la (by omega))) (by decide) (Nat.le_of_ble_eq_true rfl) fx_n1 (s_X0_comeOff (m := m) (1 + 3 + y) (fx_s1.sa (by omega)) (fx_s1.la (by omega))) rfl ?_
      refine e_iload_n dX8_off_64 rfl ?_
      have hq : q_off (fx_ar m 1) na (nI y) = (0, m.1 (1 + 3 + y) 6) := by first | (unfold q_off; (try dsimp only); (try dsimp only); (try rw [p_ix_n (show y < 2 ^ 31 by omega)]); (try (first | rw [if_pos c_1] | rw [if_neg c_1] | rw [if_neg (Decidable.not_not.mpr c_1)])); (try (first | rw [if_pos c_2] | rw [if_neg c_2] | rw [if_neg (Decidable.not_not.mpr c_2)])); (try rfl); done) | (exfalso; first | contradiction | (simp_all; done))
      exact e_iret dX8_off_65 rfl rfl rfl ⟨by rw [hq], by rw [hq]; (try dsimp only); (try rw [p_ix_n (show y < 2 ^ 31 by omega)]); (try rfl)⟩
    · refine e_aload_n dX8_off_32 rfl ?_
      refine e_bipush dX8_off_33 kcb_6 ?_
      refine e_callV1 (μ' := mX8_refuse) (ci := 8) (As := [.int 6]) dX8_off_35 wl_X8_77 ok_X8_refuse rfl rfl (fx_pi_lt (by decide)) (by decide) (Nat.le_of_ble_eq_true rfl) fx_n1 (s_X8_refuse (m := m) hL 6 (by first | decide | omega) (by first | decide | omega)) rfl ?_
      have hq : q_off (fx_ar m 1) na (nI y) = (6, -(nI 6)) := by first | (unfold q_off; (try dsimp only); (try dsimp only); (try rw [p_ix_n (show y < 2 ^ 31 by omega)]); (try (first | rw [if_pos c_1] | rw [if_neg c_1] | rw [if_neg (Decidable.not_not.mpr c_1)])); (try (first | rw [if_pos c_2] | rw [if_neg c_2] | rw [if_neg (Decidable.not_not.mpr c_2)])); (try rfl); done) | (exfalso; first | contradiction | (simp_all; done))
      exact e_iret dX8_off_38 rfl rfl rfl ⟨by rw [hq], by rw [hq]; exact (fx_qm_n (by first | decide | omega)).symm⟩
  · refine e_aload_n dX8_off_11 rfl ?_
    refine e_iconst dX8_off_12 kci_1 ?_
    refine e_callV1 (μ' := mX8_refuse) (ci := 8) (As := [.int 1]) dX8_off_13 wl_X8_77 ok_X8_refuse rfl rfl (fx_pi_lt (by decide)) (by decide) (Nat.le_of_ble_eq_true rfl) fx_n1 (s_X8_refuse (m := m) hL 1 (by first | decide | omega) (by first | decide | omega)) rfl ?_
    have hq : q_off (fx_ar m 1) na x = (1, -(nI 1)) := by first | (unfold q_off; (try dsimp only); (try (first | rw [if_pos c_1] | rw [if_neg c_1] | rw [if_neg (Decidable.not_not.mpr c_1)])); (try rfl); done) | (exfalso; first | contradiction | (simp_all; done))
    exact e_iret dX8_off_16 rfl rfl rfl ⟨by rw [hq], by rw [hq]; exact (fx_qm_n (by first | decide | omega)).symm⟩
set_option maxRecDepth 100000 in
set_option maxHeartbeats 600000 in
theorem s_X8_seed {Γ : fx_G} {m : fx_M} (hL : fx_Lay m) (v : Int32) : fx_Ct Γ mX8_seed 0 119 119 [fx_rf Γ 0, .int v] m (fx_is (some (.int (m.1 1 7))) (fx_sI m 1 7 v)) := by
  refine fx_Ct.of (j := 1) (by decide) (Nat.le_of_ble_eq_true rfl) (Nat.le_of_ble_eq_true rfl) ?_
  show fx_E Γ mX8_seed 0 119 119 _ 119 m 0 [some (fx_rf Γ 0), some (.int v), none] []
  refine e_aload_n dX8_seed_0 rfl ?_
  refine e_getr (o2 := 1) dX8_seed_1 ff_X8_10 rfl (fx_pi_lt (by decide)) (by decide) rfl (hL _ _ _ rfl) ?_
  refine e_get dX8_seed_4 ff_X8_325 rfl (fx_pi_lt (by decide)) (by decide) rfl ?_
  refine e_istore_n dX8_seed_7 (by decide) rfl ?_
  refine e_aload_n dX8_seed_8 rfl ?_
  refine e_getr (o2 := 1) dX8_seed_9 ff_X8_10 rfl (fx_pi_lt (by decide)) (by decide) rfl (hL _ _ _ rfl) ?_
  refine e_iload_n dX8_seed_12 rfl ?_
  refine e_put dX8_seed_13 ff_X8_325 rfl (fx_pi_lt (by decide)) (by decide) rfl (Or.inl rfl) ?_
  refine e_iload_n dX8_seed_16 rfl ?_
  exact e_iret dX8_seed_17 rfl rfl rfl ⟨rfl, rfl⟩
set_option maxRecDepth 100000 in
set_option maxHeartbeats 600000 in
theorem s_X8_trace {Γ : fx_G} {m : fx_M} (hL : fx_Lay m) (i : Int32) : fx_Ct Γ mX8_trace 1 119 119 [fx_rf Γ 0, .int i] m (fx_is (some (.int (p_bod (m.1 66) (m.1 65 0) i))) m) := by
  refine fx_Ct.of (j := 0) (by decide) (Nat.le_of_ble_eq_true rfl) (Nat.le_of_ble_eq_true rfl) ?_
  show fx_E Γ mX8_trace 1 119 119 _ 119 m 0 [some (fx_rf Γ 0), some (.int i)] []
  refine e_aload_n dX8_trace_0 rfl ?_
  refine e_getr (o2 := 65) dX8_trace_1 ff_X8_69 rfl (fx_pi_lt (by decide)) (by decide) rfl (hL _ _ _ rfl) ?_
  refine e_iload_n dX8_trace_4 rfl ?_
  refine e_callV1 (μ' := mX2_bodyAt) (ci := 2) (As := [.int i]) dX8_trace_5 wl_X8_335 ok_X2_bodyAt rfl rfl (fx_pi_lt (by decide)) (by decide) (Nat.le_of_ble_eq_true rfl) fx_n1 (s_X2_bodyAt (m := m) hL i) rfl ?_
  exact e_iret dX8_trace_8 rfl rfl rfl ⟨rfl, rfl⟩
set_option maxRecDepth 100000 in
set_option maxHeartbeats 600000 in
theorem s_X8_fault {Γ : fx_G} {m : fx_M} (hL : fx_Lay m) : fx_Ct Γ mX8_fault 0 119 119 [fx_rf Γ 0] m (fx_is (some (.int (m.1 51 0))) m) := by
  refine fx_Ct.of (j := 0) (by decide) (Nat.le_of_ble_eq_true rfl) (Nat.le_of_ble_eq_true rfl) ?_
  show fx_E Γ mX8_fault 0 119 119 _ 119 m 0 [some (fx_rf Γ 0)] []
  refine e_aload_n dX8_fault_0 rfl ?_
  refine e_getr (o2 := 51) dX8_fault_1 ff_X8_56 rfl (fx_pi_lt (by decide)) (by decide) rfl (hL _ _ _ rfl) ?_
  refine e_get dX8_fault_4 ff_X8_211 rfl (fx_pi_lt (by decide)) (by decide) rfl ?_
  exact e_iret dX8_fault_7 rfl rfl rfl ⟨rfl, rfl⟩
theorem p_stI {w : Int32} (h1 : ¬ w ≤ 10) (h2 : ¬ 7 < w - 10) : ∃ k : Nat, 1 ≤ k ∧ k ≤ 7 ∧ w = nI (10 + k) ∧ w - 10 = nI k := by
  have g1 := mt Int32.le_iff_toInt_le.mpr h1
  have g2 := mt Int32.lt_iff_toInt_lt.mpr h2
  have r := fb_rng w
  have e10 : (10 : Int32).toInt = 10 := by decide
  have e7 : (7 : Int32).toInt = 7 := by decide
  rw [e10] at g1
  have hs : (w - 10).toInt = w.toInt - 10 := by rw [fb_subI (by rw [e10]; omega) (by rw [e10]; omega), e10]
  rw [hs, e7] at g2
  refine ⟨(w.toInt - 10).toNat, by omega, by omega, Int32.toInt_inj.mp ?_, Int32.toInt_inj.mp ?_⟩
  · rw [nI_toInt (by omega)]; omega
  · rw [hs, nI_toInt (by omega)]; omega
abbrev p_stC (w : Int32) : Prop := ¬ w ≤ 10 ∧ ¬ 7 < w - 10
def q_status (A : Nat → Nat → Int32) (na nd : Nat) (c : Nat → Int32) (rf : Nat → Int32) (ran w : Int32) : Int32 := if p_stC w then rf (p_ix (w - 10)) else if w = 0 then nI na else if w = 1 then nI nd else if w = 2 then p_fold (p_ct (fun x => A x 6 = 99)) na 0 0 else if w = 3 then p_fold (p_ct (p_both A na)) nd 0 0 else if w = 4 then c 0 else if w = 5 then c 1 else if w = 6 then c 2 else if w = 7 then c 3 else if w = 8 then ran else -1
set_option maxRecDepth 100000 in
set_option maxHeartbeats 600000 in
theorem s_X8_status {Γ : fx_G} {m : fx_M} (hL : fx_Lay m) {na : Nat} (hna : m.1 1 2 = nI na) (h8 : na ≤ 8) {nd : Nat} (hnd : m.1 1 3 = nI nd) (h5 : nd ≤ 5) (w : Int32) : fx_Ct Γ mX8_status 3 119 119 [fx_rf Γ 0, .int w] m (fx_is (some (.int (q_status (fx_ar m 1) na nd (fun k => m.1 1 (4 + k)) (m.1 50) (m.1 65 0) w))) m) := by
  refine fx_Ct.of (j := 0) (by decide) (Nat.le_of_ble_eq_true rfl) (Nat.le_of_ble_eq_true rfl) ?_
  show fx_E Γ mX8_status 3 119 119 _ 119 m 0 [some (fx_rf Γ 0), some (.int w)] []
  refine e_iload_n dX8_status_0 rfl ?_
  refine e_bipush dX8_status_1 kcb_10 ?_
  refine e_icmp_le 25 dX8_status_3 rfl (fun a_1 => ?_) (fun a_1 => ?_)
  · refine e_iload_n dX8_status_25 rfl ?_
    by_cases c_1 : w = 0
    · refine e_tableIn (off := 50) 76 dX8_status_26 (by rw [c_1]; decide) (by rw [c_1]; decide) (by rw [c_1]; decide) rfl ?_
      refine e_aload_n dX8_status_76 rfl ?_
      refine e_getr (o2 := 1) dX8_status_77 ff_X8_10 rfl (fx_pi_lt (by decide)) (by decide) rfl (hL _ _ _ rfl) ?_
      refine e_getv (v := nI na) dX8_status_80 ff_X8_319 rfl (fx_pi_lt (by decide)) (by decide) rfl hna ?_
      have hq : q_status (fx_ar m 1) na nd (fun k => m.1 1 (4 + k)) (m.1 50) (m.1 65 0) w = nI na := by unfold q_status; rw [if_neg (fun h => h.1 (by assumption))]; (try dsimp only); (try (first | rw [if_pos c_1] | rw [if_neg c_1] | rw [if_neg (Decidable.not_not.mpr c_1)])); (try rfl)
      exact e_iret dX8_status_83 rfl rfl rfl ⟨by rw [hq], rfl⟩
    by_cases c_2 : w = 1
    · refine e_tableIn (off := 58) 84 dX8_status_26 (by rw [c_2]; decide) (by rw [c_2]; decide) (by rw [c_2]; decide) rfl ?_
      refine e_aload_n dX8_status_84 rfl ?_
      refine e_getr (o2 := 1) dX8_status_85 ff_X8_10 rfl (fx_pi_lt (by decide)) (by decide) rfl (hL _ _ _ rfl) ?_
      refine e_getv (v := nI nd) dX8_status_88 ff_X8_238 rfl (fx_pi_lt (by decide)) (by decide) rfl hnd ?_
      have hq : q_status (fx_ar m 1) na nd (fun k => m.1 1 (4 + k)) (m.1 50) (m.1 65 0) w = nI nd := by unfold q_status; rw [if_neg (fun h => h.1 (by assumption))]; (try dsimp only); (try (first | rw [if_pos c_1] | rw [if_neg c_1] | rw [if_neg (Decidable.not_not.mpr c_1)])); (try (first | rw [if_pos c_2] | rw [if_neg c_2] | rw [if_neg (Decidable.not_not.mpr c_2)])); (try rfl)
      exact e_iret dX8_status_91 rfl rfl rfl ⟨by rw [hq], rfl⟩
    by_cases c_3 : w = 2
    · refine e_tableIn (off := 66) 92 dX8_status_26 (by rw [c_3]; decide) (by rw [c_3]; decide) (by rw [c_3]; decide) rfl ?_
      refine e_aload_n dX8_status_92 rfl ?_
      refine e_getr (o2 := 1) dX8_status_93 ff_X8_10 rfl (fx_pi_lt (by decide)) (by decide) rfl (hL _ _ _ rfl) ?_
      refine e_callV1 (μ' := mX6_armsInDrawer) (ci := 6) (As := []) dX8_status_96 wl_X8_341 ok_X6_armsInDrawer rfl rfl (fx_pi_lt (by decide)) (by decide) (Nat.le_of_ble_eq_true rfl) fx_n1 (s_X6_armsInDrawer (m := m) 1 fx_s1 hL (na := na) hna h8) rfl ?_
      have hq : q_status (fx_ar m 1) na nd (fun k => m.1 1 (4 + k)) (m.1 50) (m.1 65 0) w = p_fold (p_ct (fun x => (fx_ar m 1) x 6 = 99)) na 0 0 := by unfold q_status; rw [if_neg (fun h => h.1 (by assumption))]; (try dsimp only); (try (first | rw [if_pos c_1] | rw [if_neg c_1] | rw [if_neg (Decidable.not_not.mpr c_1)])); (try (first | rw [if_pos c_2] | rw [if_neg c_2] | rw [if_neg (Decidable.not_not.mpr c_2)])); (try (first | rw [if_pos c_3] | rw [if_neg c_3] | rw [if_neg (Decidable.not_not.mpr c_3)])); (try rfl)
      exact e_iret dX8_status_99 rfl rfl rfl ⟨by rw [hq], rfl⟩
    by_cases c_4 : w = 3
    · refine e_tableIn (off := 74) 100 dX8_status_26 (by rw [c_4]; decide) (by rw [c_4]; decide) (by rw [c_4]; decide) rfl ?_
      refine e_aload_n dX8_status_100 rfl ?_
      refine e_getr (o2 := 1) dX8_status_101 ff_X8_10 rfl (fx_pi_lt (by decide)) (by decide) rfl (hL _ _ _ rfl) ?_
      refine e_callV1 (μ' := mX6_dollsWithBoth) (ci := 6) (As := []) dX8_status_104 wl_X8_288 ok_X6_dollsWithBoth rfl rfl (fx_pi_lt (by decide)) (by decide) (Nat.le_of_ble_eq_true rfl) fx_n1 (s_X6_dollsWithBoth (m := m) 1 fx_s1 hL (na := na) hna h8 (nd := nd) hnd h5) rfl ?_
      have hq : q_status (fx_ar m 1) na nd (fun k => m.1 1 (4 + k)) (m.1 50) (m.1 65 0) w = p_fold (p_ct (p_both (fx_ar m 1) na)) nd 0 0 := by unfold q_status; rw [if_neg (fun h => h.1 (by assumption))]; (try dsimp only); (try (first | rw [if_pos c_1] | rw [if_neg c_1] | rw [if_neg (Decidable.not_not.mpr c_1)])); (try (first | rw [if_pos c_2] | rw [if_neg c_2] | rw [if_neg (Decidable.not_not.mpr c_2)])); (try (first | rw [if_pos c_3] | rw [if_neg c_3] | rw [if_neg (Decidable.not_not.mpr c_3)])); (try (first | rw [if_pos c_4] | rw [if_neg c_4] | rw [if_neg (Decidable.not_not.mpr c_4)])); (try rfl)
      exact e_iret dX8_status_107 rfl rfl rfl ⟨by rw [hq], rfl⟩
    by_cases c_5 : w = 4
    · refine e_tableIn (off := 82) 108 dX8_status_26 (by rw [c_5]; decide) (by rw [c_5]; decide) (by rw [c_5]; decide) rfl ?_
      refine e_aload_n dX8_status_108 rfl ?_
      refine e_getr (o2 := 1) dX8_status_109 ff_X8_10 rfl (fx_pi_lt (by decide)) (by decide) rfl (hL _ _ _ rfl) ?_
      refine e_get dX8_status_112 ff_X8_297 rfl (fx_pi_lt (by decide)) (by decide) rfl ?_
      have hq : q_status (fx_ar m 1) na nd (fun k => m.1 1 (4 + k)) (m.1 50) (m.1 65 0) w = m.1 1 4 := by unfold q_status; rw [if_neg (fun h => h.1 (by assumption))]; (try dsimp only); (try (first | rw [if_pos c_1] | rw [if_neg c_1] | rw [if_neg (Decidable.not_not.mpr c_1)])); (try (first | rw [if_pos c_2] | rw [if_neg c_2] | rw [if_neg (Decidable.not_not.mpr c_2)])); (try (first | rw [if_pos c_3] | rw [if_neg c_3] | rw [if_neg (Decidable.not_not.mpr c_3)])); (try (first | rw [if_pos c_4] | rw [if_neg c_4] | rw [if_neg (Decidable.not_not.mpr c_4)])); (try (first | rw [if_pos c_5] | rw [if_neg c_5] | rw [if_neg (Decidable.not_not.mpr c_5)])); (try rfl)
      exact e_iret dX8_status_115 rfl rfl rfl ⟨by rw [hq], rfl⟩
    by_cases c_6 : w = 5
    · refine e_tableIn (off := 90) 116 dX8_status_26 (by rw [c_6]; decide) (by rw [c_6]; decide) (by rw [c_6]; decide) rfl ?_
      refine e_aload_n dX8_status_116 rfl ?_
      refine e_getr (o2 := 1) dX8_status_117 ff_X8_10 rfl (fx_pi_lt (by decide)) (by decide) rfl (hL _ _ _ rfl) ?_
      refine e_get dX8_status_120 ff_X8_307 rfl (fx_pi_lt (by decide)) (by decide) rfl ?_
      have hq : q_status (fx_ar m 1) na nd (fun k => m.1 1 (4 + k)) (m.1 50) (m.1 65 0) w = m.1 1 5 := by unfold q_status; rw [if_neg (fun h => h.1 (by assumption))]; (try dsimp only); (try (first | rw [if_pos c_1] | rw [if_neg c_1] | rw [if_neg (Decidable.not_not.mpr c_1)])); (try (first | rw [if_pos c_2] | rw [if_neg c_2] | rw [if_neg (Decidable.not_not.mpr c_2)])); (try (first | rw [if_pos c_3] | rw [if_neg c_3] | rw [if_neg (Decidable.not_not.mpr c_3)])); (try (first | rw [if_pos c_4] | rw [if_neg c_4] | rw [if_neg (Decidable.not_not.mpr c_4)])); (try (first | rw [if_pos c_5] | rw [if_neg c_5] | rw [if_neg (Decidable.not_not.mpr c_5)])); (try (first | rw [if_pos c_6] | rw [if_neg c_6] | rw [if_neg (Decidable.not_not.mpr c_6)])); (try rfl)
      exact e_iret dX8_status_123 rfl rfl rfl ⟨by rw [hq], rfl⟩
    by_cases c_7 : w = 6
    · refine e_tableIn (off := 98) 124 dX8_status_26 (by rw [c_7]; decide) (by rw [c_7]; decide) (by rw [c_7]; decide) rfl ?_
      refine e_aload_n dX8_status_124 rfl ?_
      refine e_getr (o2 := 1) dX8_status_125 ff_X8_10 rfl (fx_pi_lt (by decide)) (by decide) rfl (hL _ _ _ rfl) ?_
      refine e_get dX8_status_128 ff_X8_344 rfl (fx_pi_lt (by decide)) (by decide) rfl ?_
      have hq : q_status (fx_ar m 1) na nd (fun k => m.1 1 (4 + k)) (m.1 50) (m.1 65 0) w = m.1 1 6 := by unfold q_status; rw [if_neg (fun h => h.1 (by assumption))]; (try dsimp only); (try (first | rw [if_pos c_1] | rw [if_neg c_1] | rw [if_neg (Decidable.not_not.mpr c_1)])); (try (first | rw [if_pos c_2] | rw [if_neg c_2] | rw [if_neg (Decidable.not_not.mpr c_2)])); (try (first | rw [if_pos c_3] | rw [if_neg c_3] | rw [if_neg (Decidable.not_not.mpr c_3)])); (try (first | rw [if_pos c_4] | rw [if_neg c_4] | rw [if_neg (Decidable.not_not.mpr c_4)])); (try (first | rw [if_pos c_5] | rw [if_neg c_5] | rw [if_neg (Decidable.not_not.mpr c_5)])); (try (first | rw [if_pos c_6] | rw [if_neg c_6] | rw [if_neg (Decidable.not_not.mpr c_6)])); (try (first | rw [if_pos c_7] | rw [if_neg c_7] | rw [if_neg (Decidable.not_not.mpr c_7)])); (try rfl)
      exact e_iret dX8_status_131 rfl rfl rfl ⟨by rw [hq], rfl⟩
    by_cases c_8 : w = 7
    · refine e_tableIn (off := 106) 132 dX8_status_26 (by rw [c_8]; decide) (by rw [c_8]; decide) (by rw [c_8]; decide) rfl ?_
      refine e_aload_n dX8_status_132 rfl ?_
      refine e_getr (o2 := 1) dX8_status_133 ff_X8_10 rfl (fx_pi_lt (by decide)) (by decide) rfl (hL _ _ _ rfl) ?_
      refine e_get dX8_status_136 ff_X8_325 rfl (fx_pi_lt (by decide)) (by decide) rfl ?_
      have hq : q_status (fx_ar m 1) na nd (fun k => m.1 1 (4 + k)) (m.1 50) (m.1 65 0) w = m.1 1 7 := by unfold q_status; rw [if_neg (fun h => h.1 (by assumption))]; (try dsimp only); (try (first | rw [if_pos c_1] | rw [if_neg c_1] | rw [if_neg (Decidable.not_not.mpr c_1)])); (try (first | rw [if_pos c_2] | rw [if_neg c_2] | rw [if_neg (Decidable.not_not.mpr c_2)])); (try (first | rw [if_pos c_3] | rw [if_neg c_3] | rw [if_neg (Decidable.not_not.mpr c_3)])); (try (first | rw [if_pos c_4] | rw [if_neg c_4] | rw [if_neg (Decidable.not_not.mpr c_4)])); (try (first | rw [if_pos c_5] | rw [if_neg c_5] | rw [if_neg (Decidable.not_not.mpr c_5)])); (try (first | rw [if_pos c_6] | rw [if_neg c_6] | rw [if_neg (Decidable.not_not.mpr c_6)])); (try (first | rw [if_pos c_7] | rw [if_neg c_7] | rw [if_neg (Decidable.not_not.mpr c_7)])); (try (first | rw [if_pos c_8] | rw [if_neg c_8] | rw [if_neg (Decidable.not_not.mpr c_8)])); (try rfl)
      exact e_iret dX8_status_139 rfl rfl rfl ⟨by rw [hq], rfl⟩
    by_cases c_9 : w = 8
    · refine e_tableIn (off := 114) 140 dX8_status_26 (by rw [c_9]; decide) (by rw [c_9]; decide) (by rw [c_9]; decide) rfl ?_
      refine e_aload_n dX8_status_140 rfl ?_
      refine e_getr (o2 := 65) dX8_status_141 ff_X8_69 rfl (fx_pi_lt (by decide)) (by decide) rfl (hL _ _ _ rfl) ?_
      refine e_get dX8_status_144 ff_X8_347 rfl (fx_pi_lt (by decide)) (by decide) rfl ?_
      have hq : q_status (fx_ar m 1) na nd (fun k => m.1 1 (4 + k)) (m.1 50) (m.1 65 0) w = m.1 65 0 := by unfold q_status; rw [if_neg (fun h => h.1 (by assumption))]; (try dsimp only); (try (first | rw [if_pos c_1] | rw [if_neg c_1] | rw [if_neg (Decidable.not_not.mpr c_1)])); (try (first | rw [if_pos c_2] | rw [if_neg c_2] | rw [if_neg (Decidable.not_not.mpr c_2)])); (try (first | rw [if_pos c_3] | rw [if_neg c_3] | rw [if_neg (Decidable.not_not.mpr c_3)])); (try (first | rw [if_pos c_4] | rw [if_neg c_4] | rw [if_neg (Decidable.not_not.mpr c_4)])); (try (first | rw [if_pos c_5] | rw [if_neg c_5] | rw [if_neg (Decidable.not_not.mpr c_5)])); (try (first | rw [if_pos c_6] | rw [if_neg c_6] | rw [if_neg (Decidable.not_not.mpr c_6)])); (try (first | rw [if_pos c_7] | rw [if_neg c_7] | rw [if_neg (Decidable.not_not.mpr c_7)])); (try (first | rw [if_pos c_8] | rw [if_neg c_8] | rw [if_neg (Decidable.not_not.mpr c_8)])); (try (first | rw [if_pos c_9] | rw [if_neg c_9] | rw [if_neg (Decidable.not_not.mpr c_9)])); (try rfl)
      exact e_iret dX8_status_147 rfl rfl rfl ⟨by rw [hq], rfl⟩
    have tc_1 := lv_neT c_1 (show (0 : Int32).toInt = 0 by decide)
    have tc_2 := lv_neT c_2 (show (1 : Int32).toInt = 1 by decide)
    have tc_3 := lv_neT c_3 (show (2 : Int32).toInt = 2 by decide)
    have tc_4 := lv_neT c_4 (show (3 : Int32).toInt = 3 by decide)
    have tc_5 := lv_neT c_5 (show (4 : Int32).toInt = 4 by decide)
    have tc_6 := lv_neT c_6 (show (5 : Int32).toInt = 5 by decide)
    have tc_7 := lv_neT c_7 (show (6 : Int32).toInt = 6 by decide)
    have tc_8 := lv_neT c_8 (show (7 : Int32).toInt = 7 by decide)
    have tc_9 := lv_neT c_9 (show (8 : Int32).toInt = 8 by decide)
    refine e_tableOut 148 dX8_status_26 (by omega) rfl ?_
    refine e_iconst dX8_status_148 kci_m1 ?_
    have hq : q_status (fx_ar m 1) na nd (fun k => m.1 1 (4 + k)) (m.1 50) (m.1 65 0) w = (-1) := by unfold q_status; rw [if_neg (fun h => h.1 (by assumption))]; (try dsimp only); (try (first | rw [if_pos c_1] | rw [if_neg c_1] | rw [if_neg (Decidable.not_not.mpr c_1)])); (try (first | rw [if_pos c_2] | rw [if_neg c_2] | rw [if_neg (Decidable.not_not.mpr c_2)])); (try (first | rw [if_pos c_3] | rw [if_neg c_3] | rw [if_neg (Decidable.not_not.mpr c_3)])); (try (first | rw [if_pos c_4] | rw [if_neg c_4] | rw [if_neg (Decidable.not_not.mpr c_4)])); (try (first | rw [if_pos c_5] | rw [if_neg c_5] | rw [if_neg (Decidable.not_not.mpr c_5)])); (try (first | rw [if_pos c_6] | rw [if_neg c_6] | rw [if_neg (Decidable.not_not.mpr c_6)])); (try (first | rw [if_pos c_7] | rw [if_neg c_7] | rw [if_neg (Decidable.not_not.mpr c_7)])); (try (first | rw [if_pos c_8] | rw [if_neg c_8] | rw [if_neg (Decidable.not_not.mpr c_8)])); (try (first | rw [if_pos c_9] | rw [if_neg c_9] | rw [if_neg (Decidable.not_not.mpr c_9)])); (try rfl)
    exact e_iret dX8_status_149 rfl rfl rfl ⟨by rw [hq], rfl⟩
  · refine e_iload_n dX8_status_6 rfl ?_
    refine e_bipush dX8_status_7 kcb_10 ?_
    refine e_isub dX8_status_9 ?_
    refine e_bipush dX8_status_10 kcb_7 ?_
    refine e_icmp_gt 25 dX8_status_12 rfl (fun a_2 => ?_) (fun a_2 => ?_)
    · refine e_iload_n dX8_status_25 rfl ?_
      by_cases c_10 : w = 0
      · refine e_tableIn (off := 50) 76 dX8_status_26 (by rw [c_10]; decide) (by rw [c_10]; decide) (by rw [c_10]; decide) rfl ?_
        refine e_aload_n dX8_status_76 rfl ?_
        refine e_getr (o2 := 1) dX8_status_77 ff_X8_10 rfl (fx_pi_lt (by decide)) (by decide) rfl (hL _ _ _ rfl) ?_
        refine e_getv (v := nI na) dX8_status_80 ff_X8_319 rfl (fx_pi_lt (by decide)) (by decide) rfl hna ?_
        have hq : q_status (fx_ar m 1) na nd (fun k => m.1 1 (4 + k)) (m.1 50) (m.1 65 0) w = nI na := by unfold q_status; rw [if_neg (fun h => h.2 (by assumption))]; (try dsimp only); (try (first | rw [if_pos c_10] | rw [if_neg c_10] | rw [if_neg (Decidable.not_not.mpr c_10)])); (try rfl)
        exact e_iret dX8_status_83 rfl rfl rfl ⟨by rw [hq], rfl⟩
      by_cases c_11 : w = 1
      · refine e_tableIn (off := 58) 84 dX8_status_26 (by rw [c_11]; decide) (by rw [c_11]; decide) (by rw [c_11]; decide) rfl ?_
        refine e_aload_n dX8_status_84 rfl ?_
        refine e_getr (o2 := 1) dX8_status_85 ff_X8_10 rfl (fx_pi_lt (by decide)) (by decide) rfl (hL _ _ _ rfl) ?_
        refine e_getv (v := nI nd) dX8_status_88 ff_X8_238 rfl (fx_pi_lt (by decide)) (by decide) rfl hnd ?_
        have hq : q_status (fx_ar m 1) na nd (fun k => m.1 1 (4 + k)) (m.1 50) (m.1 65 0) w = nI nd := by unfold q_status; rw [if_neg (fun h => h.2 (by assumption))]; (try dsimp only); (try (first | rw [if_pos c_10] | rw [if_neg c_10] | rw [if_neg (Decidable.not_not.mpr c_10)])); (try (first | rw [if_pos c_11] | rw [if_neg c_11] | rw [if_neg (Decidable.not_not.mpr c_11)])); (try rfl)
        exact e_iret dX8_status_91 rfl rfl rfl ⟨by rw [hq], rfl⟩
      by_cases c_12 : w = 2
      · refine e_tableIn (off := 66) 92 dX8_status_26 (by rw [c_12]; decide) (by rw [c_12]; decide) (by rw [c_12]; decide) rfl ?_
        refine e_aload_n dX8_status_92 rfl ?_
        refine e_getr (o2 := 1) dX8_status_93 ff_X8_10 rfl (fx_pi_lt (by decide)) (by decide) rfl (hL _ _ _ rfl) ?_
        refine e_callV1 (μ' := mX6_armsInDrawer) (ci := 6) (As := []) dX8_status_96 wl_X8_341 ok_X6_armsInDrawer rfl rfl (fx_pi_lt (by decide)) (by decide) (Nat.le_of_ble_eq_true rfl) fx_n1 (s_X6_armsInDrawer (m := m) 1 fx_s1 hL (na := na) hna h8) rfl ?_
        have hq : q_status (fx_ar m 1) na nd (fun k => m.1 1 (4 + k)) (m.1 50) (m.1 65 0) w = p_fold (p_ct (fun x => (fx_ar m 1) x 6 = 99)) na 0 0 := by unfold q_status; rw [if_neg (fun h => h.2 (by assumption))]; (try dsimp only); (try (first | rw [if_pos c_10] | rw [if_neg c_10] | rw [if_neg (Decidable.not_not.mpr c_10)])); (try (first | rw [if_pos c_11] | rw [if_neg c_11] | rw [if_neg (Decidable.not_not.mpr c_11)])); (try (first | rw [if_pos c_12] | rw [if_neg c_12] | rw [if_neg (Decidable.not_not.mpr c_12)])); (try rfl)
        exact e_iret dX8_status_99 rfl rfl rfl ⟨by rw [hq], rfl⟩
      by_cases c_13 : w = 3
      · refine e_tableIn (off := 74) 100 dX8_status_26 (by rw [c_13]; decide) (by rw [c_13]; decide) (by rw [c_13]; decide) rfl ?_
        refine e_aload_n dX8_status_100 rfl ?_
        refine e_getr (o2 := 1) dX8_status_101 ff_X8_10 rfl (fx_pi_lt (by decide)) (by decide) rfl (hL _ _ _ rfl) ?_
        refine e_callV1 (μ' := mX6_dollsWithBoth) (ci := 6) (As := []) dX8_status_104 wl_X8_288 ok_X6_dollsWithBoth rfl rfl (fx_pi_lt (by decide)) (by decide) (Nat.le_of_ble_eq_true rfl) fx_n1 (s_X6_dollsWithBoth (m := m) 1 fx_s1 hL (na := na) hna h8 (nd := nd) hnd h5) rfl ?_
        have hq : q_status (fx_ar m 1) na nd (fun k => m.1 1 (4 + k)) (m.1 50) (m.1 65 0) w = p_fold (p_ct (p_both (fx_ar m 1) na)) nd 0 0 := by unfold q_status; rw [if_neg (fun h => h.2 (by assumption))]; (try dsimp only); (try (first | rw [if_pos c_10] | rw [if_neg c_10] | rw [if_neg (Decidable.not_not.mpr c_10)])); (try (first | rw [if_pos c_11] | rw [if_neg c_11] | rw [if_neg (Decidable.not_not.mpr c_11)])); (try (first | rw [if_pos c_12] | rw [if_neg c_12] | rw [if_neg (Decidable.not_not.mpr c_12)])); (try (first | rw [if_pos c_13] | rw [if_neg c_13] | rw [if_neg (Decidable.not_not.mpr c_13)])); (try rfl)
        exact e_iret dX8_status_107 rfl rfl rfl ⟨by rw [hq], rfl⟩
      by_cases c_14 : w = 4
      · refine e_tableIn (off := 82) 108 dX8_status_26 (by rw [c_14]; decide) (by rw [c_14]; decide) (by rw [c_14]; decide) rfl ?_
        refine e_aload_n dX8_status_108 rfl ?_
        refine e_getr (o2 := 1) dX8_status_109 ff_X8_10 rfl (fx_pi_lt (by decide)) (by decide) rfl (hL _ _ _ rfl) ?_
        refine e_get dX8_status_112 ff_X8_297 rfl (fx_pi_lt (by decide)) (by decide) rfl ?_
        have hq : q_status (fx_ar m 1) na nd (fun k => m.1 1 (4 + k)) (m.1 50) (m.1 65 0) w = m.1 1 4 := by unfold q_status; rw [if_neg (fun h => h.2 (by assumption))]; (try dsimp only); (try (first | rw [if_pos c_10] | rw [if_neg c_10] | rw [if_neg (Decidable.not_not.mpr c_10)])); (try (first | rw [if_pos c_11] | rw [if_neg c_11] | rw [if_neg (Decidable.not_not.mpr c_11)])); (try (first | rw [if_pos c_12] | rw [if_neg c_12] | rw [if_neg (Decidable.not_not.mpr c_12)])); (try (first | rw [if_pos c_13] | rw [if_neg c_13] | rw [if_neg (Decidable.not_not.mpr c_13)])); (try (first | rw [if_pos c_14] | rw [if_neg c_14] | rw [if_neg (Decidable.not_not.mpr c_14)])); (try rfl)
        exact e_iret dX8_status_115 rfl rfl rfl ⟨by rw [hq], rfl⟩
      by_cases c_15 : w = 5
      · refine e_tableIn (off := 90) 116 dX8_status_26 (by rw [c_15]; decide) (by rw [c_15]; decide) (by rw [c_15]; decide) rfl ?_
        refine e_aload_n dX8_status_116 rfl ?_
        refine e_getr (o2 := 1) dX8_status_117 ff_X8_10 rfl (fx_pi_lt (by decide)) (by decide) rfl (hL _ _ _ rfl) ?_
        refine e_get dX8_status_120 ff_X8_307 rfl (fx_pi_lt (by decide)) (by decide) rfl ?_
        have hq : q_status (fx_ar m 1) na nd (fun k => m.1 1 (4 + k)) (m.1 50) (m.1 65 0) w = m.1 1 5 := by unfold q_status; rw [if_neg (fun h => h.2 (by assumption))]; (try dsimp only); (try (first | rw [if_pos c_10] | rw [if_neg c_10] | rw [if_neg (Decidable.not_not.mpr c_10)])); (try (first | rw [if_pos c_11] | rw [if_neg c_11] | rw [if_neg (Decidable.not_not.mpr c_11)])); (try (first | rw [if_pos c_12] | rw [if_neg c_12] | rw [if_neg (Decidable.not_not.mpr c_12)])); (try (first | rw [if_pos c_13] | rw [if_neg c_13] | rw [if_neg (Decidable.not_not.mpr c_13)])); (try (first | rw [if_pos c_14] | rw [if_neg c_14] | rw [if_neg (Decidable.not_not.mpr c_14)])); (try (first | rw [if_pos c_15] | rw [if_neg c_15] | rw [if_neg (Decidable.not_not.mpr c_15)])); (try rfl)
        exact e_iret dX8_status_123 rfl rfl rfl ⟨by rw [hq], rfl⟩
      by_cases c_16 : w = 6
      · refine e_tableIn (off := 98) 124 dX8_status_26 (by rw [c_16]; decide) (by rw [c_16]; decide) (by rw [c_16]; decide) rfl ?_
        refine e_aload_n dX8_status_124 rfl ?_
        refine e_getr (o2 := 1) dX8_status_125 ff_X8_10 rfl (fx_pi_lt (by decide)) (by decide) rfl (hL _ _ _ rfl) ?_
        refine e_get dX8_status_128 ff_X8_344 rfl (fx_pi_lt (by decide)) (by decide) rfl ?_
        have hq : q_status (fx_ar m 1) na nd (fun k => m.1 1 (4 + k)) (m.1 50) (m.1 65 0) w = m.1 1 6 := by unfold q_status; rw [if_neg (fun h => h.2 (by assumption))]; (try dsimp only); (try (first | rw [if_pos c_10] | rw [if_neg c_10] | rw [if_neg (Decidable.not_not.mpr c_10)])); (try (first | rw [if_pos c_11] | rw [if_neg c_11] | rw [if_neg (Decidable.not_not.mpr c_11)])); (try (first | rw [if_pos c_12] | rw [if_neg c_12] | rw [if_neg (Decidable.not_not.mpr c_12)])); (try (first | rw [if_pos c_13] | rw [if_neg c_13] | rw [if_neg (Decidable.not_not.mpr c_13)])); (try (first | rw [if_pos c_14] | rw [if_neg c_14] | rw [if_neg (Decidable.not_not.mpr c_14)])); (try (first | rw [if_pos c_15] | rw [if_neg c_15] | rw [if_neg (Decidable.not_not.mpr c_15)])); (try (first | rw [if_pos c_16] | rw [if_neg c_16] | rw [if_neg (Decidable.not_not.mpr c_16)])); (try rfl)
        exact e_iret dX8_status_131 rfl rfl rfl ⟨by rw [hq], rfl⟩
      by_cases c_17 : w = 7
      · refine e_tableIn (off := 106) 132 dX8_status_26 (by rw [c_17]; decide) (by rw [c_17]; decide) (by rw [c_17]; decide) rfl ?_
        refine e_aload_n dX8_status_132 rfl ?_
        refine e_getr (o2 := 1) dX8_status_133 ff_X8_10 rfl (fx_pi_lt (by decide)) (by decide) rfl (hL _ _ _ rfl) ?_
        refine e_get dX8_status_136 ff_X8_325 rfl (fx_pi_lt (by decide)) (by decide) rfl ?_
        have hq : q_status (fx_ar m 1) na nd (fun k => m.1 1 (4 + k)) (m.1 50) (m.1 65 0) w = m.1 1 7 := by unfold q_status; rw [if_neg (fun h => h.2 (by assumption))]; (try dsimp only); (try (first | rw [if_pos c_10] | rw [if_neg c_10] | rw [if_neg (Decidable.not_not.mpr c_10)])); (try (first | rw [if_pos c_11] | rw [if_neg c_11] | rw [if_neg (Decidable.not_not.mpr c_11)])); (try (first | rw [if_pos c_12] | rw [if_neg c_12] | rw [if_neg (Decidable.not_not.mpr c_12)])); (try (first | rw [if_pos c_13] | rw [if_neg c_13] | rw [if_neg (Decidable.not_not.mpr c_13)])); (try (first | rw [if_pos c_14] | rw [if_neg c_14] | rw [if_neg (Decidable.not_not.mpr c_14)])); (try (first | rw [if_pos c_15] | rw [if_neg c_15] | rw [if_neg (Decidable.not_not.mpr c_15)])); (try (first | rw [if_pos c_16] | rw [if_neg c_16] | rw [if_neg (Decidable.not_not.mpr c_16)])); (try (first | rw [if_pos c_17] | rw [if_neg c_17] | rw [if_neg (Decidable.not_not.mpr c_17)])); (try rfl)
        exact e_iret dX8_status_139 rfl rfl rfl ⟨by rw [hq], rfl⟩
      by_cases c_18 : w = 8
      · refine e_tableIn (off := 114) 140 dX8_status_26 (by rw [c_18]; decide) (by rw [c_18]; decide) (by rw [c_18]; decide) rfl ?_
        refine e_aload_n dX8_status_140 rfl ?_
        refine e_getr (o2 := 65) dX8_status_141 ff_X8_69 rfl (fx_pi_lt (by decide)) (by decide) rfl (hL _ _ _ rfl) ?_
        refine e_get dX8_status_144 ff_X8_347 rfl (fx_pi_lt (by decide)) (by decide) rfl ?_
        have hq : q_status (fx_ar m 1) na nd (fun k => m.1 1 (4 + k)) (m.1 50) (m.1 65 0) w = m.1 65 0 := by unfold q_status; rw [if_neg (fun h => h.2 (by assumption))]; (try dsimp only); (try (first | rw [if_pos c_10] | rw [if_neg c_10] | rw [if_neg (Decidable.not_not.mpr c_10)])); (try (first | rw [if_pos c_11] | rw [if_neg c_11] | rw [if_neg (Decidable.not_not.mpr c_11)])); (try (first | rw [if_pos c_12] | rw [if_neg c_12] | rw [if_neg (Decidable.not_not.mpr c_12)])); (try (first | rw [if_pos c_13] | rw [if_neg c_13] | rw [if_neg (Decidable.not_not.mpr c_13)])); (try (first | rw [if_pos c_14] | rw [if_neg c_14] | rw [if_neg (Decidable.not_not.mpr c_14)])); (try (first | rw [if_pos c_15] | rw [if_neg c_15] | rw [if_neg (Decidable.not_not.mpr c_15)])); (try (first | rw [if_pos c_16] | rw [if_neg c_16] | rw [if_neg (Decidable.not_not.mpr c_16)])); (try (first | rw [if_pos c_17] | rw [if_neg c_17] | rw [if_neg (Decidable.not_not.mpr c_17)])); (try (first | rw [if_pos c_18] | rw [if_neg c_18] | rw [if_neg (Decidable.not_not.mpr c_18)])); (try rfl)
        exact e_iret dX8_status_147 rfl rfl rfl ⟨by rw [hq], rfl⟩
      have tc_10 := lv_neT c_10 (show (0 : Int32).toInt = 0 by decide)
      have tc_11 := lv_neT c_11 (show (1 : Int32).toInt = 1 by decide)
      have tc_12 := lv_neT c_12 (show (2 : Int32).toInt = 2 by decide)
      have tc_13 := lv_neT c_13 (show (3 : Int32).toInt = 3 by decide)
      have tc_14 := lv_neT c_14 (show (4 : Int32).toInt = 4 by decide)
      have tc_15 := lv_neT c_15 (show (5 : Int32).toInt = 5 by decide)
      have tc_16 := lv_neT c_16 (show (6 : Int32).toInt = 6 by decide)
      have tc_17 := lv_neT c_17 (show (7 : Int32).toInt = 7 by decide)
      have tc_18 := lv_neT c_18 (show (8 : Int32).toInt = 8 by decide)
      refine e_tableOut 148 dX8_status_26 (by omega) rfl ?_
      refine e_iconst dX8_status_148 kci_m1 ?_
      have hq : q_status (fx_ar m 1) na nd (fun k => m.1 1 (4 + k)) (m.1 50) (m.1 65 0) w = (-1) := by unfold q_status; rw [if_neg (fun h => h.2 (by assumption))]; (try dsimp only); (try (first | rw [if_pos c_10] | rw [if_neg c_10] | rw [if_neg (Decidable.not_not.mpr c_10)])); (try (first | rw [if_pos c_11] | rw [if_neg c_11] | rw [if_neg (Decidable.not_not.mpr c_11)])); (try (first | rw [if_pos c_12] | rw [if_neg c_12] | rw [if_neg (Decidable.not_not.mpr c_12)])); (try (first | rw [if_pos c_13] | rw [if_neg c_13] | rw [if_neg (Decidable.not_not.mpr c_13)])); (try (first | rw [if_pos c_14] | rw [if_neg c_14] | rw [if_neg (Decidable.not_not.mpr c_14)])); (try (first | rw [if_pos c_15] | rw [if_neg c_15] | rw [if_neg (Decidable.not_not.mpr c_15)])); (try (first | rw [if_pos c_16] | rw [if_neg c_16] | rw [if_neg (Decidable.not_not.mpr c_16)])); (try (first | rw [if_pos c_17] | rw [if_neg c_17] | rw [if_neg (Decidable.not_not.mpr c_17)])); (try (first | rw [if_pos c_18] | rw [if_neg c_18] | rw [if_neg (Decidable.not_not.mpr c_18)])); (try rfl)
      exact e_iret dX8_status_149 rfl rfl rfl ⟨by rw [hq], rfl⟩
    · obtain ⟨k, hk1, hk7, ew, ek⟩ := p_stI a_1 a_2
      refine e_aload_n dX8_status_15 rfl ?_
      refine e_getr (o2 := 50) dX8_status_16 ff_X8_32 rfl (fx_pi_lt (by decide)) (by decide) rfl (hL _ _ _ rfl) ?_
      refine e_iload_n dX8_status_19 rfl ?_
      refine e_bipush dX8_status_20 kcb_10 ?_
      refine e_isub dX8_status_22 ?_
      rw [ek]
      refine e_iald (j := k) dX8_status_23 rfl (fx_pi_lt (by decide)) rfl (by omega) (by decide) ?_
      have hq : q_status (fx_ar m 1) na nd (fun k => m.1 1 (4 + k)) (m.1 50) (m.1 65 0) w = m.1 50 k := by unfold q_status; rw [if_pos ⟨a_1, a_2⟩, ek]; simp only [p_ix, nI_clamp (show k < 2 ^ 31 by omega)]
      exact e_iret dX8_status_24 rfl rfl rfl ⟨by rw [hq], rfl⟩
