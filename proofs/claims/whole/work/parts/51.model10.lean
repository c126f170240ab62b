theorem fx_sI_idm (m : fx_M) (o k : Nat) : fx_sI m o k (m.1 o k) = m := by
  refine Prod.ext (funext fun a => funext fun b => ?_) rfl
  simp only [fx_sI]
  by_cases c : a = o <;> by_cases d : b = k <;> simp [c, d]
theorem fx_sI_sI2 (m : fx_M) (o k : Nat) (v w : Int32) : fx_sI (fx_sI m o k v) o k w = fx_sI m o k w := by
  refine Prod.ext (funext fun a => funext fun b => ?_) rfl
  simp only [fx_sI]
  by_cases c : a = o <;> by_cases d : b = k <;> simp [c, d]
theorem p_abs_in {a b : Int32} (ha : p_in a 0 9) (hb : p_in b 0 9) : p_in (p_abs (a - b)) 0 9 := by
  rw [← p_apt_abs (p_in9 ha (by decide)) (p_in9 hb (by decide))]
  rw [p_inT, show (0 : Int32).toInt = 0 from rfl, show (9 : Int32).toInt = 9 from rfl] at ha hb ⊢
  unfold p_apt
  by_cases c : a ≤ b
  · rw [if_pos c, fb_subI (by omega) (by omega)]
    rw [Int32.le_iff_toInt_le] at c
    omega
  · rw [if_neg c, fb_subI (by omega) (by omega)]
    rw [Int32.le_iff_toInt_le] at c
    omega
theorem p_far_in {A D : Nat → Int32} {sh we : Int32} (hA : p_gA A) (hD : p_gD D) (h1 : p_in sh 0 9) (h2 : p_in we 0 9) : p_in (p_far A D sh we) 0 36 := by
  obtain ⟨a, ha, ea⟩ := p_in_ex (hi := 9) (p_abs_in hA.2.2.2.1 hD.1) (by decide)
  obtain ⟨b, hb, eb⟩ := p_in_ex (hi := 9) (p_abs_in (p_shade_in hA h1) hD.2.1) (by decide)
  obtain ⟨c, hc, ec⟩ := p_in_ex (hi := 9) (p_abs_in (p_wear_in hA h2) hD.2.2.1) (by decide)
  obtain ⟨d, hd, ed⟩ := p_in_ex (hi := 9) (p_wear_in hA h2) (by decide)
  have g : ∀ k : Nat, k ≤ 36 → p_in (nI k) 0 36 := fun k hk => ⟨nI_le (a := 0) (by omega) (by omega), nI_le (b := 36) hk (by decide)⟩
  unfold p_far
  rw [ea, eb, ec, ed, show (2 : Int32) * nI a = nI (2 * a) from i_mulc 2 a]
  split
  · exact g _ (by omega)
  · split
    · rw [nI_add, nI_add]; exact g _ (by omega)
    · rw [nI_add, nI_add]; exact g _ (by omega)
theorem p_far_u4 {A D : Nat → Nat → Int32} {y z : Nat} {v : Int32} : p_farA (p_ua A y (p_u (A y) 4 v)) D y z = p_far (A y) (D z) v (A y 5) := by
  simp [p_farA, p_ua, p_u, p_far, p_shade, p_wear]
theorem p_far_u5 {A D : Nat → Nat → Int32} {y z : Nat} {v : Int32} : p_farA (p_ua A y (p_u (A y) 5 v)) D y z = p_far (A y) (D z) (A y 4) v := by
  simp [p_farA, p_ua, p_u, p_far, p_shade, p_wear]
theorem p_ne1 {v b : Int32} (h : p_in v 0 b) : ¬ v = -1 := fun e => by rw [e] at h; exact absurd h.1 (by decide)
theorem p_min9_id {v : Int32} (h : p_in v 0 9) : p_min9 (v + 0) = v := by rw [Int32.add_zero]; exact if_neg (Int32.not_lt.mpr h.2)
theorem nI_gt {a b : Nat} (h : b < a) (h2 : a < 2 ^ 31) : nI b < nI a := Int32.not_le.mp (nI_ge h h2)
set_option maxRecDepth 100000 in
set_option maxHeartbeats 600000 in
theorem s_X9_tea {Γ : fx_G} {m : fx_M} (hL : fx_Lay m) {na nd : Nat} {t : p_Sg} (H : fx_MS m na nd t) (x : Int32) (d : Int32) : fx_Ct Γ mX9_tea 3 119 119 [fx_rf Γ 83, .int x, .int d] m (fx_is (some (.int (q_tea t.1 t.2.1 na nd x d).2)) (fx_mno m (q_tea t.1 t.2.1 na nd x d).1)) := by
  refine fx_Ct.of (j := 5) (by decide) (Nat.le_of_ble_eq_true rfl) (Nat.le_of_ble_eq_true rfl) ?_
  show fx_E Γ mX9_tea 3 119 119 _ 119 m 0 [some (fx_rf Γ 83), some (.int x), some (.int d), none, none, none, none, none] []
  have h9 := H.2.2.2.2.2.1
  have h5 := H.2.2.2.2.2.2.1
  refine e_aload_n dX9_tea_0 rfl ?_
  refine e_iload_n dX9_tea_1 rfl ?_
  refine e_callV1 (μ' := mX9_isArm) (ci := 9) (As := [.int x]) dX9_tea_2 wl_X9_140 ok_X9_isArm rfl rfl (fx_pi_lt (by decide)) (by decide) (Nat.le_of_ble_eq_true rfl) fx_n1 (s_X9_isArm (m := m) hL H x) rfl ?_
  refine e_if_eqB 16 dX9_tea_5 rfl (fun c_1 => ?_) (fun c_1 => ?_)
  · refine e_aload_n dX9_tea_16 rfl ?_
    refine e_iconst dX9_tea_17 kci_m1 ?_
    refine e_callV1 (μ' := mX9_no) (ci := 9) (As := [.int (-1)]) dX9_tea_18 wl_X9_136 ok_X9_no rfl rfl (fx_pi_lt (by decide)) (by decide) (Nat.le_of_ble_eq_true rfl) fx_n1 (s_X9_no (m := m) hL (b := 1) (z := (-1)) (by decide) (by decide)) rfl ?_
    have hq : q_tea t.1 t.2.1 na nd x d = (1, (-1)) := by first | (unfold q_tea ; (try dsimp only); (try (first | rw [if_pos c_1] | rw [if_neg c_1] | rw [if_neg (Decidable.not_not.mpr c_1)])); (first | done | rfl | decide)) | (exfalso; first | contradiction | (simp_all; done))
    exact e_iret dX9_tea_21 rfl rfl rfl ⟨by rw [hq], by rw [hq]; exact (fx_mno_n (by first | decide | omega)).symm⟩
  · refine e_aload_n dX9_tea_8 rfl ?_
    refine e_iload_n dX9_tea_9 rfl ?_
    refine e_callV1 (μ' := mX9_isDoll) (ci := 9) (As := [.int d]) dX9_tea_10 wl_X9_184 ok_X9_isDoll rfl rfl (fx_pi_lt (by decide)) (by decide) (Nat.le_of_ble_eq_true rfl) fx_n1 (s_X9_isDoll (m := m) hL H d) rfl ?_
    refine e_if_neB 22 dX9_tea_13 rfl (fun c_2 => ?_) (fun c_2 => ?_)
    · obtain ⟨y, hy, ey⟩ := p_el_ex c_1 (by omega)
      subst ey
      obtain ⟨z, hz, ez⟩ := p_el_ex c_2 (by omega)
      subst ez
      refine e_aload_n dX9_tea_22 rfl ?_
      refine e_getr (o2 := 89) dX9_tea_23 ff_X9_32 rfl (fx_pi_lt (by decide)) (by decide) rfl (hL _ _ _ rfl) ?_
      refine e_iload_n dX9_tea_26 rfl ?_
      refine e_ialdv (j := y) (v := t.1 y 4) dX9_tea_27 rfl (fx_pi_lt (by decide)) rfl (by omega) (by decide) (H.2.2.2.1 _ (by omega) 4 (by decide)) ?_
      refine e_istore_n dX9_tea_28 (by decide) rfl ?_
      have gA := H.2.2.2.2.2.2.2.1 y hy
      have gD := H.2.2.2.2.2.2.2.2 z hz
      have e0 := p_min9_id gA.2.2.2.2.1
      have hv0 : p_in (p_min9 (t.1 y 4 + 0)) 0 9 := by rw [e0]; exact gA.2.2.2.2.1
      have ez0 : p_far (t.1 y) (t.2.1 z) (t.1 y 4) (t.1 y 5) = p_far (t.1 y) (t.2.1 z) (p_min9 (t.1 y 4 + 0)) (t.1 y 5) := by rw [e0]
      refine e_iconst dX9_tea_29 kci_0 ?_
      refine e_istore dX9_tea_30 (by decide) rfl ?_
      refine e_iconst dX9_tea_32 kci_m1 ?_
      refine e_istore dX9_tea_33 (by decide) rfl ?_
      refine e_iconst dX9_tea_35 kci_0 ?_
      refine e_istore dX9_tea_36 (by decide) rfl ?_
      refine e_iload dX9_tea_38 rfl ?_
      refine e_bipush dX9_tea_40 kcb_9 ?_
      refine e_icmp_gt 97 dX9_tea_42 rfl (fun h => absurd h (by decide)) (fun _ => ?_)
      refine e_aload_n dX9_tea_45 rfl ?_
      refine e_getr (o2 := 89) dX9_tea_46 ff_X9_32 rfl (fx_pi_lt (by decide)) (by decide) rfl (hL _ _ _ rfl) ?_
      refine e_iload_n dX9_tea_49 rfl ?_
      refine e_aload_n dX9_tea_50 rfl ?_
      refine e_iload_n dX9_tea_51 rfl ?_
      refine e_iload dX9_tea_52 rfl ?_
      refine e_iadd dX9_tea_54 ?_
      refine e_callV1 (μ' := mX9_nine) (ci := 9) (As := [.int ((t.1 y 4) + 0)]) dX9_tea_55 wl_X9_153 ok_X9_nine rfl rfl (fx_pi_lt (by decide)) (by decide) (Nat.le_of_ble_eq_true rfl) fx_n1 (s_X9_nine (m := m) hL ((t.1 y 4) + 0)) rfl ?_
      refine e_iast (j := y) dX9_tea_58 rfl (fx_pi_lt (by decide)) rfl (by omega) (by decide) ?_
      refine e_aload_n dX9_tea_59 rfl ?_
      refine e_iload_n dX9_tea_60 rfl ?_
      refine e_iload_n dX9_tea_61 rfl ?_
      refine e_callV (μ' := mX9_differs) (ci := 9) (As := [.int (nI y), .int (nI z)]) dX9_tea_62 wl_X9_163 ok_X9_differs rfl rfl (fx_pi_lt (by decide)) (by decide) (Nat.le_of_ble_eq_true rfl) fx_n1 (s_X9_differs (m := fx_sI m 89 y (p_min9 ((t.1 y 4) + 0))) hL (H.sA (j := 4) hy (by decide) (gA.mono (Or.inl rfl) hv0)) (x := y) (by omega) (d := z) (by omega)) rfl (fun r_ m_ hpost => ?_)
      obtain ⟨rfl, e2⟩ := hpost
      have e2 := e2.symm
      subst e2
      rw [p_far_u4]
      refine e_istore dX9_tea_65 (by decide) rfl ?_
      refine e_iload dX9_tea_67 rfl ?_
      refine e_iconst dX9_tea_69 kci_m1 ?_
      refine e_icmp_eq 83 dX9_tea_70 rfl (fun _ => ?_) (fun h => absurd (by decide) h)
      refine e_iload dX9_tea_83 rfl ?_
      refine e_istore dX9_tea_85 (by decide) rfl ?_
      refine e_iload dX9_tea_87 rfl ?_
      refine e_istore dX9_tea_89 (by decide) rfl ?_
      refine e_iinc (v := 1) dX9_tea_91 rfl (by decide) (by decide) rfl ?_
      refine e_goto 38 dX9_tea_94 rfl ?_
      have lp : ∀ (j : Nat) (k : Nat) (s : Int32 × Int32) (v : Int32), k + j = 10 → ¬ s.2 = -1 → q_tea t.1 t.2.1 na nd (nI y) (nI z) = (0, (p_fold (p_te (fun k => p_far (t.1 y) (t.2.1 z) (p_min 9 (t.1 y 4 + nI k)) (t.1 y 5))) j k s).1) → fx_E Γ mX9_tea 3 119 119 (fx_is (some (.int (q_tea t.1 t.2.1 na nd (nI y) (nI z)).2)) (fx_mno m (q_tea t.1 t.2.1 na nd (nI y) (nI z)).1)) 119 (fx_sI m 89 y v) 38 [some (fx_rf Γ 83), some (.int (nI y)), some (.int (nI z)), some (.int (t.1 y 4)), some (.int s.1), some (.int s.2), some (.int (nI k)), none] [] := by
        intro j
        induction j with
        | zero =>
          intro k s v hk hne hq
          refine e_iload dX9_tea_38 rfl ?_
          refine e_bipush dX9_tea_40 kcb_9 ?_
          refine e_icmp_gt 97 dX9_tea_42 rfl (fun _ => ?_) (fun h => absurd (nI_gt (b := 9) (by omega) (by omega)) h)
          refine e_aload_n dX9_tea_97 rfl ?_
          refine e_getr (o2 := 89) dX9_tea_98 ff_X9_32 rfl (fx_pi_lt (by decide)) (by decide) rfl (hL _ _ _ rfl) ?_
          refine e_iload_n dX9_tea_101 rfl ?_
          refine e_iload_n dX9_tea_102 rfl ?_
          refine e_iast (j := y) dX9_tea_103 rfl (fx_pi_lt (by decide)) rfl (by omega) (by decide) ?_
          refine e_iload dX9_tea_104 rfl ?_
          exact e_iret dX9_tea_106 rfl rfl rfl ⟨by rw [hq]; rfl, by rw [hq]; show _ = m; rw [fx_sI_sI2, ← H.2.2.2.1 y hy 4 (by decide)]; exact fx_sI_idm m 89 y⟩
        | succ j ih =>
          intro k s v hk hne hq
          have hv9 : p_in (p_min9 (t.1 y 4 + nI k)) 0 9 := p_min9_in (p_add_in (p_in9 gA.2.2.2.2.1 (by decide)) (show p_in (nI k) 0 100 from ⟨nI_le (a := 0) (by omega) (by omega), nI_le (b := 100) (by omega) (by decide)⟩)).1
          have hvf : ¬ p_far (t.1 y) (t.2.1 z) (p_min9 (t.1 y 4 + nI k)) (t.1 y 5) = -1 := p_ne1 (p_far_in gA gD hv9 gA.2.2.2.2.2)
          refine e_iload dX9_tea_38 rfl ?_
          refine e_bipush dX9_tea_40 kcb_9 ?_
          refine e_icmp_gt 97 dX9_tea_42 rfl (fun h => absurd h (Int32.not_lt.mpr (nI_le (b := 9) (by omega) (by decide)))) (fun _ => ?_)
          refine e_aload_n dX9_tea_45 rfl ?_
          refine e_getr (o2 := 89) dX9_tea_46 ff_X9_32 rfl (fx_pi_lt (by decide)) (by decide) rfl (hL _ _ _ rfl) ?_
          refine e_iload_n dX9_tea_49 rfl ?_
          refine e_aload_n dX9_tea_50 rfl ?_
          refine e_iload_n dX9_tea_51 rfl ?_
          refine e_iload dX9_tea_52 rfl ?_
          refine e_iadd dX9_tea_54 ?_
          refine e_callV1 (μ' := mX9_nine) (ci := 9) (As := [.int ((t.1 y 4) + (nI k))]) dX9_tea_55 wl_X9_153 ok_X9_nine rfl rfl (fx_pi_lt (by decide)) (by decide) (Nat.le_of_ble_eq_true rfl) fx_n1 (s_X9_nine (m := fx_sI m 89 y v) hL ((t.1 y 4) + (nI k))) rfl ?_
          refine e_iast (j := y) dX9_tea_58 rfl (fx_pi_lt (by decide)) rfl (by omega) (by decide) ?_
          rw [fx_sI_sI2]
          refine e_aload_n dX9_tea_59 rfl ?_
          refine e_iload_n dX9_tea_60 rfl ?_
          refine e_iload_n dX9_tea_61 rfl ?_
          refine e_callV (μ' := mX9_differs) (ci := 9) (As := [.int (nI y), .int (nI z)]) dX9_tea_62 wl_X9_163 ok_X9_differs rfl rfl (fx_pi_lt (by decide)) (by decide) (Nat.le_of_ble_eq_true rfl) fx_n1 (s_X9_differs (m := fx_sI m 89 y (p_min9 ((t.1 y 4) + (nI k)))) hL (H.sA (j := 4) hy (by decide) (gA.mono (Or.inl rfl) hv9)) (x := y) (by omega) (d := z) (by omega)) rfl (fun r_ m_ hpost => ?_)
          obtain ⟨rfl, e2⟩ := hpost
          have e2 := e2.symm
          subst e2
          rw [p_far_u4]
          refine e_istore dX9_tea_65 (by decide) rfl ?_
          refine e_iload dX9_tea_67 rfl ?_
          refine e_iconst dX9_tea_69 kci_m1 ?_
          refine e_icmp_eq 83 dX9_tea_70 rfl (fun h => absurd h hne) (fun _ => ?_)
          refine e_iload dX9_tea_73 rfl ?_
          refine e_iload dX9_tea_75 rfl ?_
          refine e_icmp_lt 83 dX9_tea_77 rfl (fun c_l => ?_) (fun c_l => ?_)
          · refine e_iload dX9_tea_83 rfl ?_
            refine e_istore dX9_tea_85 (by decide) rfl ?_
            refine e_iload dX9_tea_87 rfl ?_
            refine e_istore dX9_tea_89 (by decide) rfl ?_
            refine e_iinc (v := nI (k + 1)) dX9_tea_91 rfl (fx_inc _) (by decide) rfl ?_
            refine e_goto 38 dX9_tea_94 rfl ?_
            rw [p_fold_s (p_te_y (f := (fun k => p_far (t.1 y) (t.2.1 z) (p_min 9 (t.1 y 4 + nI k)) (t.1 y 5))) (k := k) (s := s) (by simp only [p_min9_alt]; exact c_l)), p_min9_alt] at hq
            refine e_weak (lv2 := [some (fx_rf Γ 83), some (.int (nI y)), some (.int (nI z)), some (.int (t.1 y 4)), some (.int (nI k)), some (.int (p_far (t.1 y) (t.2.1 z) (p_min9 ((t.1 y 4) + (nI k))) (t.1 y 5))), some (.int (nI (k + 1))), none]) ⟨rfl, rfl, rfl, rfl, rfl, rfl, rfl, trivial⟩ ?_
            exact ih (k + 1) (nI k, p_far (t.1 y) (t.2.1 z) (p_min9 (t.1 y 4 + nI k)) (t.1 y 5)) _ (by omega) hvf hq
          · refine e_goto 91 dX9_tea_80 rfl ?_
            refine e_iinc (v := nI (k + 1)) dX9_tea_91 rfl (fx_inc _) (by decide) rfl ?_
            refine e_goto 38 dX9_tea_94 rfl ?_
            rw [p_fold_s (p_te_n (f := (fun k => p_far (t.1 y) (t.2.1 z) (p_min 9 (t.1 y 4 + nI k)) (t.1 y 5))) (k := k) (s := s) (by simp only [p_min9_alt]; exact c_l))] at hq
            refine e_weak (lv2 := [some (fx_rf Γ 83), some (.int (nI y)), some (.int (nI z)), some (.int (t.1 y 4)), some (.int s.1), some (.int s.2), some (.int (nI (k + 1))), none]) ⟨rfl, rfl, rfl, rfl, rfl, rfl, rfl, trivial⟩ ?_
            exact ih (k + 1) s _ (by omega) hne hq
      refine e_weak (lv2 := [some (fx_rf Γ 83), some (.int (nI y)), some (.int (nI z)), some (.int (t.1 y 4)), some (.int 0), some (.int (p_far (t.1 y) (t.2.1 z) (p_min9 (t.1 y 4 + 0)) (t.1 y 5))), some (.int (nI 1)), none]) ⟨rfl, rfl, rfl, rfl, rfl, rfl, rfl, trivial⟩ ?_
      exact lp 9 1 (0, p_far (t.1 y) (t.2.1 z) (p_min9 (t.1 y 4 + 0)) (t.1 y 5)) _ (by omega) (p_ne1 (p_far_in gA gD hv0 gA.2.2.2.2.2)) (by unfold q_tea; rw [if_neg (Decidable.not_not.mpr c_1), if_neg (Decidable.not_not.mpr c_2), p_ix_n (show y < 2 ^ 31 by omega), p_ix_n (show z < 2 ^ 31 by omega), ez0])
    · refine e_aload_n dX9_tea_16 rfl ?_
      refine e_iconst dX9_tea_17 kci_m1 ?_
      refine e_callV1 (μ' := mX9_no) (ci := 9) (As := [.int (-1)]) dX9_tea_18 wl_X9_136 ok_X9_no rfl rfl (fx_pi_lt (by decide)) (by decide) (Nat.le_of_ble_eq_true rfl) fx_n1 (s_X9_no (m := m) hL (b := 1) (z := (-1)) (by decide) (by decide)) rfl ?_
      have hq : q_tea t.1 t.2.1 na nd x d = (1, (-1)) := by first | (unfold q_tea ; (try dsimp only); (try (first | rw [if_pos c_1] | rw [if_neg c_1] | rw [if_neg (Decidable.not_not.mpr c_1)])); (try (first | rw [if_pos c_2] | rw [if_neg c_2] | rw [if_neg (Decidable.not_not.mpr c_2)])); (first | done | rfl | decide)) | (exfalso; first | contradiction | (simp_all; done))
      exact e_iret dX9_tea_21 rfl rfl rfl ⟨by rw [hq], by rw [hq]; exact (fx_mno_n (by first | decide | omega)).symm⟩
