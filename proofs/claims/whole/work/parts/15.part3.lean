/-! the parting: the best without each slot -/
set_option maxRecDepth 100000 in
set_option maxHeartbeats 600000 in
theorem s_X3_weighWithoutEach {Γ : fx_G} {m : fx_M} (hL : fx_Lay m) {np : Nat} (hnp : m.1 53 9 = nI np) (h8 : np ≤ 8) {ns : Nat} (hns : m.1 53 10 = nI ns) (h10 : ns ≤ 10) {ab : Nat → Nat} (hab : ∀ t, t < ns → m.1 60 t = nI (ab t) ∧ ab t < 256) : fx_Ct Γ mX3_weighWithoutEach 6 119 119 [fx_rf Γ 53] m (fun r m' => r = none ∧ fx_oP (fun o => o = 55 ∨ o = 56) m m' ∧ ∀ t, t < ns → m'.1 56 t = p_wo (fun t p => m.1 61 (t * 8 + p)) ab np (m.1 54) t) := by
  refine fx_Ct.of (j := 3) (by decide) (Nat.le_of_ble_eq_true rfl) (Nat.le_of_ble_eq_true rfl) ?_
  show fx_E Γ mX3_weighWithoutEach 6 119 119 _ 119 m 0 [some (fx_rf Γ 53), none, none, none] []
  have h2 := p_256 h8
  have h20 : 0 < 2 ^ np := Nat.two_pow_pos np
  have lpo : ∀ (jo : Nat) (t : Nat) (m1 : fx_M), t + jo = ns → fx_oP (fun o => o = 55 ∨ o = 56) m m1 → (∀ s, s < 2 ^ np → m1.1 55 s = p_ahs (fun t p => m.1 61 (t * 8 + p)) ab np t s) → (∀ u, u < t → m1.1 56 u = p_wo (fun t p => m.1 61 (t * 8 + p)) ab np (m.1 54) u) → fx_E Γ mX3_weighWithoutEach 6 119 119 (fun r m' => r = none ∧ fx_oP (fun o => o = 55 ∨ o = 56) m m' ∧ ∀ t, t < ns → m'.1 56 t = p_wo (fun t p => m.1 61 (t * 8 + p)) ab np (m.1 54) t) 119 m1 25 [some (fx_rf Γ 53), some (.int (nI t)), none, none] [] := by
    intro jo
    induction jo with
    | zero =>
      intro t m1 ht o1 q1 q4
      have hL1 := o1.lay hL
      have hnp1 : m1.1 53 9 = nI np := by rw [o1.2 53 (by decide)]; exact hnp
      have hns1 : m1.1 53 10 = nI ns := by rw [o1.2 53 (by decide)]; exact hns
      have hab1 : ∀ t, t < ns → m1.1 60 t = nI (ab t) ∧ ab t < 256 := fun t ht => by rw [o1.2 60 (by decide)]; exact hab t ht
      have e54 : m1.1 54 = m.1 54 := o1.2 54 (by decide)
      have e61 : m1.1 61 = m.1 61 := o1.2 61 (by decide)
      refine e_iload_n dX3_weighWithoutEach_25 rfl ?_
      refine e_aload_n dX3_weighWithoutEach_26 rfl ?_
      refine e_getv (v := nI ns) dX3_weighWithoutEach_27 ff_X3_49 rfl (fx_pi_lt (by decide)) (by decide) rfl hns1 ?_
      refine e_icmp_ge 121 dX3_weighWithoutEach_30 rfl (fun _ => ?_) (fun h => absurd (nI_le (by omega) (by omega)) h)
      exact e_vret dX3_weighWithoutEach_121 rfl rfl ⟨rfl, o1, fun u hu => q4 u (by omega)⟩
    | succ jo ihO =>
      intro t m1 ht o1 q1 q4
      have hL1 := o1.lay hL
      have hnp1 : m1.1 53 9 = nI np := by rw [o1.2 53 (by decide)]; exact hnp
      have hns1 : m1.1 53 10 = nI ns := by rw [o1.2 53 (by decide)]; exact hns
      have hab1 : ∀ t, t < ns → m1.1 60 t = nI (ab t) ∧ ab t < 256 := fun t ht => by rw [o1.2 60 (by decide)]; exact hab t ht
      have e54 : m1.1 54 = m.1 54 := o1.2 54 (by decide)
      have e61 : m1.1 61 = m.1 61 := o1.2 61 (by decide)
      refine e_iload_n dX3_weighWithoutEach_25 rfl ?_
      refine e_aload_n dX3_weighWithoutEach_26 rfl ?_
      refine e_getv (v := nI ns) dX3_weighWithoutEach_27 ff_X3_49 rfl (fx_pi_lt (by decide)) (by decide) rfl hns1 ?_
      refine e_icmp_ge 121 dX3_weighWithoutEach_30 rfl (fun h => absurd h (nI_ge (by omega) (by omega))) (fun _ => ?_)
      refine e_aload_n dX3_weighWithoutEach_33 rfl ?_
      refine e_getr (o2 := 56) dX3_weighWithoutEach_34 ff_X3_20 rfl (fx_pi_lt (by decide)) (by decide) rfl (hL1 _ _ _ rfl) ?_
      refine e_iload_n dX3_weighWithoutEach_37 rfl ?_
      refine e_iconst dX3_weighWithoutEach_38 kci_0 ?_
      refine e_iast (j := t) dX3_weighWithoutEach_39 rfl (fx_pi_lt (by decide)) rfl (by omega) (by decide) ?_
      refine e_aload_n dX3_weighWithoutEach_40 rfl ?_
      refine e_callV1 (μ' := mX3_all) (ci := 3) (As := []) dX3_weighWithoutEach_41 wl_X3_63 ok_X3_all rfl rfl (fx_pi_lt (by decide)) (by decide) (Nat.le_of_ble_eq_true rfl) fx_n1 (s_X3_all (m := fx_sI m1 56 t 0) hL1 (by rw [fx_sI_n m1 _ _ (by decide)]; exact hnp1) h8) rfl ?_
      rw [show nI (2 ^ np - 1) = p_pm (2 ^ np) from by obtain ⟨x, hx⟩ : ∃ x, 2 ^ np = x + 1 := ⟨2 ^ np - 1, by omega⟩; rw [hx]; rfl]
      refine e_istore_n dX3_weighWithoutEach_44 (by decide) rfl ?_
      have lpi : ∀ (j : Nat) (m1 : fx_M), j ≤ 2 ^ np → fx_oP (fun o => o = 55 ∨ o = 56) m m1 → (∀ s, s < j → m1.1 55 s = p_ahs (fun t p => m.1 61 (t * 8 + p)) ab np t s) → (∀ s, j ≤ s → s < 2 ^ np → m1.1 55 s = p_ahs (fun t p => m.1 61 (t * 8 + p)) ab np (t + 1) s) → p_mx (p_woF (fun t p => m.1 61 (t * 8 + p)) ab np (m.1 54) t) j (m1.1 56 t) = p_wo (fun t p => m.1 61 (t * 8 + p)) ab np (m.1 54) t → (∀ u, u < t → m1.1 56 u = p_wo (fun t p => m.1 61 (t * 8 + p)) ab np (m.1 54) u) → fx_E Γ mX3_weighWithoutEach 6 119 119 (fun r m' => r = none ∧ fx_oP (fun o => o = 55 ∨ o = 56) m m' ∧ ∀ t, t < ns → m'.1 56 t = p_wo (fun t p => m.1 61 (t * 8 + p)) ab np (m.1 54) t) 119 m1 45 [some (fx_rf Γ 53), some (.int (nI t)), some (.int (p_pm j)), none] [] := by
        intro j
        induction j with
        | zero =>
          intro m1 hj o1 q1 q2 q3 q4
          have hL1 := o1.lay hL
          have hnp1 : m1.1 53 9 = nI np := by rw [o1.2 53 (by decide)]; exact hnp
          have hns1 : m1.1 53 10 = nI ns := by rw [o1.2 53 (by decide)]; exact hns
          have hab1 : ∀ t, t < ns → m1.1 60 t = nI (ab t) ∧ ab t < 256 := fun t ht => by rw [o1.2 60 (by decide)]; exact hab t ht
          have e54 : m1.1 54 = m.1 54 := o1.2 54 (by decide)
          have e61 : m1.1 61 = m.1 61 := o1.2 61 (by decide)
          refine e_iload_n dX3_weighWithoutEach_45 rfl ?_
          refine e_if_lt 115 dX3_weighWithoutEach_46 rfl (fun _ => ?_) (fun h => absurd (by decide) h)
          refine e_iinc (v := nI (t + 1)) dX3_weighWithoutEach_115 rfl (fx_inc _) (by decide) rfl ?_
          refine e_goto 25 dX3_weighWithoutEach_118 rfl ?_
          refine e_weak (lv2 := [some (fx_rf Γ 53), some (.int (nI (t + 1))), none, none]) ⟨rfl, rfl, trivial⟩ ?_
          exact ihO (t + 1) _ (by omega) o1 (fun s hs => q2 s (by omega) hs) (fun u hu => by by_cases e : u = t; subst e; exact q3; exact q4 u (by omega))
        | succ j ihI =>
          intro m1 hj o1 q1 q2 q3 q4
          have hL1 := o1.lay hL
          have hnp1 : m1.1 53 9 = nI np := by rw [o1.2 53 (by decide)]; exact hnp
          have hns1 : m1.1 53 10 = nI ns := by rw [o1.2 53 (by decide)]; exact hns
          have hab1 : ∀ t, t < ns → m1.1 60 t = nI (ab t) ∧ ab t < 256 := fun t ht => by rw [o1.2 60 (by decide)]; exact hab t ht
          have e54 : m1.1 54 = m.1 54 := o1.2 54 (by decide)
          have e61 : m1.1 61 = m.1 61 := o1.2 61 (by decide)
          rw [show p_pm (j + 1) = nI j from rfl]
          refine e_iload_n dX3_weighWithoutEach_45 rfl ?_
          refine e_if_lt 115 dX3_weighWithoutEach_46 rfl (fun h => absurd h (nI_pos (by omega))) (fun _ => ?_)
          refine e_aload_n dX3_weighWithoutEach_49 rfl ?_
          refine e_getr (o2 := 55) dX3_weighWithoutEach_50 ff_X3_17 rfl (fx_pi_lt (by decide)) (by decide) rfl (hL1 _ _ _ rfl) ?_
          refine e_iload_n dX3_weighWithoutEach_53 rfl ?_
          refine e_iald (j := j) dX3_weighWithoutEach_54 rfl (fx_pi_lt (by decide)) rfl (by omega) (by decide) ?_
          refine e_aload_n dX3_weighWithoutEach_55 rfl ?_
          refine e_getr (o2 := 54) dX3_weighWithoutEach_56 ff_X3_13 rfl (fx_pi_lt (by decide)) (by decide) rfl (hL1 _ _ _ rfl) ?_
          refine e_iload_n dX3_weighWithoutEach_59 rfl ?_
          refine e_iconst dX3_weighWithoutEach_60 kci_1 ?_
          refine e_iadd dX3_weighWithoutEach_61 ?_
          refine e_sipush dX3_weighWithoutEach_62 kcs_256 ?_
          refine e_imul dX3_weighWithoutEach_65 ?_
          refine e_aload_n dX3_weighWithoutEach_66 rfl ?_
          refine e_callV1 (μ' := mX3_all) (ci := 3) (As := []) dX3_weighWithoutEach_67 wl_X3_63 ok_X3_all rfl rfl (fx_pi_lt (by decide)) (by decide) (Nat.le_of_ble_eq_true rfl) fx_n1 (s_X3_all (m := m1) hL1 hnp1 h8) rfl ?_
          refine e_iload_n dX3_weighWithoutEach_70 rfl ?_
          refine e_ixor dX3_weighWithoutEach_71 ?_
          refine e_iadd dX3_weighWithoutEach_72 ?_
          rw [nI_1, show nI (t + 1) * 256 = nI ((t + 1) * 256) from i_mulc _ _, i_xor, nI_add]
          have hxl : (2 ^ np - 1) ^^^ j < 2 ^ np := Nat.xor_lt_two_pow (by omega) (by omega)
          refine e_iald (j := (t + 1) * 256 + ((2 ^ np - 1) ^^^ j)) dX3_weighWithoutEach_73 rfl (fx_pi_lt (by decide)) rfl (by omega) (by decide) ?_
          refine e_iadd dX3_weighWithoutEach_74 ?_
          refine e_istore_n dX3_weighWithoutEach_75 (by decide) rfl ?_
          refine e_aload_n dX3_weighWithoutEach_76 rfl ?_
          refine e_getr (o2 := 56) dX3_weighWithoutEach_77 ff_X3_20 rfl (fx_pi_lt (by decide)) (by decide) rfl (hL1 _ _ _ rfl) ?_
          refine e_iload_n dX3_weighWithoutEach_80 rfl ?_
          refine e_aload_n dX3_weighWithoutEach_81 rfl ?_
          refine e_getr (o2 := 56) dX3_weighWithoutEach_82 ff_X3_20 rfl (fx_pi_lt (by decide)) (by decide) rfl (hL1 _ _ _ rfl) ?_
          refine e_iload_n dX3_weighWithoutEach_85 rfl ?_
          refine e_iald (j := t) dX3_weighWithoutEach_86 rfl (fx_pi_lt (by decide)) rfl (by omega) (by decide) ?_
          refine e_iload_n dX3_weighWithoutEach_87 rfl ?_
          refine e_maxP dX3_weighWithoutEach_88 wl_X3_109 wt_J9_max_7cf53 wz_Math fx_wmax (by decide) (Nat.le_of_ble_eq_true rfl) ?_
          refine e_iast (j := t) dX3_weighWithoutEach_91 rfl (fx_pi_lt (by decide)) rfl (by omega) (by decide) ?_
          refine e_aload_n dX3_weighWithoutEach_92 rfl ?_
          refine e_getr (o2 := 55) dX3_weighWithoutEach_93 ff_X3_17 rfl (fx_pi_lt (by decide)) (by decide) rfl (hL1 _ _ _ rfl) ?_
          refine e_iload_n dX3_weighWithoutEach_96 rfl ?_
          refine e_aload_n dX3_weighWithoutEach_97 rfl ?_
          refine e_aload_n dX3_weighWithoutEach_98 rfl ?_
          refine e_getr (o2 := 55) dX3_weighWithoutEach_99 ff_X3_17 rfl (fx_pi_lt (by decide)) (by decide) rfl (hL1 _ _ _ rfl) ?_
          refine e_iconst dX3_weighWithoutEach_102 kci_0 ?_
          refine e_iload_n dX3_weighWithoutEach_103 rfl ?_
          refine e_iload_n dX3_weighWithoutEach_104 rfl ?_
          refine e_callV1 (μ' := mX3_bestWith) (ci := 3) (As := [fx_rf Γ 55, .int (nI 0), .int (nI j), .int (nI t)]) dX3_weighWithoutEach_105 wl_X3_67 ok_X3_bestWith rfl rfl (fx_pi_lt (by decide)) (by decide) (Nat.le_of_ble_eq_true rfl) fx_n1 (s_X3_bestWith (m := fx_sI m1 56 t (p_max (m1.1 56 t) ((m1.1 55 j) + (m1.1 54 ((t + 1) * 256 + ((2 ^ np - 1) ^^^ j)))))) hL1 (by rw [fx_sI_n m1 _ _ (by decide)]; exact hnp1) h8 (r := 55) (len := 256) (b := 0) (s := j) (t := t) (ab := ab t) rfl (by decide) (by decide) (by omega) (by omega) (by omega) (by first | (rw [fx_sI_n m1 _ _ (by decide)]; exact (hab1 t (by omega)).1) | exact (hab1 t (by omega)).1) (hab1 t (by omega)).2) rfl ?_
          refine e_iast (j := j) dX3_weighWithoutEach_108 rfl (fx_pi_lt (by decide)) rfl (by omega) (by decide) ?_
          refine e_iinc dX3_weighWithoutEach_109 rfl rfl (by decide) rfl ?_
          refine e_goto 45 dX3_weighWithoutEach_112 rfl ?_
          rw [show nI j + Int32.ofInt (-1) = p_pm j from p_pm_dec j]
          refine e_weak (lv2 := [some (fx_rf Γ 53), some (.int (nI t)), some (.int (p_pm j)), none]) ⟨rfl, rfl, rfl, trivial⟩ ?_
          refine ihI _ (by omega) ((o1.sI (Or.inr rfl)).sI (Or.inl rfl)) (fun s hs => ?_) (fun s hs hs2 => ?_) ?_ (fun u hu => ?_)
          · rw [p_wt_55, if_neg (by omega)]; exact q1 s (by omega)
          · rw [p_wt_55]
            by_cases e : s = j
            · subst e
              rw [if_pos rfl]
              refine p_bw_congr (fun x hx => ?_) (fun p hp => ?_)
              · rw [Nat.zero_add, fx_sI_n m1 _ _ (by decide)]; exact q1 x (by omega)
              · show (fx_sI m1 56 t _).1 61 _ = _; rw [fx_sI_n m1 _ _ (by decide), e61]
            · rw [if_neg e]; exact q2 s (by omega) hs2
          · rw [p_wt_56, if_pos rfl, ← q3, e54, q1 j (by omega)]; rfl
          · rw [p_wt_56, if_neg (by omega)]; exact q4 u hu
      refine lpi (2 ^ np) _ (Nat.le_refl _) (o1.sI (Or.inr rfl)) (fun s hs => ?_) (fun s hs hs2 => absurd hs2 (by omega)) ?_ (fun u hu => ?_)
      · rw [fx_sI_n m1 _ _ (by decide)]; exact q1 s hs
      · rw [fx_rd0]; rfl
      · rw [fx_rd2 (by omega)]; exact q4 u hu
  have lpz : ∀ (j : Nat) (k : Nat) (m1 : fx_M), k + j = 2 ^ np → fx_oP (fun o => o = 55 ∨ o = 56) m m1 → (∀ s, s < k → m1.1 55 s = 0) → fx_E Γ mX3_weighWithoutEach 6 119 119 (fun r m' => r = none ∧ fx_oP (fun o => o = 55 ∨ o = 56) m m' ∧ ∀ t, t < ns → m'.1 56 t = p_wo (fun t p => m.1 61 (t * 8 + p)) ab np (m.1 54) t) 119 m1 2 [some (fx_rf Γ 53), some (.int (nI k)), none, none] [] := by
    intro j
    induction j with
    | zero =>
      intro k m1 hk o1 q1
      have hL1 := o1.lay hL
      have hnp1 : m1.1 53 9 = nI np := by rw [o1.2 53 (by decide)]; exact hnp
      have hns1 : m1.1 53 10 = nI ns := by rw [o1.2 53 (by decide)]; exact hns
      have hab1 : ∀ t, t < ns → m1.1 60 t = nI (ab t) ∧ ab t < 256 := fun t ht => by rw [o1.2 60 (by decide)]; exact hab t ht
      have e54 : m1.1 54 = m.1 54 := o1.2 54 (by decide)
      have e61 : m1.1 61 = m.1 61 := o1.2 61 (by decide)
      refine e_iload_n dX3_weighWithoutEach_2 rfl ?_
      refine e_aload_n dX3_weighWithoutEach_3 rfl ?_
      refine e_callV1 (μ' := mX3_all) (ci := 3) (As := []) dX3_weighWithoutEach_4 wl_X3_63 ok_X3_all rfl rfl (fx_pi_lt (by decide)) (by decide) (Nat.le_of_ble_eq_true rfl) fx_n1 (s_X3_all (m := m1) hL1 hnp1 h8) rfl ?_
      refine e_icmp_gt 23 dX3_weighWithoutEach_7 rfl (fun _ => ?_) (fun h => absurd (nI_lt (by omega) (by omega)) h)
      refine e_iconst dX3_weighWithoutEach_23 kci_0 ?_
      refine e_istore_n dX3_weighWithoutEach_24 (by decide) rfl ?_
      refine e_weak (lv2 := [some (fx_rf Γ 53), some (.int 0), none, none]) ⟨rfl, rfl, trivial⟩ ?_
      exact lpo ns 0 m1 (by omega) o1 (fun s hs => q1 s (by omega)) (fun u hu => absurd hu (by omega))
    | succ j ih =>
      intro k m1 hk o1 q1
      have hL1 := o1.lay hL
      have hnp1 : m1.1 53 9 = nI np := by rw [o1.2 53 (by decide)]; exact hnp
      have hns1 : m1.1 53 10 = nI ns := by rw [o1.2 53 (by decide)]; exact hns
      have hab1 : ∀ t, t < ns → m1.1 60 t = nI (ab t) ∧ ab t < 256 := fun t ht => by rw [o1.2 60 (by decide)]; exact hab t ht
      have e54 : m1.1 54 = m.1 54 := o1.2 54 (by decide)
      have e61 : m1.1 61 = m.1 61 := o1.2 61 (by decide)
      refine e_iload_n dX3_weighWithoutEach_2 rfl ?_
      refine e_aload_n dX3_weighWithoutEach_3 rfl ?_
      refine e_callV1 (μ' := mX3_all) (ci := 3) (As := []) dX3_weighWithoutEach_4 wl_X3_63 ok_X3_all rfl rfl (fx_pi_lt (by decide)) (by decide) (Nat.le_of_ble_eq_true rfl) fx_n1 (s_X3_all (m := m1) hL1 hnp1 h8) rfl ?_
      refine e_icmp_gt 23 dX3_weighWithoutEach_7 rfl (fun h => absurd h (Int32.not_lt.mpr (nI_le (by omega) (by omega)))) (fun _ => ?_)
      refine e_aload_n dX3_weighWithoutEach_10 rfl ?_
      refine e_getr (o2 := 55) dX3_weighWithoutEach_11 ff_X3_17 rfl (fx_pi_lt (by decide)) (by decide) rfl (hL1 _ _ _ rfl) ?_
      refine e_iload_n dX3_weighWithoutEach_14 rfl ?_
      refine e_iconst dX3_weighWithoutEach_15 kci_0 ?_
      refine e_iast (j := k) dX3_weighWithoutEach_16 rfl (fx_pi_lt (by decide)) rfl (by omega) (by decide) ?_
      refine e_iinc (v := nI (k + 1)) dX3_weighWithoutEach_17 rfl (fx_inc _) (by decide) rfl ?_
      refine e_goto 2 dX3_weighWithoutEach_20 rfl ?_
      refine e_weak (lv2 := [some (fx_rf Γ 53), some (.int (nI (k + 1))), none, none]) ⟨rfl, rfl, trivial⟩ ?_
      refine ih (k + 1) _ (by omega) (o1.sI (Or.inl rfl)) (fun s hs => ?_)
      by_cases e : s = k
      · subst e; exact fx_rd0
      · rw [fx_rd2 (by omega)]; exact q1 s (by omega)
  refine e_iconst dX3_weighWithoutEach_0 kci_0 ?_
  refine e_istore_n dX3_weighWithoutEach_1 (by decide) rfl ?_
  exact lpz (2 ^ np) 0 m (by omega) (fx_oP.refl _ m) (fun s hs => absurd hs (by omega))
