/-! the reference's words: their letters, a blank and 0 behind each; how many numbers, the most of each -/
def p_WT (j : Nat) : Int32 := ([97, 114, 109, 32, 0, 100, 111, 108, 108, 32, 0, 111, 110, 32, 0, 111, 102, 102, 32, 0, 108, 105, 101, 115, 32, 0] : List Int32).getD j 0
def p_NT (j : Nat) : Int32 := ([6, 7, 2, 1, 2] : List Int32).getD j 0
def fx_WC (m : fx_M) : Prop := (∀ j, j < 26 → m.1 106 j = p_WT j) ∧ (∀ j, j < 5 → m.1 107 j = p_NT j) ∧ (∀ j, j < 6 → m.1 108 j = fx_tab 1 j) ∧ ∀ j, j < 7 → m.1 109 j = fx_tab 3 j
theorem fx_WC.cg {m m' : fx_M} (W : fx_WC m) (h : ∀ o, (106 ≤ o ∧ o ≤ 109) → m'.1 o = m.1 o) : fx_WC m' := ⟨fun j hj => by rw [h 106 (by decide)]; exact W.1 j hj, fun j hj => by rw [h 107 (by decide)]; exact W.2.1 j hj, fun j hj => by rw [h 108 (by decide)]; exact W.2.2.1 j hj, fun j hj => by rw [h 109 (by decide)]; exact W.2.2.2 j hj⟩
theorem fx_MR.tn {m : fx_M} {k n p q : Nat} {tx : Nat → Int32} (_ : fx_MR m k n tx p) (h : ¬ q < n) : p_tc tx n q = -1 := if_neg h
theorem fx_MR.tq {m : fx_M} {k n p q : Nat} {tx : Nat → Int32} (R : fx_MR m k n tx p) (h : q < n) : (m.2.1 104 (160 * k + q)).toInt32 = p_tc tx n q := by
  rw [R.2.2.2.2.2.2 q h, p_tc, if_pos h]
set_option maxRecDepth 100000 in
set_option maxHeartbeats 600000 in
theorem s_X9_stands0 {Γ : fx_G} {m : fx_M} (hL : fx_Lay m) {k n p : Nat} {tx : Nat → Int32} (R : fx_MR m k n tx p) (W : fx_WC m) : fx_Ct Γ mX9_stands 0 119 119 [fx_rf Γ 83, .int 0] m (fx_is (some (.int (if p_spI tx n [97, 114, 109] 3 0 p = none then 1 else 0))) m) := by
  refine fx_Ct.of (j := 2) (by decide) (Nat.le_of_ble_eq_true rfl) (Nat.le_of_ble_eq_true rfl) ?_
  show fx_E Γ mX9_stands 0 119 119 _ 119 m 0 [some (fx_rf Γ 83), some (.int 0), none, none] []
  obtain ⟨q1, q2, q3, hk, hn, hp, q7⟩ := R
  have R : fx_MR m k n tx p := ⟨q1, q2, q3, hk, hn, hp, q7⟩
  refine e_iconst dX9_stands_0 kci_0 ?_
  refine e_istore_n dX9_stands_1 (by decide) rfl ?_
  refine e_iconst dX9_stands_2 kci_0 ?_
  refine e_istore_n dX9_stands_3 (by decide) rfl ?_
  refine e_weak (lv2 := [some (fx_rf Γ 83), some (.int 0), some (.int 0), some (.int 0)]) ⟨rfl, rfl, rfl, rfl, trivial⟩ ?_
  refine e_iload_n dX9_stands_4 rfl ?_
  refine e_iload_n dX9_stands_5 rfl ?_
  refine e_icmp_ge 32 dX9_stands_6 rfl (fun _ => ?_) (fun h => absurd (by decide) h)
  refine e_aload_n dX9_stands_32 rfl ?_
  refine e_getv (v := nI p) dX9_stands_33 ff_X9_196 rfl (fx_pi_lt (by decide)) (by decide) rfl q3 ?_
  refine e_istore_n dX9_stands_36 (by decide) rfl ?_
  refine e_weak (lv2 := [some (fx_rf Γ 83), some (.int 0), some (.int 0), some (.int (nI p))]) ⟨rfl, rfl, rfl, rfl, trivial⟩ ?_
  refine e_aload_n dX9_stands_37 rfl ?_
  refine e_getr (o2 := 106) dX9_stands_38 ff_X9_84 rfl (fx_pi_lt (by decide)) (by decide) rfl (hL _ _ _ rfl) ?_
  refine e_iload_n dX9_stands_41 rfl ?_
  refine e_ialdv (j := 0) (v := 97) dX9_stands_42 rfl (fx_pi_lt (by decide)) rfl (by decide) (by decide) (W.1 0 (by decide)) ?_
  refine e_bipush dX9_stands_43 kcb_32 ?_
  refine e_icmp_le 86 dX9_stands_45 rfl (fun h => absurd h (by decide)) (fun _ => ?_)
  refine e_iload_n dX9_stands_48 rfl ?_
  refine e_aload_n dX9_stands_49 rfl ?_
  refine e_getv (v := nI n) dX9_stands_50 ff_X9_199 rfl (fx_pi_lt (by decide)) (by decide) rfl q2 ?_
  refine e_icmp_ge 86 dX9_stands_53 rfl (fun c_e0 => ?_) (fun c_e0 => ?_)
  · refine e_aload_n dX9_stands_86 rfl ?_
    refine e_getr (o2 := 106) dX9_stands_87 ff_X9_84 rfl (fx_pi_lt (by decide)) (by decide) rfl (hL _ _ _ rfl) ?_
    refine e_iload_n dX9_stands_90 rfl ?_
    refine e_ialdv (j := 0) (v := 97) dX9_stands_91 rfl (fx_pi_lt (by decide)) rfl (by decide) (by decide) (W.1 0 (by decide)) ?_
    refine e_bipush dX9_stands_92 kcb_32 ?_
    refine e_icmp_gt 101 dX9_stands_94 rfl (fun _ => ?_) (fun h => absurd (by decide) h)
    refine e_iconst dX9_stands_101 kci_0 ?_
    have t0 : ¬ p_tc tx n (p) = 97 := by rw [R.tn (fun q => nI_ge (a := p) (b := n) q (by omega) c_e0)]; decide
    exact e_iret dX9_stands_102 rfl rfl rfl ⟨by simp [p_spI, t0], rfl⟩
  · have l0 : p < n := by rcases Nat.lt_or_ge (p) n with h | h; exact h; exact absurd (nI_le h (by omega)) c_e0
    refine e_aload_n dX9_stands_56 rfl ?_
    refine e_getr (o2 := 104) dX9_stands_57 ff_X9_77 rfl (fx_pi_lt (by decide)) (by decide) rfl (hL _ _ _ rfl) ?_
    refine e_aload_n dX9_stands_60 rfl ?_
    refine e_getv (v := nI (160 * k)) dX9_stands_61 ff_X9_202 rfl (fx_pi_lt (by decide)) (by decide) rfl q1 ?_
    refine e_iload_n dX9_stands_64 rfl ?_
    refine e_iadd dX9_stands_65 ?_
    refine e_lald (j := 160 * k + p) dX9_stands_66 rfl (fx_pi_lt (by decide)) (by rw [nI_add]) (by omega) (by decide) ?_
    refine e_l2i dX9_stands_67 ?_
    rw [R.tq l0]
    refine e_aload_n dX9_stands_68 rfl ?_
    refine e_getr (o2 := 106) dX9_stands_69 ff_X9_84 rfl (fx_pi_lt (by decide)) (by decide) rfl (hL _ _ _ rfl) ?_
    refine e_iload_n dX9_stands_72 rfl ?_
    refine e_ialdv (j := 0) (v := 97) dX9_stands_73 rfl (fx_pi_lt (by decide)) rfl (by decide) (by decide) (W.1 0 (by decide)) ?_
    refine e_icmp_ne 86 dX9_stands_74 rfl (fun c_m0 => ?_) (fun c_m0 => ?_)
    · refine e_aload_n dX9_stands_86 rfl ?_
      refine e_getr (o2 := 106) dX9_stands_87 ff_X9_84 rfl (fx_pi_lt (by decide)) (by decide) rfl (hL _ _ _ rfl) ?_
      refine e_iload_n dX9_stands_90 rfl ?_
      refine e_ialdv (j := 0) (v := 97) dX9_stands_91 rfl (fx_pi_lt (by decide)) rfl (by decide) (by decide) (W.1 0 (by decide)) ?_
      refine e_bipush dX9_stands_92 kcb_32 ?_
      refine e_icmp_gt 101 dX9_stands_94 rfl (fun _ => ?_) (fun h => absurd (by decide) h)
      refine e_iconst dX9_stands_101 kci_0 ?_
      have t0 : ¬ p_tc tx n (p) = 97 := c_m0
      exact e_iret dX9_stands_102 rfl rfl rfl ⟨by simp [p_spI, t0], rfl⟩
    · refine e_iinc (v := nI (p + 1)) dX9_stands_77 rfl (fx_inc _) (by decide) rfl ?_
      refine e_iinc (v := 1) dX9_stands_80 rfl (by decide) (by decide) rfl ?_
      refine e_goto 37 dX9_stands_83 rfl ?_
      refine e_weak (lv2 := [some (fx_rf Γ 83), some (.int 0), some (.int 1), some (.int (nI (p + 1)))]) ⟨rfl, rfl, rfl, rfl, trivial⟩ ?_
      refine e_aload_n dX9_stands_37 rfl ?_
      refine e_getr (o2 := 106) dX9_stands_38 ff_X9_84 rfl (fx_pi_lt (by decide)) (by decide) rfl (hL _ _ _ rfl) ?_
      refine e_iload_n dX9_stands_41 rfl ?_
      refine e_ialdv (j := 1) (v := 114) dX9_stands_42 rfl (fx_pi_lt (by decide)) rfl (by decide) (by decide) (W.1 1 (by decide)) ?_
      refine e_bipush dX9_stands_43 kcb_32 ?_
      refine e_icmp_le 86 dX9_stands_45 rfl (fun h => absurd h (by decide)) (fun _ => ?_)
      refine e_iload_n dX9_stands_48 rfl ?_
      refine e_aload_n dX9_stands_49 rfl ?_
      refine e_getv (v := nI n) dX9_stands_50 ff_X9_199 rfl (fx_pi_lt (by decide)) (by decide) rfl q2 ?_
      refine e_icmp_ge 86 dX9_stands_53 rfl (fun c_e1 => ?_) (fun c_e1 => ?_)
      · refine e_aload_n dX9_stands_86 rfl ?_
        refine e_getr (o2 := 106) dX9_stands_87 ff_X9_84 rfl (fx_pi_lt (by decide)) (by decide) rfl (hL _ _ _ rfl) ?_
        refine e_iload_n dX9_stands_90 rfl ?_
        refine e_ialdv (j := 1) (v := 114) dX9_stands_91 rfl (fx_pi_lt (by decide)) rfl (by decide) (by decide) (W.1 1 (by decide)) ?_
        refine e_bipush dX9_stands_92 kcb_32 ?_
        refine e_icmp_gt 101 dX9_stands_94 rfl (fun _ => ?_) (fun h => absurd (by decide) h)
        refine e_iconst dX9_stands_101 kci_0 ?_
        have t0 : p_tc tx n (p) = 97 := c_m0
        have t1 : ¬ p_tc tx n (p + 1) = 114 := by rw [R.tn (fun q => nI_ge (a := p + 1) (b := n) q (by omega) c_e1)]; decide
        exact e_iret dX9_stands_102 rfl rfl rfl ⟨by simp [p_spI, t0, t1], rfl⟩
      · have l1 : p + 1 < n := by rcases Nat.lt_or_ge (p + 1) n with h | h; exact h; exact absurd (nI_le h (by omega)) c_e1
        refine e_aload_n dX9_stands_56 rfl ?_
        refine e_getr (o2 := 104) dX9_stands_57 ff_X9_77 rfl (fx_pi_lt (by decide)) (by decide) rfl (hL _ _ _ rfl) ?_
        refine e_aload_n dX9_stands_60 rfl ?_
        refine e_getv (v := nI (160 * k)) dX9_stands_61 ff_X9_202 rfl (fx_pi_lt (by decide)) (by decide) rfl q1 ?_
        refine e_iload_n dX9_stands_64 rfl ?_
        refine e_iadd dX9_stands_65 ?_
        refine e_lald (j := 160 * k + (p + 1)) dX9_stands_66 rfl (fx_pi_lt (by decide)) (by rw [nI_add]) (by omega) (by decide) ?_
        refine e_l2i dX9_stands_67 ?_
        rw [R.tq l1]
        refine e_aload_n dX9_stands_68 rfl ?_
        refine e_getr (o2 := 106) dX9_stands_69 ff_X9_84 rfl (fx_pi_lt (by decide)) (by decide) rfl (hL _ _ _ rfl) ?_
        refine e_iload_n dX9_stands_72 rfl ?_
        refine e_ialdv (j := 1) (v := 114) dX9_stands_73 rfl (fx_pi_lt (by decide)) rfl (by decide) (by decide) (W.1 1 (by decide)) ?_
        refine e_icmp_ne 86 dX9_stands_74 rfl (fun c_m1 => ?_) (fun c_m1 => ?_)
        · refine e_aload_n dX9_stands_86 rfl ?_
          refine e_getr (o2 := 106) dX9_stands_87 ff_X9_84 rfl (fx_pi_lt (by decide)) (by decide) rfl (hL _ _ _ rfl) ?_
          refine e_iload_n dX9_stands_90 rfl ?_
          refine e_ialdv (j := 1) (v := 114) dX9_stands_91 rfl (fx_pi_lt (by decide)) rfl (by decide) (by decide) (W.1 1 (by decide)) ?_
          refine e_bipush dX9_stands_92 kcb_32 ?_
          refine e_icmp_gt 101 dX9_stands_94 rfl (fun _ => ?_) (fun h => absurd (by decide) h)
          refine e_iconst dX9_stands_101 kci_0 ?_
          have t0 : p_tc tx n (p) = 97 := c_m0
          have t1 : ¬ p_tc tx n (p + 1) = 114 := c_m1
          exact e_iret dX9_stands_102 rfl rfl rfl ⟨by simp [p_spI, t0, t1], rfl⟩
        · refine e_iinc (v := nI ((p + 1) + 1)) dX9_stands_77 rfl (fx_inc _) (by decide) rfl ?_
          refine e_iinc (v := 2) dX9_stands_80 rfl (by decide) (by decide) rfl ?_
          refine e_goto 37 dX9_stands_83 rfl ?_
          refine e_weak (lv2 := [some (fx_rf Γ 83), some (.int 0), some (.int 2), some (.int (nI ((p + 1) + 1)))]) ⟨rfl, rfl, rfl, rfl, trivial⟩ ?_
          refine e_aload_n dX9_stands_37 rfl ?_
          refine e_getr (o2 := 106) dX9_stands_38 ff_X9_84 rfl (fx_pi_lt (by decide)) (by decide) rfl (hL _ _ _ rfl) ?_
          refine e_iload_n dX9_stands_41 rfl ?_
          refine e_ialdv (j := 2) (v := 109) dX9_stands_42 rfl (fx_pi_lt (by decide)) rfl (by decide) (by decide) (W.1 2 (by decide)) ?_
          refine e_bipush dX9_stands_43 kcb_32 ?_
          refine e_icmp_le 86 dX9_stands_45 rfl (fun h => absurd h (by decide)) (fun _ => ?_)
          refine e_iload_n dX9_stands_48 rfl ?_
          refine e_aload_n dX9_stands_49 rfl ?_
          refine e_getv (v := nI n) dX9_stands_50 ff_X9_199 rfl (fx_pi_lt (by decide)) (by decide) rfl q2 ?_
          refine e_icmp_ge 86 dX9_stands_53 rfl (fun c_e2 => ?_) (fun c_e2 => ?_)
          · refine e_aload_n dX9_stands_86 rfl ?_
            refine e_getr (o2 := 106) dX9_stands_87 ff_X9_84 rfl (fx_pi_lt (by decide)) (by decide) rfl (hL _ _ _ rfl) ?_
            refine e_iload_n dX9_stands_90 rfl ?_
            refine e_ialdv (j := 2) (v := 109) dX9_stands_91 rfl (fx_pi_lt (by decide)) rfl (by decide) (by decide) (W.1 2 (by decide)) ?_
            refine e_bipush dX9_stands_92 kcb_32 ?_
            refine e_icmp_gt 101 dX9_stands_94 rfl (fun _ => ?_) (fun h => absurd (by decide) h)
            refine e_iconst dX9_stands_101 kci_0 ?_
            have t0 : p_tc tx n (p) = 97 := c_m0
            have t1 : p_tc tx n (p + 1) = 114 := c_m1
            have t2 : ¬ p_tc tx n (p + 1 + 1) = 109 := by rw [R.tn (fun q => nI_ge (a := p + 1 + 1) (b := n) q (by omega) c_e2)]; decide
            exact e_iret dX9_stands_102 rfl rfl rfl ⟨by simp [p_spI, t0, t1, t2], rfl⟩
          · have l2 : (p + 1) + 1 < n := by rcases Nat.lt_or_ge ((p + 1) + 1) n with h | h; exact h; exact absurd (nI_le h (by omega)) c_e2
            refine e_aload_n dX9_stands_56 rfl ?_
            refine e_getr (o2 := 104) dX9_stands_57 ff_X9_77 rfl (fx_pi_lt (by decide)) (by decide) rfl (hL _ _ _ rfl) ?_
            refine e_aload_n dX9_stands_60 rfl ?_
            refine e_getv (v := nI (160 * k)) dX9_stands_61 ff_X9_202 rfl (fx_pi_lt (by decide)) (by decide) rfl q1 ?_
            refine e_iload_n dX9_stands_64 rfl ?_
            refine e_iadd dX9_stands_65 ?_
            refine e_lald (j := 160 * k + ((p + 1) + 1)) dX9_stands_66 rfl (fx_pi_lt (by decide)) (by rw [nI_add]) (by omega) (by decide) ?_
            refine e_l2i dX9_stands_67 ?_
            rw [R.tq l2]
            refine e_aload_n dX9_stands_68 rfl ?_
            refine e_getr (o2 := 106) dX9_stands_69 ff_X9_84 rfl (fx_pi_lt (by decide)) (by decide) rfl (hL _ _ _ rfl) ?_
            refine e_iload_n dX9_stands_72 rfl ?_
            refine e_ialdv (j := 2) (v := 109) dX9_stands_73 rfl (fx_pi_lt (by decide)) rfl (by decide) (by decide) (W.1 2 (by decide)) ?_
            refine e_icmp_ne 86 dX9_stands_74 rfl (fun c_m2 => ?_) (fun c_m2 => ?_)
            · refine e_aload_n dX9_stands_86 rfl ?_
              refine e_getr (o2 := 106) dX9_stands_87 ff_X9_84 rfl (fx_pi_lt (by decide)) (by decide) rfl (hL _ _ _ rfl) ?_
              refine e_iload_n dX9_stands_90 rfl ?_
              refine e_ialdv (j := 2) (v := 109) dX9_stands_91 rfl (fx_pi_lt (by decide)) rfl (by decide) (by decide) (W.1 2 (by decide)) ?_
              refine e_bipush dX9_stands_92 kcb_32 ?_
              refine e_icmp_gt 101 dX9_stands_94 rfl (fun _ => ?_) (fun h => absurd (by decide) h)
              refine e_iconst dX9_stands_101 kci_0 ?_
              have t0 : p_tc tx n (p) = 97 := c_m0
              have t1 : p_tc tx n (p + 1) = 114 := c_m1
              have t2 : ¬ p_tc tx n (p + 1 + 1) = 109 := c_m2
              exact e_iret dX9_stands_102 rfl rfl rfl ⟨by simp [p_spI, t0, t1, t2], rfl⟩
            · refine e_iinc (v := nI (((p + 1) + 1) + 1)) dX9_stands_77 rfl (fx_inc _) (by decide) rfl ?_
              refine e_iinc (v := 3) dX9_stands_80 rfl (by decide) (by decide) rfl ?_
              refine e_goto 37 dX9_stands_83 rfl ?_
              refine e_weak (lv2 := [some (fx_rf Γ 83), some (.int 0), some (.int 3), some (.int (nI (((p + 1) + 1) + 1)))]) ⟨rfl, rfl, rfl, rfl, trivial⟩ ?_
              refine e_aload_n dX9_stands_37 rfl ?_
              refine e_getr (o2 := 106) dX9_stands_38 ff_X9_84 rfl (fx_pi_lt (by decide)) (by decide) rfl (hL _ _ _ rfl) ?_
              refine e_iload_n dX9_stands_41 rfl ?_
              refine e_ialdv (j := 3) (v := 32) dX9_stands_42 rfl (fx_pi_lt (by decide)) rfl (by decide) (by decide) (W.1 3 (by decide)) ?_
              refine e_bipush dX9_stands_43 kcb_32 ?_
              refine e_icmp_le 86 dX9_stands_45 rfl (fun _ => ?_) (fun h => absurd (by decide) h)
              refine e_aload_n dX9_stands_86 rfl ?_
              refine e_getr (o2 := 106) dX9_stands_87 ff_X9_84 rfl (fx_pi_lt (by decide)) (by decide) rfl (hL _ _ _ rfl) ?_
              refine e_iload_n dX9_stands_90 rfl ?_
              refine e_ialdv (j := 3) (v := 32) dX9_stands_91 rfl (fx_pi_lt (by decide)) rfl (by decide) (by decide) (W.1 3 (by decide)) ?_
              refine e_bipush dX9_stands_92 kcb_32 ?_
              refine e_icmp_gt 101 dX9_stands_94 rfl (fun h => absurd h (by decide)) (fun _ => ?_)
              refine e_iconst dX9_stands_97 kci_1 ?_
              refine e_goto 102 dX9_stands_98 rfl ?_
              have t0 : p_tc tx n (p) = 97 := c_m0
              have t1 : p_tc tx n (p + 1) = 114 := c_m1
              have t2 : p_tc tx n (p + 1 + 1) = 109 := c_m2
              exact e_iret dX9_stands_102 rfl rfl rfl ⟨by simp [p_spI, t0, t1, t2], rfl⟩
set_option maxRecDepth 100000 in
set_option maxHeartbeats 600000 in
theorem s_X9_stands1 {Γ : fx_G} {m : fx_M} (hL : fx_Lay m) {k n p : Nat} {tx : Nat → Int32} (R : fx_MR m k n tx p) (W : fx_WC m) : fx_Ct Γ mX9_stands 0 119 119 [fx_rf Γ 83, .int 1] m (fx_is (some (.int (if p_spI tx n [100, 111, 108, 108] 4 0 p = none then 1 else 0))) m) := by
  refine fx_Ct.of (j := 2) (by decide) (Nat.le_of_ble_eq_true rfl) (Nat.le_of_ble_eq_true rfl) ?_
  show fx_E Γ mX9_stands 0 119 119 _ 119 m 0 [some (fx_rf Γ 83), some (.int 1), none, none] []
  obtain ⟨q1, q2, q3, hk, hn, hp, q7⟩ := R
  have R : fx_MR m k n tx p := ⟨q1, q2, q3, hk, hn, hp, q7⟩
  refine e_iconst dX9_stands_0 kci_0 ?_
  refine e_istore_n dX9_stands_1 (by decide) rfl ?_
  refine e_iconst dX9_stands_2 kci_0 ?_
  refine e_istore_n dX9_stands_3 (by decide) rfl ?_
  refine e_weak (lv2 := [some (fx_rf Γ 83), some (.int 1), some (.int 0), some (.int 0)]) ⟨rfl, rfl, rfl, rfl, trivial⟩ ?_
  refine e_iload_n dX9_stands_4 rfl ?_
  refine e_iload_n dX9_stands_5 rfl ?_
  refine e_icmp_ge 32 dX9_stands_6 rfl (fun h => absurd h (by decide)) (fun _ => ?_)
  refine e_iload_n dX9_stands_9 rfl ?_
  refine e_aload_n dX9_stands_10 rfl ?_
  refine e_getr (o2 := 106) dX9_stands_11 ff_X9_84 rfl (fx_pi_lt (by decide)) (by decide) rfl (hL _ _ _ rfl) ?_
  refine e_iload_n dX9_stands_14 rfl ?_
  refine e_ialdv (j := 0) (v := 97) dX9_stands_15 rfl (fx_pi_lt (by decide)) rfl (by decide) (by decide) (W.1 0 (by decide)) ?_
  refine e_if_ne 23 dX9_stands_16 rfl (fun _ => ?_) (fun h => absurd h (by decide))
  refine e_iconst dX9_stands_23 kci_0 ?_
  refine e_iadd dX9_stands_24 ?_
  rw [show (0 : Int32) + 0 = 0 by decide]
  refine e_istore_n dX9_stands_25 (by decide) rfl ?_
  refine e_iinc (v := 1) dX9_stands_26 rfl (by decide) (by decide) rfl ?_
  refine e_goto 4 dX9_stands_29 rfl ?_
  refine e_weak (lv2 := [some (fx_rf Γ 83), some (.int 1), some (.int 1), some (.int 0)]) ⟨rfl, rfl, rfl, rfl, trivial⟩ ?_
  refine e_iload_n dX9_stands_4 rfl ?_
  refine e_iload_n dX9_stands_5 rfl ?_
  refine e_icmp_ge 32 dX9_stands_6 rfl (fun h => absurd h (by decide)) (fun _ => ?_)
  refine e_iload_n dX9_stands_9 rfl ?_
  refine e_aload_n dX9_stands_10 rfl ?_
  refine e_getr (o2 := 106) dX9_stands_11 ff_X9_84 rfl (fx_pi_lt (by decide)) (by decide) rfl (hL _ _ _ rfl) ?_
  refine e_iload_n dX9_stands_14 rfl ?_
  refine e_ialdv (j := 1) (v := 114) dX9_stands_15 rfl (fx_pi_lt (by decide)) rfl (by decide) (by decide) (W.1 1 (by decide)) ?_
  refine e_if_ne 23 dX9_stands_16 rfl (fun _ => ?_) (fun h => absurd h (by decide))
  refine e_iconst dX9_stands_23 kci_0 ?_
  refine e_iadd dX9_stands_24 ?_
  rw [show (0 : Int32) + 0 = 0 by decide]
  refine e_istore_n dX9_stands_25 (by decide) rfl ?_
  refine e_iinc (v := 2) dX9_stands_26 rfl (by decide) (by decide) rfl ?_
  refine e_goto 4 dX9_stands_29 rfl ?_
  refine e_weak (lv2 := [some (fx_rf Γ 83), some (.int 1), some (.int 2), some (.int 0)]) ⟨rfl, rfl, rfl, rfl, trivial⟩ ?_
  refine e_iload_n dX9_stands_4 rfl ?_
  refine e_iload_n dX9_stands_5 rfl ?_
  refine e_icmp_ge 32 dX9_stands_6 rfl (fun h => absurd h (by decide)) (fun _ => ?_)
  refine e_iload_n dX9_stands_9 rfl ?_
  refine e_aload_n dX9_stands_10 rfl ?_
  refine e_getr (o2 := 106) dX9_stands_11 ff_X9_84 rfl (fx_pi_lt (by decide)) (by decide) rfl (hL _ _ _ rfl) ?_
  refine e_iload_n dX9_stands_14 rfl ?_
  refine e_ialdv (j := 2) (v := 109) dX9_stands_15 rfl (fx_pi_lt (by decide)) rfl (by decide) (by decide) (W.1 2 (by decide)) ?_
  refine e_if_ne 23 dX9_stands_16 rfl (fun _ => ?_) (fun h => absurd h (by decide))
  refine e_iconst dX9_stands_23 kci_0 ?_
  refine e_iadd dX9_stands_24 ?_
  rw [show (0 : Int32) + 0 = 0 by decide]
  refine e_istore_n dX9_stands_25 (by decide) rfl ?_
  refine e_iinc (v := 3) dX9_stands_26 rfl (by decide) (by decide) rfl ?_
  refine e_goto 4 dX9_stands_29 rfl ?_
  refine e_weak (lv2 := [some (fx_rf Γ 83), some (.int 1), some (.int 3), some (.int 0)]) ⟨rfl, rfl, rfl, rfl, trivial⟩ ?_
  refine e_iload_n dX9_stands_4 rfl ?_
  refine e_iload_n dX9_stands_5 rfl ?_
  refine e_icmp_ge 32 dX9_stands_6 rfl (fun h => absurd h (by decide)) (fun _ => ?_)
  refine e_iload_n dX9_stands_9 rfl ?_
  refine e_aload_n dX9_stands_10 rfl ?_
  refine e_getr (o2 := 106) dX9_stands_11 ff_X9_84 rfl (fx_pi_lt (by decide)) (by decide) rfl (hL _ _ _ rfl) ?_
  refine e_iload_n dX9_stands_14 rfl ?_
  refine e_ialdv (j := 3) (v := 32) dX9_stands_15 rfl (fx_pi_lt (by decide)) rfl (by decide) (by decide) (W.1 3 (by decide)) ?_
  refine e_if_ne 23 dX9_stands_16 rfl (fun _ => ?_) (fun h => absurd h (by decide))
  refine e_iconst dX9_stands_23 kci_0 ?_
  refine e_iadd dX9_stands_24 ?_
  rw [show (0 : Int32) + 0 = 0 by decide]
  refine e_istore_n dX9_stands_25 (by decide) rfl ?_
  refine e_iinc (v := 4) dX9_stands_26 rfl (by decide) (by decide) rfl ?_
  refine e_goto 4 dX9_stands_29 rfl ?_
  refine e_weak (lv2 := [some (fx_rf Γ 83), some (.int 1), some (.int 4), some (.int 0)]) ⟨rfl, rfl, rfl, rfl, trivial⟩ ?_
  refine e_iload_n dX9_stands_4 rfl ?_
  refine e_iload_n dX9_stands_5 rfl ?_
  refine e_icmp_ge 32 dX9_stands_6 rfl (fun h => absurd h (by decide)) (fun _ => ?_)
  refine e_iload_n dX9_stands_9 rfl ?_
  refine e_aload_n dX9_stands_10 rfl ?_
  refine e_getr (o2 := 106) dX9_stands_11 ff_X9_84 rfl (fx_pi_lt (by decide)) (by decide) rfl (hL _ _ _ rfl) ?_
  refine e_iload_n dX9_stands_14 rfl ?_
  refine e_ialdv (j := 4) (v := 0) dX9_stands_15 rfl (fx_pi_lt (by decide)) rfl (by decide) (by decide) (W.1 4 (by decide)) ?_
  refine e_if_ne 23 dX9_stands_16 rfl (fun h => absurd h (by decide)) (fun _ => ?_)
  refine e_iconst dX9_stands_19 kci_1 ?_
  refine e_goto 24 dX9_stands_20 rfl ?_
  refine e_iadd dX9_stands_24 ?_
  rw [show (0 : Int32) + 1 = 1 by decide]
  refine e_istore_n dX9_stands_25 (by decide) rfl ?_
  refine e_iinc (v := 5) dX9_stands_26 rfl (by decide) (by decide) rfl ?_
  refine e_goto 4 dX9_stands_29 rfl ?_
  refine e_weak (lv2 := [some (fx_rf Γ 83), some (.int 1), some (.int 5), some (.int 1)]) ⟨rfl, rfl, rfl, rfl, trivial⟩ ?_
  refine e_iload_n dX9_stands_4 rfl ?_
  refine e_iload_n dX9_stands_5 rfl ?_
  refine e_icmp_ge 32 dX9_stands_6 rfl (fun _ => ?_) (fun h => absurd (by decide) h)
  refine e_aload_n dX9_stands_32 rfl ?_
  refine e_getv (v := nI p) dX9_stands_33 ff_X9_196 rfl (fx_pi_lt (by decide)) (by decide) rfl q3 ?_
  refine e_istore_n dX9_stands_36 (by decide) rfl ?_
  refine e_weak (lv2 := [some (fx_rf Γ 83), some (.int 1), some (.int 5), some (.int (nI p))]) ⟨rfl, rfl, rfl, rfl, trivial⟩ ?_
  refine e_aload_n dX9_stands_37 rfl ?_
  refine e_getr (o2 := 106) dX9_stands_38 ff_X9_84 rfl (fx_pi_lt (by decide)) (by decide) rfl (hL _ _ _ rfl) ?_
  refine e_iload_n dX9_stands_41 rfl ?_
  refine e_ialdv (j := 5) (v := 100) dX9_stands_42 rfl (fx_pi_lt (by decide)) rfl (by decide) (by decide) (W.1 5 (by decide)) ?_
  refine e_bipush dX9_stands_43 kcb_32 ?_
  refine e_icmp_le 86 dX9_stands_45 rfl (fun h => absurd h (by decide)) (fun _ => ?_)
  refine e_iload_n dX9_stands_48 rfl ?_
  refine e_aload_n dX9_stands_49 rfl ?_
  refine e_getv (v := nI n) dX9_stands_50 ff_X9_199 rfl (fx_pi_lt (by decide)) (by decide) rfl q2 ?_
  refine e_icmp_ge 86 dX9_stands_53 rfl (fun c_e0 => ?_) (fun c_e0 => ?_)
  · refine e_aload_n dX9_stands_86 rfl ?_
    refine e_getr (o2 := 106) dX9_stands_87 ff_X9_84 rfl (fx_pi_lt (by decide)) (by decide) rfl (hL _ _ _ rfl) ?_
    refine e_iload_n dX9_stands_90 rfl ?_
    refine e_ialdv (j := 5) (v := 100) dX9_stands_91 rfl (fx_pi_lt (by decide)) rfl (by decide) (by decide) (W.1 5 (by decide)) ?_
    refine e_bipush dX9_stands_92 kcb_32 ?_
    refine e_icmp_gt 101 dX9_stands_94 rfl (fun _ => ?_) (fun h => absurd (by decide) h)
    refine e_iconst dX9_stands_101 kci_0 ?_
    have t0 : ¬ p_tc tx n (p) = 100 := by rw [R.tn (fun q => nI_ge (a := p) (b := n) q (by omega) c_e0)]; decide
    exact e_iret dX9_stands_102 rfl rfl rfl ⟨by simp [p_spI, t0], rfl⟩
  · have l0 : p < n := by rcases Nat.lt_or_ge (p) n with h | h; exact h; exact absurd (nI_le h (by omega)) c_e0
    refine e_aload_n dX9_stands_56 rfl ?_
    refine e_getr (o2 := 104) dX9_stands_57 ff_X9_77 rfl (fx_pi_lt (by decide)) (by decide) rfl (hL _ _ _ rfl) ?_
    refine e_aload_n dX9_stands_60 rfl ?_
    refine e_getv (v := nI (160 * k)) dX9_stands_61 ff_X9_202 rfl (fx_pi_lt (by decide)) (by decide) rfl q1 ?_
    refine e_iload_n dX9_stands_64 rfl ?_
    refine e_iadd dX9_stands_65 ?_
    refine e_lald (j := 160 * k + p) dX9_stands_66 rfl (fx_pi_lt (by decide)) (by rw [nI_add]) (by omega) (by decide) ?_
    refine e_l2i dX9_stands_67 ?_
    rw [R.tq l0]
    refine e_aload_n dX9_stands_68 rfl ?_
    refine e_getr (o2 := 106) dX9_stands_69 ff_X9_84 rfl (fx_pi_lt (by decide)) (by decide) rfl (hL _ _ _ rfl) ?_
    refine e_iload_n dX9_stands_72 rfl ?_
    refine e_ialdv (j := 5) (v := 100) dX9_stands_73 rfl (fx_pi_lt (by decide)) rfl (by decide) (by decide) (W.1 5 (by decide)) ?_
    refine e_icmp_ne 86 dX9_stands_74 rfl (fun c_m0 => ?_) (fun c_m0 => ?_)
    · refine e_aload_n dX9_stands_86 rfl ?_
      refine e_getr (o2 := 106) dX9_stands_87 ff_X9_84 rfl (fx_pi_lt (by decide)) (by decide) rfl (hL _ _ _ rfl) ?_
      refine e_iload_n dX9_stands_90 rfl ?_
      refine e_ialdv (j := 5) (v := 100) dX9_stands_91 rfl (fx_pi_lt (by decide)) rfl (by decide) (by decide) (W.1 5 (by decide)) ?_
      refine e_bipush dX9_stands_92 kcb_32 ?_
      refine e_icmp_gt 101 dX9_stands_94 rfl (fun _ => ?_) (fun h => absurd (by decide) h)
      refine e_iconst dX9_stands_101 kci_0 ?_
      have t0 : ¬ p_tc tx n (p) = 100 := c_m0
      exact e_iret dX9_stands_102 rfl rfl rfl ⟨by simp [p_spI, t0], rfl⟩
    · refine e_iinc (v := nI (p + 1)) dX9_stands_77 rfl (fx_inc _) (by decide) rfl ?_
      refine e_iinc (v := 6) dX9_stands_80 rfl (by decide) (by decide) rfl ?_
      refine e_goto 37 dX9_stands_83 rfl ?_
      refine e_weak (lv2 := [some (fx_rf Γ 83), some (.int 1), some (.int 6), some (.int (nI (p + 1)))]) ⟨rfl, rfl, rfl, rfl, trivial⟩ ?_
      refine e_aload_n dX9_stands_37 rfl ?_
      refine e_getr (o2 := 106) dX9_stands_38 ff_X9_84 rfl (fx_pi_lt (by decide)) (by decide) rfl (hL _ _ _ rfl) ?_
      refine e_iload_n dX9_stands_41 rfl ?_
      refine e_ialdv (j := 6) (v := 111) dX9_stands_42 rfl (fx_pi_lt (by decide)) rfl (by decide) (by decide) (W.1 6 (by decide)) ?_
      refine e_bipush dX9_stands_43 kcb_32 ?_
      refine e_icmp_le 86 dX9_stands_45 rfl (fun h => absurd h (by decide)) (fun _ => ?_)
      refine e_iload_n dX9_stands_48 rfl ?_
      refine e_aload_n dX9_stands_49 rfl ?_
      refine e_getv (v := nI n) dX9_stands_50 ff_X9_199 rfl (fx_pi_lt (by decide)) (by decide) rfl q2 ?_
      refine e_icmp_ge 86 dX9_stands_53 rfl (fun c_e1 => ?_) (fun c_e1 => ?_)
      · refine e_aload_n dX9_stands_86 rfl ?_
        refine e_getr (o2 := 106) dX9_stands_87 ff_X9_84 rfl (fx_pi_lt (by decide)) (by decide) rfl (hL _ _ _ rfl) ?_
        refine e_iload_n dX9_stands_90 rfl ?_
        refine e_ialdv (j := 6) (v := 111) dX9_stands_91 rfl (fx_pi_lt (by decide)) rfl (by decide) (by decide) (W.1 6 (by decide)) ?_
        refine e_bipush dX9_stands_92 kcb_32 ?_
        refine e_icmp_gt 101 dX9_stands_94 rfl (fun _ => ?_) (fun h => absurd (by decide) h)
        refine e_iconst dX9_stands_101 kci_0 ?_
        have t0 : p_tc tx n (p) = 100 := c_m0
        have t1 : ¬ p_tc tx n (p + 1) = 111 := by rw [R.tn (fun q => nI_ge (a := p + 1) (b := n) q (by omega) c_e1)]; decide
        exact e_iret dX9_stands_102 rfl rfl rfl ⟨by simp [p_spI, t0, t1], rfl⟩
      · have l1 : p + 1 < n := by rcases Nat.lt_or_ge (p + 1) n with h | h; exact h; exact absurd (nI_le h (by omega)) c_e1
        refine e_aload_n dX9_stands_56 rfl ?_
        refine e_getr (o2 := 104) dX9_stands_57 ff_X9_77 rfl (fx_pi_lt (by decide)) (by decide) rfl (hL _ _ _ rfl) ?_
        refine e_aload_n dX9_stands_60 rfl ?_
        refine e_getv (v := nI (160 * k)) dX9_stands_61 ff_X9_202 rfl (fx_pi_lt (by decide)) (by decide) rfl q1 ?_
        refine e_iload_n dX9_stands_64 rfl ?_
        refine e_iadd dX9_stands_65 ?_
        refine e_lald (j := 160 * k + (p + 1)) dX9_stands_66 rfl (fx_pi_lt (by decide)) (by rw [nI_add]) (by omega) (by decide) ?_
        refine e_l2i dX9_stands_67 ?_
        rw [R.tq l1]
        refine e_aload_n dX9_stands_68 rfl ?_
        refine e_getr (o2 := 106) dX9_stands_69 ff_X9_84 rfl (fx_pi_lt (by decide)) (by decide) rfl (hL _ _ _ rfl) ?_
        refine e_iload_n dX9_stands_72 rfl ?_
        refine e_ialdv (j := 6) (v := 111) dX9_stands_73 rfl (fx_pi_lt (by decide)) rfl (by decide) (by decide) (W.1 6 (by decide)) ?_
        refine e_icmp_ne 86 dX9_stands_74 rfl (fun c_m1 => ?_) (fun c_m1 => ?_)
        · refine e_aload_n dX9_stands_86 rfl ?_
          refine e_getr (o2 := 106) dX9_stands_87 ff_X9_84 rfl (fx_pi_lt (by decide)) (by decide) rfl (hL _ _ _ rfl) ?_
          refine e_iload_n dX9_stands_90 rfl ?_
          refine e_ialdv (j := 6) (v := 111) dX9_stands_91 rfl (fx_pi_lt (by decide)) rfl (by decide) (by decide) (W.1 6 (by decide)) ?_
          refine e_bipush dX9_stands_92 kcb_32 ?_
          refine e_icmp_gt 101 dX9_stands_94 rfl (fun _ => ?_) (fun h => absurd (by decide) h)
          refine e_iconst dX9_stands_101 kci_0 ?_
          have t0 : p_tc tx n (p) = 100 := c_m0
          have t1 : ¬ p_tc tx n (p + 1) = 111 := c_m1
          exact e_iret dX9_stands_102 rfl rfl rfl ⟨by simp [p_spI, t0, t1], rfl⟩
        · refine e_iinc (v := nI ((p + 1) + 1)) dX9_stands_77 rfl (fx_inc _) (by decide) rfl ?_
          refine e_iinc (v := 7) dX9_stands_80 rfl (by decide) (by decide) rfl ?_
          refine e_goto 37 dX9_stands_83 rfl ?_
          refine e_weak (lv2 := [some (fx_rf Γ 83), some (.int 1), some (.int 7), some (.int (nI ((p + 1) + 1)))]) ⟨rfl, rfl, rfl, rfl, trivial⟩ ?_
          refine e_aload_n dX9_stands_37 rfl ?_
          refine e_getr (o2 := 106) dX9_stands_38 ff_X9_84 rfl (fx_pi_lt (by decide)) (by decide) rfl (hL _ _ _ rfl) ?_
          refine e_iload_n dX9_stands_41 rfl ?_
          refine e_ialdv (j := 7) (v := 108) dX9_stands_42 rfl (fx_pi_lt (by decide)) rfl (by decide) (by decide) (W.1 7 (by decide)) ?_
          refine e_bipush dX9_stands_43 kcb_32 ?_
          refine e_icmp_le 86 dX9_stands_45 rfl (fun h => absurd h (by decide)) (fun _ => ?_)
          refine e_iload_n dX9_stands_48 rfl ?_
          refine e_aload_n dX9_stands_49 rfl ?_
          refine e_getv (v := nI n) dX9_stands_50 ff_X9_199 rfl (fx_pi_lt (by decide)) (by decide) rfl q2 ?_
          refine e_icmp_ge 86 dX9_stands_53 rfl (fun c_e2 => ?_) (fun c_e2 => ?_)
          · refine e_aload_n dX9_stands_86 rfl ?_
            refine e_getr (o2 := 106) dX9_stands_87 ff_X9_84 rfl (fx_pi_lt (by decide)) (by decide) rfl (hL _ _ _ rfl) ?_
            refine e_iload_n dX9_stands_90 rfl ?_
            refine e_ialdv (j := 7) (v := 108) dX9_stands_91 rfl (fx_pi_lt (by decide)) rfl (by decide) (by decide) (W.1 7 (by decide)) ?_
            refine e_bipush dX9_stands_92 kcb_32 ?_
            refine e_icmp_gt 101 dX9_stands_94 rfl (fun _ => ?_) (fun h => absurd (by decide) h)
            refine e_iconst dX9_stands_101 kci_0 ?_
            have t0 : p_tc tx n (p) = 100 := c_m0
            have t1 : p_tc tx n (p + 1) = 111 := c_m1
            have t2 : ¬ p_tc tx n (p + 1 + 1) = 108 := by rw [R.tn (fun q => nI_ge (a := p + 1 + 1) (b := n) q (by omega) c_e2)]; decide
            exact e_iret dX9_stands_102 rfl rfl rfl ⟨by simp [p_spI, t0, t1, t2], rfl⟩
          · have l2 : (p + 1) + 1 < n := by rcases Nat.lt_or_ge ((p + 1) + 1) n with h | h; exact h; exact absurd (nI_le h (by omega)) c_e2
            refine e_aload_n dX9_stands_56 rfl ?_
            refine e_getr (o2 := 104) dX9_stands_57 ff_X9_77 rfl (fx_pi_lt (by decide)) (by decide) rfl (hL _ _ _ rfl) ?_
            refine e_aload_n dX9_stands_60 rfl ?_
            refine e_getv (v := nI (160 * k)) dX9_stands_61 ff_X9_202 rfl (fx_pi_lt (by decide)) (by decide) rfl q1 ?_
            refine e_iload_n dX9_stands_64 rfl ?_
            refine e_iadd dX9_stands_65 ?_
            refine e_lald (j := 160 * k + ((p + 1) + 1)) dX9_stands_66 rfl (fx_pi_lt (by decide)) (by rw [nI_add]) (by omega) (by decide) ?_
            refine e_l2i dX9_stands_67 ?_
            rw [R.tq l2]
            refine e_aload_n dX9_stands_68 rfl ?_
            refine e_getr (o2 := 106) dX9_stands_69 ff_X9_84 rfl (fx_pi_lt (by decide)) (by decide) rfl (hL _ _ _ rfl) ?_
            refine e_iload_n dX9_stands_72 rfl ?_
            refine e_ialdv (j := 7) (v := 108) dX9_stands_73 rfl (fx_pi_lt (by decide)) rfl (by decide) (by decide) (W.1 7 (by decide)) ?_
            refine e_icmp_ne 86 dX9_stands_74 rfl (fun c_m2 => ?_) (fun c_m2 => ?_)
            · refine e_aload_n dX9_stands_86 rfl ?_
              refine e_getr (o2 := 106) dX9_stands_87 ff_X9_84 rfl (fx_pi_lt (by decide)) (by decide) rfl (hL _ _ _ rfl) ?_
              refine e_iload_n dX9_stands_90 rfl ?_
              refine e_ialdv (j := 7) (v := 108) dX9_stands_91 rfl (fx_pi_lt (by decide)) rfl (by decide) (by decide) (W.1 7 (by decide)) ?_
              refine e_bipush dX9_stands_92 kcb_32 ?_
              refine e_icmp_gt 101 dX9_stands_94 rfl (fun _ => ?_) (fun h => absurd (by decide) h)
              refine e_iconst dX9_stands_101 kci_0 ?_
              have t0 : p_tc tx n (p) = 100 := c_m0
              have t1 : p_tc tx n (p + 1) = 111 := c_m1
              have t2 : ¬ p_tc tx n (p + 1 + 1) = 108 := c_m2
              exact e_iret dX9_stands_102 rfl rfl rfl ⟨by simp [p_spI, t0, t1, t2], rfl⟩
            · refine e_iinc (v := nI (((p + 1) + 1) + 1)) dX9_stands_77 rfl (fx_inc _) (by decide) rfl ?_
              refine e_iinc (v := 8) dX9_stands_80 rfl (by decide) (by decide) rfl ?_
              refine e_goto 37 dX9_stands_83 rfl ?_
              refine e_weak (lv2 := [some (fx_rf Γ 83), some (.int 1), some (.int 8), some (.int (nI (((p + 1) + 1) + 1)))]) ⟨rfl, rfl, rfl, rfl, trivial⟩ ?_
              refine e_aload_n dX9_stands_37 rfl ?_
              refine e_getr (o2 := 106) dX9_stands_38 ff_X9_84 rfl (fx_pi_lt (by decide)) (by decide) rfl (hL _ _ _ rfl) ?_
              refine e_iload_n dX9_stands_41 rfl ?_
              refine e_ialdv (j := 8) (v := 108) dX9_stands_42 rfl (fx_pi_lt (by decide)) rfl (by decide) (by decide) (W.1 8 (by decide)) ?_
              refine e_bipush dX9_stands_43 kcb_32 ?_
              refine e_icmp_le 86 dX9_stands_45 rfl (fun h => absurd h (by decide)) (fun _ => ?_)
              refine e_iload_n dX9_stands_48 rfl ?_
              refine e_aload_n dX9_stands_49 rfl ?_
              refine e_getv (v := nI n) dX9_stands_50 ff_X9_199 rfl (fx_pi_lt (by decide)) (by decide) rfl q2 ?_
              refine e_icmp_ge 86 dX9_stands_53 rfl (fun c_e3 => ?_) (fun c_e3 => ?_)
              · refine e_aload_n dX9_stands_86 rfl ?_
                refine e_getr (o2 := 106) dX9_stands_87 ff_X9_84 rfl (fx_pi_lt (by decide)) (by decide) rfl (hL _ _ _ rfl) ?_
                refine e_iload_n dX9_stands_90 rfl ?_
                refine e_ialdv (j := 8) (v := 108) dX9_stands_91 rfl (fx_pi_lt (by decide)) rfl (by decide) (by decide) (W.1 8 (by decide)) ?_
                refine e_bipush dX9_stands_92 kcb_32 ?_
                refine e_icmp_gt 101 dX9_stands_94 rfl (fun _ => ?_) (fun h => absurd (by decide) h)
                refine e_iconst dX9_stands_101 kci_0 ?_
                have t0 : p_tc tx n (p) = 100 := c_m0
                have t1 : p_tc tx n (p + 1) = 111 := c_m1
                have t2 : p_tc tx n (p + 1 + 1) = 108 := c_m2
                have t3 : ¬ p_tc tx n (p + 1 + 1 + 1) = 108 := by rw [R.tn (fun q => nI_ge (a := p + 1 + 1 + 1) (b := n) q (by omega) c_e3)]; decide
                exact e_iret dX9_stands_102 rfl rfl rfl ⟨by simp [p_spI, t0, t1, t2, t3], rfl⟩
              · have l3 : ((p + 1) + 1) + 1 < n := by rcases Nat.lt_or_ge (((p + 1) + 1) + 1) n with h | h; exact h; exact absurd (nI_le h (by omega)) c_e3
                refine e_aload_n dX9_stands_56 rfl ?_
                refine e_getr (o2 := 104) dX9_stands_57 ff_X9_77 rfl (fx_pi_lt (by decide)) (by decide) rfl (hL _ _ _ rfl) ?_
                refine e_aload_n dX9_stands_60 rfl ?_
                refine e_getv (v := nI (160 * k)) dX9_stands_61 ff_X9_202 rfl (fx_pi_lt (by decide)) (by decide) rfl q1 ?_
                refine e_iload_n dX9_stands_64 rfl ?_
                refine e_iadd dX9_stands_65 ?_
                refine e_lald (j := 160 * k + (((p + 1) + 1) + 1)) dX9_stands_66 rfl (fx_pi_lt (by decide)) (by rw [nI_add]) (by omega) (by decide) ?_
                refine e_l2i dX9_stands_67 ?_
                rw [R.tq l3]
                refine e_aload_n dX9_stands_68 rfl ?_
                refine e_getr (o2 := 106) dX9_stands_69 ff_X9_84 rfl (fx_pi_lt (by decide)) (by decide) rfl (hL _ _ _ rfl) ?_
                refine e_iload_n dX9_stands_72 rfl ?_
                refine e_ialdv (j := 8) (v := 108) dX9_stands_73 rfl (fx_pi_lt (by decide)) rfl (by decide) (by decide) (W.1 8 (by decide)) ?_
                refine e_icmp_ne 86 dX9_stands_74 rfl (fun c_m3 => ?_) (fun c_m3 => ?_)
                · refine e_aload_n dX9_stands_86 rfl ?_
                  refine e_getr (o2 := 106) dX9_stands_87 ff_X9_84 rfl (fx_pi_lt (by decide)) (by decide) rfl (hL _ _ _ rfl) ?_
                  refine e_iload_n dX9_stands_90 rfl ?_
                  refine e_ialdv (j := 8) (v := 108) dX9_stands_91 rfl (fx_pi_lt (by decide)) rfl (by decide) (by decide) (W.1 8 (by decide)) ?_
                  refine e_bipush dX9_stands_92 kcb_32 ?_
                  refine e_icmp_gt 101 dX9_stands_94 rfl (fun _ => ?_) (fun h => absurd (by decide) h)
                  refine e_iconst dX9_stands_101 kci_0 ?_
                  have t0 : p_tc tx n (p) = 100 := c_m0
                  have t1 : p_tc tx n (p + 1) = 111 := c_m1
                  have t2 : p_tc tx n (p + 1 + 1) = 108 := c_m2
                  have t3 : ¬ p_tc tx n (p + 1 + 1 + 1) = 108 := c_m3
                  exact e_iret dX9_stands_102 rfl rfl rfl ⟨by simp [p_spI, t0, t1, t2, t3], rfl⟩
                · refine e_iinc (v := nI ((((p + 1) + 1) + 1) + 1)) dX9_stands_77 rfl (fx_inc _) (by decide) rfl ?_
                  refine e_iinc (v := 9) dX9_stands_80 rfl (by decide) (by decide) rfl ?_
                  refine e_goto 37 dX9_stands_83 rfl ?_
                  refine e_weak (lv2 := [some (fx_rf Γ 83), some (.int 1), some (.int 9), some (.int (nI ((((p + 1) + 1) + 1) + 1)))]) ⟨rfl, rfl, rfl, rfl, trivial⟩ ?_
                  refine e_aload_n dX9_stands_37 rfl ?_
                  refine e_getr (o2 := 106) dX9_stands_38 ff_X9_84 rfl (fx_pi_lt (by decide)) (by decide) rfl (hL _ _ _ rfl) ?_
                  refine e_iload_n dX9_stands_41 rfl ?_
                  refine e_ialdv (j := 9) (v := 32) dX9_stands_42 rfl (fx_pi_lt (by decide)) rfl (by decide) (by decide) (W.1 9 (by decide)) ?_
                  refine e_bipush dX9_stands_43 kcb_32 ?_
                  refine e_icmp_le 86 dX9_stands_45 rfl (fun _ => ?_) (fun h => absurd (by decide) h)
                  refine e_aload_n dX9_stands_86 rfl ?_
                  refine e_getr (o2 := 106) dX9_stands_87 ff_X9_84 rfl (fx_pi_lt (by decide)) (by decide) rfl (hL _ _ _ rfl) ?_
                  refine e_iload_n dX9_stands_90 rfl ?_
                  refine e_ialdv (j := 9) (v := 32) dX9_stands_91 rfl (fx_pi_lt (by decide)) rfl (by decide) (by decide) (W.1 9 (by decide)) ?_
                  refine e_bipush dX9_stands_92 kcb_32 ?_
                  refine e_icmp_gt 101 dX9_stands_94 rfl (fun h => absurd h (by decide)) (fun _ => ?_)
                  refine e_iconst dX9_stands_97 kci_1 ?_
                  refine e_goto 102 dX9_stands_98 rfl ?_
                  have t0 : p_tc tx n (p) = 100 := c_m0
                  have t1 : p_tc tx n (p + 1) = 111 := c_m1
                  have t2 : p_tc tx n (p + 1 + 1) = 108 := c_m2
                  have t3 : p_tc tx n (p + 1 + 1 + 1) = 108 := c_m3
                  exact e_iret dX9_stands_102 rfl rfl rfl ⟨by simp [p_spI, t0, t1, t2, t3], rfl⟩
