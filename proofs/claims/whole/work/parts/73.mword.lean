def p_mc (tx : Nat → Int32) (n : Nat) : List Int32 → Nat → Nat
  | [], _ => 0
  | a :: l, p => if p_tc tx n p = a then p_mc tx n l (p + 1) + 1 else 0
/-- the word that stands there, and the place behind it; none, and the farthest place -/
def p_wd (tx : Nat → Int32) (n p : Nat) : List (Nat × List Int32) → Nat → Option Nat × Nat
  | [], F => (none, F)
  | q :: r, F => if p_mc tx n q.2 p = q.2.length then (some q.1, p + q.2.length) else p_wd tx n p r (max F (p + p_mc tx n q.2 p))
theorem p_mc_le (tx : Nat → Int32) (n : Nat) : ∀ (l : List Int32) (p : Nat), p_mc tx n l p ≤ l.length
  | [], _ => Nat.le_refl _
  | a :: l, p => by
    unfold p_mc
    split
    · exact Nat.succ_le_succ (p_mc_le tx n l (p + 1))
    · exact Nat.zero_le _
theorem p_mc_n (tx : Nat → Int32) (n : Nat) : ∀ (l : List Int32) (p : Nat), p ≤ n → (∀ a ∈ l, a ≠ -1) → p + p_mc tx n l p ≤ n
  | [], _, h, _ => h
  | a :: l, p, h, ha => by
    unfold p_mc
    split
    · rename_i e
      have := p_tc_in e (ha a List.mem_cons_self)
      have := p_mc_n tx n l (p + 1) (by omega) (fun b hb => ha b (List.mem_cons_of_mem _ hb))
      omega
    · omega
def fx_WP (n : Nat) (m : fx_M) (res : Option Nat × Nat) (r : Option Value) (m' : fx_M) : Prop :=
  r = some (.int (p_oi res.1)) ∧ fx_KZ m m' ∧ (∀ w, res.1 = some w → m'.1 83 36 = nI res.2 ∧ res.2 ≤ n) ∧ (res.1 = none → m'.1 83 38 = nI res.2)
set_option maxRecDepth 100000 in
set_option maxHeartbeats 600000 in
theorem s_X9_word5 {Γ : fx_G} {m : fx_M} (hL : fx_Lay m) {k n p : Nat} {tx : Nat → Int32} (R : fx_MR m k n tx p) (W : fx_WC m) {F : Nat} (hF : F ≤ n) : fx_E Γ mX9_word 0 119 119 (fx_WP n m (p_wd tx n p [] F)) 119 m 9 [some (fx_rf Γ 83), some (.int 26), some (.int (nI F)), some (.int 5), none, none] [] := by
  obtain ⟨q1, q2, q3, hk, hn, hp, q7⟩ := R
  have R : fx_MR m k n tx p := ⟨q1, q2, q3, hk, hn, hp, q7⟩
  refine e_iload_n dX9_word_9 rfl ?_
  refine e_iconst dX9_word_10 kci_5 ?_
  refine e_icmp_ge 129 dX9_word_11 rfl (fun _ => ?_) (fun h => absurd (by decide) h)
  refine e_aload_n dX9_word_129 rfl ?_
  refine e_iload_n dX9_word_130 rfl ?_
  refine e_put dX9_word_131 ff_X9_193 rfl (fx_pi_lt (by decide)) (by decide) rfl (Or.inl rfl) ?_
  refine e_iconst dX9_word_134 kci_m1 ?_
  exact e_iret dX9_word_135 rfl rfl rfl ⟨rfl, (fx_KZ.refl m).sI (by omega), fun w h => (by cases h), fun _ => fx_rd0⟩
set_option maxRecDepth 100000 in
set_option maxHeartbeats 600000 in
theorem s_X9_word4 {Γ : fx_G} {m : fx_M} (hL : fx_Lay m) {k n p : Nat} {tx : Nat → Int32} (R : fx_MR m k n tx p) (W : fx_WC m) {F : Nat} (hF : F ≤ n) : fx_E Γ mX9_word 0 119 119 (fx_WP n m (p_wd tx n p [(4, [108, 105, 101, 115, 32])] F)) 119 m 9 [some (fx_rf Γ 83), some (.int 20), some (.int (nI F)), some (.int 4), none, none] [] := by
  obtain ⟨q1, q2, q3, hk, hn, hp, q7⟩ := R
  have R : fx_MR m k n tx p := ⟨q1, q2, q3, hk, hn, hp, q7⟩
  have k104 : ∀ g, g ≤ n → fx_E Γ mX9_word 0 119 119 (fx_WP n m (p_wd tx n p [] g)) 119 m 104 [some (fx_rf Γ 83), some (.int 20), none, some (.int 4), none, none] (.int (nI g) :: []) := by
    intro g hg
    refine e_istore_n dX9_word_104 (by decide) rfl ?_
    refine e_weak (lv2 := [some (fx_rf Γ 83), some (.int 20), some (.int (nI g)), some (.int 4), none, none]) ⟨rfl, rfl, rfl, rfl, trivial⟩ ?_
    refine e_aload_n dX9_word_105 rfl ?_
    refine e_getr (o2 := 106) dX9_word_106 ff_X9_84 rfl (fx_pi_lt (by decide)) (by decide) rfl (hL _ _ _ rfl) ?_
    refine e_iload_n dX9_word_109 rfl ?_
    refine e_ialdv (j := 20) (v := 108) dX9_word_110 rfl (fx_pi_lt (by decide)) rfl (by decide) (by decide) (W.1 20 (by decide)) ?_
    refine e_if_eq 120 dX9_word_111 rfl (fun h => absurd h (by decide)) (fun _ => ?_)
    refine e_iinc (v := 21) dX9_word_114 rfl (by decide) (by decide) rfl ?_
    refine e_goto 105 dX9_word_117 rfl ?_
    refine e_weak (lv2 := [some (fx_rf Γ 83), some (.int 21), some (.int (nI g)), some (.int 4), none, none]) ⟨rfl, rfl, rfl, rfl, trivial⟩ ?_
    refine e_aload_n dX9_word_105 rfl ?_
    refine e_getr (o2 := 106) dX9_word_106 ff_X9_84 rfl (fx_pi_lt (by decide)) (by decide) rfl (hL _ _ _ rfl) ?_
    refine e_iload_n dX9_word_109 rfl ?_
    refine e_ialdv (j := 21) (v := 105) dX9_word_110 rfl (fx_pi_lt (by decide)) rfl (by decide) (by decide) (W.1 21 (by decide)) ?_
    refine e_if_eq 120 dX9_word_111 rfl (fun h => absurd h (by decide)) (fun _ => ?_)
    refine e_iinc (v := 22) dX9_word_114 rfl (by decide) (by decide) rfl ?_
    refine e_goto 105 dX9_word_117 rfl ?_
    refine e_weak (lv2 := [some (fx_rf Γ 83), some (.int 22), some (.int (nI g)), some (.int 4), none, none]) ⟨rfl, rfl, rfl, rfl, trivial⟩ ?_
    refine e_aload_n dX9_word_105 rfl ?_
    refine e_getr (o2 := 106) dX9_word_106 ff_X9_84 rfl (fx_pi_lt (by decide)) (by decide) rfl (hL _ _ _ rfl) ?_
    refine e_iload_n dX9_word_109 rfl ?_
    refine e_ialdv (j := 22) (v := 101) dX9_word_110 rfl (fx_pi_lt (by decide)) rfl (by decide) (by decide) (W.1 22 (by decide)) ?_
    refine e_if_eq 120 dX9_word_111 rfl (fun h => absurd h (by decide)) (fun _ => ?_)
    refine e_iinc (v := 23) dX9_word_114 rfl (by decide) (by decide) rfl ?_
    refine e_goto 105 dX9_word_117 rfl ?_
    refine e_weak (lv2 := [some (fx_rf Γ 83), some (.int 23), some (.int (nI g)), some (.int 4), none, none]) ⟨rfl, rfl, rfl, rfl, trivial⟩ ?_
    refine e_aload_n dX9_word_105 rfl ?_
    refine e_getr (o2 := 106) dX9_word_106 ff_X9_84 rfl (fx_pi_lt (by decide)) (by decide) rfl (hL _ _ _ rfl) ?_
    refine e_iload_n dX9_word_109 rfl ?_
    refine e_ialdv (j := 23) (v := 115) dX9_word_110 rfl (fx_pi_lt (by decide)) rfl (by decide) (by decide) (W.1 23 (by decide)) ?_
    refine e_if_eq 120 dX9_word_111 rfl (fun h => absurd h (by decide)) (fun _ => ?_)
    refine e_iinc (v := 24) dX9_word_114 rfl (by decide) (by decide) rfl ?_
    refine e_goto 105 dX9_word_117 rfl ?_
    refine e_weak (lv2 := [some (fx_rf Γ 83), some (.int 24), some (.int (nI g)), some (.int 4), none, none]) ⟨rfl, rfl, rfl, rfl, trivial⟩ ?_
    refine e_aload_n dX9_word_105 rfl ?_
    refine e_getr (o2 := 106) dX9_word_106 ff_X9_84 rfl (fx_pi_lt (by decide)) (by decide) rfl (hL _ _ _ rfl) ?_
    refine e_iload_n dX9_word_109 rfl ?_
    refine e_ialdv (j := 24) (v := 32) dX9_word_110 rfl (fx_pi_lt (by decide)) rfl (by decide) (by decide) (W.1 24 (by decide)) ?_
    refine e_if_eq 120 dX9_word_111 rfl (fun h => absurd h (by decide)) (fun _ => ?_)
    refine e_iinc (v := 25) dX9_word_114 rfl (by decide) (by decide) rfl ?_
    refine e_goto 105 dX9_word_117 rfl ?_
    refine e_weak (lv2 := [some (fx_rf Γ 83), some (.int 25), some (.int (nI g)), some (.int 4), none, none]) ⟨rfl, rfl, rfl, rfl, trivial⟩ ?_
    refine e_aload_n dX9_word_105 rfl ?_
    refine e_getr (o2 := 106) dX9_word_106 ff_X9_84 rfl (fx_pi_lt (by decide)) (by decide) rfl (hL _ _ _ rfl) ?_
    refine e_iload_n dX9_word_109 rfl ?_
    refine e_ialdv (j := 25) (v := 0) dX9_word_110 rfl (fx_pi_lt (by decide)) rfl (by decide) (by decide) (W.1 25 (by decide)) ?_
    refine e_if_eq 120 dX9_word_111 rfl (fun _ => ?_) (fun h => absurd (by decide) h)
    refine e_iinc (v := 26) dX9_word_120 rfl (by decide) (by decide) rfl ?_
    refine e_iinc (v := 5) dX9_word_123 rfl (by decide) (by decide) rfl ?_
    refine e_goto 9 dX9_word_126 rfl ?_
    refine e_weak (lv2 := [some (fx_rf Γ 83), some (.int 26), some (.int (nI g)), some (.int 5), none, none]) ⟨rfl, rfl, rfl, rfl, trivial⟩ ?_
    exact s_X9_word5 hL R W hg
  have hz : ∀ i, i < 6 → (p_WT (20 + i) = 0 ↔ i = 5) := by decide
  have k74 : ∀ i, i ≤ 5 → p_mc tx n [108, 105, 101, 115, 32] p = i → fx_E Γ mX9_word 0 119 119 (fx_WP n m (p_wd tx n p [(4, [108, 105, 101, 115, 32])] F)) 119 m 74 [some (fx_rf Γ 83), some (.int 20), some (.int (nI F)), some (.int 4), some (.int (nI (p + i))), some (.int (nI (20 + i)))] [] := by
    intro i hi hmc
    have hpi : p + i ≤ n := by rw [← hmc]; exact p_mc_n tx n [108, 105, 101, 115, 32] p hp (by decide)
    refine e_aload_n dX9_word_74 rfl ?_
    refine e_getr (o2 := 106) dX9_word_75 ff_X9_84 rfl (fx_pi_lt (by decide)) (by decide) rfl (hL _ _ _ rfl) ?_
    refine e_iload dX9_word_78 rfl ?_
    refine e_ialdv (j := 20 + i) (v := p_WT (20 + i)) dX9_word_80 rfl (fx_pi_lt (by decide)) rfl (by omega) (by decide) (W.1 _ (by omega)) ?_
    refine e_if_ne 92 dX9_word_81 rfl (fun c_w => ?_) (fun c_w => ?_)
    · have hi4 : ¬ i = 5 := fun h => c_w ((hz i (by omega)).mpr h)
      have hE : p_wd tx n p [(4, [108, 105, 101, 115, 32])] F = p_wd tx n p [] (max F (p + i)) := by rw [p_wd, ← hmc]; exact if_neg (fun h => hi4 (hmc.symm.trans h))
      rw [hE]
      obtain ⟨g, hg⟩ : ∃ g, g = max F (p + i) := ⟨_, rfl⟩
      rw [← hg]
      refine e_iload dX9_word_92 rfl ?_
      refine e_iload_n dX9_word_94 rfl ?_
      refine e_icmp_le 103 dX9_word_95 rfl (fun c_f => ?_) (fun c_f => ?_)
      · refine e_iload_n dX9_word_103 rfl ?_
        have c_f := nI_leI (a := p + i) (b := F) (by omega) (by omega) |>.mp c_f
        refine e_weak (lv2 := [some (fx_rf Γ 83), some (.int 20), none, some (.int 4), none, none]) ⟨rfl, rfl, rfl, trivial⟩ ?_
        rw [show F = g by omega]
        exact k104 g (by omega)
      · refine e_iload dX9_word_98 rfl ?_
        refine e_goto 104 dX9_word_100 rfl ?_
        have c_f := mt (nI_leI (a := p + i) (b := F) (by omega) (by omega)).mpr c_f
        refine e_weak (lv2 := [some (fx_rf Γ 83), some (.int 20), none, some (.int 4), none, none]) ⟨rfl, rfl, rfl, trivial⟩ ?_
        rw [show p + i = g by omega]
        exact k104 g (by omega)
    · refine e_aload_n dX9_word_84 rfl ?_
      refine e_iload dX9_word_85 rfl ?_
      refine e_put dX9_word_87 ff_X9_196 rfl (fx_pi_lt (by decide)) (by decide) rfl (Or.inl rfl) ?_
      refine e_iload_n dX9_word_90 rfl ?_
      have hi4 : i = 5 := (hz i (by omega)).mp c_w
      have hpl : p_mc tx n [108, 105, 101, 115, 32] p = 5 := hmc.trans hi4
      have hE : p_wd tx n p [(4, [108, 105, 101, 115, 32])] F = (some 4, p + 5) := by rw [p_wd]; exact if_pos hpl
      exact e_iret dX9_word_91 rfl rfl rfl ⟨by rw [hE]; rfl, (fx_KZ.refl m).sI (by omega), fun w h => ⟨by rw [hE, fx_rd0, hi4], by rw [hE]; show p + 5 ≤ n; omega⟩, fun h => by rw [hE] at h; cases h⟩
  refine e_iload_n dX9_word_9 rfl ?_
  refine e_iconst dX9_word_10 kci_5 ?_
  refine e_icmp_ge 129 dX9_word_11 rfl (fun h => absurd h (by decide)) (fun _ => ?_)
  refine e_aload_n dX9_word_14 rfl ?_
  refine e_getv (v := nI p) dX9_word_15 ff_X9_196 rfl (fx_pi_lt (by decide)) (by decide) rfl q3 ?_
  refine e_istore dX9_word_18 (by decide) rfl ?_
  refine e_iload_n dX9_word_20 rfl ?_
  refine e_istore dX9_word_21 (by decide) rfl ?_
  refine e_weak (lv2 := [some (fx_rf Γ 83), some (.int 20), some (.int (nI F)), some (.int 4), some (.int (nI p)), some (.int 20)]) ⟨rfl, rfl, rfl, rfl, rfl, rfl, trivial⟩ ?_
  refine e_aload_n dX9_word_23 rfl ?_
  refine e_getr (o2 := 106) dX9_word_24 ff_X9_84 rfl (fx_pi_lt (by decide)) (by decide) rfl (hL _ _ _ rfl) ?_
  refine e_iload dX9_word_27 rfl ?_
  refine e_ialdv (j := 20) (v := 108) dX9_word_29 rfl (fx_pi_lt (by decide)) rfl (by decide) (by decide) (W.1 20 (by decide)) ?_
  refine e_if_eq 74 dX9_word_30 rfl (fun h => absurd h (by decide)) (fun _ => ?_)
  refine e_iload dX9_word_33 rfl ?_
  refine e_aload_n dX9_word_35 rfl ?_
  refine e_getv (v := nI n) dX9_word_36 ff_X9_199 rfl (fx_pi_lt (by decide)) (by decide) rfl q2 ?_
  refine e_icmp_ge 74 dX9_word_39 rfl (fun c_e0 => ?_) (fun c_e0 => ?_)
  · have t0 : ¬ p_tc tx n (p) = 108 := by rw [R.tn (fun q => nI_ge (a := p) (b := n) q (by omega) c_e0)]; decide
    exact k74 0 (by decide) (by simp [p_mc, t0])
  · have l0 : p < n := by rcases Nat.lt_or_ge (p) n with h | h; exact h; exact absurd (nI_le h (by omega)) c_e0
    refine e_aload_n dX9_word_42 rfl ?_
    refine e_getr (o2 := 104) dX9_word_43 ff_X9_77 rfl (fx_pi_lt (by decide)) (by decide) rfl (hL _ _ _ rfl) ?_
    refine e_aload_n dX9_word_46 rfl ?_
    refine e_getv (v := nI (160 * k)) dX9_word_47 ff_X9_202 rfl (fx_pi_lt (by decide)) (by decide) rfl q1 ?_
    refine e_iload dX9_word_50 rfl ?_
    refine e_iadd dX9_word_52 ?_
    refine e_lald (j := 160 * k + p) dX9_word_53 rfl (fx_pi_lt (by decide)) (by rw [nI_add]) (by omega) (by decide) ?_
    refine e_l2i dX9_word_54 ?_
    rw [R.tq l0]
    refine e_aload_n dX9_word_55 rfl ?_
    refine e_getr (o2 := 106) dX9_word_56 ff_X9_84 rfl (fx_pi_lt (by decide)) (by decide) rfl (hL _ _ _ rfl) ?_
    refine e_iload dX9_word_59 rfl ?_
    refine e_ialdv (j := 20) (v := 108) dX9_word_61 rfl (fx_pi_lt (by decide)) rfl (by decide) (by decide) (W.1 20 (by decide)) ?_
    refine e_icmp_ne 74 dX9_word_62 rfl (fun c_m0 => ?_) (fun c_m0 => ?_)
    · have t0 : ¬ p_tc tx n (p) = 108 := c_m0
      exact k74 0 (by decide) (by simp [p_mc, t0])
    · refine e_iinc (v := nI (p + 1)) dX9_word_65 rfl (fx_inc _) (by decide) rfl ?_
      refine e_iinc (v := 21) dX9_word_68 rfl (by decide) (by decide) rfl ?_
      refine e_goto 23 dX9_word_71 rfl ?_
      refine e_weak (lv2 := [some (fx_rf Γ 83), some (.int 20), some (.int (nI F)), some (.int 4), some (.int (nI (p + 1))), some (.int 21)]) ⟨rfl, rfl, rfl, rfl, rfl, rfl, trivial⟩ ?_
      refine e_aload_n dX9_word_23 rfl ?_
      refine e_getr (o2 := 106) dX9_word_24 ff_X9_84 rfl (fx_pi_lt (by decide)) (by decide) rfl (hL _ _ _ rfl) ?_
      refine e_iload dX9_word_27 rfl ?_
      refine e_ialdv (j := 21) (v := 105) dX9_word_29 rfl (fx_pi_lt (by decide)) rfl (by decide) (by decide) (W.1 21 (by decide)) ?_
      refine e_if_eq 74 dX9_word_30 rfl (fun h => absurd h (by decide)) (fun _ => ?_)
      refine e_iload dX9_word_33 rfl ?_
      refine e_aload_n dX9_word_35 rfl ?_
      refine e_getv (v := nI n) dX9_word_36 ff_X9_199 rfl (fx_pi_lt (by decide)) (by decide) rfl q2 ?_
      refine e_icmp_ge 74 dX9_word_39 rfl (fun c_e1 => ?_) (fun c_e1 => ?_)
      · have t0 : p_tc tx n (p) = 108 := c_m0
        have t1 : ¬ p_tc tx n (p + 1) = 105 := by rw [R.tn (fun q => nI_ge (a := p + 1) (b := n) q (by omega) c_e1)]; decide
        exact k74 1 (by decide) (by simp [p_mc, t0, t1])
      · have l1 : p + 1 < n := by rcases Nat.lt_or_ge (p + 1) n with h | h; exact h; exact absurd (nI_le h (by omega)) c_e1
        refine e_aload_n dX9_word_42 rfl ?_
        refine e_getr (o2 := 104) dX9_word_43 ff_X9_77 rfl (fx_pi_lt (by decide)) (by decide) rfl (hL _ _ _ rfl) ?_
        refine e_aload_n dX9_word_46 rfl ?_
        refine e_getv (v := nI (160 * k)) dX9_word_47 ff_X9_202 rfl (fx_pi_lt (by decide)) (by decide) rfl q1 ?_
        refine e_iload dX9_word_50 rfl ?_
        refine e_iadd dX9_word_52 ?_
        refine e_lald (j := 160 * k + (p + 1)) dX9_word_53 rfl (fx_pi_lt (by decide)) (by rw [nI_add]) (by omega) (by decide) ?_
        refine e_l2i dX9_word_54 ?_
        rw [R.tq l1]
        refine e_aload_n dX9_word_55 rfl ?_
        refine e_getr (o2 := 106) dX9_word_56 ff_X9_84 rfl (fx_pi_lt (by decide)) (by decide) rfl (hL _ _ _ rfl) ?_
        refine e_iload dX9_word_59 rfl ?_
        refine e_ialdv (j := 21) (v := 105) dX9_word_61 rfl (fx_pi_lt (by decide)) rfl (by decide) (by decide) (W.1 21 (by decide)) ?_
        refine e_icmp_ne 74 dX9_word_62 rfl (fun c_m1 => ?_) (fun c_m1 => ?_)
        · have t0 : p_tc tx n (p) = 108 := c_m0
          have t1 : ¬ p_tc tx n (p + 1) = 105 := c_m1
          exact k74 1 (by decide) (by simp [p_mc, t0, t1])
        · refine e_iinc (v := nI ((p + 1) + 1)) dX9_word_65 rfl (fx_inc _) (by decide) rfl ?_
          refine e_iinc (v := 22) dX9_word_68 rfl (by decide) (by decide) rfl ?_
          refine e_goto 23 dX9_word_71 rfl ?_
          refine e_weak (lv2 := [some (fx_rf Γ 83), some (.int 20), some (.int (nI F)), some (.int 4), some (.int (nI ((p + 1) + 1))), some (.int 22)]) ⟨rfl, rfl, rfl, rfl, rfl, rfl, trivial⟩ ?_
          refine e_aload_n dX9_word_23 rfl ?_
          refine e_getr (o2 := 106) dX9_word_24 ff_X9_84 rfl (fx_pi_lt (by decide)) (by decide) rfl (hL _ _ _ rfl) ?_
          refine e_iload dX9_word_27 rfl ?_
          refine e_ialdv (j := 22) (v := 101) dX9_word_29 rfl (fx_pi_lt (by decide)) rfl (by decide) (by decide) (W.1 22 (by decide)) ?_
          refine e_if_eq 74 dX9_word_30 rfl (fun h => absurd h (by decide)) (fun _ => ?_)
          refine e_iload dX9_word_33 rfl ?_
          refine e_aload_n dX9_word_35 rfl ?_
          refine e_getv (v := nI n) dX9_word_36 ff_X9_199 rfl (fx_pi_lt (by decide)) (by decide) rfl q2 ?_
          refine e_icmp_ge 74 dX9_word_39 rfl (fun c_e2 => ?_) (fun c_e2 => ?_)
          · have t0 : p_tc tx n (p) = 108 := c_m0
            have t1 : p_tc tx n (p + 1) = 105 := c_m1
            have t2 : ¬ p_tc tx n (p + 1 + 1) = 101 := by rw [R.tn (fun q => nI_ge (a := p + 1 + 1) (b := n) q (by omega) c_e2)]; decide
            exact k74 2 (by decide) (by simp [p_mc, t0, t1, t2])
          · have l2 : (p + 1) + 1 < n := by rcases Nat.lt_or_ge ((p + 1) + 1) n with h | h; exact h; exact absurd (nI_le h (by omega)) c_e2
            refine e_aload_n dX9_word_42 rfl ?_
            refine e_getr (o2 := 104) dX9_word_43 ff_X9_77 rfl (fx_pi_lt (by decide)) (by decide) rfl (hL _ _ _ rfl) ?_
            refine e_aload_n dX9_word_46 rfl ?_
            refine e_getv (v := nI (160 * k)) dX9_word_47 ff_X9_202 rfl (fx_pi_lt (by decide)) (by decide) rfl q1 ?_
            refine e_iload dX9_word_50 rfl ?_
            refine e_iadd dX9_word_52 ?_
            refine e_lald (j := 160 * k + ((p + 1) + 1)) dX9_word_53 rfl (fx_pi_lt (by decide)) (by rw [nI_add]) (by omega) (by decide) ?_
            refine e_l2i dX9_word_54 ?_
            rw [R.tq l2]
            refine e_aload_n dX9_word_55 rfl ?_
            refine e_getr (o2 := 106) dX9_word_56 ff_X9_84 rfl (fx_pi_lt (by decide)) (by decide) rfl (hL _ _ _ rfl) ?_
            refine e_iload dX9_word_59 rfl ?_
            refine e_ialdv (j := 22) (v := 101) dX9_word_61 rfl (fx_pi_lt (by decide)) rfl (by decide) (by decide) (W.1 22 (by decide)) ?_
            refine e_icmp_ne 74 dX9_word_62 rfl (fun c_m2 => ?_) (fun c_m2 => ?_)
            · have t0 : p_tc tx n (p) = 108 := c_m0
              have t1 : p_tc tx n (p + 1) = 105 := c_m1
              have t2 : ¬ p_tc tx n (p + 1 + 1) = 101 := c_m2
              exact k74 2 (by decide) (by simp [p_mc, t0, t1, t2])
            · refine e_iinc (v := nI (((p + 1) + 1) + 1)) dX9_word_65 rfl (fx_inc _) (by decide) rfl ?_
              refine e_iinc (v := 23) dX9_word_68 rfl (by decide) (by decide) rfl ?_
              refine e_goto 23 dX9_word_71 rfl ?_
              refine e_weak (lv2 := [some (fx_rf Γ 83), some (.int 20), some (.int (nI F)), some (.int 4), some (.int (nI (((p + 1) + 1) + 1))), some (.int 23)]) ⟨rfl, rfl, rfl, rfl, rfl, rfl, trivial⟩ ?_
              refine e_aload_n dX9_word_23 rfl ?_
              refine e_getr (o2 := 106) dX9_word_24 ff_X9_84 rfl (fx_pi_lt (by decide)) (by decide) rfl (hL _ _ _ rfl) ?_
              refine e_iload dX9_word_27 rfl ?_
              refine e_ialdv (j := 23) (v := 115) dX9_word_29 rfl (fx_pi_lt (by decide)) rfl (by decide) (by decide) (W.1 23 (by decide)) ?_
              refine e_if_eq 74 dX9_word_30 rfl (fun h => absurd h (by decide)) (fun _ => ?_)
              refine e_iload dX9_word_33 rfl ?_
              refine e_aload_n dX9_word_35 rfl ?_
              refine e_getv (v := nI n) dX9_word_36 ff_X9_199 rfl (fx_pi_lt (by decide)) (by decide) rfl q2 ?_
              refine e_icmp_ge 74 dX9_word_39 rfl (fun c_e3 => ?_) (fun c_e3 => ?_)
              · have t0 : p_tc tx n (p) = 108 := c_m0
                have t1 : p_tc tx n (p + 1) = 105 := c_m1
                have t2 : p_tc tx n (p + 1 + 1) = 101 := c_m2
                have t3 : ¬ p_tc tx n (p + 1 + 1 + 1) = 115 := by rw [R.tn (fun q => nI_ge (a := p + 1 + 1 + 1) (b := n) q (by omega) c_e3)]; decide
                exact k74 3 (by decide) (by simp [p_mc, t0, t1, t2, t3])
              · have l3 : ((p + 1) + 1) + 1 < n := by rcases Nat.lt_or_ge (((p + 1) + 1) + 1) n with h | h; exact h; exact absurd (nI_le h (by omega)) c_e3
                refine e_aload_n dX9_word_42 rfl ?_
                refine e_getr (o2 := 104) dX9_word_43 ff_X9_77 rfl (fx_pi_lt (by decide)) (by decide) rfl (hL _ _ _ rfl) ?_
                refine e_aload_n dX9_word_46 rfl ?_
                refine e_getv (v := nI (160 * k)) dX9_word_47 ff_X9_202 rfl (fx_pi_lt (by decide)) (by decide) rfl q1 ?_
                refine e_iload dX9_word_50 rfl ?_
                refine e_iadd dX9_word_52 ?_
                refine e_lald (j := 160 * k + (((p + 1) + 1) + 1)) dX9_word_53 rfl (fx_pi_lt (by decide)) (by rw [nI_add]) (by omega) (by decide) ?_
                refine e_l2i dX9_word_54 ?_
                rw [R.tq l3]
                refine e_aload_n dX9_word_55 rfl ?_
                refine e_getr (o2 := 106) dX9_word_56 ff_X9_84 rfl (fx_pi_lt (by decide)) (by decide) rfl (hL _ _ _ rfl) ?_
                refine e_iload dX9_word_59 rfl ?_
                refine e_ialdv (j := 23) (v := 115) dX9_word_61 rfl (fx_pi_lt (by decide)) rfl (by decide) (by decide) (W.1 23 (by decide)) ?_
                refine e_icmp_ne 74 dX9_word_62 rfl (fun c_m3 => ?_) (fun c_m3 => ?_)
                · have t0 : p_tc tx n (p) = 108 := c_m0
                  have t1 : p_tc tx n (p + 1) = 105 := c_m1
                  have t2 : p_tc tx n (p + 1 + 1) = 101 := c_m2
                  have t3 : ¬ p_tc tx n (p + 1 + 1 + 1) = 115 := c_m3
                  exact k74 3 (by decide) (by simp [p_mc, t0, t1, t2, t3])
                · refine e_iinc (v := nI ((((p + 1) + 1) + 1) + 1)) dX9_word_65 rfl (fx_inc _) (by decide) rfl ?_
                  refine e_iinc (v := 24) dX9_word_68 rfl (by decide) (by decide) rfl ?_
                  refine e_goto 23 dX9_word_71 rfl ?_
                  refine e_weak (lv2 := [some (fx_rf Γ 83), some (.int 20), some (.int (nI F)), some (.int 4), some (.int (nI ((((p + 1) + 1) + 1) + 1))), some (.int 24)]) ⟨rfl, rfl, rfl, rfl, rfl, rfl, trivial⟩ ?_
                  refine e_aload_n dX9_word_23 rfl ?_
                  refine e_getr (o2 := 106) dX9_word_24 ff_X9_84 rfl (fx_pi_lt (by decide)) (by decide) rfl (hL _ _ _ rfl) ?_
                  refine e_iload dX9_word_27 rfl ?_
                  refine e_ialdv (j := 24) (v := 32) dX9_word_29 rfl (fx_pi_lt (by decide)) rfl (by decide) (by decide) (W.1 24 (by decide)) ?_
                  refine e_if_eq 74 dX9_word_30 rfl (fun h => absurd h (by decide)) (fun _ => ?_)
                  refine e_iload dX9_word_33 rfl ?_
                  refine e_aload_n dX9_word_35 rfl ?_
                  refine e_getv (v := nI n) dX9_word_36 ff_X9_199 rfl (fx_pi_lt (by decide)) (by decide) rfl q2 ?_
                  refine e_icmp_ge 74 dX9_word_39 rfl (fun c_e4 => ?_) (fun c_e4 => ?_)
                  · have t0 : p_tc tx n (p) = 108 := c_m0
                    have t1 : p_tc tx n (p + 1) = 105 := c_m1
                    have t2 : p_tc tx n (p + 1 + 1) = 101 := c_m2
                    have t3 : p_tc tx n (p + 1 + 1 + 1) = 115 := c_m3
                    have t4 : ¬ p_tc tx n (p + 1 + 1 + 1 + 1) = 32 := by rw [R.tn (fun q => nI_ge (a := p + 1 + 1 + 1 + 1) (b := n) q (by omega) c_e4)]; decide
                    exact k74 4 (by decide) (by simp [p_mc, t0, t1, t2, t3, t4])
                  · have l4 : (((p + 1) + 1) + 1) + 1 < n := by rcases Nat.lt_or_ge ((((p + 1) + 1) + 1) + 1) n with h | h; exact h; exact absurd (nI_le h (by omega)) c_e4
                    refine e_aload_n dX9_word_42 rfl ?_
                    refine e_getr (o2 := 104) dX9_word_43 ff_X9_77 rfl (fx_pi_lt (by decide)) (by decide) rfl (hL _ _ _ rfl) ?_
                    refine e_aload_n dX9_word_46 rfl ?_
                    refine e_getv (v := nI (160 * k)) dX9_word_47 ff_X9_202 rfl (fx_pi_lt (by decide)) (by decide) rfl q1 ?_
                    refine e_iload dX9_word_50 rfl ?_
                    refine e_iadd dX9_word_52 ?_
                    refine e_lald (j := 160 * k + ((((p + 1) + 1) + 1) + 1)) dX9_word_53 rfl (fx_pi_lt (by decide)) (by rw [nI_add]) (by omega) (by decide) ?_
                    refine e_l2i dX9_word_54 ?_
                    rw [R.tq l4]
                    refine e_aload_n dX9_word_55 rfl ?_
                    refine e_getr (o2 := 106) dX9_word_56 ff_X9_84 rfl (fx_pi_lt (by decide)) (by decide) rfl (hL _ _ _ rfl) ?_
                    refine e_iload dX9_word_59 rfl ?_
                    refine e_ialdv (j := 24) (v := 32) dX9_word_61 rfl (fx_pi_lt (by decide)) rfl (by decide) (by decide) (W.1 24 (by decide)) ?_
                    refine e_icmp_ne 74 dX9_word_62 rfl (fun c_m4 => ?_) (fun c_m4 => ?_)
                    · have t0 : p_tc tx n (p) = 108 := c_m0
                      have t1 : p_tc tx n (p + 1) = 105 := c_m1
                      have t2 : p_tc tx n (p + 1 + 1) = 101 := c_m2
                      have t3 : p_tc tx n (p + 1 + 1 + 1) = 115 := c_m3
                      have t4 : ¬ p_tc tx n (p + 1 + 1 + 1 + 1) = 32 := c_m4
                      exact k74 4 (by decide) (by simp [p_mc, t0, t1, t2, t3, t4])
                    · refine e_iinc (v := nI (((((p + 1) + 1) + 1) + 1) + 1)) dX9_word_65 rfl (fx_inc _) (by decide) rfl ?_
                      refine e_iinc (v := 25) dX9_word_68 rfl (by decide) (by decide) rfl ?_
                      refine e_goto 23 dX9_word_71 rfl ?_
                      refine e_weak (lv2 := [some (fx_rf Γ 83), some (.int 20), some (.int (nI F)), some (.int 4), some (.int (nI (((((p + 1) + 1) + 1) + 1) + 1))), some (.int 25)]) ⟨rfl, rfl, rfl, rfl, rfl, rfl, trivial⟩ ?_
                      refine e_aload_n dX9_word_23 rfl ?_
                      refine e_getr (o2 := 106) dX9_word_24 ff_X9_84 rfl (fx_pi_lt (by decide)) (by decide) rfl (hL _ _ _ rfl) ?_
                      refine e_iload dX9_word_27 rfl ?_
                      refine e_ialdv (j := 25) (v := 0) dX9_word_29 rfl (fx_pi_lt (by decide)) rfl (by decide) (by decide) (W.1 25 (by decide)) ?_
                      refine e_if_eq 74 dX9_word_30 rfl (fun _ => ?_) (fun h => absurd (by decide) h)
                      have t0 : p_tc tx n (p) = 108 := c_m0
                      have t1 : p_tc tx n (p + 1) = 105 := c_m1
                      have t2 : p_tc tx n (p + 1 + 1) = 101 := c_m2
                      have t3 : p_tc tx n (p + 1 + 1 + 1) = 115 := c_m3
                      have t4 : p_tc tx n (p + 1 + 1 + 1 + 1) = 32 := c_m4
                      exact k74 5 (by decide) (by simp [p_mc, t0, t1, t2, t3, t4])
set_option maxRecDepth 100000 in
set_option maxHeartbeats 600000 in
theorem s_X9_word3 {Γ : fx_G} {m : fx_M} (hL : fx_Lay m) {k n p : Nat} {tx : Nat → Int32} (R : fx_MR m k n tx p) (W : fx_WC m) {F : Nat} (hF : F ≤ n) : fx_E Γ mX9_word 0 119 119 (fx_WP n m (p_wd tx n p [(3, [111, 102, 102, 32]), (4, [108, 105, 101, 115, 32])] F)) 119 m 9 [some (fx_rf Γ 83), some (.int 15), some (.int (nI F)), some (.int 3), none, none] [] := by
  obtain ⟨q1, q2, q3, hk, hn, hp, q7⟩ := R
  have R : fx_MR m k n tx p := ⟨q1, q2, q3, hk, hn, hp, q7⟩
  have k104 : ∀ g, g ≤ n → fx_E Γ mX9_word 0 119 119 (fx_WP n m (p_wd tx n p [(4, [108, 105, 101, 115, 32])] g)) 119 m 104 [some (fx_rf Γ 83), some (.int 15), none, some (.int 3), none, none] (.int (nI g) :: []) := by
    intro g hg
    refine e_istore_n dX9_word_104 (by decide) rfl ?_
    refine e_weak (lv2 := [some (fx_rf Γ 83), some (.int 15), some (.int (nI g)), some (.int 3), none, none]) ⟨rfl, rfl, rfl, rfl, trivial⟩ ?_
    refine e_aload_n dX9_word_105 rfl ?_
    refine e_getr (o2 := 106) dX9_word_106 ff_X9_84 rfl (fx_pi_lt (by decide)) (by decide) rfl (hL _ _ _ rfl) ?_
    refine e_iload_n dX9_word_109 rfl ?_
    refine e_ialdv (j := 15) (v := 111) dX9_word_110 rfl (fx_pi_lt (by decide)) rfl (by decide) (by decide) (W.1 15 (by decide)) ?_
    refine e_if_eq 120 dX9_word_111 rfl (fun h => absurd h (by decide)) (fun _ => ?_)
    refine e_iinc (v := 16) dX9_word_114 rfl (by decide) (by decide) rfl ?_
    refine e_goto 105 dX9_word_117 rfl ?_
    refine e_weak (lv2 := [some (fx_rf Γ 83), some (.int 16), some (.int (nI g)), some (.int 3), none, none]) ⟨rfl, rfl, rfl, rfl, trivial⟩ ?_
    refine e_aload_n dX9_word_105 rfl ?_
    refine e_getr (o2 := 106) dX9_word_106 ff_X9_84 rfl (fx_pi_lt (by decide)) (by decide) rfl (hL _ _ _ rfl) ?_
    refine e_iload_n dX9_word_109 rfl ?_
    refine e_ialdv (j := 16) (v := 102) dX9_word_110 rfl (fx_pi_lt (by decide)) rfl (by decide) (by decide) (W.1 16 (by decide)) ?_
    refine e_if_eq 120 dX9_word_111 rfl (fun h => absurd h (by decide)) (fun _ => ?_)
    refine e_iinc (v := 17) dX9_word_114 rfl (by decide) (by decide) rfl ?_
    refine e_goto 105 dX9_word_117 rfl ?_
    refine e_weak (lv2 := [some (fx_rf Γ 83), some (.int 17), some (.int (nI g)), some (.int 3), none, none]) ⟨rfl, rfl, rfl, rfl, trivial⟩ ?_
    refine e_aload_n dX9_word_105 rfl ?_
    refine e_getr (o2 := 106) dX9_word_106 ff_X9_84 rfl (fx_pi_lt (by decide)) (by decide) rfl (hL _ _ _ rfl) ?_
    refine e_iload_n dX9_word_109 rfl ?_
    refine e_ialdv (j := 17) (v := 102) dX9_word_110 rfl (fx_pi_lt (by decide)) rfl (by decide) (by decide) (W.1 17 (by decide)) ?_
    refine e_if_eq 120 dX9_word_111 rfl (fun h => absurd h (by decide)) (fun _ => ?_)
    refine e_iinc (v := 18) dX9_word_114 rfl (by decide) (by decide) rfl ?_
    refine e_goto 105 dX9_word_117 rfl ?_
    refine e_weak (lv2 := [some (fx_rf Γ 83), some (.int 18), some (.int (nI g)), some (.int 3), none, none]) ⟨rfl, rfl, rfl, rfl, trivial⟩ ?_
    refine e_aload_n dX9_word_105 rfl ?_
    refine e_getr (o2 := 106) dX9_word_106 ff_X9_84 rfl (fx_pi_lt (by decide)) (by decide) rfl (hL _ _ _ rfl) ?_
    refine e_iload_n dX9_word_109 rfl ?_
    refine e_ialdv (j := 18) (v := 32) dX9_word_110 rfl (fx_pi_lt (by decide)) rfl (by decide) (by decide) (W.1 18 (by decide)) ?_
    refine e_if_eq 120 dX9_word_111 rfl (fun h => absurd h (by decide)) (fun _ => ?_)
    refine e_iinc (v := 19) dX9_word_114 rfl (by decide) (by decide) rfl ?_
    refine e_goto 105 dX9_word_117 rfl ?_
    refine e_weak (lv2 := [some (fx_rf Γ 83), some (.int 19), some (.int (nI g)), some (.int 3), none, none]) ⟨rfl, rfl, rfl, rfl, trivial⟩ ?_
    refine e_aload_n dX9_word_105 rfl ?_
    refine e_getr (o2 := 106) dX9_word_106 ff_X9_84 rfl (fx_pi_lt (by decide)) (by decide) rfl (hL _ _ _ rfl) ?_
    refine e_iload_n dX9_word_109 rfl ?_
    refine e_ialdv (j := 19) (v := 0) dX9_word_110 rfl (fx_pi_lt (by decide)) rfl (by decide) (by decide) (W.1 19 (by decide)) ?_
    refine e_if_eq 120 dX9_word_111 rfl (fun _ => ?_) (fun h => absurd (by decide) h)
    refine e_iinc (v := 20) dX9_word_120 rfl (by decide) (by decide) rfl ?_
    refine e_iinc (v := 4) dX9_word_123 rfl (by decide) (by decide) rfl ?_
    refine e_goto 9 dX9_word_126 rfl ?_
    refine e_weak (lv2 := [some (fx_rf Γ 83), some (.int 20), some (.int (nI g)), some (.int 4), none, none]) ⟨rfl, rfl, rfl, rfl, trivial⟩ ?_
    exact s_X9_word4 hL R W hg
  have hz : ∀ i, i < 5 → (p_WT (15 + i) = 0 ↔ i = 4) := by decide
  have k74 : ∀ i, i ≤ 4 → p_mc tx n [111, 102, 102, 32] p = i → fx_E Γ mX9_word 0 119 119 (fx_WP n m (p_wd tx n p [(3, [111, 102, 102, 32]), (4, [108, 105, 101, 115, 32])] F)) 119 m 74 [some (fx_rf Γ 83), some (.int 15), some (.int (nI F)), some (.int 3), some (.int (nI (p + i))), some (.int (nI (15 + i)))] [] := by
    intro i hi hmc
    have hpi : p + i ≤ n := by rw [← hmc]; exact p_mc_n tx n [111, 102, 102, 32] p hp (by decide)
    refine e_aload_n dX9_word_74 rfl ?_
    refine e_getr (o2 := 106) dX9_word_75 ff_X9_84 rfl (fx_pi_lt (by decide)) (by decide) rfl (hL _ _ _ rfl) ?_
    refine e_iload dX9_word_78 rfl ?_
    refine e_ialdv (j := 15 + i) (v := p_WT (15 + i)) dX9_word_80 rfl (fx_pi_lt (by decide)) rfl (by omega) (by decide) (W.1 _ (by omega)) ?_
    refine e_if_ne 92 dX9_word_81 rfl (fun c_w => ?_) (fun c_w => ?_)
    · have hi4 : ¬ i = 4 := fun h => c_w ((hz i (by omega)).mpr h)
      have hE : p_wd tx n p [(3, [111, 102, 102, 32]), (4, [108, 105, 101, 115, 32])] F = p_wd tx n p [(4, [108, 105, 101, 115, 32])] (max F (p + i)) := by rw [p_wd, ← hmc]; exact if_neg (fun h => hi4 (hmc.symm.trans h))
      rw [hE]
      obtain ⟨g, hg⟩ : ∃ g, g = max F (p + i) := ⟨_, rfl⟩
      rw [← hg]
      refine e_iload dX9_word_92 rfl ?_
      refine e_iload_n dX9_word_94 rfl ?_
      refine e_icmp_le 103 dX9_word_95 rfl (fun c_f => ?_) (fun c_f => ?_)
      · refine e_iload_n dX9_word_103 rfl ?_
        have c_f := nI_leI (a := p + i) (b := F) (by omega) (by omega) |>.mp c_f
        refine e_weak (lv2 := [some (fx_rf Γ 83), some (.int 15), none, some (.int 3), none, none]) ⟨rfl, rfl, rfl, trivial⟩ ?_
        rw [show F = g by omega]
        exact k104 g (by omega)
      · refine e_iload dX9_word_98 rfl ?_
        refine e_goto 104 dX9_word_100 rfl ?_
        have c_f := mt (nI_leI (a := p + i) (b := F) (by omega) (by omega)).mpr c_f
        refine e_weak (lv2 := [some (fx_rf Γ 83), some (.int 15), none, some (.int 3), none, none]) ⟨rfl, rfl, rfl, trivial⟩ ?_
        rw [show p + i = g by omega]
        exact k104 g (by omega)
    · refine e_aload_n dX9_word_84 rfl ?_
      refine e_iload dX9_word_85 rfl ?_
      refine e_put dX9_word_87 ff_X9_196 rfl (fx_pi_lt (by decide)) (by decide) rfl (Or.inl rfl) ?_
      refine e_iload_n dX9_word_90 rfl ?_
      have hi4 : i = 4 := (hz i (by omega)).mp c_w
      have hpl : p_mc tx n [111, 102, 102, 32] p = 4 := hmc.trans hi4
      have hE : p_wd tx n p [(3, [111, 102, 102, 32]), (4, [108, 105, 101, 115, 32])] F = (some 3, p + 4) := by rw [p_wd]; exact if_pos hpl
      exact e_iret dX9_word_91 rfl rfl rfl ⟨by rw [hE]; rfl, (fx_KZ.refl m).sI (by omega), fun w h => ⟨by rw [hE, fx_rd0, hi4], by rw [hE]; show p + 4 ≤ n; omega⟩, fun h => by rw [hE] at h; cases h⟩
  refine e_iload_n dX9_word_9 rfl ?_
  refine e_iconst dX9_word_10 kci_5 ?_
  refine e_icmp_ge 129 dX9_word_11 rfl (fun h => absurd h (by decide)) (fun _ => ?_)
  refine e_aload_n dX9_word_14 rfl ?_
  refine e_getv (v := nI p) dX9_word_15 ff_X9_196 rfl (fx_pi_lt (by decide)) (by decide) rfl q3 ?_
  refine e_istore dX9_word_18 (by decide) rfl ?_
  refine e_iload_n dX9_word_20 rfl ?_
  refine e_istore dX9_word_21 (by decide) rfl ?_
  refine e_weak (lv2 := [some (fx_rf Γ 83), some (.int 15), some (.int (nI F)), some (.int 3), some (.int (nI p)), some (.int 15)]) ⟨rfl, rfl, rfl, rfl, rfl, rfl, trivial⟩ ?_
  refine e_aload_n dX9_word_23 rfl ?_
  refine e_getr (o2 := 106) dX9_word_24 ff_X9_84 rfl (fx_pi_lt (by decide)) (by decide) rfl (hL _ _ _ rfl) ?_
  refine e_iload dX9_word_27 rfl ?_
  refine e_ialdv (j := 15) (v := 111) dX9_word_29 rfl (fx_pi_lt (by decide)) rfl (by decide) (by decide) (W.1 15 (by decide)) ?_
  refine e_if_eq 74 dX9_word_30 rfl (fun h => absurd h (by decide)) (fun _ => ?_)
  refine e_iload dX9_word_33 rfl ?_
  refine e_aload_n dX9_word_35 rfl ?_
  refine e_getv (v := nI n) dX9_word_36 ff_X9_199 rfl (fx_pi_lt (by decide)) (by decide) rfl q2 ?_
  refine e_icmp_ge 74 dX9_word_39 rfl (fun c_e0 => ?_) (fun c_e0 => ?_)
  · have t0 : ¬ p_tc tx n (p) = 111 := by rw [R.tn (fun q => nI_ge (a := p) (b := n) q (by omega) c_e0)]; decide
    exact k74 0 (by decide) (by simp [p_mc, t0])
  · have l0 : p < n := by rcases Nat.lt_or_ge (p) n with h | h; exact h; exact absurd (nI_le h (by omega)) c_e0
    refine e_aload_n dX9_word_42 rfl ?_
    refine e_getr (o2 := 104) dX9_word_43 ff_X9_77 rfl (fx_pi_lt (by decide)) (by decide) rfl (hL _ _ _ rfl) ?_
    refine e_aload_n dX9_word_46 rfl ?_
    refine e_getv (v := nI (160 * k)) dX9_word_47 ff_X9_202 rfl (fx_pi_lt (by decide)) (by decide) rfl q1 ?_
    refine e_iload dX9_word_50 rfl ?_
    refine e_iadd dX9_word_52 ?_
    refine e_lald (j := 160 * k + p) dX9_word_53 rfl (fx_pi_lt (by decide)) (by rw [nI_add]) (by omega) (by decide) ?_
    refine e_l2i dX9_word_54 ?_
    rw [R.tq l0]
    refine e_aload_n dX9_word_55 rfl ?_
    refine e_getr (o2 := 106) dX9_word_56 ff_X9_84 rfl (fx_pi_lt (by decide)) (by decide) rfl (hL _ _ _ rfl) ?_
    refine e_iload dX9_word_59 rfl ?_
    refine e_ialdv (j := 15) (v := 111) dX9_word_61 rfl (fx_pi_lt (by decide)) rfl (by decide) (by decide) (W.1 15 (by decide)) ?_
    refine e_icmp_ne 74 dX9_word_62 rfl (fun c_m0 => ?_) (fun c_m0 => ?_)
    · have t0 : ¬ p_tc tx n (p) = 111 := c_m0
      exact k74 0 (by decide) (by simp [p_mc, t0])
    · refine e_iinc (v := nI (p + 1)) dX9_word_65 rfl (fx_inc _) (by decide) rfl ?_
      refine e_iinc (v := 16) dX9_word_68 rfl (by decide) (by decide) rfl ?_
      refine e_goto 23 dX9_word_71 rfl ?_
      refine e_weak (lv2 := [some (fx_rf Γ 83), some (.int 15), some (.int (nI F)), some (.int 3), some (.int (nI (p + 1))), some (.int 16)]) ⟨rfl, rfl, rfl, rfl, rfl, rfl, trivial⟩ ?_
      refine e_aload_n dX9_word_23 rfl ?_
      refine e_getr (o2 := 106) dX9_word_24 ff_X9_84 rfl (fx_pi_lt (by decide)) (by decide) rfl (hL _ _ _ rfl) ?_
      refine e_iload dX9_word_27 rfl ?_
      refine e_ialdv (j := 16) (v := 102) dX9_word_29 rfl (fx_pi_lt (by decide)) rfl (by decide) (by decide) (W.1 16 (by decide)) ?_
      refine e_if_eq 74 dX9_word_30 rfl (fun h => absurd h (by decide)) (fun _ => ?_)
      refine e_iload dX9_word_33 rfl ?_
      refine e_aload_n dX9_word_35 rfl ?_
      refine e_getv (v := nI n) dX9_word_36 ff_X9_199 rfl (fx_pi_lt (by decide)) (by decide) rfl q2 ?_
      refine e_icmp_ge 74 dX9_word_39 rfl (fun c_e1 => ?_) (fun c_e1 => ?_)
      · have t0 : p_tc tx n (p) = 111 := c_m0
        have t1 : ¬ p_tc tx n (p + 1) = 102 := by rw [R.tn (fun q => nI_ge (a := p + 1) (b := n) q (by omega) c_e1)]; decide
        exact k74 1 (by decide) (by simp [p_mc, t0, t1])
      · have l1 : p + 1 < n := by rcases Nat.lt_or_ge (p + 1) n with h | h; exact h; exact absurd (nI_le h (by omega)) c_e1
        refine e_aload_n dX9_word_42 rfl ?_
        refine e_getr (o2 := 104) dX9_word_43 ff_X9_77 rfl (fx_pi_lt (by decide)) (by decide) rfl (hL _ _ _ rfl) ?_
        refine e_aload_n dX9_word_46 rfl ?_
        refine e_getv (v := nI (160 * k)) dX9_word_47 ff_X9_202 rfl (fx_pi_lt (by decide)) (by decide) rfl q1 ?_
        refine e_iload dX9_word_50 rfl ?_
        refine e_iadd dX9_word_52 ?_
        refine e_lald (j := 160 * k + (p + 1)) dX9_word_53 rfl (fx_pi_lt (by decide)) (by rw [nI_add]) (by omega) (by decide) ?_
        refine e_l2i dX9_word_54 ?_
        rw [R.tq l1]
        refine e_aload_n dX9_word_55 rfl ?_
        refine e_getr (o2 := 106) dX9_word_56 ff_X9_84 rfl (fx_pi_lt (by decide)) (by decide) rfl (hL _ _ _ rfl) ?_
        refine e_iload dX9_word_59 rfl ?_
        refine e_ialdv (j := 16) (v := 102) dX9_word_61 rfl (fx_pi_lt (by decide)) rfl (by decide) (by decide) (W.1 16 (by decide)) ?_
        refine e_icmp_ne 74 dX9_word_62 rfl (fun c_m1 => ?_) (fun c_m1 => ?_)
        · have t0 : p_tc tx n (p) = 111 := c_m0
          have t1 : ¬ p_tc tx n (p + 1) = 102 := c_m1
          exact k74 1 (by decide) (by simp [p_mc, t0, t1])
        · refine e_iinc (v := nI ((p + 1) + 1)) dX9_word_65 rfl (fx_inc _) (by decide) rfl ?_
          refine e_iinc (v := 17) dX9_word_68 rfl (by decide) (by decide) rfl ?_
          refine e_goto 23 dX9_word_71 rfl ?_
          refine e_weak (lv2 := [some (fx_rf Γ 83), some (.int 15), some (.int (nI F)), some (.int 3), some (.int (nI ((p + 1) + 1))), some (.int 17)]) ⟨rfl, rfl, rfl, rfl, rfl, rfl, trivial⟩ ?_
          refine e_aload_n dX9_word_23 rfl ?_
          refine e_getr (o2 := 106) dX9_word_24 ff_X9_84 rfl (fx_pi_lt (by decide)) (by decide) rfl (hL _ _ _ rfl) ?_
          refine e_iload dX9_word_27 rfl ?_
          refine e_ialdv (j := 17) (v := 102) dX9_word_29 rfl (fx_pi_lt (by decide)) rfl (by decide) (by decide) (W.1 17 (by decide)) ?_
          refine e_if_eq 74 dX9_word_30 rfl (fun h => absurd h (by decide)) (fun _ => ?_)
          refine e_iload dX9_word_33 rfl ?_
          refine e_aload_n dX9_word_35 rfl ?_
          refine e_getv (v := nI n) dX9_word_36 ff_X9_199 rfl (fx_pi_lt (by decide)) (by decide) rfl q2 ?_
          refine e_icmp_ge 74 dX9_word_39 rfl (fun c_e2 => ?_) (fun c_e2 => ?_)
          · have t0 : p_tc tx n (p) = 111 := c_m0
            have t1 : p_tc tx n (p + 1) = 102 := c_m1
            have t2 : ¬ p_tc tx n (p + 1 + 1) = 102 := by rw [R.tn (fun q => nI_ge (a := p + 1 + 1) (b := n) q (by omega) c_e2)]; decide
            exact k74 2 (by decide) (by simp [p_mc, t0, t1, t2])
          · have l2 : (p + 1) + 1 < n := by rcases Nat.lt_or_ge ((p + 1) + 1) n with h | h; exact h; exact absurd (nI_le h (by omega)) c_e2
            refine e_aload_n dX9_word_42 rfl ?_
            refine e_getr (o2 := 104) dX9_word_43 ff_X9_77 rfl (fx_pi_lt (by decide)) (by decide) rfl (hL _ _ _ rfl) ?_
            refine e_aload_n dX9_word_46 rfl ?_
            refine e_getv (v := nI (160 * k)) dX9_word_47 ff_X9_202 rfl (fx_pi_lt (by decide)) (by decide) rfl q1 ?_
            refine e_iload dX9_word_50 rfl ?_
            refine e_iadd dX9_word_52 ?_
            refine e_lald (j := 160 * k + ((p + 1) + 1)) dX9_word_53 rfl (fx_pi_lt (by decide)) (by rw [nI_add]) (by omega) (by decide) ?_
            refine e_l2i dX9_word_54 ?_
            rw [R.tq l2]
            refine e_aload_n dX9_word_55 rfl ?_
            refine e_getr (o2 := 106) dX9_word_56 ff_X9_84 rfl (fx_pi_lt (by decide)) (by decide) rfl (hL _ _ _ rfl) ?_
            refine e_iload dX9_word_59 rfl ?_
            refine e_ialdv (j := 17) (v := 102) dX9_word_61 rfl (fx_pi_lt (by decide)) rfl (by decide) (by decide) (W.1 17 (by decide)) ?_
            refine e_icmp_ne 74 dX9_word_62 rfl (fun c_m2 => ?_) (fun c_m2 => ?_)
            · have t0 : p_tc tx n (p) = 111 := c_m0
              have t1 : p_tc tx n (p + 1) = 102 := c_m1
              have t2 : ¬ p_tc tx n (p + 1 + 1) = 102 := c_m2
              exact k74 2 (by decide) (by simp [p_mc, t0, t1, t2])
            · refine e_iinc (v := nI (((p + 1) + 1) + 1)) dX9_word_65 rfl (fx_inc _) (by decide) rfl ?_
              refine e_iinc (v := 18) dX9_word_68 rfl (by decide) (by decide) rfl ?_
              refine e_goto 23 dX9_word_71 rfl ?_
              refine e_weak (lv2 := [some (fx_rf Γ 83), some (.int 15), some (.int (nI F)), some (.int 3), some (.int (nI (((p + 1) + 1) + 1))), some (.int 18)]) ⟨rfl, rfl, rfl, rfl, rfl, rfl, trivial⟩ ?_
              refine e_aload_n dX9_word_23 rfl ?_
              refine e_getr (o2 := 106) dX9_word_24 ff_X9_84 rfl (fx_pi_lt (by decide)) (by decide) rfl (hL _ _ _ rfl) ?_
              refine e_iload dX9_word_27 rfl ?_
              refine e_ialdv (j := 18) (v := 32) dX9_word_29 rfl (fx_pi_lt (by decide)) rfl (by decide) (by decide) (W.1 18 (by decide)) ?_
              refine e_if_eq 74 dX9_word_30 rfl (fun h => absurd h (by decide)) (fun _ => ?_)
              refine e_iload dX9_word_33 rfl ?_
              refine e_aload_n dX9_word_35 rfl ?_
              refine e_getv (v := nI n) dX9_word_36 ff_X9_199 rfl (fx_pi_lt (by decide)) (by decide) rfl q2 ?_
              refine e_icmp_ge 74 dX9_word_39 rfl (fun c_e3 => ?_) (fun c_e3 => ?_)
              · have t0 : p_tc tx n (p) = 111 := c_m0
                have t1 : p_tc tx n (p + 1) = 102 := c_m1
                have t2 : p_tc tx n (p + 1 + 1) = 102 := c_m2
                have t3 : ¬ p_tc tx n (p + 1 + 1 + 1) = 32 := by rw [R.tn (fun q => nI_ge (a := p + 1 + 1 + 1) (b := n) q (by omega) c_e3)]; decide
                exact k74 3 (by decide) (by simp [p_mc, t0, t1, t2, t3])
              · have l3 : ((p + 1) + 1) + 1 < n := by rcases Nat.lt_or_ge (((p + 1) + 1) + 1) n with h | h; exact h; exact absurd (nI_le h (by omega)) c_e3
                refine e_aload_n dX9_word_42 rfl ?_
                refine e_getr (o2 := 104) dX9_word_43 ff_X9_77 rfl (fx_pi_lt (by decide)) (by decide) rfl (hL _ _ _ rfl) ?_
                refine e_aload_n dX9_word_46 rfl ?_
                refine e_getv (v := nI (160 * k)) dX9_word_47 ff_X9_202 rfl (fx_pi_lt (by decide)) (by decide) rfl q1 ?_
                refine e_iload dX9_word_50 rfl ?_
                refine e_iadd dX9_word_52 ?_
                refine e_lald (j := 160 * k + (((p + 1) + 1) + 1)) dX9_word_53 rfl (fx_pi_lt (by decide)) (by rw [nI_add]) (by omega) (by decide) ?_
                refine e_l2i dX9_word_54 ?_
                rw [R.tq l3]
                refine e_aload_n dX9_word_55 rfl ?_
                refine e_getr (o2 := 106) dX9_word_56 ff_X9_84 rfl (fx_pi_lt (by decide)) (by decide) rfl (hL _ _ _ rfl) ?_
                refine e_iload dX9_word_59 rfl ?_
                refine e_ialdv (j := 18) (v := 32) dX9_word_61 rfl (fx_pi_lt (by decide)) rfl (by decide) (by decide) (W.1 18 (by decide)) ?_
                refine e_icmp_ne 74 dX9_word_62 rfl (fun c_m3 => ?_) (fun c_m3 => ?_)
                · have t0 : p_tc tx n (p) = 111 := c_m0
                  have t1 : p_tc tx n (p + 1) = 102 := c_m1
                  have t2 : p_tc tx n (p + 1 + 1) = 102 := c_m2
                  have t3 : ¬ p_tc tx n (p + 1 + 1 + 1) = 32 := c_m3
                  exact k74 3 (by decide) (by simp [p_mc, t0, t1, t2, t3])
                · refine e_iinc (v := nI ((((p + 1) + 1) + 1) + 1)) dX9_word_65 rfl (fx_inc _) (by decide) rfl ?_
                  refine e_iinc (v := 19) dX9_word_68 rfl (by decide) (by decide) rfl ?_
                  refine e_goto 23 dX9_word_71 rfl ?_
                  refine e_weak (lv2 := [some (fx_rf Γ 83), some (.int 15), some (.int (nI F)), some (.int 3), some (.int (nI ((((p + 1) + 1) + 1) + 1))), some (.int 19)]) ⟨rfl, rfl, rfl, rfl, rfl, rfl, trivial⟩ ?_
                  refine e_aload_n dX9_word_23 rfl ?_
                  refine e_getr (o2 := 106) dX9_word_24 ff_X9_84 rfl (fx_pi_lt (by decide)) (by decide) rfl (hL _ _ _ rfl) ?_
                  refine e_iload dX9_word_27 rfl ?_
                  refine e_ialdv (j := 19) (v := 0) dX9_word_29 rfl (fx_pi_lt (by decide)) rfl (by decide) (by decide) (W.1 19 (by decide)) ?_
                  refine e_if_eq 74 dX9_word_30 rfl (fun _ => ?_) (fun h => absurd (by decide) h)
                  have t0 : p_tc tx n (p) = 111 := c_m0
                  have t1 : p_tc tx n (p + 1) = 102 := c_m1
                  have t2 : p_tc tx n (p + 1 + 1) = 102 := c_m2
                  have t3 : p_tc tx n (p + 1 + 1 + 1) = 32 := c_m3
                  exact k74 4 (by decide) (by simp [p_mc, t0, t1, t2, t3])
set_option maxRecDepth 100000 in
set_option maxHeartbeats 600000 in
theorem s_X9_word2 {Γ : fx_G} {m : fx_M} (hL : fx_Lay m) {k n p : Nat} {tx : Nat → Int32} (R : fx_MR m k n tx p) (W : fx_WC m) {F : Nat} (hF : F ≤ n) : fx_E Γ mX9_word 0 119 119 (fx_WP n m (p_wd tx n p [(2, [111, 110, 32]), (3, [111, 102, 102, 32]), (4, [108, 105, 101, 115, 32])] F)) 119 m 9 [some (fx_rf Γ 83), some (.int 11), some (.int (nI F)), some (.int 2), none, none] [] := by
  obtain ⟨q1, q2, q3, hk, hn, hp, q7⟩ := R
  have R : fx_MR m k n tx p := ⟨q1, q2, q3, hk, hn, hp, q7⟩
  have k104 : ∀ g, g ≤ n → fx_E Γ mX9_word 0 119 119 (fx_WP n m (p_wd tx n p [(3, [111, 102, 102, 32]), (4, [108, 105, 101, 115, 32])] g)) 119 m 104 [some (fx_rf Γ 83), some (.int 11), none, some (.int 2), none, none] (.int (nI g) :: []) := by
    intro g hg
    refine e_istore_n dX9_word_104 (by decide) rfl ?_
    refine e_weak (lv2 := [some (fx_rf Γ 83), some (.int 11), some (.int (nI g)), some (.int 2), none, none]) ⟨rfl, rfl, rfl, rfl, trivial⟩ ?_
    refine e_aload_n dX9_word_105 rfl ?_
    refine e_getr (o2 := 106) dX9_word_106 ff_X9_84 rfl (fx_pi_lt (by decide)) (by decide) rfl (hL _ _ _ rfl) ?_
    refine e_iload_n dX9_word_109 rfl ?_
    refine e_ialdv (j := 11) (v := 111) dX9_word_110 rfl (fx_pi_lt (by decide)) rfl (by decide) (by decide) (W.1 11 (by decide)) ?_
    refine e_if_eq 120 dX9_word_111 rfl (fun h => absurd h (by decide)) (fun _ => ?_)
    refine e_iinc (v := 12) dX9_word_114 rfl (by decide) (by decide) rfl ?_
    refine e_goto 105 dX9_word_117 rfl ?_
    refine e_weak (lv2 := [some (fx_rf Γ 83), some (.int 12), some (.int (nI g)), some (.int 2), none, none]) ⟨rfl, rfl, rfl, rfl, trivial⟩ ?_
    refine e_aload_n dX9_word_105 rfl ?_
    refine e_getr (o2 := 106) dX9_word_106 ff_X9_84 rfl (fx_pi_lt (by decide)) (by decide) rfl (hL _ _ _ rfl) ?_
    refine e_iload_n dX9_word_109 rfl ?_
    refine e_ialdv (j := 12) (v := 110) dX9_word_110 rfl (fx_pi_lt (by decide)) rfl (by decide) (by decide) (W.1 12 (by decide)) ?_
    refine e_if_eq 120 dX9_word_111 rfl (fun h => absurd h (by decide)) (fun _ => ?_)
    refine e_iinc (v := 13) dX9_word_114 rfl (by decide) (by decide) rfl ?_
    refine e_goto 105 dX9_word_117 rfl ?_
    refine e_weak (lv2 := [some (fx_rf Γ 83), some (.int 13), some (.int (nI g)), some (.int 2), none, none]) ⟨rfl, rfl, rfl, rfl, trivial⟩ ?_
    refine e_aload_n dX9_word_105 rfl ?_
    refine e_getr (o2 := 106) dX9_word_106 ff_X9_84 rfl (fx_pi_lt (by decide)) (by decide) rfl (hL _ _ _ rfl) ?_
    refine e_iload_n dX9_word_109 rfl ?_
    refine e_ialdv (j := 13) (v := 32) dX9_word_110 rfl (fx_pi_lt (by decide)) rfl (by decide) (by decide) (W.1 13 (by decide)) ?_
    refine e_if_eq 120 dX9_word_111 rfl (fun h => absurd h (by decide)) (fun _ => ?_)
    refine e_iinc (v := 14) dX9_word_114 rfl (by decide) (by decide) rfl ?_
    refine e_goto 105 dX9_word_117 rfl ?_
    refine e_weak (lv2 := [some (fx_rf Γ 83), some (.int 14), some (.int (nI g)), some (.int 2), none, none]) ⟨rfl, rfl, rfl, rfl, trivial⟩ ?_
    refine e_aload_n dX9_word_105 rfl ?_
    refine e_getr (o2 := 106) dX9_word_106 ff_X9_84 rfl (fx_pi_lt (by decide)) (by decide) rfl (hL _ _ _ rfl) ?_
    refine e_iload_n dX9_word_109 rfl ?_
    refine e_ialdv (j := 14) (v := 0) dX9_word_110 rfl (fx_pi_lt (by decide)) rfl (by decide) (by decide) (W.1 14 (by decide)) ?_
    refine e_if_eq 120 dX9_word_111 rfl (fun _ => ?_) (fun h => absurd (by decide) h)
    refine e_iinc (v := 15) dX9_word_120 rfl (by decide) (by decide) rfl ?_
    refine e_iinc (v := 3) dX9_word_123 rfl (by decide) (by decide) rfl ?_
    refine e_goto 9 dX9_word_126 rfl ?_
    refine e_weak (lv2 := [some (fx_rf Γ 83), some (.int 15), some (.int (nI g)), some (.int 3), none, none]) ⟨rfl, rfl, rfl, rfl, trivial⟩ ?_
    exact s_X9_word3 hL R W hg
  have hz : ∀ i, i < 4 → (p_WT (11 + i) = 0 ↔ i = 3) := by decide
  have k74 : ∀ i, i ≤ 3 → p_mc tx n [111, 110, 32] p = i → fx_E Γ mX9_word 0 119 119 (fx_WP n m (p_wd tx n p [(2, [111, 110, 32]), (3, [111, 102, 102, 32]), (4, [108, 105, 101, 115, 32])] F)) 119 m 74 [some (fx_rf Γ 83), some (.int 11), some (.int (nI F)), some (.int 2), some (.int (nI (p + i))), some (.int (nI (11 + i)))] [] := by
    intro i hi hmc
    have hpi : p + i ≤ n := by rw [← hmc]; exact p_mc_n tx n [111, 110, 32] p hp (by decide)
    refine e_aload_n dX9_word_74 rfl ?_
    refine e_getr (o2 := 106) dX9_word_75 ff_X9_84 rfl (fx_pi_lt (by decide)) (by decide) rfl (hL _ _ _ rfl) ?_
    refine e_iload dX9_word_78 rfl ?_
    refine e_ialdv (j := 11 + i) (v := p_WT (11 + i)) dX9_word_80 rfl (fx_pi_lt (by decide)) rfl (by omega) (by decide) (W.1 _ (by omega)) ?_
    refine e_if_ne 92 dX9_word_81 rfl (fun c_w => ?_) (fun c_w => ?_)
    · have hi4 : ¬ i = 3 := fun h => c_w ((hz i (by omega)).mpr h)
      have hE : p_wd tx n p [(2, [111, 110, 32]), (3, [111, 102, 102, 32]), (4, [108, 105, 101, 115, 32])] F = p_wd tx n p [(3, [111, 102, 102, 32]), (4, [108, 105, 101, 115, 32])] (max F (p + i)) := by rw [p_wd, ← hmc]; exact if_neg (fun h => hi4 (hmc.symm.trans h))
      rw [hE]
      obtain ⟨g, hg⟩ : ∃ g, g = max F (p + i) := ⟨_, rfl⟩
      rw [← hg]
      refine e_iload dX9_word_92 rfl ?_
      refine e_iload_n dX9_word_94 rfl ?_
      refine e_icmp_le 103 dX9_word_95 rfl (fun c_f => ?_) (fun c_f => ?_)
      · refine e_iload_n dX9_word_103 rfl ?_
        have c_f := nI_leI (a := p + i) (b := F) (by omega) (by omega) |>.mp c_f
        refine e_weak (lv2 := [some (fx_rf Γ 83), some (.int 11), none, some (.int 2), none, none]) ⟨rfl, rfl, rfl, trivial⟩ ?_
        rw [show F = g by omega]
        exact k104 g (by omega)
      · refine e_iload dX9_word_98 rfl ?_
        refine e_goto 104 dX9_word_100 rfl ?_
        have c_f := mt (nI_leI (a := p + i) (b := F) (by omega) (by omega)).mpr c_f
        refine e_weak (lv2 := [some (fx_rf Γ 83), some (.int 11), none, some (.int 2), none, none]) ⟨rfl, rfl, rfl, trivial⟩ ?_
        rw [show p + i = g by omega]
        exact k104 g (by omega)
    · refine e_aload_n dX9_word_84 rfl ?_
      refine e_iload dX9_word_85 rfl ?_
      refine e_put dX9_word_87 ff_X9_196 rfl (fx_pi_lt (by decide)) (by decide) rfl (Or.inl rfl) ?_
      refine e_iload_n dX9_word_90 rfl ?_
      have hi4 : i = 3 := (hz i (by omega)).mp c_w
      have hpl : p_mc tx n [111, 110, 32] p = 3 := hmc.trans hi4
      have hE : p_wd tx n p [(2, [111, 110, 32]), (3, [111, 102, 102, 32]), (4, [108, 105, 101, 115, 32])] F = (some 2, p + 3) := by rw [p_wd]; exact if_pos hpl
      exact e_iret dX9_word_91 rfl rfl rfl ⟨by rw [hE]; rfl, (fx_KZ.refl m).sI (by omega), fun w h => ⟨by rw [hE, fx_rd0, hi4], by rw [hE]; show p + 3 ≤ n; omega⟩, fun h => by rw [hE] at h; cases h⟩
  refine e_iload_n dX9_word_9 rfl ?_
  refine e_iconst dX9_word_10 kci_5 ?_
  refine e_icmp_ge 129 dX9_word_11 rfl (fun h => absurd h (by decide)) (fun _ => ?_)
  refine e_aload_n dX9_word_14 rfl ?_
  refine e_getv (v := nI p) dX9_word_15 ff_X9_196 rfl (fx_pi_lt (by decide)) (by decide) rfl q3 ?_
  refine e_istore dX9_word_18 (by decide) rfl ?_
  refine e_iload_n dX9_word_20 rfl ?_
  refine e_istore dX9_word_21 (by decide) rfl ?_
  refine e_weak (lv2 := [some (fx_rf Γ 83), some (.int 11), some (.int (nI F)), some (.int 2), some (.int (nI p)), some (.int 11)]) ⟨rfl, rfl, rfl, rfl, rfl, rfl, trivial⟩ ?_
  refine e_aload_n dX9_word_23 rfl ?_
  refine e_getr (o2 := 106) dX9_word_24 ff_X9_84 rfl (fx_pi_lt (by decide)) (by decide) rfl (hL _ _ _ rfl) ?_
  refine e_iload dX9_word_27 rfl ?_
  refine e_ialdv (j := 11) (v := 111) dX9_word_29 rfl (fx_pi_lt (by decide)) rfl (by decide) (by decide) (W.1 11 (by decide)) ?_
  refine e_if_eq 74 dX9_word_30 rfl (fun h => absurd h (by decide)) (fun _ => ?_)
  refine e_iload dX9_word_33 rfl ?_
  refine e_aload_n dX9_word_35 rfl ?_
  refine e_getv (v := nI n) dX9_word_36 ff_X9_199 rfl (fx_pi_lt (by decide)) (by decide) rfl q2 ?_
  refine e_icmp_ge 74 dX9_word_39 rfl (fun c_e0 => ?_) (fun c_e0 => ?_)
  · have t0 : ¬ p_tc tx n (p) = 111 := by rw [R.tn (fun q => nI_ge (a := p) (b := n) q (by omega) c_e0)]; decide
    exact k74 0 (by decide) (by simp [p_mc, t0])
  · have l0 : p < n := by rcases Nat.lt_or_ge (p) n with h | h; exact h; exact absurd (nI_le h (by omega)) c_e0
    refine e_aload_n dX9_word_42 rfl ?_
    refine e_getr (o2 := 104) dX9_word_43 ff_X9_77 rfl (fx_pi_lt (by decide)) (by decide) rfl (hL _ _ _ rfl) ?_
    refine e_aload_n dX9_word_46 rfl ?_
    refine e_getv (v := nI (160 * k)) dX9_word_47 ff_X9_202 rfl (fx_pi_lt (by decide)) (by decide) rfl q1 ?_
    refine e_iload dX9_word_50 rfl ?_
    refine e_iadd dX9_word_52 ?_
    refine e_lald (j := 160 * k + p) dX9_word_53 rfl (fx_pi_lt (by decide)) (by rw [nI_add]) (by omega) (by decide) ?_
    refine e_l2i dX9_word_54 ?_
    rw [R.tq l0]
    refine e_aload_n dX9_word_55 rfl ?_
    refine e_getr (o2 := 106) dX9_word_56 ff_X9_84 rfl (fx_pi_lt (by decide)) (by decide) rfl (hL _ _ _ rfl) ?_
    refine e_iload dX9_word_59 rfl ?_
    refine e_ialdv (j := 11) (v := 111) dX9_word_61 rfl (fx_pi_lt (by decide)) rfl (by decide) (by decide) (W.1 11 (by decide)) ?_
    refine e_icmp_ne 74 dX9_word_62 rfl (fun c_m0 => ?_) (fun c_m0 => ?_)
    · have t0 : ¬ p_tc tx n (p) = 111 := c_m0
      exact k74 0 (by decide) (by simp [p_mc, t0])
    · refine e_iinc (v := nI (p + 1)) dX9_word_65 rfl (fx_inc _) (by decide) rfl ?_
      refine e_iinc (v := 12) dX9_word_68 rfl (by decide) (by decide) rfl ?_
      refine e_goto 23 dX9_word_71 rfl ?_
      refine e_weak (lv2 := [some (fx_rf Γ 83), some (.int 11), some (.int (nI F)), some (.int 2), some (.int (nI (p + 1))), some (.int 12)]) ⟨rfl, rfl, rfl, rfl, rfl, rfl, trivial⟩ ?_
      refine e_aload_n dX9_word_23 rfl ?_
      refine e_getr (o2 := 106) dX9_word_24 ff_X9_84 rfl (fx_pi_lt (by decide)) (by decide) rfl (hL _ _ _ rfl) ?_
      refine e_iload dX9_word_27 rfl ?_
      refine e_ialdv (j := 12) (v := 110) dX9_word_29 rfl (fx_pi_lt (by decide)) rfl (by decide) (by decide) (W.1 12 (by decide)) ?_
      refine e_if_eq 74 dX9_word_30 rfl (fun h => absurd h (by decide)) (fun _ => ?_)
      refine e_iload dX9_word_33 rfl ?_
      refine e_aload_n dX9_word_35 rfl ?_
      refine e_getv (v := nI n) dX9_word_36 ff_X9_199 rfl (fx_pi_lt (by decide)) (by decide) rfl q2 ?_
      refine e_icmp_ge 74 dX9_word_39 rfl (fun c_e1 => ?_) (fun c_e1 => ?_)
      · have t0 : p_tc tx n (p) = 111 := c_m0
        have t1 : ¬ p_tc tx n (p + 1) = 110 := by rw [R.tn (fun q => nI_ge (a := p + 1) (b := n) q (by omega) c_e1)]; decide
        exact k74 1 (by decide) (by simp [p_mc, t0, t1])
      · have l1 : p + 1 < n := by rcases Nat.lt_or_ge (p + 1) n with h | h; exact h; exact absurd (nI_le h (by omega)) c_e1
        refine e_aload_n dX9_word_42 rfl ?_
        refine e_getr (o2 := 104) dX9_word_43 ff_X9_77 rfl (fx_pi_lt (by decide)) (by decide) rfl (hL _ _ _ rfl) ?_
        refine e_aload_n dX9_word_46 rfl ?_
        refine e_getv (v := nI (160 * k)) dX9_word_47 ff_X9_202 rfl (fx_pi_lt (by decide)) (by decide) rfl q1 ?_
        refine e_iload dX9_word_50 rfl ?_
        refine e_iadd dX9_word_52 ?_
        refine e_lald (j := 160 * k + (p + 1)) dX9_word_53 rfl (fx_pi_lt (by decide)) (by rw [nI_add]) (by omega) (by decide) ?_
        refine e_l2i dX9_word_54 ?_
        rw [R.tq l1]
        refine e_aload_n dX9_word_55 rfl ?_
        refine e_getr (o2 := 106) dX9_word_56 ff_X9_84 rfl (fx_pi_lt (by decide)) (by decide) rfl (hL _ _ _ rfl) ?_
        refine e_iload dX9_word_59 rfl ?_
        refine e_ialdv (j := 12) (v := 110) dX9_word_61 rfl (fx_pi_lt (by decide)) rfl (by decide) (by decide) (W.1 12 (by decide)) ?_
        refine e_icmp_ne 74 dX9_word_62 rfl (fun c_m1 => ?_) (fun c_m1 => ?_)
        · have t0 : p_tc tx n (p) = 111 := c_m0
          have t1 : ¬ p_tc tx n (p + 1) = 110 := c_m1
          exact k74 1 (by decide) (by simp [p_mc, t0, t1])
        · refine e_iinc (v := nI ((p + 1) + 1)) dX9_word_65 rfl (fx_inc _) (by decide) rfl ?_
          refine e_iinc (v := 13) dX9_word_68 rfl (by decide) (by decide) rfl ?_
          refine e_goto 23 dX9_word_71 rfl ?_
          refine e_weak (lv2 := [some (fx_rf Γ 83), some (.int 11), some (.int (nI F)), some (.int 2), some (.int (nI ((p + 1) + 1))), some (.int 13)]) ⟨rfl, rfl, rfl, rfl, rfl, rfl, trivial⟩ ?_
          refine e_aload_n dX9_word_23 rfl ?_
          refine e_getr (o2 := 106) dX9_word_24 ff_X9_84 rfl (fx_pi_lt (by decide)) (by decide) rfl (hL _ _ _ rfl) ?_
          refine e_iload dX9_word_27 rfl ?_
          refine e_ialdv (j := 13) (v := 32) dX9_word_29 rfl (fx_pi_lt (by decide)) rfl (by decide) (by decide) (W.1 13 (by decide)) ?_
          refine e_if_eq 74 dX9_word_30 rfl (fun h => absurd h (by decide)) (fun _ => ?_)
          refine e_iload dX9_word_33 rfl ?_
          refine e_aload_n dX9_word_35 rfl ?_
          refine e_getv (v := nI n) dX9_word_36 ff_X9_199 rfl (fx_pi_lt (by decide)) (by decide) rfl q2 ?_
          refine e_icmp_ge 74 dX9_word_39 rfl (fun c_e2 => ?_) (fun c_e2 => ?_)
          · have t0 : p_tc tx n (p) = 111 := c_m0
            have t1 : p_tc tx n (p + 1) = 110 := c_m1
            have t2 : ¬ p_tc tx n (p + 1 + 1) = 32 := by rw [R.tn (fun q => nI_ge (a := p + 1 + 1) (b := n) q (by omega) c_e2)]; decide
            exact k74 2 (by decide) (by simp [p_mc, t0, t1, t2])
          · have l2 : (p + 1) + 1 < n := by rcases Nat.lt_or_ge ((p + 1) + 1) n with h | h; exact h; exact absurd (nI_le h (by omega)) c_e2
            refine e_aload_n dX9_word_42 rfl ?_
            refine e_getr (o2 := 104) dX9_word_43 ff_X9_77 rfl (fx_pi_lt (by decide)) (by decide) rfl (hL _ _ _ rfl) ?_
            refine e_aload_n dX9_word_46 rfl ?_
            refine e_getv (v := nI (160 * k)) dX9_word_47 ff_X9_202 rfl (fx_pi_lt (by decide)) (by decide) rfl q1 ?_
            refine e_iload dX9_word_50 rfl ?_
            refine e_iadd dX9_word_52 ?_
            refine e_lald (j := 160 * k + ((p + 1) + 1)) dX9_word_53 rfl (fx_pi_lt (by decide)) (by rw [nI_add]) (by omega) (by decide) ?_
            refine e_l2i dX9_word_54 ?_
            rw [R.tq l2]
            refine e_aload_n dX9_word_55 rfl ?_
            refine e_getr (o2 := 106) dX9_word_56 ff_X9_84 rfl (fx_pi_lt (by decide)) (by decide) rfl (hL _ _ _ rfl) ?_
            refine e_iload dX9_word_59 rfl ?_
            refine e_ialdv (j := 13) (v := 32) dX9_word_61 rfl (fx_pi_lt (by decide)) rfl (by decide) (by decide) (W.1 13 (by decide)) ?_
            refine e_icmp_ne 74 dX9_word_62 rfl (fun c_m2 => ?_) (fun c_m2 => ?_)
            · have t0 : p_tc tx n (p) = 111 := c_m0
              have t1 : p_tc tx n (p + 1) = 110 := c_m1
              have t2 : ¬ p_tc tx n (p + 1 + 1) = 32 := c_m2
              exact k74 2 (by decide) (by simp [p_mc, t0, t1, t2])
            · refine e_iinc (v := nI (((p + 1) + 1) + 1)) dX9_word_65 rfl (fx_inc _) (by decide) rfl ?_
              refine e_iinc (v := 14) dX9_word_68 rfl (by decide) (by decide) rfl ?_
              refine e_goto 23 dX9_word_71 rfl ?_
              refine e_weak (lv2 := [some (fx_rf Γ 83), some (.int 11), some (.int (nI F)), some (.int 2), some (.int (nI (((p + 1) + 1) + 1))), some (.int 14)]) ⟨rfl, rfl, rfl, rfl, rfl, rfl, trivial⟩ ?_
              refine e_aload_n dX9_word_23 rfl ?_
              refine e_getr (o2 := 106) dX9_word_24 ff_X9_84 rfl (fx_pi_lt (by decide)) (by decide) rfl (hL _ _ _ rfl) ?_
              refine e_iload dX9_word_27 rfl ?_
              refine e_ialdv (j := 14) (v := 0) dX9_word_29 rfl (fx_pi_lt (by decide)) rfl (by decide) (by decide) (W.1 14 (by decide)) ?_
              refine e_if_eq 74 dX9_word_30 rfl (fun _ => ?_) (fun h => absurd (by decide) h)
              have t0 : p_tc tx n (p) = 111 := c_m0
              have t1 : p_tc tx n (p + 1) = 110 := c_m1
              have t2 : p_tc tx n (p + 1 + 1) = 32 := c_m2
              exact k74 3 (by decide) (by simp [p_mc, t0, t1, t2])
set_option maxRecDepth 100000 in
set_option maxHeartbeats 600000 in
theorem s_X9_word1 {Γ : fx_G} {m : fx_M} (hL : fx_Lay m) {k n p : Nat} {tx : Nat → Int32} (R : fx_MR m k n tx p) (W : fx_WC m) {F : Nat} (hF : F ≤ n) : fx_E Γ mX9_word 0 119 119 (fx_WP n m (p_wd tx n p [(1, [100, 111, 108, 108, 32]), (2, [111, 110, 32]), (3, [111, 102, 102, 32]), (4, [108, 105, 101, 115, 32])] F)) 119 m 9 [some (fx_rf Γ 83), some (.int 5), some (.int (nI F)), some (.int 1), none, none] [] := by
  obtain ⟨q1, q2, q3, hk, hn, hp, q7⟩ := R
  have R : fx_MR m k n tx p := ⟨q1, q2, q3, hk, hn, hp, q7⟩
  have k104 : ∀ g, g ≤ n → fx_E Γ mX9_word 0 119 119 (fx_WP n m (p_wd tx n p [(2, [111, 110, 32]), (3, [111, 102, 102, 32]), (4, [108, 105, 101, 115, 32])] g)) 119 m 104 [some (fx_rf Γ 83), some (.int 5), none, some (.int 1), none, none] (.int (nI g) :: []) := by
    intro g hg
    refine e_istore_n dX9_word_104 (by decide) rfl ?_
    refine e_weak (lv2 := [some (fx_rf Γ 83), some (.int 5), some (.int (nI g)), some (.int 1), none, none]) ⟨rfl, rfl, rfl, rfl, trivial⟩ ?_
    refine e_aload_n dX9_word_105 rfl ?_
    refine e_getr (o2 := 106) dX9_word_106 ff_X9_84 rfl (fx_pi_lt (by decide)) (by decide) rfl (hL _ _ _ rfl) ?_
    refine e_iload_n dX9_word_109 rfl ?_
    refine e_ialdv (j := 5) (v := 100) dX9_word_110 rfl (fx_pi_lt (by decide)) rfl (by decide) (by decide) (W.1 5 (by decide)) ?_
    refine e_if_eq 120 dX9_word_111 rfl (fun h => absurd h (by decide)) (fun _ => ?_)
    refine e_iinc (v := 6) dX9_word_114 rfl (by decide) (by decide) rfl ?_
    refine e_goto 105 dX9_word_117 rfl ?_
    refine e_weak (lv2 := [some (fx_rf Γ 83), some (.int 6), some (.int (nI g)), some (.int 1), none, none]) ⟨rfl, rfl, rfl, rfl, trivial⟩ ?_
    refine e_aload_n dX9_word_105 rfl ?_
    refine e_getr (o2 := 106) dX9_word_106 ff_X9_84 rfl (fx_pi_lt (by decide)) (by decide) rfl (hL _ _ _ rfl) ?_
    refine e_iload_n dX9_word_109 rfl ?_
    refine e_ialdv (j := 6) (v := 111) dX9_word_110 rfl (fx_pi_lt (by decide)) rfl (by decide) (by decide) (W.1 6 (by decide)) ?_
    refine e_if_eq 120 dX9_word_111 rfl (fun h => absurd h (by decide)) (fun _ => ?_)
    refine e_iinc (v := 7) dX9_word_114 rfl (by decide) (by decide) rfl ?_
    refine e_goto 105 dX9_word_117 rfl ?_
    refine e_weak (lv2 := [some (fx_rf Γ 83), some (.int 7), some (.int (nI g)), some (.int 1), none, none]) ⟨rfl, rfl, rfl, rfl, trivial⟩ ?_
    refine e_aload_n dX9_word_105 rfl ?_
    refine e_getr (o2 := 106) dX9_word_106 ff_X9_84 rfl (fx_pi_lt (by decide)) (by decide) rfl (hL _ _ _ rfl) ?_
    refine e_iload_n dX9_word_109 rfl ?_
    refine e_ialdv (j := 7) (v := 108) dX9_word_110 rfl (fx_pi_lt (by decide)) rfl (by decide) (by decide) (W.1 7 (by decide)) ?_
    refine e_if_eq 120 dX9_word_111 rfl (fun h => absurd h (by decide)) (fun _ => ?_)
    refine e_iinc (v := 8) dX9_word_114 rfl (by decide) (by decide) rfl ?_
    refine e_goto 105 dX9_word_117 rfl ?_
    refine e_weak (lv2 := [some (fx_rf Γ 83), some (.int 8), some (.int (nI g)), some (.int 1), none, none]) ⟨rfl, rfl, rfl, rfl, trivial⟩ ?_
    refine e_aload_n dX9_word_105 rfl ?_
    refine e_getr (o2 := 106) dX9_word_106 ff_X9_84 rfl (fx_pi_lt (by decide)) (by decide) rfl (hL _ _ _ rfl) ?_
    refine e_iload_n dX9_word_109 rfl ?_
    refine e_ialdv (j := 8) (v := 108) dX9_word_110 rfl (fx_pi_lt (by decide)) rfl (by decide) (by decide) (W.1 8 (by decide)) ?_
    refine e_if_eq 120 dX9_word_111 rfl (fun h => absurd h (by decide)) (fun _ => ?_)
    refine e_iinc (v := 9) dX9_word_114 rfl (by decide) (by decide) rfl ?_
    refine e_goto 105 dX9_word_117 rfl ?_
    refine e_weak (lv2 := [some (fx_rf Γ 83), some (.int 9), some (.int (nI g)), some (.int 1), none, none]) ⟨rfl, rfl, rfl, rfl, trivial⟩ ?_
    refine e_aload_n dX9_word_105 rfl ?_
    refine e_getr (o2 := 106) dX9_word_106 ff_X9_84 rfl (fx_pi_lt (by decide)) (by decide) rfl (hL _ _ _ rfl) ?_
    refine e_iload_n dX9_word_109 rfl ?_
    refine e_ialdv (j := 9) (v := 32) dX9_word_110 rfl (fx_pi_lt (by decide)) rfl (by decide) (by decide) (W.1 9 (by decide)) ?_
    refine e_if_eq 120 dX9_word_111 rfl (fun h => absurd h (by decide)) (fun _ => ?_)
    refine e_iinc (v := 10) dX9_word_114 rfl (by decide) (by decide) rfl ?_
    refine e_goto 105 dX9_word_117 rfl ?_
    refine e_weak (lv2 := [some (fx_rf Γ 83), some (.int 10), some (.int (nI g)), some (.int 1), none, none]) ⟨rfl, rfl, rfl, rfl, trivial⟩ ?_
    refine e_aload_n dX9_word_105 rfl ?_
    refine e_getr (o2 := 106) dX9_word_106 ff_X9_84 rfl (fx_pi_lt (by decide)) (by decide) rfl (hL _ _ _ rfl) ?_
    refine e_iload_n dX9_word_109 rfl ?_
    refine e_ialdv (j := 10) (v := 0) dX9_word_110 rfl (fx_pi_lt (by decide)) rfl (by decide) (by decide) (W.1 10 (by decide)) ?_
    refine e_if_eq 120 dX9_word_111 rfl (fun _ => ?_) (fun h => absurd (by decide) h)
    refine e_iinc (v := 11) dX9_word_120 rfl (by decide) (by decide) rfl ?_
    refine e_iinc (v := 2) dX9_word_123 rfl (by decide) (by decide) rfl ?_
    refine e_goto 9 dX9_word_126 rfl ?_
    refine e_weak (lv2 := [some (fx_rf Γ 83), some (.int 11), some (.int (nI g)), some (.int 2), none, none]) ⟨rfl, rfl, rfl, rfl, trivial⟩ ?_
    exact s_X9_word2 hL R W hg
  have hz : ∀ i, i < 6 → (p_WT (5 + i) = 0 ↔ i = 5) := by decide
  have k74 : ∀ i, i ≤ 5 → p_mc tx n [100, 111, 108, 108, 32] p = i → fx_E Γ mX9_word 0 119 119 (fx_WP n m (p_wd tx n p [(1, [100, 111, 108, 108, 32]), (2, [111, 110, 32]), (3, [111, 102, 102, 32]), (4, [108, 105, 101, 115, 32])] F)) 119 m 74 [some (fx_rf Γ 83), some (.int 5), some (.int (nI F)), some (.int 1), some (.int (nI (p + i))), some (.int (nI (5 + i)))] [] := by
    intro i hi hmc
    have hpi : p + i ≤ n := by rw [← hmc]; exact p_mc_n tx n [100, 111, 108, 108, 32] p hp (by decide)
    refine e_aload_n dX9_word_74 rfl ?_
    refine e_getr (o2 := 106) dX9_word_75 ff_X9_84 rfl (fx_pi_lt (by decide)) (by decide) rfl (hL _ _ _ rfl) ?_
    refine e_iload dX9_word_78 rfl ?_
    refine e_ialdv (j := 5 + i) (v := p_WT (5 + i)) dX9_word_80 rfl (fx_pi_lt (by decide)) rfl (by omega) (by decide) (W.1 _ (by omega)) ?_
    refine e_if_ne 92 dX9_word_81 rfl (fun c_w => ?_) (fun c_w => ?_)
    · have hi4 : ¬ i = 5 := fun h => c_w ((hz i (by omega)).mpr h)
      have hE : p_wd tx n p [(1, [100, 111, 108, 108, 32]), (2, [111, 110, 32]), (3, [111, 102, 102, 32]), (4, [108, 105, 101, 115, 32])] F = p_wd tx n p [(2, [111, 110, 32]), (3, [111, 102, 102, 32]), (4, [108, 105, 101, 115, 32])] (max F (p + i)) := by rw [p_wd, ← hmc]; exact if_neg (fun h => hi4 (hmc.symm.trans h))
      rw [hE]
      obtain ⟨g, hg⟩ : ∃ g, g = max F (p + i) := ⟨_, rfl⟩
      rw [← hg]
      refine e_iload dX9_word_92 rfl ?_
      refine e_iload_n dX9_word_94 rfl ?_
      refine e_icmp_le 103 dX9_word_95 rfl (fun c_f => ?_) (fun c_f => ?_)
      · refine e_iload_n dX9_word_103 rfl ?_
        have c_f := nI_leI (a := p + i) (b := F) (by omega) (by omega) |>.mp c_f
        refine e_weak (lv2 := [some (fx_rf Γ 83), some (.int 5), none, some (.int 1), none, none]) ⟨rfl, rfl, rfl, trivial⟩ ?_
        rw [show F = g by omega]
        exact k104 g (by omega)
      · refine e_iload dX9_word_98 rfl ?_
        refine e_goto 104 dX9_word_100 rfl ?_
        have c_f := mt (nI_leI (a := p + i) (b := F) (by omega) (by omega)).mpr c_f
        refine e_weak (lv2 := [some (fx_rf Γ 83), some (.int 5), none, some (.int 1), none, none]) ⟨rfl, rfl, rfl, trivial⟩ ?_
        rw [show p + i = g by omega]
        exact k104 g (by omega)
    · refine e_aload_n dX9_word_84 rfl ?_
      refine e_iload dX9_word_85 rfl ?_
      refine e_put dX9_word_87 ff_X9_196 rfl (fx_pi_lt (by decide)) (by decide) rfl (Or.inl rfl) ?_
      refine e_iload_n dX9_word_90 rfl ?_
      have hi4 : i = 5 := (hz i (by omega)).mp c_w
      have hpl : p_mc tx n [100, 111, 108, 108, 32] p = 5 := hmc.trans hi4
      have hE : p_wd tx n p [(1, [100, 111, 108, 108, 32]), (2, [111, 110, 32]), (3, [111, 102, 102, 32]), (4, [108, 105, 101, 115, 32])] F = (some 1, p + 5) := by rw [p_wd]; exact if_pos hpl
      exact e_iret dX9_word_91 rfl rfl rfl ⟨by rw [hE]; rfl, (fx_KZ.refl m).sI (by omega), fun w h => ⟨by rw [hE, fx_rd0, hi4], by rw [hE]; show p + 5 ≤ n; omega⟩, fun h => by rw [hE] at h; cases h⟩
  refine e_iload_n dX9_word_9 rfl ?_
  refine e_iconst dX9_word_10 kci_5 ?_
  refine e_icmp_ge 129 dX9_word_11 rfl (fun h => absurd h (by decide)) (fun _ => ?_)
  refine e_aload_n dX9_word_14 rfl ?_
  refine e_getv (v := nI p) dX9_word_15 ff_X9_196 rfl (fx_pi_lt (by decide)) (by decide) rfl q3 ?_
  refine e_istore dX9_word_18 (by decide) rfl ?_
  refine e_iload_n dX9_word_20 rfl ?_
  refine e_istore dX9_word_21 (by decide) rfl ?_
  refine e_weak (lv2 := [some (fx_rf Γ 83), some (.int 5), some (.int (nI F)), some (.int 1), some (.int (nI p)), some (.int 5)]) ⟨rfl, rfl, rfl, rfl, rfl, rfl, trivial⟩ ?_
  refine e_aload_n dX9_word_23 rfl ?_
  refine e_getr (o2 := 106) dX9_word_24 ff_X9_84 rfl (fx_pi_lt (by decide)) (by decide) rfl (hL _ _ _ rfl) ?_
  refine e_iload dX9_word_27 rfl ?_
  refine e_ialdv (j := 5) (v := 100) dX9_word_29 rfl (fx_pi_lt (by decide)) rfl (by decide) (by decide) (W.1 5 (by decide)) ?_
  refine e_if_eq 74 dX9_word_30 rfl (fun h => absurd h (by decide)) (fun _ => ?_)
  refine e_iload dX9_word_33 rfl ?_
  refine e_aload_n dX9_word_35 rfl ?_
  refine e_getv (v := nI n) dX9_word_36 ff_X9_199 rfl (fx_pi_lt (by decide)) (by decide) rfl q2 ?_
  refine e_icmp_ge 74 dX9_word_39 rfl (fun c_e0 => ?_) (fun c_e0 => ?_)
  · have t0 : ¬ p_tc tx n (p) = 100 := by rw [R.tn (fun q => nI_ge (a := p) (b := n) q (by omega) c_e0)]; decide
    exact k74 0 (by decide) (by simp [p_mc, t0])
  · have l0 : p < n := by rcases Nat.lt_or_ge (p) n with h | h; exact h; exact absurd (nI_le h (by omega)) c_e0
    refine e_aload_n dX9_word_42 rfl ?_
    refine e_getr (o2 := 104) dX9_word_43 ff_X9_77 rfl (fx_pi_lt (by decide)) (by decide) rfl (hL _ _ _ rfl) ?_
    refine e_aload_n dX9_word_46 rfl ?_
    refine e_getv (v := nI (160 * k)) dX9_word_47 ff_X9_202 rfl (fx_pi_lt (by decide)) (by decide) rfl q1 ?_
    refine e_iload dX9_word_50 rfl ?_
    refine e_iadd dX9_word_52 ?_
    refine e_lald (j := 160 * k + p) dX9_word_53 rfl (fx_pi_lt (by decide)) (by rw [nI_add]) (by omega) (by decide) ?_
    refine e_l2i dX9_word_54 ?_
    rw [R.tq l0]
    refine e_aload_n dX9_word_55 rfl ?_
    refine e_getr (o2 := 106) dX9_word_56 ff_X9_84 rfl (fx_pi_lt (by decide)) (by decide) rfl (hL _ _ _ rfl) ?_
    refine e_iload dX9_word_59 rfl ?_
    refine e_ialdv (j := 5) (v := 100) dX9_word_61 rfl (fx_pi_lt (by decide)) rfl (by decide) (by decide) (W.1 5 (by decide)) ?_
    refine e_icmp_ne 74 dX9_word_62 rfl (fun c_m0 => ?_) (fun c_m0 => ?_)
    · have t0 : ¬ p_tc tx n (p) = 100 := c_m0
      exact k74 0 (by decide) (by simp [p_mc, t0])
    · refine e_iinc (v := nI (p + 1)) dX9_word_65 rfl (fx_inc _) (by decide) rfl ?_
      refine e_iinc (v := 6) dX9_word_68 rfl (by decide) (by decide) rfl ?_
      refine e_goto 23 dX9_word_71 rfl ?_
      refine e_weak (lv2 := [some (fx_rf Γ 83), some (.int 5), some (.int (nI F)), some (.int 1), some (.int (nI (p + 1))), some (.int 6)]) ⟨rfl, rfl, rfl, rfl, rfl, rfl, trivial⟩ ?_
      refine e_aload_n dX9_word_23 rfl ?_
      refine e_getr (o2 := 106) dX9_word_24 ff_X9_84 rfl (fx_pi_lt (by decide)) (by decide) rfl (hL _ _ _ rfl) ?_
      refine e_iload dX9_word_27 rfl ?_
      refine e_ialdv (j := 6) (v := 111) dX9_word_29 rfl (fx_pi_lt (by decide)) rfl (by decide) (by decide) (W.1 6 (by decide)) ?_
      refine e_if_eq 74 dX9_word_30 rfl (fun h => absurd h (by decide)) (fun _ => ?_)
      refine e_iload dX9_word_33 rfl ?_
      refine e_aload_n dX9_word_35 rfl ?_
      refine e_getv (v := nI n) dX9_word_36 ff_X9_199 rfl (fx_pi_lt (by decide)) (by decide) rfl q2 ?_
      refine e_icmp_ge 74 dX9_word_39 rfl (fun c_e1 => ?_) (fun c_e1 => ?_)
      · have t0 : p_tc tx n (p) = 100 := c_m0
        have t1 : ¬ p_tc tx n (p + 1) = 111 := by rw [R.tn (fun q => nI_ge (a := p + 1) (b := n) q (by omega) c_e1)]; decide
        exact k74 1 (by decide) (by simp [p_mc, t0, t1])
      · have l1 : p + 1 < n := by rcases Nat.lt_or_ge (p + 1) n with h | h; exact h; exact absurd (nI_le h (by omega)) c_e1
        refine e_aload_n dX9_word_42 rfl ?_
        refine e_getr (o2 := 104) dX9_word_43 ff_X9_77 rfl (fx_pi_lt (by decide)) (by decide) rfl (hL _ _ _ rfl) ?_
        refine e_aload_n dX9_word_46 rfl ?_
        refine e_getv (v := nI (160 * k)) dX9_word_47 ff_X9_202 rfl (fx_pi_lt (by decide)) (by decide) rfl q1 ?_
        refine e_iload dX9_word_50 rfl ?_
        refine e_iadd dX9_word_52 ?_
        refine e_lald (j := 160 * k + (p + 1)) dX9_word_53 rfl (fx_pi_lt (by decide)) (by rw [nI_add]) (by omega) (by decide) ?_
        refine e_l2i dX9_word_54 ?_
        rw [R.tq l1]
        refine e_aload_n dX9_word_55 rfl ?_
        refine e_getr (o2 := 106) dX9_word_56 ff_X9_84 rfl (fx_pi_lt (by decide)) (by decide) rfl (hL _ _ _ rfl) ?_
        refine e_iload dX9_word_59 rfl ?_
        refine e_ialdv (j := 6) (v := 111) dX9_word_61 rfl (fx_pi_lt (by decide)) rfl (by decide) (by decide) (W.1 6 (by decide)) ?_
        refine e_icmp_ne 74 dX9_word_62 rfl (fun c_m1 => ?_) (fun c_m1 => ?_)
        · have t0 : p_tc tx n (p) = 100 := c_m0
          have t1 : ¬ p_tc tx n (p + 1) = 111 := c_m1
          exact k74 1 (by decide) (by simp [p_mc, t0, t1])
        · refine e_iinc (v := nI ((p + 1) + 1)) dX9_word_65 rfl (fx_inc _) (by decide) rfl ?_
          refine e_iinc (v := 7) dX9_word_68 rfl (by decide) (by decide) rfl ?_
          refine e_goto 23 dX9_word_71 rfl ?_
          refine e_weak (lv2 := [some (fx_rf Γ 83), some (.int 5), some (.int (nI F)), some (.int 1), some (.int (nI ((p + 1) + 1))), some (.int 7)]) ⟨rfl, rfl, rfl, rfl, rfl, rfl, trivial⟩ ?_
          refine e_aload_n dX9_word_23 rfl ?_
          refine e_getr (o2 := 106) dX9_word_24 ff_X9_84 rfl (fx_pi_lt (by decide)) (by decide) rfl (hL _ _ _ rfl) ?_
          refine e_iload dX9_word_27 rfl ?_
          refine e_ialdv (j := 7) (v := 108) dX9_word_29 rfl (fx_pi_lt (by decide)) rfl (by decide) (by decide) (W.1 7 (by decide)) ?_
          refine e_if_eq 74 dX9_word_30 rfl (fun h => absurd h (by decide)) (fun _ => ?_)
          refine e_iload dX9_word_33 rfl ?_
          refine e_aload_n dX9_word_35 rfl ?_
          refine e_getv (v := nI n) dX9_word_36 ff_X9_199 rfl (fx_pi_lt (by decide)) (by decide) rfl q2 ?_
          refine e_icmp_ge 74 dX9_word_39 rfl (fun c_e2 => ?_) (fun c_e2 => ?_)
          · have t0 : p_tc tx n (p) = 100 := c_m0
            have t1 : p_tc tx n (p + 1) = 111 := c_m1
            have t2 : ¬ p_tc tx n (p + 1 + 1) = 108 := by rw [R.tn (fun q => nI_ge (a := p + 1 + 1) (b := n) q (by omega) c_e2)]; decide
            exact k74 2 (by decide) (by simp [p_mc, t0, t1, t2])
          · have l2 : (p + 1) + 1 < n := by rcases Nat.lt_or_ge ((p + 1) + 1) n with h | h; exact h; exact absurd (nI_le h (by omega)) c_e2
            refine e_aload_n dX9_word_42 rfl ?_
            refine e_getr (o2 := 104) dX9_word_43 ff_X9_77 rfl (fx_pi_lt (by decide)) (by decide) rfl (hL _ _ _ rfl) ?_
            refine e_aload_n dX9_word_46 rfl ?_
            refine e_getv (v := nI (160 * k)) dX9_word_47 ff_X9_202 rfl (fx_pi_lt (by decide)) (by decide) rfl q1 ?_
            refine e_iload dX9_word_50 rfl ?_
            refine e_iadd dX9_word_52 ?_
            refine e_lald (j := 160 * k + ((p + 1) + 1)) dX9_word_53 rfl (fx_pi_lt (by decide)) (by rw [nI_add]) (by omega) (by decide) ?_
            refine e_l2i dX9_word_54 ?_
            rw [R.tq l2]
            refine e_aload_n dX9_word_55 rfl ?_
            refine e_getr (o2 := 106) dX9_word_56 ff_X9_84 rfl (fx_pi_lt (by decide)) (by decide) rfl (hL _ _ _ rfl) ?_
            refine e_iload dX9_word_59 rfl ?_
            refine e_ialdv (j := 7) (v := 108) dX9_word_61 rfl (fx_pi_lt (by decide)) rfl (by decide) (by decide) (W.1 7 (by decide)) ?_
            refine e_icmp_ne 74 dX9_word_62 rfl (fun c_m2 => ?_) (fun c_m2 => ?_)
            · have t0 : p_tc tx n (p) = 100 := c_m0
              have t1 : p_tc tx n (p + 1) = 111 := c_m1
              have t2 : ¬ p_tc tx n (p + 1 + 1) = 108 := c_m2
              exact k74 2 (by decide) (by simp [p_mc, t0, t1, t2])
            · refine e_iinc (v := nI (((p + 1) + 1) + 1)) dX9_word_65 rfl (fx_inc _) (by decide) rfl ?_
              refine e_iinc (v := 8) dX9_word_68 rfl (by decide) (by decide) rfl ?_
              refine e_goto 23 dX9_word_71 rfl ?_
              refine e_weak (lv2 := [some (fx_rf Γ 83), some (.int 5), some (.int (nI F)), some (.int 1), some (.int (nI (((p + 1) + 1) + 1))), some (.int 8)]) ⟨rfl, rfl, rfl, rfl, rfl, rfl, trivial⟩ ?_
              refine e_aload_n dX9_word_23 rfl ?_
              refine e_getr (o2 := 106) dX9_word_24 ff_X9_84 rfl (fx_pi_lt (by decide)) (by decide) rfl (hL _ _ _ rfl) ?_
              refine e_iload dX9_word_27 rfl ?_
              refine e_ialdv (j := 8) (v := 108) dX9_word_29 rfl (fx_pi_lt (by decide)) rfl (by decide) (by decide) (W.1 8 (by decide)) ?_
              refine e_if_eq 74 dX9_word_30 rfl (fun h => absurd h (by decide)) (fun _ => ?_)
              refine e_iload dX9_word_33 rfl ?_
              refine e_aload_n dX9_word_35 rfl ?_
              refine e_getv (v := nI n) dX9_word_36 ff_X9_199 rfl (fx_pi_lt (by decide)) (by decide) rfl q2 ?_
              refine e_icmp_ge 74 dX9_word_39 rfl (fun c_e3 => ?_) (fun c_e3 => ?_)
              · have t0 : p_tc tx n (p) = 100 := c_m0
                have t1 : p_tc tx n (p + 1) = 111 := c_m1
                have t2 : p_tc tx n (p + 1 + 1) = 108 := c_m2
                have t3 : ¬ p_tc tx n (p + 1 + 1 + 1) = 108 := by rw [R.tn (fun q => nI_ge (a := p + 1 + 1 + 1) (b := n) q (by omega) c_e3)]; decide
                exact k74 3 (by decide) (by simp [p_mc, t0, t1, t2, t3])
              · have l3 : ((p + 1) + 1) + 1 < n := by rcases Nat.lt_or_ge (((p + 1) + 1) + 1) n with h | h; exact h; exact absurd (nI_le h (by omega)) c_e3
                refine e_aload_n dX9_word_42 rfl ?_
                refine e_getr (o2 := 104) dX9_word_43 ff_X9_77 rfl (fx_pi_lt (by decide)) (by decide) rfl (hL _ _ _ rfl) ?_
                refine e_aload_n dX9_word_46 rfl ?_
                refine e_getv (v := nI (160 * k)) dX9_word_47 ff_X9_202 rfl (fx_pi_lt (by decide)) (by decide) rfl q1 ?_
                refine e_iload dX9_word_50 rfl ?_
                refine e_iadd dX9_word_52 ?_
                refine e_lald (j := 160 * k + (((p + 1) + 1) + 1)) dX9_word_53 rfl (fx_pi_lt (by decide)) (by rw [nI_add]) (by omega) (by decide) ?_
                refine e_l2i dX9_word_54 ?_
                rw [R.tq l3]
                refine e_aload_n dX9_word_55 rfl ?_
                refine e_getr (o2 := 106) dX9_word_56 ff_X9_84 rfl (fx_pi_lt (by decide)) (by decide) rfl (hL _ _ _ rfl) ?_
                refine e_iload dX9_word_59 rfl ?_
                refine e_ialdv (j := 8) (v := 108) dX9_word_61 rfl (fx_pi_lt (by decide)) rfl (by decide) (by decide) (W.1 8 (by decide)) ?_
                refine e_icmp_ne 74 dX9_word_62 rfl (fun c_m3 => ?_) (fun c_m3 => ?_)
                · have t0 : p_tc tx n (p) = 100 := c_m0
                  have t1 : p_tc tx n (p + 1) = 111 := c_m1
                  have t2 : p_tc tx n (p + 1 + 1) = 108 := c_m2
                  have t3 : ¬ p_tc tx n (p + 1 + 1 + 1) = 108 := c_m3
                  exact k74 3 (by decide) (by simp [p_mc, t0, t1, t2, t3])
                · refine e_iinc (v := nI ((((p + 1) + 1) + 1) + 1)) dX9_word_65 rfl (fx_inc _) (by decide) rfl ?_
                  refine e_iinc (v := 9) dX9_word_68 rfl (by decide) (by decide) rfl ?_
                  refine e_goto 23 dX9_word_71 rfl ?_
                  refine e_weak (lv2 := [some (fx_rf Γ 83), some (.int 5), some (.int (nI F)), some (.int 1), some (.int (nI ((((p + 1) + 1) + 1) + 1))), some (.int 9)]) ⟨rfl, rfl, rfl, rfl, rfl, rfl, trivial⟩ ?_
                  refine e_aload_n dX9_word_23 rfl ?_
                  refine e_getr (o2 := 106) dX9_word_24 ff_X9_84 rfl (fx_pi_lt (by decide)) (by decide) rfl (hL _ _ _ rfl) ?_
                  refine e_iload dX9_word_27 rfl ?_
                  refine e_ialdv (j := 9) (v := 32) dX9_word_29 rfl (fx_pi_lt (by decide)) rfl (by decide) (by decide) (W.1 9 (by decide)) ?_
                  refine e_if_eq 74 dX9_word_30 rfl (fun h => absurd h (by decide)) (fun _ => ?_)
                  refine e_iload dX9_word_33 rfl ?_
                  refine e_aload_n dX9_word_35 rfl ?_
                  refine e_getv (v := nI n) dX9_word_36 ff_X9_199 rfl (fx_pi_lt (by decide)) (by decide) rfl q2 ?_
                  refine e_icmp_ge 74 dX9_word_39 rfl (fun c_e4 => ?_) (fun c_e4 => ?_)
                  · have t0 : p_tc tx n (p) = 100 := c_m0
                    have t1 : p_tc tx n (p + 1) = 111 := c_m1
                    have t2 : p_tc tx n (p + 1 + 1) = 108 := c_m2
                    have t3 : p_tc tx n (p + 1 + 1 + 1) = 108 := c_m3
                    have t4 : ¬ p_tc tx n (p + 1 + 1 + 1 + 1) = 32 := by rw [R.tn (fun q => nI_ge (a := p + 1 + 1 + 1 + 1) (b := n) q (by omega) c_e4)]; decide
                    exact k74 4 (by decide) (by simp [p_mc, t0, t1, t2, t3, t4])
                  · have l4 : (((p + 1) + 1) + 1) + 1 < n := by rcases Nat.lt_or_ge ((((p + 1) + 1) + 1) + 1) n with h | h; exact h; exact absurd (nI_le h (by omega)) c_e4
                    refine e_aload_n dX9_word_42 rfl ?_
                    refine e_getr (o2 := 104) dX9_word_43 ff_X9_77 rfl (fx_pi_lt (by decide)) (by decide) rfl (hL _ _ _ rfl) ?_
                    refine e_aload_n dX9_word_46 rfl ?_
                    refine e_getv (v := nI (160 * k)) dX9_word_47 ff_X9_202 rfl (fx_pi_lt (by decide)) (by decide) rfl q1 ?_
                    refine e_iload dX9_word_50 rfl ?_
                    refine e_iadd dX9_word_52 ?_
                    refine e_lald (j := 160 * k + ((((p + 1) + 1) + 1) + 1)) dX9_word_53 rfl (fx_pi_lt (by decide)) (by rw [nI_add]) (by omega) (by decide) ?_
                    refine e_l2i dX9_word_54 ?_
                    rw [R.tq l4]
                    refine e_aload_n dX9_word_55 rfl ?_
                    refine e_getr (o2 := 106) dX9_word_56 ff_X9_84 rfl (fx_pi_lt (by decide)) (by decide) rfl (hL _ _ _ rfl) ?_
                    refine e_iload dX9_word_59 rfl ?_
                    refine e_ialdv (j := 9) (v := 32) dX9_word_61 rfl (fx_pi_lt (by decide)) rfl (by decide) (by decide) (W.1 9 (by decide)) ?_
                    refine e_icmp_ne 74 dX9_word_62 rfl (fun c_m4 => ?_) (fun c_m4 => ?_)
                    · have t0 : p_tc tx n (p) = 100 := c_m0
                      have t1 : p_tc tx n (p + 1) = 111 := c_m1
                      have t2 : p_tc tx n (p + 1 + 1) = 108 := c_m2
                      have t3 : p_tc tx n (p + 1 + 1 + 1) = 108 := c_m3
                      have t4 : ¬ p_tc tx n (p + 1 + 1 + 1 + 1) = 32 := c_m4
                      exact k74 4 (by decide) (by simp [p_mc, t0, t1, t2, t3, t4])
                    · refine e_iinc (v := nI (((((p + 1) + 1) + 1) + 1) + 1)) dX9_word_65 rfl (fx_inc _) (by decide) rfl ?_
                      refine e_iinc (v := 10) dX9_word_68 rfl (by decide) (by decide) rfl ?_
                      refine e_goto 23 dX9_word_71 rfl ?_
                      refine e_weak (lv2 := [some (fx_rf Γ 83), some (.int 5), some (.int (nI F)), some (.int 1), some (.int (nI (((((p + 1) + 1) + 1) + 1) + 1))), some (.int 10)]) ⟨rfl, rfl, rfl, rfl, rfl, rfl, trivial⟩ ?_
                      refine e_aload_n dX9_word_23 rfl ?_
                      refine e_getr (o2 := 106) dX9_word_24 ff_X9_84 rfl (fx_pi_lt (by decide)) (by decide) rfl (hL _ _ _ rfl) ?_
                      refine e_iload dX9_word_27 rfl ?_
                      refine e_ialdv (j := 10) (v := 0) dX9_word_29 rfl (fx_pi_lt (by decide)) rfl (by decide) (by decide) (W.1 10 (by decide)) ?_
                      refine e_if_eq 74 dX9_word_30 rfl (fun _ => ?_) (fun h => absurd (by decide) h)
                      have t0 : p_tc tx n (p) = 100 := c_m0
                      have t1 : p_tc tx n (p + 1) = 111 := c_m1
                      have t2 : p_tc tx n (p + 1 + 1) = 108 := c_m2
                      have t3 : p_tc tx n (p + 1 + 1 + 1) = 108 := c_m3
                      have t4 : p_tc tx n (p + 1 + 1 + 1 + 1) = 32 := c_m4
                      exact k74 5 (by decide) (by simp [p_mc, t0, t1, t2, t3, t4])
set_option maxRecDepth 100000 in
set_option maxHeartbeats 600000 in
theorem s_X9_word0 {Γ : fx_G} {m : fx_M} (hL : fx_Lay m) {k n p : Nat} {tx : Nat → Int32} (R : fx_MR m k n tx p) (W : fx_WC m) {F : Nat} (hF : F ≤ n) : fx_E Γ mX9_word 0 119 119 (fx_WP n m (p_wd tx n p [(0, [97, 114, 109, 32]), (1, [100, 111, 108, 108, 32]), (2, [111, 110, 32]), (3, [111, 102, 102, 32]), (4, [108, 105, 101, 115, 32])] F)) 119 m 9 [some (fx_rf Γ 83), some (.int 0), some (.int (nI F)), some (.int 0), none, none] [] := by
  obtain ⟨q1, q2, q3, hk, hn, hp, q7⟩ := R
  have R : fx_MR m k n tx p := ⟨q1, q2, q3, hk, hn, hp, q7⟩
  have k104 : ∀ g, g ≤ n → fx_E Γ mX9_word 0 119 119 (fx_WP n m (p_wd tx n p [(1, [100, 111, 108, 108, 32]), (2, [111, 110, 32]), (3, [111, 102, 102, 32]), (4, [108, 105, 101, 115, 32])] g)) 119 m 104 [some (fx_rf Γ 83), some (.int 0), none, some (.int 0), none, none] (.int (nI g) :: []) := by
    intro g hg
    refine e_istore_n dX9_word_104 (by decide) rfl ?_
    refine e_weak (lv2 := [some (fx_rf Γ 83), some (.int 0), some (.int (nI g)), some (.int 0), none, none]) ⟨rfl, rfl, rfl, rfl, trivial⟩ ?_
    refine e_aload_n dX9_word_105 rfl ?_
    refine e_getr (o2 := 106) dX9_word_106 ff_X9_84 rfl (fx_pi_lt (by decide)) (by decide) rfl (hL _ _ _ rfl) ?_
    refine e_iload_n dX9_word_109 rfl ?_
    refine e_ialdv (j := 0) (v := 97) dX9_word_110 rfl (fx_pi_lt (by decide)) rfl (by decide) (by decide) (W.1 0 (by decide)) ?_
    refine e_if_eq 120 dX9_word_111 rfl (fun h => absurd h (by decide)) (fun _ => ?_)
    refine e_iinc (v := 1) dX9_word_114 rfl (by decide) (by decide) rfl ?_
    refine e_goto 105 dX9_word_117 rfl ?_
    refine e_weak (lv2 := [some (fx_rf Γ 83), some (.int 1), some (.int (nI g)), some (.int 0), none, none]) ⟨rfl, rfl, rfl, rfl, trivial⟩ ?_
    refine e_aload_n dX9_word_105 rfl ?_
    refine e_getr (o2 := 106) dX9_word_106 ff_X9_84 rfl (fx_pi_lt (by decide)) (by decide) rfl (hL _ _ _ rfl) ?_
    refine e_iload_n dX9_word_109 rfl ?_
    refine e_ialdv (j := 1) (v := 114) dX9_word_110 rfl (fx_pi_lt (by decide)) rfl (by decide) (by decide) (W.1 1 (by decide)) ?_
    refine e_if_eq 120 dX9_word_111 rfl (fun h => absurd h (by decide)) (fun _ => ?_)
    refine e_iinc (v := 2) dX9_word_114 rfl (by decide) (by decide) rfl ?_
    refine e_goto 105 dX9_word_117 rfl ?_
    refine e_weak (lv2 := [some (fx_rf Γ 83), some (.int 2), some (.int (nI g)), some (.int 0), none, none]) ⟨rfl, rfl, rfl, rfl, trivial⟩ ?_
    refine e_aload_n dX9_word_105 rfl ?_
    refine e_getr (o2 := 106) dX9_word_106 ff_X9_84 rfl (fx_pi_lt (by decide)) (by decide) rfl (hL _ _ _ rfl) ?_
    refine e_iload_n dX9_word_109 rfl ?_
    refine e_ialdv (j := 2) (v := 109) dX9_word_110 rfl (fx_pi_lt (by decide)) rfl (by decide) (by decide) (W.1 2 (by decide)) ?_
    refine e_if_eq 120 dX9_word_111 rfl (fun h => absurd h (by decide)) (fun _ => ?_)
    refine e_iinc (v := 3) dX9_word_114 rfl (by decide) (by decide) rfl ?_
    refine e_goto 105 dX9_word_117 rfl ?_
    refine e_weak (lv2 := [some (fx_rf Γ 83), some (.int 3), some (.int (nI g)), some (.int 0), none, none]) ⟨rfl, rfl, rfl, rfl, trivial⟩ ?_
    refine e_aload_n dX9_word_105 rfl ?_
    refine e_getr (o2 := 106) dX9_word_106 ff_X9_84 rfl (fx_pi_lt (by decide)) (by decide) rfl (hL _ _ _ rfl) ?_
    refine e_iload_n dX9_word_109 rfl ?_
    refine e_ialdv (j := 3) (v := 32) dX9_word_110 rfl (fx_pi_lt (by decide)) rfl (by decide) (by decide) (W.1 3 (by decide)) ?_
    refine e_if_eq 120 dX9_word_111 rfl (fun h => absurd h (by decide)) (fun _ => ?_)
    refine e_iinc (v := 4) dX9_word_114 rfl (by decide) (by decide) rfl ?_
    refine e_goto 105 dX9_word_117 rfl ?_
    refine e_weak (lv2 := [some (fx_rf Γ 83), some (.int 4), some (.int (nI g)), some (.int 0), none, none]) ⟨rfl, rfl, rfl, rfl, trivial⟩ ?_
    refine e_aload_n dX9_word_105 rfl ?_
    refine e_getr (o2 := 106) dX9_word_106 ff_X9_84 rfl (fx_pi_lt (by decide)) (by decide) rfl (hL _ _ _ rfl) ?_
    refine e_iload_n dX9_word_109 rfl ?_
    refine e_ialdv (j := 4) (v := 0) dX9_word_110 rfl (fx_pi_lt (by decide)) rfl (by decide) (by decide) (W.1 4 (by decide)) ?_
    refine e_if_eq 120 dX9_word_111 rfl (fun _ => ?_) (fun h => absurd (by decide) h)
    refine e_iinc (v := 5) dX9_word_120 rfl (by decide) (by decide) rfl ?_
    refine e_iinc (v := 1) dX9_word_123 rfl (by decide) (by decide) rfl ?_
    refine e_goto 9 dX9_word_126 rfl ?_
    refine e_weak (lv2 := [some (fx_rf Γ 83), some (.int 5), some (.int (nI g)), some (.int 1), none, none]) ⟨rfl, rfl, rfl, rfl, trivial⟩ ?_
    exact s_X9_word1 hL R W hg
  have hz : ∀ i, i < 5 → (p_WT (0 + i) = 0 ↔ i = 4) := by decide
  have k74 : ∀ i, i ≤ 4 → p_mc tx n [97, 114, 109, 32] p = i → fx_E Γ mX9_word 0 119 119 (fx_WP n m (p_wd tx n p [(0, [97, 114, 109, 32]), (1, [100, 111, 108, 108, 32]), (2, [111, 110, 32]), (3, [111, 102, 102, 32]), (4, [108, 105, 101, 115, 32])] F)) 119 m 74 [some (fx_rf Γ 83), some (.int 0), some (.int (nI F)), some (.int 0), some (.int (nI (p + i))), some (.int (nI (0 + i)))] [] := by
    intro i hi hmc
    have hpi : p + i ≤ n := by rw [← hmc]; exact p_mc_n tx n [97, 114, 109, 32] p hp (by decide)
    refine e_aload_n dX9_word_74 rfl ?_
    refine e_getr (o2 := 106) dX9_word_75 ff_X9_84 rfl (fx_pi_lt (by decide)) (by decide) rfl (hL _ _ _ rfl) ?_
    refine e_iload dX9_word_78 rfl ?_
    refine e_ialdv (j := 0 + i) (v := p_WT (0 + i)) dX9_word_80 rfl (fx_pi_lt (by decide)) rfl (by omega) (by decide) (W.1 _ (by omega)) ?_
    refine e_if_ne 92 dX9_word_81 rfl (fun c_w => ?_) (fun c_w => ?_)
    · have hi4 : ¬ i = 4 := fun h => c_w ((hz i (by omega)).mpr h)
      have hE : p_wd tx n p [(0, [97, 114, 109, 32]), (1, [100, 111, 108, 108, 32]), (2, [111, 110, 32]), (3, [111, 102, 102, 32]), (4, [108, 105, 101, 115, 32])] F = p_wd tx n p [(1, [100, 111, 108, 108, 32]), (2, [111, 110, 32]), (3, [111, 102, 102, 32]), (4, [108, 105, 101, 115, 32])] (max F (p + i)) := by rw [p_wd, ← hmc]; exact if_neg (fun h => hi4 (hmc.symm.trans h))
      rw [hE]
      obtain ⟨g, hg⟩ : ∃ g, g = max F (p + i) := ⟨_, rfl⟩
      rw [← hg]
      refine e_iload dX9_word_92 rfl ?_
      refine e_iload_n dX9_word_94 rfl ?_
      refine e_icmp_le 103 dX9_word_95 rfl (fun c_f => ?_) (fun c_f => ?_)
      · refine e_iload_n dX9_word_103 rfl ?_
        have c_f := nI_leI (a := p + i) (b := F) (by omega) (by omega) |>.mp c_f
        refine e_weak (lv2 := [some (fx_rf Γ 83), some (.int 0), none, some (.int 0), none, none]) ⟨rfl, rfl, rfl, trivial⟩ ?_
        rw [show F = g by omega]
        exact k104 g (by omega)
      · refine e_iload dX9_word_98 rfl ?_
        refine e_goto 104 dX9_word_100 rfl ?_
        have c_f := mt (nI_leI (a := p + i) (b := F) (by omega) (by omega)).mpr c_f
        refine e_weak (lv2 := [some (fx_rf Γ 83), some (.int 0), none, some (.int 0), none, none]) ⟨rfl, rfl, rfl, trivial⟩ ?_
        rw [show p + i = g by omega]
        exact k104 g (by omega)
    · refine e_aload_n dX9_word_84 rfl ?_
      refine e_iload dX9_word_85 rfl ?_
      refine e_put dX9_word_87 ff_X9_196 rfl (fx_pi_lt (by decide)) (by decide) rfl (Or.inl rfl) ?_
      refine e_iload_n dX9_word_90 rfl ?_
      have hi4 : i = 4 := (hz i (by omega)).mp c_w
      have hpl : p_mc tx n [97, 114, 109, 32] p = 4 := hmc.trans hi4
      have hE : p_wd tx n p [(0, [97, 114, 109, 32]), (1, [100, 111, 108, 108, 32]), (2, [111, 110, 32]), (3, [111, 102, 102, 32]), (4, [108, 105, 101, 115, 32])] F = (some 0, p + 4) := by rw [p_wd]; exact if_pos hpl
      exact e_iret dX9_word_91 rfl rfl rfl ⟨by rw [hE]; rfl, (fx_KZ.refl m).sI (by omega), fun w h => ⟨by rw [hE, fx_rd0, hi4], by rw [hE]; show p + 4 ≤ n; omega⟩, fun h => by rw [hE] at h; cases h⟩
  refine e_iload_n dX9_word_9 rfl ?_
  refine e_iconst dX9_word_10 kci_5 ?_
  refine e_icmp_ge 129 dX9_word_11 rfl (fun h => absurd h (by decide)) (fun _ => ?_)
  refine e_aload_n dX9_word_14 rfl ?_
  refine e_getv (v := nI p) dX9_word_15 ff_X9_196 rfl (fx_pi_lt (by decide)) (by decide) rfl q3 ?_
  refine e_istore dX9_word_18 (by decide) rfl ?_
  refine e_iload_n dX9_word_20 rfl ?_
  refine e_istore dX9_word_21 (by decide) rfl ?_
  refine e_weak (lv2 := [some (fx_rf Γ 83), some (.int 0), some (.int (nI F)), some (.int 0), some (.int (nI p)), some (.int 0)]) ⟨rfl, rfl, rfl, rfl, rfl, rfl, trivial⟩ ?_
  refine e_aload_n dX9_word_23 rfl ?_
  refine e_getr (o2 := 106) dX9_word_24 ff_X9_84 rfl (fx_pi_lt (by decide)) (by decide) rfl (hL _ _ _ rfl) ?_
  refine e_iload dX9_word_27 rfl ?_
  refine e_ialdv (j := 0) (v := 97) dX9_word_29 rfl (fx_pi_lt (by decide)) rfl (by decide) (by decide) (W.1 0 (by decide)) ?_
  refine e_if_eq 74 dX9_word_30 rfl (fun h => absurd h (by decide)) (fun _ => ?_)
  refine e_iload dX9_word_33 rfl ?_
  refine e_aload_n dX9_word_35 rfl ?_
  refine e_getv (v := nI n) dX9_word_36 ff_X9_199 rfl (fx_pi_lt (by decide)) (by decide) rfl q2 ?_
  refine e_icmp_ge 74 dX9_word_39 rfl (fun c_e0 => ?_) (fun c_e0 => ?_)
  · have t0 : ¬ p_tc tx n (p) = 97 := by rw [R.tn (fun q => nI_ge (a := p) (b := n) q (by omega) c_e0)]; decide
    exact k74 0 (by decide) (by simp [p_mc, t0])
  · have l0 : p < n := by rcases Nat.lt_or_ge (p) n with h | h; exact h; exact absurd (nI_le h (by omega)) c_e0
    refine e_aload_n dX9_word_42 rfl ?_
    refine e_getr (o2 := 104) dX9_word_43 ff_X9_77 rfl (fx_pi_lt (by decide)) (by decide) rfl (hL _ _ _ rfl) ?_
    refine e_aload_n dX9_word_46 rfl ?_
    refine e_getv (v := nI (160 * k)) dX9_word_47 ff_X9_202 rfl (fx_pi_lt (by decide)) (by decide) rfl q1 ?_
    refine e_iload dX9_word_50 rfl ?_
    refine e_iadd dX9_word_52 ?_
    refine e_lald (j := 160 * k + p) dX9_word_53 rfl (fx_pi_lt (by decide)) (by rw [nI_add]) (by omega) (by decide) ?_
    refine e_l2i dX9_word_54 ?_
    rw [R.tq l0]
    refine e_aload_n dX9_word_55 rfl ?_
    refine e_getr (o2 := 106) dX9_word_56 ff_X9_84 rfl (fx_pi_lt (by decide)) (by decide) rfl (hL _ _ _ rfl) ?_
    refine e_iload dX9_word_59 rfl ?_
    refine e_ialdv (j := 0) (v := 97) dX9_word_61 rfl (fx_pi_lt (by decide)) rfl (by decide) (by decide) (W.1 0 (by decide)) ?_
    refine e_icmp_ne 74 dX9_word_62 rfl (fun c_m0 => ?_) (fun c_m0 => ?_)
    · have t0 : ¬ p_tc tx n (p) = 97 := c_m0
      exact k74 0 (by decide) (by simp [p_mc, t0])
    · refine e_iinc (v := nI (p + 1)) dX9_word_65 rfl (fx_inc _) (by decide) rfl ?_
      refine e_iinc (v := 1) dX9_word_68 rfl (by decide) (by decide) rfl ?_
      refine e_goto 23 dX9_word_71 rfl ?_
      refine e_weak (lv2 := [some (fx_rf Γ 83), some (.int 0), some (.int (nI F)), some (.int 0), some (.int (nI (p + 1))), some (.int 1)]) ⟨rfl, rfl, rfl, rfl, rfl, rfl, trivial⟩ ?_
      refine e_aload_n dX9_word_23 rfl ?_
      refine e_getr (o2 := 106) dX9_word_24 ff_X9_84 rfl (fx_pi_lt (by decide)) (by decide) rfl (hL _ _ _ rfl) ?_
      refine e_iload dX9_word_27 rfl ?_
      refine e_ialdv (j := 1) (v := 114) dX9_word_29 rfl (fx_pi_lt (by decide)) rfl (by decide) (by decide) (W.1 1 (by decide)) ?_
      refine e_if_eq 74 dX9_word_30 rfl (fun h => absurd h (by decide)) (fun _ => ?_)
      refine e_iload dX9_word_33 rfl ?_
      refine e_aload_n dX9_word_35 rfl ?_
      refine e_getv (v := nI n) dX9_word_36 ff_X9_199 rfl (fx_pi_lt (by decide)) (by decide) rfl q2 ?_
      refine e_icmp_ge 74 dX9_word_39 rfl (fun c_e1 => ?_) (fun c_e1 => ?_)
      · have t0 : p_tc tx n (p) = 97 := c_m0
        have t1 : ¬ p_tc tx n (p + 1) = 114 := by rw [R.tn (fun q => nI_ge (a := p + 1) (b := n) q (by omega) c_e1)]; decide
        exact k74 1 (by decide) (by simp [p_mc, t0, t1])
      · have l1 : p + 1 < n := by rcases Nat.lt_or_ge (p + 1) n with h | h; exact h; exact absurd (nI_le h (by omega)) c_e1
        refine e_aload_n dX9_word_42 rfl ?_
        refine e_getr (o2 := 104) dX9_word_43 ff_X9_77 rfl (fx_pi_lt (by decide)) (by decide) rfl (hL _ _ _ rfl) ?_
        refine e_aload_n dX9_word_46 rfl ?_
        refine e_getv (v := nI (160 * k)) dX9_word_47 ff_X9_202 rfl (fx_pi_lt (by decide)) (by decide) rfl q1 ?_
        refine e_iload dX9_word_50 rfl ?_
        refine e_iadd dX9_word_52 ?_
        refine e_lald (j := 160 * k + (p + 1)) dX9_word_53 rfl (fx_pi_lt (by decide)) (by rw [nI_add]) (by omega) (by decide) ?_
        refine e_l2i dX9_word_54 ?_
        rw [R.tq l1]
        refine e_aload_n dX9_word_55 rfl ?_
        refine e_getr (o2 := 106) dX9_word_56 ff_X9_84 rfl (fx_pi_lt (by decide)) (by decide) rfl (hL _ _ _ rfl) ?_
        refine e_iload dX9_word_59 rfl ?_
        refine e_ialdv (j := 1) (v := 114) dX9_word_61 rfl (fx_pi_lt (by decide)) rfl (by decide) (by decide) (W.1 1 (by decide)) ?_
        refine e_icmp_ne 74 dX9_word_62 rfl (fun c_m1 => ?_) (fun c_m1 => ?_)
        · have t0 : p_tc tx n (p) = 97 := c_m0
          have t1 : ¬ p_tc tx n (p + 1) = 114 := c_m1
          exact k74 1 (by decide) (by simp [p_mc, t0, t1])
        · refine e_iinc (v := nI ((p + 1) + 1)) dX9_word_65 rfl (fx_inc _) (by decide) rfl ?_
          refine e_iinc (v := 2) dX9_word_68 rfl (by decide) (by decide) rfl ?_
          refine e_goto 23 dX9_word_71 rfl ?_
          refine e_weak (lv2 := [some (fx_rf Γ 83), some (.int 0), some (.int (nI F)), some (.int 0), some (.int (nI ((p + 1) + 1))), some (.int 2)]) ⟨rfl, rfl, rfl, rfl, rfl, rfl, trivial⟩ ?_
          refine e_aload_n dX9_word_23 rfl ?_
          refine e_getr (o2 := 106) dX9_word_24 ff_X9_84 rfl (fx_pi_lt (by decide)) (by decide) rfl (hL _ _ _ rfl) ?_
          refine e_iload dX9_word_27 rfl ?_
          refine e_ialdv (j := 2) (v := 109) dX9_word_29 rfl (fx_pi_lt (by decide)) rfl (by decide) (by decide) (W.1 2 (by decide)) ?_
          refine e_if_eq 74 dX9_word_30 rfl (fun h => absurd h (by decide)) (fun _ => ?_)
          refine e_iload dX9_word_33 rfl ?_
          refine e_aload_n dX9_word_35 rfl ?_
          refine e_getv (v := nI n) dX9_word_36 ff_X9_199 rfl (fx_pi_lt (by decide)) (by decide) rfl q2 ?_
          refine e_icmp_ge 74 dX9_word_39 rfl (fun c_e2 => ?_) (fun c_e2 => ?_)
          · have t0 : p_tc tx n (p) = 97 := c_m0
            have t1 : p_tc tx n (p + 1) = 114 := c_m1
            have t2 : ¬ p_tc tx n (p + 1 + 1) = 109 := by rw [R.tn (fun q => nI_ge (a := p + 1 + 1) (b := n) q (by omega) c_e2)]; decide
            exact k74 2 (by decide) (by simp [p_mc, t0, t1, t2])
          · have l2 : (p + 1) + 1 < n := by rcases Nat.lt_or_ge ((p + 1) + 1) n with h | h; exact h; exact absurd (nI_le h (by omega)) c_e2
            refine e_aload_n dX9_word_42 rfl ?_
            refine e_getr (o2 := 104) dX9_word_43 ff_X9_77 rfl (fx_pi_lt (by decide)) (by decide) rfl (hL _ _ _ rfl) ?_
            refine e_aload_n dX9_word_46 rfl ?_
            refine e_getv (v := nI (160 * k)) dX9_word_47 ff_X9_202 rfl (fx_pi_lt (by decide)) (by decide) rfl q1 ?_
            refine e_iload dX9_word_50 rfl ?_
            refine e_iadd dX9_word_52 ?_
            refine e_lald (j := 160 * k + ((p + 1) + 1)) dX9_word_53 rfl (fx_pi_lt (by decide)) (by rw [nI_add]) (by omega) (by decide) ?_
            refine e_l2i dX9_word_54 ?_
            rw [R.tq l2]
            refine e_aload_n dX9_word_55 rfl ?_
            refine e_getr (o2 := 106) dX9_word_56 ff_X9_84 rfl (fx_pi_lt (by decide)) (by decide) rfl (hL _ _ _ rfl) ?_
            refine e_iload dX9_word_59 rfl ?_
            refine e_ialdv (j := 2) (v := 109) dX9_word_61 rfl (fx_pi_lt (by decide)) rfl (by decide) (by decide) (W.1 2 (by decide)) ?_
            refine e_icmp_ne 74 dX9_word_62 rfl (fun c_m2 => ?_) (fun c_m2 => ?_)
            · have t0 : p_tc tx n (p) = 97 := c_m0
              have t1 : p_tc tx n (p + 1) = 114 := c_m1
              have t2 : ¬ p_tc tx n (p + 1 + 1) = 109 := c_m2
              exact k74 2 (by decide) (by simp [p_mc, t0, t1, t2])
            · refine e_iinc (v := nI (((p + 1) + 1) + 1)) dX9_word_65 rfl (fx_inc _) (by decide) rfl ?_
              refine e_iinc (v := 3) dX9_word_68 rfl (by decide) (by decide) rfl ?_
              refine e_goto 23 dX9_word_71 rfl ?_
              refine e_weak (lv2 := [some (fx_rf Γ 83), some (.int 0), some (.int (nI F)), some (.int 0), some (.int (nI (((p + 1) + 1) + 1))), some (.int 3)]) ⟨rfl, rfl, rfl, rfl, rfl, rfl, trivial⟩ ?_
              refine e_aload_n dX9_word_23 rfl ?_
              refine e_getr (o2 := 106) dX9_word_24 ff_X9_84 rfl (fx_pi_lt (by decide)) (by decide) rfl (hL _ _ _ rfl) ?_
              refine e_iload dX9_word_27 rfl ?_
              refine e_ialdv (j := 3) (v := 32) dX9_word_29 rfl (fx_pi_lt (by decide)) rfl (by decide) (by decide) (W.1 3 (by decide)) ?_
              refine e_if_eq 74 dX9_word_30 rfl (fun h => absurd h (by decide)) (fun _ => ?_)
              refine e_iload dX9_word_33 rfl ?_
              refine e_aload_n dX9_word_35 rfl ?_
              refine e_getv (v := nI n) dX9_word_36 ff_X9_199 rfl (fx_pi_lt (by decide)) (by decide) rfl q2 ?_
              refine e_icmp_ge 74 dX9_word_39 rfl (fun c_e3 => ?_) (fun c_e3 => ?_)
              · have t0 : p_tc tx n (p) = 97 := c_m0
                have t1 : p_tc tx n (p + 1) = 114 := c_m1
                have t2 : p_tc tx n (p + 1 + 1) = 109 := c_m2
                have t3 : ¬ p_tc tx n (p + 1 + 1 + 1) = 32 := by rw [R.tn (fun q => nI_ge (a := p + 1 + 1 + 1) (b := n) q (by omega) c_e3)]; decide
                exact k74 3 (by decide) (by simp [p_mc, t0, t1, t2, t3])
              · have l3 : ((p + 1) + 1) + 1 < n := by rcases Nat.lt_or_ge (((p + 1) + 1) + 1) n with h | h; exact h; exact absurd (nI_le h (by omega)) c_e3
                refine e_aload_n dX9_word_42 rfl ?_
                refine e_getr (o2 := 104) dX9_word_43 ff_X9_77 rfl (fx_pi_lt (by decide)) (by decide) rfl (hL _ _ _ rfl) ?_
                refine e_aload_n dX9_word_46 rfl ?_
                refine e_getv (v := nI (160 * k)) dX9_word_47 ff_X9_202 rfl (fx_pi_lt (by decide)) (by decide) rfl q1 ?_
                refine e_iload dX9_word_50 rfl ?_
                refine e_iadd dX9_word_52 ?_
                refine e_lald (j := 160 * k + (((p + 1) + 1) + 1)) dX9_word_53 rfl (fx_pi_lt (by decide)) (by rw [nI_add]) (by omega) (by decide) ?_
                refine e_l2i dX9_word_54 ?_
                rw [R.tq l3]
                refine e_aload_n dX9_word_55 rfl ?_
                refine e_getr (o2 := 106) dX9_word_56 ff_X9_84 rfl (fx_pi_lt (by decide)) (by decide) rfl (hL _ _ _ rfl) ?_
                refine e_iload dX9_word_59 rfl ?_
                refine e_ialdv (j := 3) (v := 32) dX9_word_61 rfl (fx_pi_lt (by decide)) rfl (by decide) (by decide) (W.1 3 (by decide)) ?_
                refine e_icmp_ne 74 dX9_word_62 rfl (fun c_m3 => ?_) (fun c_m3 => ?_)
                · have t0 : p_tc tx n (p) = 97 := c_m0
                  have t1 : p_tc tx n (p + 1) = 114 := c_m1
                  have t2 : p_tc tx n (p + 1 + 1) = 109 := c_m2
                  have t3 : ¬ p_tc tx n (p + 1 + 1 + 1) = 32 := c_m3
                  exact k74 3 (by decide) (by simp [p_mc, t0, t1, t2, t3])
                · refine e_iinc (v := nI ((((p + 1) + 1) + 1) + 1)) dX9_word_65 rfl (fx_inc _) (by decide) rfl ?_
                  refine e_iinc (v := 4) dX9_word_68 rfl (by decide) (by decide) rfl ?_
                  refine e_goto 23 dX9_word_71 rfl ?_
                  refine e_weak (lv2 := [some (fx_rf Γ 83), some (.int 0), some (.int (nI F)), some (.int 0), some (.int (nI ((((p + 1) + 1) + 1) + 1))), some (.int 4)]) ⟨rfl, rfl, rfl, rfl, rfl, rfl, trivial⟩ ?_
                  refine e_aload_n dX9_word_23 rfl ?_
                  refine e_getr (o2 := 106) dX9_word_24 ff_X9_84 rfl (fx_pi_lt (by decide)) (by decide) rfl (hL _ _ _ rfl) ?_
                  refine e_iload dX9_word_27 rfl ?_
                  refine e_ialdv (j := 4) (v := 0) dX9_word_29 rfl (fx_pi_lt (by decide)) rfl (by decide) (by decide) (W.1 4 (by decide)) ?_
                  refine e_if_eq 74 dX9_word_30 rfl (fun _ => ?_) (fun h => absurd (by decide) h)
                  have t0 : p_tc tx n (p) = 97 := c_m0
                  have t1 : p_tc tx n (p + 1) = 114 := c_m1
                  have t2 : p_tc tx n (p + 1 + 1) = 109 := c_m2
                  have t3 : p_tc tx n (p + 1 + 1 + 1) = 32 := c_m3
                  exact k74 4 (by decide) (by simp [p_mc, t0, t1, t2, t3])
set_option maxRecDepth 100000 in
set_option maxHeartbeats 600000 in
theorem s_X9_word {Γ : fx_G} {m : fx_M} (hL : fx_Lay m) {k n p : Nat} {tx : Nat → Int32} (R : fx_MR m k n tx p) (W : fx_WC m) : fx_Ct Γ mX9_word 0 119 119 [fx_rf Γ 83] m (fx_WP n m (p_wd tx n p [(0, [97, 114, 109, 32]), (1, [100, 111, 108, 108, 32]), (2, [111, 110, 32]), (3, [111, 102, 102, 32]), (4, [108, 105, 101, 115, 32])] p)) := by
  refine fx_Ct.of (j := 5) (by decide) (Nat.le_of_ble_eq_true rfl) (Nat.le_of_ble_eq_true rfl) ?_
  show fx_E Γ mX9_word 0 119 119 _ 119 m 0 [some (fx_rf Γ 83), none, none, none, none, none] []
  obtain ⟨q1, q2, q3, hk, hn, hp, q7⟩ := R
  have R : fx_MR m k n tx p := ⟨q1, q2, q3, hk, hn, hp, q7⟩
  refine e_iconst dX9_word_0 kci_0 ?_
  refine e_istore_n dX9_word_1 (by decide) rfl ?_
  refine e_aload_n dX9_word_2 rfl ?_
  refine e_getv (v := nI p) dX9_word_3 ff_X9_196 rfl (fx_pi_lt (by decide)) (by decide) rfl q3 ?_
  refine e_istore_n dX9_word_6 (by decide) rfl ?_
  refine e_iconst dX9_word_7 kci_0 ?_
  refine e_istore_n dX9_word_8 (by decide) rfl ?_
  exact s_X9_word0 hL R W hp
