/-! the parting: the new arm -/
/-- the record of the new arm of code c -/
def p_new (c : Nat) (k : Nat) : Int32 := if k = 2 then nI c / 100 else if k = 3 then nI c / 10 - nI c / 10 / 10 * 10 else if k = 4 then nI c - nI c / 10 * 10 else if k = 6 then 99 else 0
theorem p_new_rd {m : fx_M} {c : Nat} : ∀ x, x < 7 → (fx_sI (fx_sI (fx_sI (fx_sI (fx_sI (fx_sI (fx_sI m 62 0 0) 62 1 0) 62 2 (nI c / 100)) 62 3 (nI c / 10 - nI c / 10 / 10 * 10)) 62 4 (nI c - nI c / 10 * 10)) 62 5 0) 62 6 99).1 62 x = p_new c x := fun x hx => by
  obtain h | h | h | h | h | h | h : x = 0 ∨ x = 1 ∨ x = 2 ∨ x = 3 ∨ x = 4 ∨ x = 5 ∨ x = 6 := by omega
  all_goals (subst h; simp [fx_sI, p_new])
theorem p_fit_congr {A A' D : Nat → Int32} {s : Int32} (h : ∀ k, k < 7 → A k = A' k) : p_fit A D s ↔ p_fit A' D s := by
  simp only [p_fit, h 0 (by decide), h 2 (by decide), h 3 (by decide)]
theorem p_far_congr {A A' D : Nat → Int32} {x y : Int32} (h : ∀ k, k < 7 → A k = A' k) : p_far A D x y = p_far A' D x y := by
  simp only [p_far, p_shade, p_wear, h 0 (by decide), h 1 (by decide), h 3 (by decide)]
theorem p_bwa1_congr {N N' : Nat → Int32} {D D' : Nat → Nat → Int32} {dl : Nat → Nat} {sd sd' Wo Wo' : Nat → Int32} {t : Nat} {z : Int32} (hN : ∀ k, k < 7 → N k = N' k) (hD : D (dl t) = D' (dl t)) (hs : sd t = sd' t) (hW : Wo t = Wo' t) : p_bwa1 N D dl sd Wo t z = p_bwa1 N' D' dl sd' Wo' t z := by
  unfold p_bwa1
  rw [hD, hs, hW, hN 4 (by decide), hN 5 (by decide), p_far_congr hN]
  by_cases h : p_fit N (D' (dl t)) (sd' t)
  · rw [if_pos h, if_pos ((p_fit_congr hN).mp h)]
  · rw [if_neg h, if_neg (mt (p_fit_congr hN).mpr h)]
def p_caV (D : Nat → Nat → Int32) (dl : Nat → Nat) (sd Wo : Nat → Int32) (ns : Nat) (b : Int32) (c : Nat) : Int32 := p_fold (p_bwa1 (p_new c) D dl sd Wo) ns 0 b
def p_ca1 (v : Nat → Int32) (k : Nat) (s : Int32 × Int32) : Int32 × Int32 := if s.2 < v k then (nI k, v k) else s
theorem p_ca1_y {v : Nat → Int32} {k : Nat} {f z : Int32} (h : z < v k) : p_ca1 v k (f, z) = (nI k, v k) := if_pos h
theorem p_ca1_n {v : Nat → Int32} {k : Nat} {f z : Int32} (h : ¬ z < v k) : p_ca1 v k (f, z) = (f, z) := if_neg h
def p_ca (D : Nat → Nat → Int32) (dl : Nat → Nat) (sd Wo : Nat → Int32) (ns : Nat) (b : Int32) : Int32 := (p_fold (p_ca1 (p_caV D dl sd Wo ns b)) 200 0 (0, b)).1
set_option maxRecDepth 100000 in
set_option maxHeartbeats 600000 in
theorem s_X3_castAnew {Γ : fx_G} {m : fx_M} (hL : fx_Lay m) {np : Nat} (hnp : m.1 53 9 = nI np) (h8 : np ≤ 8) {ns : Nat} (hns : m.1 53 10 = nI ns) (h10 : ns ≤ 10) {ab : Nat → Nat} (hab : ∀ t, t < ns → m.1 60 t = nI (ab t) ∧ ab t < 256) (S : Nat) (HS : fx_St S) {dl : Nat → Nat} (hdl : ∀ t, t < ns → m.1 58 t = nI (dl t) ∧ dl t < 5) : fx_Ct Γ mX3_castAnew 7 119 119 [fx_rf Γ 53, fx_rf Γ S] m (fun r m' => r = some (.int (p_ca (fx_dr m S) dl (m.1 59) (p_wo (fun t p => m.1 61 (t * 8 + p)) ab np (m.1 54)) ns (m.1 54 (2 ^ np - 1)))) ∧ fx_oP (fun o => o = 55 ∨ o = 56 ∨ o = 62) m m') := by
  refine fx_Ct.of (j := 4) (by decide) (Nat.le_of_ble_eq_true rfl) (Nat.le_of_ble_eq_true rfl) ?_
  show fx_E Γ mX3_castAnew 7 119 119 _ 119 m 0 [some (fx_rf Γ 53), some (fx_rf Γ S), none, none, none, none] []
  have h2 := p_256 h8
  have h20 : 0 < 2 ^ np := Nat.two_pow_pos np
  have lp : ∀ (j : Nat) (k : Nat) (m1 : fx_M) (f z : Int32), k + j = 200 → fx_oP (fun o => o = 55 ∨ o = 56 ∨ o = 62) m m1 → (∀ t, t < ns → m1.1 56 t = (p_wo (fun t p => m.1 61 (t * 8 + p)) ab np (m.1 54)) t) → fx_E Γ mX3_castAnew 7 119 119 (fun r m' => r = some (.int ((p_fold (p_ca1 (p_caV (fx_dr m S) dl (m.1 59) (p_wo (fun t p => m.1 61 (t * 8 + p)) ab np (m.1 54)) ns (m.1 54 (2 ^ np - 1)))) j k (f, z)).1)) ∧ fx_oP (fun o => o = 55 ∨ o = 56 ∨ o = 62) m m') 119 m1 19 [some (fx_rf Γ 53), some (fx_rf Γ S), some (.int f), some (.int z), some (.int (nI k)), none] [] := by
    intro j
    induction j with
    | zero =>
      intro k m1 f z hk o1 w1
      have hL1 := o1.lay hL
      have hnp1 : m1.1 53 9 = nI np := by rw [o1.2 53 (by decide)]; exact hnp
      have hns1 : m1.1 53 10 = nI ns := by rw [o1.2 53 (by decide)]; exact hns
      refine e_iload dX3_castAnew_19 rfl ?_
      refine e_sipush dX3_castAnew_21 kcs_200 ?_
      refine e_icmp_ge 80 dX3_castAnew_24 rfl (fun _ => ?_) (fun h => absurd (show nI 200 ≤ nI k from nI_le (by omega) (by omega)) h)
      refine e_iload_n dX3_castAnew_80 rfl ?_
      exact e_iret dX3_castAnew_81 rfl rfl rfl ⟨rfl, o1⟩
    | succ j ih =>
      intro k m1 f z hk o1 w1
      have hL1 := o1.lay hL
      have hnp1 : m1.1 53 9 = nI np := by rw [o1.2 53 (by decide)]; exact hnp
      have hns1 : m1.1 53 10 = nI ns := by rw [o1.2 53 (by decide)]; exact hns
      refine e_iload dX3_castAnew_19 rfl ?_
      refine e_sipush dX3_castAnew_21 kcs_200 ?_
      refine e_icmp_ge 80 dX3_castAnew_24 rfl (fun h => absurd h (show ¬ nI 200 ≤ nI k from nI_ge (by omega) (by omega))) (fun _ => ?_)
      refine e_aload_n dX3_castAnew_27 rfl ?_
      refine e_getr (o2 := 62) dX3_castAnew_28 ff_X3_41 rfl (fx_pi_lt (by decide)) (by decide) rfl (hL1 _ _ _ rfl) ?_
      refine e_iconst dX3_castAnew_31 kci_0 ?_
      refine e_iconst dX3_castAnew_32 kci_0 ?_
      refine e_iload dX3_castAnew_33 rfl ?_
      refine e_bipush dX3_castAnew_35 kcb_100 ?_
      refine e_idiv dX3_castAnew_37 (by decide) ?_
      refine e_iload dX3_castAnew_38 rfl ?_
      refine e_bipush dX3_castAnew_40 kcb_10 ?_
      refine e_idiv dX3_castAnew_42 (by decide) ?_
      refine e_bipush dX3_castAnew_43 kcb_10 ?_
      refine e_irem dX3_castAnew_45 (by decide) ?_
      refine e_iload dX3_castAnew_46 rfl ?_
      refine e_bipush dX3_castAnew_48 kcb_10 ?_
      refine e_irem dX3_castAnew_50 (by decide) ?_
      refine e_iconst dX3_castAnew_51 kci_0 ?_
      refine e_callV (μ' := mX0_become) (ci := 0) (As := [.int 0, .int 0, .int ((nI k) / 100), .int (((nI k) / 10) - ((nI k) / 10) / 10 * 10), .int ((nI k) - (nI k) / 10 * 10), .int 0]) dX3_castAnew_52 wl_X3_127 ok_X0_become rfl rfl (fx_pi_lt (by decide)) (by decide) (Nat.le_of_ble_eq_true rfl) fx_n1 (s_X0_become (m := m1) 62 rfl (by decide) 0 0 ((nI k) / 100) (((nI k) / 10) - ((nI k) / 10) / 10 * 10) ((nI k) - (nI k) / 10 * 10) 0) rfl (fun r_ m_ hpost => ?_)
      obtain ⟨rfl, e2⟩ := hpost
      have o2 : fx_oP (fun o => o = 55 ∨ o = 56 ∨ o = 62) m m_ := by rw [e2]; exact (((((((o1.sI (Or.inr (Or.inr rfl))).sI (Or.inr (Or.inr rfl))).sI (Or.inr (Or.inr rfl))).sI (Or.inr (Or.inr rfl))).sI (Or.inr (Or.inr rfl))).sI (Or.inr (Or.inr rfl))).sI (Or.inr (Or.inr rfl)))
      have n2 : ∀ x, x < 7 → m_.1 62 x = p_new k x := by rw [e2]; exact p_new_rd
      have w2 : m_.1 56 = m1.1 56 := by rw [e2]; simp only [fx_sI_n _ _ _ (show 56 ≠ 62 by decide)]
      have hL2 := o2.lay hL
      have hnp2 : m_.1 53 9 = nI np := by rw [o2.2 53 (by decide)]; exact hnp
      have hns2 : m_.1 53 10 = nI ns := by rw [o2.2 53 (by decide)]; exact hns
      have hdl2 : ∀ t, t < ns → m_.1 58 t = nI (dl t) ∧ dl t < 5 := fun t ht => by rw [o2.2 58 (by decide)]; exact hdl t ht
      have eV : p_fold (p_bwa1 (m_.1 62) (fx_dr m_ S) dl (m_.1 59) (m_.1 56)) ns 0 (m_.1 54 (2 ^ np - 1)) = (p_caV (fx_dr m S) dl (m.1 59) (p_wo (fun t p => m.1 61 (t * 8 + p)) ab np (m.1 54)) ns (m.1 54 (2 ^ np - 1))) k := by rw [o2.2 54 (by decide), o2.2 59 (by decide), w2]; exact p_fold_congr ns 0 _ (fun t s _ ht => p_bwa1_congr n2 (o2.2 _ (by have := (hdl t (by omega)).2; rcases HS with rfl | rfl | rfl <;> omega)) rfl (w1 t (by omega)))
      refine e_aload_n dX3_castAnew_55 rfl ?_
      refine e_aload_n dX3_castAnew_56 rfl ?_
      refine e_callV1 (μ' := mX3_bestWithAnew) (ci := 3) (As := [fx_rf Γ S]) dX3_castAnew_57 wl_X3_131 ok_X3_bestWithAnew rfl rfl (fx_pi_lt (by decide)) (by decide) (Nat.le_of_ble_eq_true rfl) fx_n1 (s_X3_bestWithAnew (m := m_) hL2 hnp2 h8 hns2 h10 S HS (dl := dl) hdl2) rfl ?_
      rw [eV]
      refine e_istore dX3_castAnew_60 (by decide) rfl ?_
      refine e_iload dX3_castAnew_62 rfl ?_
      refine e_iload_n dX3_castAnew_64 rfl ?_
      refine e_icmp_le 74 dX3_castAnew_65 rfl (fun c_v => ?_) (fun c_v => ?_)
      · refine e_iinc (v := nI (k + 1)) dX3_castAnew_74 rfl (fx_inc _) (by decide) rfl ?_
        refine e_goto 19 dX3_castAnew_77 rfl ?_
        refine e_weak (lv2 := [some (fx_rf Γ 53), some (fx_rf Γ S), some (.int f), some (.int z), some (.int (nI (k + 1))), none]) ⟨rfl, rfl, rfl, rfl, rfl, trivial⟩ ?_
        rw [p_fold_s (p_ca1_n (v := (p_caV (fx_dr m S) dl (m.1 59) (p_wo (fun t p => m.1 61 (t * 8 + p)) ab np (m.1 54)) ns (m.1 54 (2 ^ np - 1)))) (f := f) (Int32.not_lt.mpr c_v))]
        exact ih (k + 1) m_ _ _ (by omega) o2 (fun t ht => by rw [w2]; exact w1 t ht)
      · refine e_iload dX3_castAnew_68 rfl ?_
        refine e_istore_n dX3_castAnew_70 (by decide) rfl ?_
        refine e_iload dX3_castAnew_71 rfl ?_
        refine e_istore_n dX3_castAnew_73 (by decide) rfl ?_
        refine e_iinc (v := nI (k + 1)) dX3_castAnew_74 rfl (fx_inc _) (by decide) rfl ?_
        refine e_goto 19 dX3_castAnew_77 rfl ?_
        refine e_weak (lv2 := [some (fx_rf Γ 53), some (fx_rf Γ S), some (.int (nI k)), some (.int ((p_caV (fx_dr m S) dl (m.1 59) (p_wo (fun t p => m.1 61 (t * 8 + p)) ab np (m.1 54)) ns (m.1 54 (2 ^ np - 1))) k)), some (.int (nI (k + 1))), none]) ⟨rfl, rfl, rfl, rfl, rfl, trivial⟩ ?_
        rw [p_fold_s (p_ca1_y (v := (p_caV (fx_dr m S) dl (m.1 59) (p_wo (fun t p => m.1 61 (t * 8 + p)) ab np (m.1 54)) ns (m.1 54 (2 ^ np - 1)))) (f := f) (Int32.not_le.mp c_v))]
        exact ih (k + 1) m_ _ _ (by omega) o2 (fun t ht => by rw [w2]; exact w1 t ht)
  refine e_aload_n dX3_castAnew_0 rfl ?_
  refine e_callV (μ' := mX3_weighWithoutEach) (ci := 3) (As := []) dX3_castAnew_1 wl_X3_124 ok_X3_weighWithoutEach rfl rfl (fx_pi_lt (by decide)) (by decide) (Nat.le_of_ble_eq_true rfl) fx_n1 (s_X3_weighWithoutEach (m := m) hL hnp h8 hns h10 (ab := ab) hab) rfl (fun r_ m_ hpost => ?_)
  obtain ⟨rfl, o1, w1⟩ := hpost
  have hL1 := o1.lay hL
  have hnp1 : m_.1 53 9 = nI np := by rw [o1.2 53 (by decide)]; exact hnp
  refine e_iconst dX3_castAnew_4 kci_0 ?_
  refine e_istore_n dX3_castAnew_5 (by decide) rfl ?_
  refine e_aload_n dX3_castAnew_6 rfl ?_
  refine e_getr (o2 := 54) dX3_castAnew_7 ff_X3_13 rfl (fx_pi_lt (by decide)) (by decide) rfl (hL1 _ _ _ rfl) ?_
  refine e_aload_n dX3_castAnew_10 rfl ?_
  refine e_callV1 (μ' := mX3_all) (ci := 3) (As := []) dX3_castAnew_11 wl_X3_63 ok_X3_all rfl rfl (fx_pi_lt (by decide)) (by decide) (Nat.le_of_ble_eq_true rfl) fx_n1 (s_X3_all (m := m_) hL1 hnp1 h8) rfl ?_
  refine e_iald (j := 2 ^ np - 1) dX3_castAnew_14 rfl (fx_pi_lt (by decide)) rfl (by omega) (by decide) ?_
  refine e_istore_n dX3_castAnew_15 (by decide) rfl ?_
  refine e_iconst dX3_castAnew_16 kci_0 ?_
  refine e_istore dX3_castAnew_17 (by decide) rfl ?_
  rw [o1.2 54 (by decide)]
  exact lp 200 0 m_ 0 (m.1 54 (2 ^ np - 1)) (by omega) ⟨o1.1, fun o ho => o1.2 o (fun h => ho (by rcases h with h | h; exact Or.inl h; exact Or.inr (Or.inl h)))⟩ w1
