/-! the parting: a slot is kept -/
def fx_KS (m : fx_M) (t d : Nat) (e : Int32) (W : Nat → Int32) (k : Nat) (m1 : fx_M) : Prop := (fx_oP (fun o => o = 53 ∨ o = 58 ∨ o = 59 ∨ o = 60 ∨ o = 61) m m1) ∧ (fx_fl m1) ∧ (fx_qu m m1) ∧ (∀ i, i ≠ 11 → m1.1 53 i = m.1 53 i) ∧ (m1.1 58 t = nI d) ∧ (m1.1 59 t = e) ∧ (∀ u, u < t → m1.1 58 u = m.1 58 u ∧ m1.1 59 u = m.1 59 u ∧ m1.1 60 u = m.1 60 u) ∧ (∀ i, i < t * 8 → m1.1 61 i = m.1 61 i) ∧ (∀ p, p < k → m1.1 61 (t * 8 + p) = W p)
theorem fx_KS.mk {m m1 : fx_M} {t d k : Nat} {e : Int32} {W : Nat → Int32} (on : fx_oP (fun o => o = 53 ∨ o = 58 ∨ o = 59 ∨ o = 60 ∨ o = 61) m m1) (fl : fx_fl m1) (qu : fx_qu m m1) (c53 : ∀ i, i ≠ 11 → m1.1 53 i = m.1 53 i) (dl : m1.1 58 t = nI d) (sd : m1.1 59 t = e) (be : ∀ u, u < t → m1.1 58 u = m.1 58 u ∧ m1.1 59 u = m.1 59 u ∧ m1.1 60 u = m.1 60 u) (wb : ∀ i, i < t * 8 → m1.1 61 i = m.1 61 i) (w : ∀ p, p < k → m1.1 61 (t * 8 + p) = W p) : fx_KS m t d e W k m1 := ⟨on, fl, qu, c53, dl, sd, be, wb, w⟩
theorem fx_KS.on {m m1 : fx_M} {t d k : Nat} {e : Int32} {W : Nat → Int32} (h : fx_KS m t d e W k m1) : fx_oP (fun o => o = 53 ∨ o = 58 ∨ o = 59 ∨ o = 60 ∨ o = 61) m m1 := h.1
theorem fx_KS.fl {m m1 : fx_M} {t d k : Nat} {e : Int32} {W : Nat → Int32} (h : fx_KS m t d e W k m1) : fx_fl m1 := h.2.1
theorem fx_KS.qu {m m1 : fx_M} {t d k : Nat} {e : Int32} {W : Nat → Int32} (h : fx_KS m t d e W k m1) : fx_qu m m1 := h.2.2.1
theorem fx_KS.c53 {m m1 : fx_M} {t d k : Nat} {e : Int32} {W : Nat → Int32} (h : fx_KS m t d e W k m1) : ∀ i, i ≠ 11 → m1.1 53 i = m.1 53 i := h.2.2.2.1
theorem fx_KS.dl {m m1 : fx_M} {t d k : Nat} {e : Int32} {W : Nat → Int32} (h : fx_KS m t d e W k m1) : m1.1 58 t = nI d := h.2.2.2.2.1
theorem fx_KS.sd {m m1 : fx_M} {t d k : Nat} {e : Int32} {W : Nat → Int32} (h : fx_KS m t d e W k m1) : m1.1 59 t = e := h.2.2.2.2.2.1
theorem fx_KS.be {m m1 : fx_M} {t d k : Nat} {e : Int32} {W : Nat → Int32} (h : fx_KS m t d e W k m1) : ∀ u, u < t → m1.1 58 u = m.1 58 u ∧ m1.1 59 u = m.1 59 u ∧ m1.1 60 u = m.1 60 u := h.2.2.2.2.2.2.1
theorem fx_KS.wb {m m1 : fx_M} {t d k : Nat} {e : Int32} {W : Nat → Int32} (h : fx_KS m t d e W k m1) : ∀ i, i < t * 8 → m1.1 61 i = m.1 61 i := h.2.2.2.2.2.2.2.1
theorem fx_KS.w {m m1 : fx_M} {t d k : Nat} {e : Int32} {W : Nat → Int32} (h : fx_KS m t d e W k m1) : ∀ p, p < k → m1.1 61 (t * 8 + p) = W p := h.2.2.2.2.2.2.2.2
theorem fx_KS.start {m : fx_M} {t d : Nat} {e : Int32} {W : Nat → Int32} (hf : fx_fl m) : fx_KS m t d e W 0 (fx_kp (fx_kp m 58 t (nI d)) 59 t e) := fx_KS.mk
  (on := fx_kp_on (fx_kp_on (fx_oP.refl _ m) (Or.inr (Or.inl rfl)) (Or.inl rfl)) (Or.inr (Or.inr (Or.inl rfl))) (Or.inl rfl))
  (fl := fx_kp_fl (fx_kp_fl hf (by decide)) (by decide))
  (qu := (fx_kp_qu hf (by decide)).trans (fx_kp_qu (fx_kp_fl hf (by decide)) (by decide)))
  (c53 := fun i hi => by rw [fx_kp_n (Or.inl (by decide)) (Or.inr hi), fx_kp_n (Or.inl (by decide)) (Or.inr hi)])
  (dl := by rw [fx_kp_n (Or.inl (by decide)) (Or.inl (by decide)), fx_kp_0])
  (sd := fx_kp_0)
  (be := fun u hu => ⟨by rw [fx_kp_n (Or.inl (by decide)) (Or.inl (by decide)), fx_kp_n (Or.inr (by omega)) (Or.inl (by decide))], by rw [fx_kp_n (Or.inr (by omega)) (Or.inl (by decide)), fx_kp_n (Or.inl (by decide)) (Or.inl (by decide))], by rw [fx_kp_n (Or.inl (by decide)) (Or.inl (by decide)), fx_kp_n (Or.inl (by decide)) (Or.inl (by decide))]⟩)
  (wb := fun i _ => by rw [fx_kp_n (Or.inl (by decide)) (Or.inl (by decide)), fx_kp_n (Or.inl (by decide)) (Or.inl (by decide))])
  (w := fun p hp => absurd hp (by omega))
theorem fx_KS.step {m m1 : fx_M} {t d k : Nat} {e : Int32} {W : Nat → Int32} (h : fx_KS m t d e W k m1) : fx_KS m t d e W (k + 1) (fx_kp m1 61 (t * 8 + k) (W k)) := fx_KS.mk
  (on := fx_kp_on h.on (Or.inr (Or.inr (Or.inr (Or.inr rfl)))) (Or.inl rfl))
  (fl := fx_kp_fl h.fl (by decide))
  (qu := h.qu.trans (fx_kp_qu h.fl (by decide)))
  (c53 := fun i hi => by rw [fx_kp_n (Or.inl (by decide)) (Or.inr hi)]; exact h.c53 i hi)
  (dl := by rw [fx_kp_n (Or.inl (by decide)) (Or.inl (by decide))]; exact h.dl)
  (sd := by rw [fx_kp_n (Or.inl (by decide)) (Or.inl (by decide))]; exact h.sd)
  (be := fun u hu => by rw [fx_kp_n (Or.inl (by decide)) (Or.inl (by decide)), fx_kp_n (Or.inl (by decide)) (Or.inl (by decide)), fx_kp_n (Or.inl (by decide)) (Or.inl (by decide))]; exact h.be u hu)
  (wb := fun i hi => by rw [fx_kp_n (Or.inr (by omega)) (Or.inl (by decide))]; exact h.wb i hi)
  (w := fun p hp => by
    by_cases hpk : p = k
    · subst hpk; exact fx_kp_0
    · rw [fx_kp_n (Or.inr (by omega)) (Or.inl (by decide))]; exact h.w p (by omega))
theorem fx_KS.fin {m m1 : fx_M} {t d k : Nat} {e v : Int32} {W : Nat → Int32} (h : fx_KS m t d e W k m1) : fx_KS m t d e W k (fx_kp m1 60 t v) ∧ (fx_kp m1 60 t v).1 60 t = v := by
  refine ⟨?_, fx_kp_0⟩
  exact fx_KS.mk
    (on := fx_kp_on h.on (Or.inr (Or.inr (Or.inr (Or.inl rfl)))) (Or.inl rfl))
    (fl := fx_kp_fl h.fl (by decide))
    (qu := h.qu.trans (fx_kp_qu h.fl (by decide)))
    (c53 := fun i hi => by rw [fx_kp_n (Or.inl (by decide)) (Or.inr hi)]; exact h.c53 i hi)
    (dl := by rw [fx_kp_n (Or.inl (by decide)) (Or.inl (by decide))]; exact h.dl)
    (sd := by rw [fx_kp_n (Or.inl (by decide)) (Or.inl (by decide))]; exact h.sd)
    (be := fun u hu => by rw [fx_kp_n (Or.inl (by decide)) (Or.inl (by decide)), fx_kp_n (Or.inl (by decide)) (Or.inl (by decide)), fx_kp_n (Or.inr (by omega)) (Or.inl (by decide))]; exact h.be u hu)
    (wb := fun i hi => by rw [fx_kp_n (Or.inl (by decide)) (Or.inl (by decide))]; exact h.wb i hi)
    (w := fun p hp => by rw [fx_kp_n (Or.inl (by decide)) (Or.inl (by decide))]; exact h.w p hp)
theorem p_ksend {m m1 : fx_M} {t d k np : Nat} {e b : Int32} {W : Nat → Int32} {F : Nat → Prop} [DecidablePred F] (h : fx_KS m t d e W k m1) (hb : b = nI (p_sN F k)) (hk : k = np) : (none : Option Value) = none ∧ fx_KS m t d e W np (fx_kp m1 60 t b) ∧ (fx_kp m1 60 t b).1 60 t = nI (p_sN F np) := by
  subst hk
  exact ⟨rfl, h.fin.1, by rw [h.fin.2]; exact hb⟩
set_option maxRecDepth 100000 in
set_option maxHeartbeats 600000 in
theorem s_X3_keepSlot {Γ : fx_G} {m : fx_M} (S : Nat) (HS : fx_St S) (hL : fx_Lay m) {np t d : Nat} (hnp : m.1 53 9 = nI np) (h8 : np ≤ 8) (ht : t < 10) (hd : d < 5) {pl : Nat → Nat} (hpl : ∀ p, p < np → m.1 57 p = nI (pl p) ∧ pl p < 8) (hf : fx_fl m) (e : Int32) : fx_Ct Γ mX3_keepSlot 4 119 119 [fx_rf Γ 53, fx_rf Γ S, .int (nI t), .int (nI d), .int e] m (fun r m' => r = none ∧ fx_KS m t d e (fun p => 1000 - p_farA (fx_ar m S) (fx_dr m S) (pl p) d) np m' ∧ m'.1 60 t = nI (p_sN (fun p => p_fit (fx_ar m S (pl p)) (fx_dr m S d) e) np)) := by
  refine fx_Ct.of (j := 3) (by decide) (Nat.le_of_ble_eq_true rfl) (Nat.le_of_ble_eq_true rfl) ?_
  show fx_E Γ mX3_keepSlot 4 119 119 _ 119 m 0 [some (fx_rf Γ 53), some (fx_rf Γ S), some (.int (nI t)), some (.int (nI d)), some (.int e), none, none, none] []
  have lp : ∀ (j : Nat) (k : Nat) (m1 : fx_M) (b : Int32), k + j = np → fx_KS m t d e (fun p => 1000 - p_farA (fx_ar m S) (fx_dr m S) (pl p) d) k m1 → b = nI (p_sN (fun p => p_fit (fx_ar m S (pl p)) (fx_dr m S d) e) k) → fx_E Γ mX3_keepSlot 4 119 119 (fun r m' => r = none ∧ fx_KS m t d e (fun p => 1000 - p_farA (fx_ar m S) (fx_dr m S) (pl p) d) np m' ∧ m'.1 60 t = nI (p_sN (fun p => p_fit (fx_ar m S (pl p)) (fx_dr m S d) e) np)) 119 m1 27 [some (fx_rf Γ 53), some (fx_rf Γ S), some (.int (nI t)), some (.int (nI d)), some (.int e), some (.int b), some (.int (nI k)), none] [] := by
    intro j
    induction j with
    | zero =>
      intro k m1 b hk J hb
      have hL1 := J.on.lay hL
      have hnp1 : m1.1 53 9 = nI np := by rw [J.c53 9 (by decide)]; exact hnp
      refine e_iload dX3_keepSlot_27 rfl ?_
      refine e_aload_n dX3_keepSlot_29 rfl ?_
      refine e_getv (v := nI np) dX3_keepSlot_30 ff_X3_45 rfl (fx_pi_lt (by decide)) (by decide) rfl hnp1 ?_
      refine e_icmp_ge 111 dX3_keepSlot_33 rfl (fun _ => ?_) (fun h => absurd (nI_le (by omega) (by omega)) h)
      refine e_aload_n dX3_keepSlot_111 rfl ?_
      refine e_aload_n dX3_keepSlot_112 rfl ?_
      refine e_getr (o2 := 60) dX3_keepSlot_113 ff_X3_32 rfl (fx_pi_lt (by decide)) (by decide) rfl (hL1 _ _ _ rfl) ?_
      refine e_iload_n dX3_keepSlot_116 rfl ?_
      refine e_iload dX3_keepSlot_117 rfl ?_
      refine e_callV1 (μ' := mX3_keep) (ci := 3) (As := [fx_rf Γ 60, .int (nI t), .int b]) dX3_keepSlot_119 wl_X3_82 ok_X3_keep rfl rfl (fx_pi_lt (by decide)) (by decide) (Nat.le_of_ble_eq_true rfl) fx_n1 (s_X3_keep (m := m1) hL1 (r := 60) (len := 10) (i := t) rfl (by decide) (by decide) (by omega) (by decide) J.fl b) rfl ?_
      exact e_vret dX3_keepSlot_122 rfl rfl (p_ksend J hb (by omega))
    | succ j ih =>
      intro k m1 b hk J hb
      have hL1 := J.on.lay hL
      have hnp1 : m1.1 53 9 = nI np := by rw [J.c53 9 (by decide)]; exact hnp
      have hpk := (hpl k (by omega)).2
      have hpl1 : m1.1 57 k = nI (pl k) := by rw [J.on.2 57 (by decide)]; exact (hpl k (by omega)).1
      have eA : m1.1 (S + 3 + pl k) = fx_ar m S (pl k) := J.on.2 _ (by rcases HS with rfl | rfl | rfl <;> omega)
      have eD : m1.1 (S + 11 + d) = fx_dr m S d := J.on.2 _ (by rcases HS with rfl | rfl | rfl <;> omega)
      refine e_iload dX3_keepSlot_27 rfl ?_
      refine e_aload_n dX3_keepSlot_29 rfl ?_
      refine e_getv (v := nI np) dX3_keepSlot_30 ff_X3_45 rfl (fx_pi_lt (by decide)) (by decide) rfl hnp1 ?_
      refine e_icmp_ge 111 dX3_keepSlot_33 rfl (fun h => absurd h (nI_ge (by omega) (by omega))) (fun _ => ?_)
      refine e_aload_n dX3_keepSlot_36 rfl ?_
      refine e_getr (o2 := S + 1) dX3_keepSlot_37 ff_X3_74 HS.sh (fx_pi_lt HS.lt) (by decide) rfl (HS.r0 hL1) ?_
      refine e_aload_n dX3_keepSlot_40 rfl ?_
      refine e_getr (o2 := 57) dX3_keepSlot_41 ff_X3_23 rfl (fx_pi_lt (by decide)) (by decide) rfl (hL1 _ _ _ rfl) ?_
      refine e_iload dX3_keepSlot_44 rfl ?_
      refine e_ialdv (j := k) (v := nI (pl k)) dX3_keepSlot_46 rfl (fx_pi_lt (by decide)) rfl (by omega) (by decide) hpl1 ?_
      refine e_aald (j := pl k) (o2 := S + 3 + (pl k)) dX3_keepSlot_47 HS.s1 (Or.inl rfl) (fx_pi_lt HS.l1) rfl (by omega) (by decide) (HS.ra hL1 (by omega)) ?_
      refine e_astore dX3_keepSlot_48 (by decide) rfl ?_
      refine e_aload dX3_keepSlot_50 rfl ?_
      refine e_aload_n dX3_keepSlot_52 rfl ?_
      refine e_getr (o2 := S + 2) dX3_keepSlot_53 ff_X3_97 HS.sh (fx_pi_lt HS.lt) (by decide) rfl (HS.r1 hL1) ?_
      refine e_iload_n dX3_keepSlot_56 rfl ?_
      refine e_aald (j := d) (o2 := S + 11 + d) dX3_keepSlot_57 HS.s2 (Or.inr (Or.inl rfl)) (fx_pi_lt HS.l2) rfl (by omega) (by decide) (HS.rd hL1 (by omega)) ?_
      refine e_iload dX3_keepSlot_58 rfl ?_
      refine e_callV1 (μ' := mX0_suits) (ci := 0) (As := [fx_rf Γ (S + 11 + d), .int e]) dX3_keepSlot_60 wl_X3_101 ok_X0_suits (HS.sa (by omega)) rfl (fx_pi_lt (HS.la (by omega))) (by decide) (Nat.le_of_ble_eq_true rfl) fx_n1 (s_X0_suits (m := m1) (S + 3 + (pl k)) (HS.sa (by omega)) (HS.la (by omega)) (S + 11 + d) (HS.sd (by omega)) (HS.ld (by omega)) e) rfl ?_
      rw [eA, eD]
      refine e_if_eqB 75 dX3_keepSlot_63 rfl (fun c_f => ?_) (fun c_f => ?_)
      · refine e_aload_n dX3_keepSlot_75 rfl ?_
        refine e_aload_n dX3_keepSlot_76 rfl ?_
        refine e_getr (o2 := 61) dX3_keepSlot_77 ff_X3_35 rfl (fx_pi_lt (by decide)) (by decide) rfl (hL1 _ _ _ rfl) ?_
        refine e_iload_n dX3_keepSlot_80 rfl ?_
        refine e_bipush dX3_keepSlot_81 kcb_8 ?_
        refine e_imul dX3_keepSlot_83 ?_
        refine e_iload dX3_keepSlot_84 rfl ?_
        refine e_iadd dX3_keepSlot_86 ?_
        rw [i_8]
        refine e_sipush dX3_keepSlot_87 kcs_1000 ?_
        refine e_aload dX3_keepSlot_90 rfl ?_
        refine e_aload_n dX3_keepSlot_92 rfl ?_
        refine e_getr (o2 := S + 2) dX3_keepSlot_93 ff_X3_97 HS.sh (fx_pi_lt HS.lt) (by decide) rfl (HS.r1 hL1) ?_
        refine e_iload_n dX3_keepSlot_96 rfl ?_
        refine e_aald (j := d) (o2 := S + 11 + d) dX3_keepSlot_97 HS.s2 (Or.inr (Or.inl rfl)) (fx_pi_lt HS.l2) rfl (by omega) (by decide) (HS.rd hL1 (by omega)) ?_
        refine e_callV1 (μ' := mX0_farFrom) (ci := 0) (As := [fx_rf Γ (S + 11 + d)]) dX3_keepSlot_98 wl_X3_105 ok_X0_farFrom (HS.sa (by omega)) rfl (fx_pi_lt (HS.la (by omega))) (by decide) (Nat.le_of_ble_eq_true rfl) fx_n1 (s_X0_farFrom (m := m1) (S + 3 + (pl k)) (HS.sa (by omega)) (HS.la (by omega)) (S + 11 + d) (HS.sd (by omega)) (HS.ld (by omega)) ) rfl ?_
        refine e_isub dX3_keepSlot_101 ?_
        rw [eA, eD]
        refine e_callV1 (μ' := mX3_keep) (ci := 3) (As := [fx_rf Γ 61, .int (nI (t * 8 + k)), .int ((fun p => 1000 - p_farA (fx_ar m S) (fx_dr m S) (pl p) d) k)]) dX3_keepSlot_102 wl_X3_82 ok_X3_keep rfl rfl (fx_pi_lt (by decide)) (by decide) (Nat.le_of_ble_eq_true rfl) fx_n1 (s_X3_keep (m := m1) hL1 (r := 61) (len := 80) (i := (t * 8 + k)) rfl (by decide) (by decide) (by omega) (by decide) J.fl ((fun p => 1000 - p_farA (fx_ar m S) (fx_dr m S) (pl p) d) k)) rfl ?_
        refine e_iinc (v := nI (k + 1)) dX3_keepSlot_105 rfl (fx_inc _) (by decide) rfl ?_
        refine e_goto 27 dX3_keepSlot_108 rfl ?_
        refine e_weak (lv2 := [some (fx_rf Γ 53), some (fx_rf Γ S), some (.int (nI t)), some (.int (nI d)), some (.int e), some (.int b), some (.int (nI (k + 1))), none]) ⟨rfl, rfl, rfl, rfl, rfl, rfl, rfl, trivial⟩ ?_
        exact ih (k + 1) _ _ (by omega) J.step (by first | (rw [hb, p_sN_or (P := (fun p => p_fit (fx_ar m S (pl p)) (fx_dr m S d) e)) (by omega) c_f]; done) | (rw [hb, p_sN_no (P := (fun p => p_fit (fx_ar m S (pl p)) (fx_dr m S d) e)) c_f]; done))
      · refine e_iload dX3_keepSlot_66 rfl ?_
        refine e_iconst dX3_keepSlot_68 kci_1 ?_
        refine e_iload dX3_keepSlot_69 rfl ?_
        refine e_ishl dX3_keepSlot_71 ?_
        refine e_ior dX3_keepSlot_72 ?_
        refine e_istore dX3_keepSlot_73 (by decide) rfl ?_
        refine e_aload_n dX3_keepSlot_75 rfl ?_
        refine e_aload_n dX3_keepSlot_76 rfl ?_
        refine e_getr (o2 := 61) dX3_keepSlot_77 ff_X3_35 rfl (fx_pi_lt (by decide)) (by decide) rfl (hL1 _ _ _ rfl) ?_
        refine e_iload_n dX3_keepSlot_80 rfl ?_
        refine e_bipush dX3_keepSlot_81 kcb_8 ?_
        refine e_imul dX3_keepSlot_83 ?_
        refine e_iload dX3_keepSlot_84 rfl ?_
        refine e_iadd dX3_keepSlot_86 ?_
        rw [i_8]
        refine e_sipush dX3_keepSlot_87 kcs_1000 ?_
        refine e_aload dX3_keepSlot_90 rfl ?_
        refine e_aload_n dX3_keepSlot_92 rfl ?_
        refine e_getr (o2 := S + 2) dX3_keepSlot_93 ff_X3_97 HS.sh (fx_pi_lt HS.lt) (by decide) rfl (HS.r1 hL1) ?_
        refine e_iload_n dX3_keepSlot_96 rfl ?_
        refine e_aald (j := d) (o2 := S + 11 + d) dX3_keepSlot_97 HS.s2 (Or.inr (Or.inl rfl)) (fx_pi_lt HS.l2) rfl (by omega) (by decide) (HS.rd hL1 (by omega)) ?_
        refine e_callV1 (μ' := mX0_farFrom) (ci := 0) (As := [fx_rf Γ (S + 11 + d)]) dX3_keepSlot_98 wl_X3_105 ok_X0_farFrom (HS.sa (by omega)) rfl (fx_pi_lt (HS.la (by omega))) (by decide) (Nat.le_of_ble_eq_true rfl) fx_n1 (s_X0_farFrom (m := m1) (S + 3 + (pl k)) (HS.sa (by omega)) (HS.la (by omega)) (S + 11 + d) (HS.sd (by omega)) (HS.ld (by omega)) ) rfl ?_
        refine e_isub dX3_keepSlot_101 ?_
        rw [eA, eD]
        refine e_callV1 (μ' := mX3_keep) (ci := 3) (As := [fx_rf Γ 61, .int (nI (t * 8 + k)), .int ((fun p => 1000 - p_farA (fx_ar m S) (fx_dr m S) (pl p) d) k)]) dX3_keepSlot_102 wl_X3_82 ok_X3_keep rfl rfl (fx_pi_lt (by decide)) (by decide) (Nat.le_of_ble_eq_true rfl) fx_n1 (s_X3_keep (m := m1) hL1 (r := 61) (len := 80) (i := (t * 8 + k)) rfl (by decide) (by decide) (by omega) (by decide) J.fl ((fun p => 1000 - p_farA (fx_ar m S) (fx_dr m S) (pl p) d) k)) rfl ?_
        refine e_iinc (v := nI (k + 1)) dX3_keepSlot_105 rfl (fx_inc _) (by decide) rfl ?_
        refine e_goto 27 dX3_keepSlot_108 rfl ?_
        refine e_weak (lv2 := [some (fx_rf Γ 53), some (fx_rf Γ S), some (.int (nI t)), some (.int (nI d)), some (.int e), some (.int (b ||| (1 <<< ((nI k) &&& 31)))), some (.int (nI (k + 1))), none]) ⟨rfl, rfl, rfl, rfl, rfl, rfl, rfl, trivial⟩ ?_
        exact ih (k + 1) _ _ (by omega) J.step (by first | (rw [hb, p_sN_or (P := (fun p => p_fit (fx_ar m S (pl p)) (fx_dr m S d) e)) (by omega) c_f]; done) | (rw [hb, p_sN_no (P := (fun p => p_fit (fx_ar m S (pl p)) (fx_dr m S d) e)) c_f]; done))
  refine e_aload_n dX3_keepSlot_0 rfl ?_
  refine e_aload_n dX3_keepSlot_1 rfl ?_
  refine e_getr (o2 := 58) dX3_keepSlot_2 ff_X3_26 rfl (fx_pi_lt (by decide)) (by decide) rfl (hL _ _ _ rfl) ?_
  refine e_iload_n dX3_keepSlot_5 rfl ?_
  refine e_iload_n dX3_keepSlot_6 rfl ?_
  refine e_callV1 (μ' := mX3_keep) (ci := 3) (As := [fx_rf Γ 58, .int (nI t), .int (nI d)]) dX3_keepSlot_7 wl_X3_82 ok_X3_keep rfl rfl (fx_pi_lt (by decide)) (by decide) (Nat.le_of_ble_eq_true rfl) fx_n1 (s_X3_keep (m := m) hL (r := 58) (len := 10) (i := t) rfl (by decide) (by decide) (by omega) (by decide) hf (nI d)) rfl ?_
  refine e_aload_n dX3_keepSlot_10 rfl ?_
  refine e_aload_n dX3_keepSlot_11 rfl ?_
  refine e_getr (o2 := 59) dX3_keepSlot_12 ff_X3_29 rfl (fx_pi_lt (by decide)) (by decide) rfl (hL _ _ _ rfl) ?_
  refine e_iload_n dX3_keepSlot_15 rfl ?_
  refine e_iload dX3_keepSlot_16 rfl ?_
  refine e_callV1 (μ' := mX3_keep) (ci := 3) (As := [fx_rf Γ 59, .int (nI t), .int e]) dX3_keepSlot_18 wl_X3_82 ok_X3_keep rfl rfl (fx_pi_lt (by decide)) (by decide) (Nat.le_of_ble_eq_true rfl) fx_n1 (s_X3_keep (m := fx_kp m 58 t (nI d)) hL (r := 59) (len := 10) (i := t) rfl (by decide) (by decide) (by omega) (by decide) (fx_kp_fl hf (by decide)) e) rfl ?_
  refine e_iconst dX3_keepSlot_21 kci_0 ?_
  refine e_istore dX3_keepSlot_22 (by decide) rfl ?_
  refine e_iconst dX3_keepSlot_24 kci_0 ?_
  refine e_istore dX3_keepSlot_25 (by decide) rfl ?_
  exact lp np 0 _ _ (by omega) (fx_KS.start hf) rfl
