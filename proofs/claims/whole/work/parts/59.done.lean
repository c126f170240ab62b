set_option maxRecDepth 100000 in
set_option maxHeartbeats 600000 in
theorem s_X9_done {Γ : fx_G} {m : fx_M} (hL : fx_Lay m) {na nd : Nat} {t : p_Sg} (H : fx_MS m na nd t) (h8 : na ≤ 8) {u : p_Sh} (HS : fx_MSh m na u) (s n : Int32) : fx_Ct Γ mX9_done 5 119 119 [fx_rf Γ 83, .int s, .int n] m (fun r m' => r = some (.int (q_done na nd u.1 u.2.1 u.2.2.1 (p_rdI u) t s n).2) ∧ ((q_done na nd u.1 u.2.1 u.2.2.1 (p_rdI u) t s n).1 ≠ 0 → fx_MS m' na nd t ∧ fx_KF (fx_mno m (q_done na nd u.1 u.2.1 u.2.2.1 (p_rdI u) t s n).1) m') ∧ ((q_done na nd u.1 u.2.1 u.2.2.1 (p_rdI u) t s n).1 = 0 → fx_MS m' na nd (p_tl na nd (p_rdI u (p_ix s)) (p_ix n) 0 t).2 ∧ fx_KF m m')) := by
  refine fx_Ct.of (j := 1) (by decide) (Nat.le_of_ble_eq_true rfl) (Nat.le_of_ble_eq_true rfl) ?_
  show fx_E Γ mX9_done 5 119 119 _ 119 m 0 [some (fx_rf Γ 83), some (.int s), some (.int n), none] []
  have h9 := H.2.2.2.2.2.1
  have h5 := H.2.2.2.2.2.2.1
  refine e_aload_n dX9_done_0 rfl ?_
  refine e_iload_n dX9_done_1 rfl ?_
  refine e_iload_n dX9_done_2 rfl ?_
  refine e_callV1 (μ' := mX9_barsOf) (ci := 9) (As := [.int s, .int n]) dX9_done_3 wl_X9_293 ok_X9_barsOf rfl rfl (fx_pi_lt (by decide)) (by decide) (Nat.le_of_ble_eq_true rfl) fx_n1 (s_X9_barsOf (m := m) hL HS s n) rfl ?_
  obtain ⟨b, hb⟩ : ∃ b, p_bD u.1 u.2.1 u.2.2.1 s n = b := ⟨_, rfl⟩
  have hb7 : b ≤ 7 := hb ▸ p_bD_le _ _ _ _ _
  rw [hb]
  refine e_istore_n dX9_done_6 (by decide) rfl ?_
  refine e_iload_n dX9_done_7 rfl ?_
  refine e_if_eq 17 dX9_done_8 rfl (fun c_0 => ?_) (fun c_0 => ?_)
  · have hb0 : b = 0 := (p_neg0 hb7).mp c_0
    subst hb0
    have hso := p_bD_so hb
    obtain ⟨k, N, hk, es, en, hN, hN20⟩ := p_bD_0 HS.cn hb
    subst es
    subst en
    rw [p_ix_n (show k < 2 ^ 31 by omega)] at hso
    have hcn := HS.cn k hk
    refine e_aload_n dX9_done_17 rfl ?_
    refine e_aload_n dX9_done_18 rfl ?_
    refine e_getr (o2 := 113) dX9_done_19 ff_X9_105 rfl (fx_pi_lt (by decide)) (by decide) rfl (hL _ _ _ rfl) ?_
    refine e_iconst dX9_done_22 kci_0 ?_
    refine e_callV (μ' := mX9_all) (ci := 9) (As := [fx_rf Γ 113, .int 0]) dX9_done_23 wl_X9_247 ok_X9_all rfl rfl (fx_pi_lt (by decide)) (by decide) (Nat.le_of_ble_eq_true rfl) fx_n1 (s_X9_all0 (m := m) hL (o := 113) rfl (by decide) (by decide)) rfl (fun r_ m_ hpost => ?_)
    revert r_ m_
    intro r_ m1 hpost
    obtain ⟨rfl, V1⟩ := hpost
    have H1 := V1.ms (by decide) H
    have I1 := V1.img H h8
    have hL1 : fx_Lay m1 := fun o k v hv => by rw [V1.2.1]; exact hL o k v hv
    refine e_aload_n dX9_done_26 rfl ?_
    refine e_iload_n dX9_done_27 rfl ?_
    refine e_iload_n dX9_done_28 rfl ?_
    refine e_callV (μ' := mX9_goes) (ci := 9) (As := [.int (nI k), .int (nI N)]) dX9_done_29 wl_X9_296 ok_X9_goes rfl rfl (fx_pi_lt (by decide)) (by decide) (Nat.le_of_ble_eq_true rfl) fx_n1 (s_X9_goes (m := m1) hL1 H1 (u := u) (k := k) (N := N) hk (by omega) (fun j hj => by rw [V1.2.1]; exact HS.rd hk hso hN j hj)) rfl (fun r_ m_ hpost => ?_)
    revert r_ m_
    intro r_ m2 hpost
    obtain ⟨rfl, H2, K2⟩ := hpost
    have hL2 := K2.lay hL1
    have I2 : fx_img m2 113 na nd t := I1.cg (K2.2.1 113 (by decide))
    have hlt : ∀ x, (p_tl na nd (p_rdI u k) N 0 t).1 = some x → x < 2 ^ 31 := fun x hx => by have := p_tl_lt hx; omega
    refine e_iconst dX9_done_32 kci_m1 ?_
    refine e_icmp_ne 41 dX9_done_33 rfl (fun c_t => ?_) (fun c_t => ?_)
    · refine e_aload_n dX9_done_41 rfl ?_
      refine e_aload_n dX9_done_42 rfl ?_
      refine e_getr (o2 := 113) dX9_done_43 ff_X9_105 rfl (fx_pi_lt (by decide)) (by decide) rfl (hL2 _ _ _ rfl) ?_
      refine e_iconst dX9_done_46 kci_1 ?_
      refine e_callV (μ' := mX9_all) (ci := 9) (As := [fx_rf Γ 113, .int 1]) dX9_done_47 wl_X9_247 ok_X9_all rfl rfl (fx_pi_lt (by decide)) (by decide) (Nat.le_of_ble_eq_true rfl) fx_n1 (s_X9_all1 (m := m2) hL2 (o := 113) rfl (by decide) (by decide)) rfl (fun r_ m_ hpost => ?_)
      revert r_ m_
      intro r_ m3 hpost
      obtain ⟨rfl, V3⟩ := hpost
      have H3 := V3.ms I2
      have K3 := fx_KF.back V1 K2 V3
      have hL3 := K3.lay hL
      refine e_aload_n dX9_done_50 rfl ?_
      refine e_bipush dX9_done_51 kcb_m6 ?_
      refine e_callV1 (μ' := mX9_no) (ci := 9) (As := [.int (-6)]) dX9_done_53 wl_X9_136 ok_X9_no rfl rfl (fx_pi_lt (by decide)) (by decide) (Nat.le_of_ble_eq_true rfl) fx_n1 (s_X9_no (m := m3) hL3 (b := 6) (z := (-6)) (by decide) (by decide)) rfl ?_
      have hq : q_done na nd u.1 u.2.1 u.2.2.1 (p_rdI u) t (nI k) (nI N) = (6, -6) := by unfold q_done; rw [hb, if_pos (show nI 0 = 0 from rfl), p_ix_n (show k < 2 ^ 31 by omega), p_ix_n (show N < 2 ^ 31 by omega)]; rw [if_neg c_t]; (first | done | rfl)
      have e0 := fx_mno_n (m := m3) (b := 6) (by decide)
      exact e_iret dX9_done_56 rfl rfl rfl ⟨by rw [hq], fun _ => ⟨by rw [← e0]; exact H3.no 6, by rw [hq, ← e0]; exact K3.no 6⟩, fun h => by rw [hq] at h; cases h⟩
    · refine e_aload_n dX9_done_36 rfl ?_
      refine e_getv (v := (p_tl na nd (p_rdI u k) N 0 t).2.2.2 0) dX9_done_37 ff_X9_235 rfl (fx_pi_lt (by decide)) (by decide) rfl (H2.2.2.1 0 (by decide)) ?_
      have hq : q_done na nd u.1 u.2.1 u.2.2.1 (p_rdI u) t (nI k) (nI N) = (0, (p_tl na nd (p_rdI u k) N 0 t).2.2.2 0) := by unfold q_done; rw [hb, if_pos (show nI 0 = 0 from rfl), p_ix_n (show k < 2 ^ 31 by omega), p_ix_n (show N < 2 ^ 31 by omega)]; rw [if_pos c_t]
      exact e_iret dX9_done_40 rfl rfl rfl ⟨by rw [hq], fun h => absurd (congrArg Prod.fst hq) h, fun _ => ⟨by rw [p_ix_n (show k < 2 ^ 31 by omega), p_ix_n (show N < 2 ^ 31 by omega)]; exact H2, fx_KF.done V1 K2⟩⟩
  · refine e_aload_n dX9_done_11 rfl ?_
    refine e_iload_n dX9_done_12 rfl ?_
    refine e_callV1 (μ' := mX9_no) (ci := 9) (As := [.int (-(nI b))]) dX9_done_13 wl_X9_136 ok_X9_no rfl rfl (fx_pi_lt (by decide)) (by decide) (Nat.le_of_ble_eq_true rfl) fx_n1 (s_X9_no (m := m) hL (b := b) (z := (-(nI b))) (by simp) (by omega)) rfl ?_
    have hb0 : b ≠ 0 := fun e => c_0 ((p_neg0 hb7).mpr e)
    have hq : q_done na nd u.1 u.2.1 u.2.2.1 (p_rdI u) t s n = (b, -(nI b)) := by unfold q_done; rw [hb, if_neg (fun e => hb0 ((nI_0i (by omega)).mp e))]; (first | done | rfl)
    have e0 := fx_mno_n (m := m) hb0
    exact e_iret dX9_done_16 rfl rfl rfl ⟨by rw [hq], fun _ => ⟨by rw [← e0]; exact H.no b, by rw [hq, ← e0]; exact fx_KF.refl _⟩, fun h => absurd (show b = 0 by rw [hq] at h; exact h) hb0⟩
def fx_KI (m m' : fx_M) : Prop := m'.2 = m.2 ∧ (∀ o, o ≠ 83 → o ≠ 112 → m'.1 o = m.1 o) ∧ ∀ j, j ≠ 50 → m'.1 83 j = m.1 83 j
def fx_KR (m m' : fx_M) : Prop := m'.2 = m.2 ∧ (∀ o, o ≠ 83 → ¬ (85 ≤ o ∧ o ≤ 100) → m'.1 o = m.1 o) ∧ ∀ j, 6 ≤ j → m'.1 83 j = m.1 83 j
def p_shD (u : p_Sh) (na : Nat) : p_Sh := (u.1, (fun k => if u.1 k = -1 ∧ ¬ p_el (u.2.1 k) (nI na) then -1 else u.2.1 k), u.2.2)
set_option maxRecDepth 100000 in
set_option maxHeartbeats 600000 in
theorem s_X9_image {Γ : fx_G} {m : fx_M} (hL : fx_Lay m) {na nd : Nat} {t : p_Sg} (H : fx_MS m na nd t) (h8 : na ≤ 8) : fx_Ct Γ mX9_image 2 119 119 [fx_rf Γ 83] m (fun r m' => r = some (.int (nI na)) ∧ fx_MS m' na nd t ∧ fx_img m' 112 na nd t ∧ m'.1 83 50 = 1 ∧ fx_KI m m') := by
  refine fx_Ct.of (j := 0) (by decide) (Nat.le_of_ble_eq_true rfl) (Nat.le_of_ble_eq_true rfl) ?_
  show fx_E Γ mX9_image 2 119 119 _ 119 m 0 [some (fx_rf Γ 83)] []
  refine e_aload_n dX9_image_0 rfl ?_
  refine e_iconst dX9_image_1 kci_1 ?_
  refine e_putz dX9_image_2 ff_X9_325 rfl (fx_pi_lt (by decide)) (by decide) rfl (Or.inl rfl) (Or.inr rfl) ?_
  refine e_aload_n dX9_image_5 rfl ?_
  refine e_aload_n dX9_image_6 rfl ?_
  refine e_getr (o2 := 112) dX9_image_7 ff_X9_102 rfl (fx_pi_lt (by decide)) (by decide) rfl (hL _ _ _ rfl) ?_
  refine e_iconst dX9_image_10 kci_0 ?_
  refine e_callV (μ' := mX9_all) (ci := 9) (As := [fx_rf Γ 112, .int 0]) dX9_image_11 wl_X9_247 ok_X9_all rfl rfl (fx_pi_lt (by decide)) (by decide) (Nat.le_of_ble_eq_true rfl) fx_n1 (s_X9_all0 (m := fx_sI m 83 50 1) hL (o := 112) rfl (by decide) (by decide)) rfl (fun r_ m_ hpost => ?_)
  revert r_ m_
  intro r_ m1 hpost
  obtain ⟨rfl, V1⟩ := hpost
  have H0 : fx_MS (fx_sI m 83 50 1) na nd t := H.sO (by decide) (by decide)
  have H1 := V1.ms (by decide) H0
  have I1 := V1.img H0 h8
  have hL1 : fx_Lay m1 := fun o k v hv => by rw [V1.2.1]; exact hL o k v hv
  refine e_aload_n dX9_image_14 rfl ?_
  refine e_getv (v := nI na) dX9_image_15 ff_X9_126 rfl (fx_pi_lt (by decide)) (by decide) rfl H1.1 ?_
  exact e_iret dX9_image_18 rfl rfl rfl ⟨rfl, H1, I1, by rw [V1.2.2 83 (by decide)]; exact fx_rd0, V1.2.1, fun o h1 h2 => by rw [V1.2.2 o h2, fx_sI_n _ _ _ h1], fun j hj => by rw [V1.2.2 83 (by decide), fx_rd2 (Ne.symm hj)]⟩
/-- shelves below k are emptied of arms that are no more, the rest are as they were -/
def fx_MSd (m : fx_M) (na nb : Nat) (u : p_Sh) (c : Nat) : Prop := ∀ k, k < 8 → if k < c then fx_MSk m na (p_shD u na) k else fx_MSk m nb u k
theorem fx_MSd.n {m : fx_M} {na nb c : Nat} {u : p_Sh} (h : fx_MSd m na nb u c) (hc : c < 8) (g : fx_MSk m na (p_shD u na) c) : fx_MSd m na nb u (c + 1) := fun k hk => by
  have q := h k hk
  by_cases e : k = c
  · subst e; rw [if_pos (by omega)]; exact g
  · by_cases f : k < c
    · rw [if_pos f] at q; rw [if_pos (by omega)]; exact q
    · rw [if_neg f] at q; rw [if_neg (by omega)]; exact q
theorem fx_MSd.at {m : fx_M} {na nb c : Nat} {u : p_Sh} (h : fx_MSd m na nb u c) (hc : c < 8) : fx_MSk m nb u c := by
  have q := h c hc
  rwa [if_neg (Nat.lt_irrefl _)] at q
theorem p_elNot {na : Nat} {v : Int32} (h : 0 ≤ v) : ¬ p_el v (nI na) ↔ ¬ v < nI na := ⟨fun a b => a ⟨h, b⟩, fun a b => a b.2⟩
/-- nothing to do at this shelf -/
theorem fx_MSk.keep {m : fx_M} {na nb c : Nat} {u : p_Sh} (H : fx_MSk m nb u c) (h : p_hld (u.1 c) (u.2.1 c) = 2 → u.2.1 c < nI na) : fx_MSk m na (p_shD u na) c := by
  have e : (p_shD u na).2.1 c = u.2.1 c := by
    show (if u.1 c = -1 ∧ ¬ p_el (u.2.1 c) (nI na) then -1 else u.2.1 c) = _
    by_cases q : u.1 c = -1
    · by_cases r : u.2.1 c = -1
      · rw [r]; split <;> rfl
      · rw [if_neg (fun z => z.2 ⟨((H.2.2 q).2 r).1.1, h (p_hld2.mpr ⟨q, r⟩)⟩)]
    · rw [if_neg (fun z => q z.1)]
  refine ⟨by rw [e]; exact H.1, fun q => by rw [e]; exact H.2.1 q, fun q => ⟨(H.2.2 q).1, fun r => ?_⟩⟩
  rw [e] at r ⊢
  exact ⟨⟨((H.2.2 q).2 r).1.1, h (p_hld2.mpr ⟨q, r⟩)⟩, ((H.2.2 q).2 r).2⟩
theorem fx_MSk.drop {m : fx_M} {na nb c : Nat} {u : p_Sh} (H : fx_MSk m nb u c) (h2 : p_hld (u.1 c) (u.2.1 c) = 2) (h : ¬ u.2.1 c < nI na) : fx_MSk (fx_sI m 100 c 0) na (p_shD u na) c := by
  obtain ⟨q, _⟩ := p_hld2.mp h2
  have e : (p_shD u na).2.1 c = -1 := if_pos ⟨q, fun z => h z.2⟩
  refine ⟨?_, fun r => absurd q r, fun _ => ⟨(H.2.2 q).1, fun r => absurd e r⟩⟩
  rw [fx_rd0, e]
  exact (p_hld0.mpr ⟨q, rfl⟩).symm
theorem fx_MSd.sI {m : fx_M} {na nb c : Nat} {u : p_Sh} {v : Int32} (h : fx_MSd m na nb u c) (g : fx_MSk (fx_sI m 100 c v) na (p_shD u na) c) : fx_MSd (fx_sI m 100 c v) na nb u (c + 1) := fun k hk => by
  have cg : ∀ {n : Nat} {w : p_Sh}, k ≠ c → fx_MSk m n w k → fx_MSk (fx_sI m 100 c v) n w k := fun hkc q => q.cg (fun o a b => by
    by_cases d : o = 100
    · subst d; rw [fx_rd2 (Ne.symm hkc)]
    · rw [fx_sI_n _ _ _ d]) (fun _ _ => rfl) rfl rfl rfl rfl
  have q := h k hk
  by_cases e : k = c
  · subst e; rw [if_pos (by omega)]; exact g
  · by_cases f : k < c
    · rw [if_pos f] at q; rw [if_pos (by omega)]; exact cg e q
    · rw [if_neg f] at q; rw [if_neg (by omega)]; exact cg e q
set_option maxRecDepth 100000 in
set_option maxHeartbeats 600000 in
theorem s_X9_restore {Γ : fx_G} {m : fx_M} (hL : fx_Lay m) {na nd nb : Nat} {t : p_Sg} {u : p_Sh} (HI : m.1 83 50 ≠ 0 → fx_img m 112 na nd t) (HS : fx_MSh m nb u) : fx_Ct Γ mX9_restore 2 119 119 [fx_rf Γ 83] m (fun r m' => (m.1 83 50 ≠ 0 → r = some (.int (nI na)) ∧ fx_MS m' na nd t ∧ fx_MSh m' na (p_shD u na) ∧ fx_KR m m') ∧ (m.1 83 50 = 0 → r = some (.int (-6)) ∧ m' = fx_mno m 6)) := by
  refine fx_Ct.of (j := 1) (by decide) (Nat.le_of_ble_eq_true rfl) (Nat.le_of_ble_eq_true rfl) ?_
  show fx_E Γ mX9_restore 2 119 119 _ 119 m 0 [some (fx_rf Γ 83), none] []
  refine e_aload_n dX9_restore_0 rfl ?_
  refine e_get dX9_restore_1 ff_X9_325 rfl (fx_pi_lt (by decide)) (by decide) rfl ?_
  refine e_if_ne 14 dX9_restore_4 rfl (fun c_0 => ?_) (fun c_0 => ?_)
  · refine e_aload_n dX9_restore_14 rfl ?_
    refine e_aload_n dX9_restore_15 rfl ?_
    refine e_getr (o2 := 112) dX9_restore_16 ff_X9_102 rfl (fx_pi_lt (by decide)) (by decide) rfl (hL _ _ _ rfl) ?_
    refine e_iconst dX9_restore_19 kci_1 ?_
    refine e_callV (μ' := mX9_all) (ci := 9) (As := [fx_rf Γ 112, .int 1]) dX9_restore_20 wl_X9_247 ok_X9_all rfl rfl (fx_pi_lt (by decide)) (by decide) (Nat.le_of_ble_eq_true rfl) fx_n1 (s_X9_all1 (m := m) hL (o := 112) rfl (by decide) (by decide)) rfl (fun r_ m_ hpost => ?_)
    revert r_ m_
    intro r_ m1 hpost
    obtain ⟨rfl, V1⟩ := hpost
    have H1 := V1.ms (HI c_0)
    have h9 := H1.2.2.2.2.2.1
    have hL1 : fx_Lay m1 := fun o k v hv => by rw [V1.2.1]; exact hL o k v hv
    have K1 : fx_KR m m1 := ⟨V1.2.1, fun o h1 h2 => funext fun i => V1.2.2 o i (p_ob_na h1 (by omega)), fun j hj => V1.2.2 83 j (p_ob_n6 hj)⟩
    have S1 : fx_MSh m1 nb u := HS.cg (fun o a b => funext fun i => V1.2.2 o i (p_ob_na (by omega) (by omega))) (by rw [V1.2.1])
    refine e_iconst dX9_restore_23 kci_0 ?_
    refine e_istore_n dX9_restore_24 (by decide) rfl ?_
    have lp : ∀ (j : Nat) (c : Nat) (m2 : fx_M), c + j = 8 → fx_MS m2 na nd t → fx_MSd m2 na nb u c → fx_KR m m2 → fx_E Γ mX9_restore 2 119 119 (fun r m' => (m.1 83 50 ≠ 0 → r = some (.int (nI na)) ∧ fx_MS m' na nd t ∧ fx_MSh m' na (p_shD u na) ∧ fx_KR m m') ∧ (m.1 83 50 = 0 → r = some (.int (-6)) ∧ m' = fx_mno m 6)) 119 m2 25 [some (fx_rf Γ 83), some (.int (nI c))] [] := by
      intro j
      induction j with
      | zero =>
        intro c m2 hc H2 S2 K2
        have hL2 : fx_Lay m2 := fun o k v hv => by rw [K2.1]; exact hL o k v hv
        refine e_iload_n dX9_restore_25 rfl ?_
        refine e_bipush dX9_restore_26 kcb_8 ?_
        refine e_icmp_ge 67 dX9_restore_28 rfl (fun _ => ?_) (fun h => absurd (nI_le (a := 8) (by omega) (by omega)) h)
        refine e_aload_n dX9_restore_67 rfl ?_
        refine e_getv (v := nI na) dX9_restore_68 ff_X9_126 rfl (fx_pi_lt (by decide)) (by decide) rfl H2.1 ?_
        have hs8 : fx_MSh m2 na (p_shD u na) := fun k hk => by have q := S2 k hk; rwa [if_pos (by omega)] at q
        exact e_iret dX9_restore_71 rfl rfl rfl ⟨fun _ => ⟨rfl, H2, hs8, K2⟩, fun h => absurd h c_0⟩
      | succ j ih =>
        intro c m2 hc H2 S2 K2
        have hL2 : fx_Lay m2 := fun o k v hv => by rw [K2.1]; exact hL o k v hv
        refine e_iload_n dX9_restore_25 rfl ?_
        refine e_bipush dX9_restore_26 kcb_8 ?_
        refine e_icmp_ge 67 dX9_restore_28 rfl (fun h => absurd h (nI_ge (b := 8) (by omega) (by decide))) (fun _ => ?_)
        refine e_aload_n dX9_restore_31 rfl ?_
        refine e_getr (o2 := 100) dX9_restore_32 ff_X9_65 rfl (fx_pi_lt (by decide)) (by decide) rfl (hL2 _ _ _ rfl) ?_
        refine e_iload_n dX9_restore_35 rfl ?_
        refine e_ialdv (j := c) (v := p_hld (u.1 c) (u.2.1 c)) dX9_restore_36 rfl (fx_pi_lt (by decide)) rfl (by omega) (by decide) (S2.at (by omega)).1 ?_
        refine e_iconst dX9_restore_37 kci_2 ?_
        refine e_icmp_ne 61 dX9_restore_38 rfl (fun c_2 => ?_) (fun c_2 => ?_)
        · refine e_iinc (v := nI (c + 1)) dX9_restore_61 rfl (fx_inc _) (by decide) rfl ?_
          refine e_goto 25 dX9_restore_64 rfl ?_
          exact ih (c + 1) m2 (by omega) H2 (S2.n (by omega) ((S2.at (by omega)).keep (fun q => absurd q c_2))) K2
        · refine e_aload_n dX9_restore_41 rfl ?_
          refine e_getr (o2 := 103) dX9_restore_42 ff_X9_74 rfl (fx_pi_lt (by decide)) (by decide) rfl (hL2 _ _ _ rfl) ?_
          refine e_iload_n dX9_restore_45 rfl ?_
          refine e_ialdv (j := c) (v := u.2.1 c) dX9_restore_46 rfl (fx_pi_lt (by decide)) rfl (by omega) (by decide) (((S2.at (by omega)).2.2 (p_hld2.mp c_2).1).2 (p_hld2.mp c_2).2).2 ?_
          refine e_aload_n dX9_restore_47 rfl ?_
          refine e_getv (v := nI na) dX9_restore_48 ff_X9_126 rfl (fx_pi_lt (by decide)) (by decide) rfl H2.1 ?_
          refine e_icmp_lt 61 dX9_restore_51 rfl (fun c_l => ?_) (fun c_l => ?_)
          · refine e_iinc (v := nI (c + 1)) dX9_restore_61 rfl (fx_inc _) (by decide) rfl ?_
            refine e_goto 25 dX9_restore_64 rfl ?_
            exact ih (c + 1) m2 (by omega) H2 (S2.n (by omega) ((S2.at (by omega)).keep (fun _ => c_l))) K2
          · refine e_aload_n dX9_restore_54 rfl ?_
            refine e_getr (o2 := 100) dX9_restore_55 ff_X9_65 rfl (fx_pi_lt (by decide)) (by decide) rfl (hL2 _ _ _ rfl) ?_
            refine e_iload_n dX9_restore_58 rfl ?_
            refine e_iconst dX9_restore_59 kci_0 ?_
            refine e_iast (j := c) dX9_restore_60 rfl (fx_pi_lt (by decide)) rfl (by omega) (by decide) ?_
            refine e_iinc (v := nI (c + 1)) dX9_restore_61 rfl (fx_inc _) (by decide) rfl ?_
            refine e_goto 25 dX9_restore_64 rfl ?_
            exact ih (c + 1) _ (by omega) (H2.sO (by decide) (fun h => absurd h (by decide))) (S2.sI ((S2.at (by omega)).drop c_2 c_l)) ⟨K2.1, fun o a b => by rw [fx_sI_n _ _ _ (by omega)]; exact K2.2.1 o a b, fun j hj => by rw [fx_sI_n _ _ _ (by decide)]; exact K2.2.2 j hj⟩
    exact lp 8 0 m1 (by omega) H1 (fun k hk => by rw [if_neg (Nat.not_lt_zero _)]; exact S1 k hk) K1
  · refine e_aload_n dX9_restore_7 rfl ?_
    refine e_bipush dX9_restore_8 kcb_m6 ?_
    refine e_callV1 (μ' := mX9_no) (ci := 9) (As := [.int (-6)]) dX9_restore_10 wl_X9_136 ok_X9_no rfl rfl (fx_pi_lt (by decide)) (by decide) (Nat.le_of_ble_eq_true rfl) fx_n1 (s_X9_no (m := m) hL (b := 6) (z := (-6)) (by decide) (by decide)) rfl ?_
    exact e_iret dX9_restore_13 rfl rfl rfl ⟨fun h => absurd c_0 h, fun _ => ⟨rfl, (fx_mno_n (by decide)).symm⟩⟩
