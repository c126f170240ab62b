def p_mvV (w K : Nat) (n a x : Int32) : Int32 := if w = 0 then p_be K n a x else if w = 1 then p_wa K K n a x else p_do K K n a x
def p_mvT (w K : Nat) : List Nat := if w = 0 then p_beT K else if w = 1 then p_waT K K else p_doT K K
/-- the moves' cells alone are another -/
def fx_mk (m m' : fx_M) : Prop := m'.2.1 = m.2.1 ∧ (∀ o k, ¬ (o = 65 ∧ k = 2) → m'.2.2 o k = m.2.2 o k) ∧ ∀ o, o ≠ 65 → o ≠ 66 → m'.1 o = m.1 o
theorem fx_mk.lay {m m' : fx_M} (h : fx_mk m m') (hL : fx_Lay m) : fx_Lay m' := fun o k v hv => by
  rw [h.2.1 o k (fun e => by rw [e.1, e.2] at hv; cases hv)]
  exact hL o k v hv
theorem fx_mk.of {m m' : fx_M} {o : Nat} {n : Int32} (h : fx_mv (fx_sI (fx_sR m 65 2 (some o)) 65 3 n) m') : fx_mk m m' :=
  ⟨(by have e := congrArg Prod.fst h.1; exact e), fun o2 k hk => by have e := congrArg Prod.snd h.1; rw [show m'.2.2 = (fx_sR m 65 2 (some o)).2.2 from e]; simp only [fx_sR]; by_cases c : o2 = 65; (by_cases d : k = 2; exact absurd ⟨c, d⟩ hk; simp [d]); simp [c], fun o2 h1 h2 => by rw [h.2.1 o2 h1 h2, fx_sI_n _ _ _ h1]; rfl⟩
theorem fx_sR_lay {m : fx_M} {v : Option Nat} (hL : fx_Lay m) : fx_Lay (fx_sR m 65 2 v) := fun o k w hw => by
  simp only [fx_sR]
  by_cases c : o = 65
  · by_cases d : k = 2
    · rw [c, d] at hw; cases hw
    · simp only [c, d, if_true, if_false]; rw [← c]; exact hL o k w hw
  · simp only [c, if_false]; exact hL o k w hw
set_option maxRecDepth 100000 in
set_option maxHeartbeats 600000 in
theorem s_X2_make0 {Γ : fx_G} {m : fx_M} (hL : fx_Lay m) {o K : Nat} {a : Int32} (hs : fx_shapes[o]? = some (10 + 0, 7)) (ho : o < 50) (hK : K < 7) (h0 : m.1 o 0 = nI K) (h1 : m.1 o 1 = a) (ht : fx_tr m []) (n x : Int32) : fx_Ct Γ mX2_make 17 119 119 [fx_rf Γ 65, fx_rf Γ o, .int n, .int 0, .int x] m (fun r m' => r = some (.int (p_be K n a x)) ∧ fx_mk m m' ∧ fx_tr m' (p_beT K)) := by
  refine fx_Ct.of (j := 0) (by decide) (Nat.le_of_ble_eq_true rfl) (Nat.le_of_ble_eq_true rfl) ?_
  show fx_E Γ mX2_make 17 119 119 _ 119 m 0 [some (fx_rf Γ 65), some (fx_rf Γ o), some (.int n), some (.int 0), some (.int x)] []
  refine e_aload_n dX2_make_0 rfl ?_
  refine e_aload_n dX2_make_1 rfl ?_
  refine e_putr dX2_make_2 ff_X2_22 rfl (fx_pi_lt (by decide)) (by decide) rfl (Or.inl rfl) (fun _ => rfl) (fun _ => rfl) ?_
  refine e_aload_n dX2_make_5 rfl ?_
  refine e_iload_n dX2_make_6 rfl ?_
  refine e_put dX2_make_7 ff_X2_19 rfl (fx_pi_lt (by decide)) (by decide) rfl (Or.inl rfl) ?_
  have hA : fx_mA (fx_sI (fx_sR m 65 2 (some o)) 65 3 n) o K n a := ⟨fx_rd0, by simp [fx_sR, fx_sI], hs, ho, by rw [fx_sI_n _ _ _ (by omega)]; exact h0, by rw [fx_sI_n _ _ _ (by omega)]; exact h1, fx_sR_lay hL, hK⟩
  have ht : fx_tr (fx_sI (fx_sR m 65 2 (some o)) 65 3 n) [] := ⟨by rw [fx_rd2 (by decide)]; exact ht.1, fun i v hi => by simp at hi⟩
  refine e_aload_n dX2_make_10 rfl ?_
  refine e_aload_n dX2_make_11 rfl ?_
  refine e_getr (o2 := o) dX2_make_12 ff_X2_22 rfl (fx_pi_lt (by decide)) (by decide) rfl (by simp [fx_sR, fx_sI]) ?_
  refine e_getv (v := nI K) dX2_make_15 ff_X2_26 hs (fx_pi_lt (by omega)) (by decide) rfl hA.2.2.2.2.1 ?_
  refine e_iload_n dX2_make_18 rfl ?_
  refine e_iload dX2_make_19 rfl ?_
  refine e_iconst dX2_make_21 kci_0 ?_
  refine e_callV (μ' := mX2_run) (ci := 2) (As := [.int (nI K), .int 0, .int x, .int 0]) dX2_make_22 wl_X2_31 ok_X2_run rfl rfl (fx_pi_lt (by decide)) (by decide) (Nat.le_of_ble_eq_true rfl) fx_n1 (s_X2_rK0 (m := fx_sI (fx_sR m 65 2 (some o)) 65 3 n) (d := 16) (by decide) hA (l := []) (by exact ht) (dep := 0) (by decide) (by decide) x) rfl (fun r_ m_ hpost => ?_)
  revert r_ m_
  intro r_ m1 hpost
  obtain ⟨rfl, g1, t1⟩ := hpost
  exact e_iret dX2_make_25 rfl rfl rfl ⟨rfl, fx_mk.of g1, by simpa using t1⟩
set_option maxRecDepth 100000 in
set_option maxHeartbeats 600000 in
theorem s_X2_make1 {Γ : fx_G} {m : fx_M} (hL : fx_Lay m) {o K : Nat} {a : Int32} (hs : fx_shapes[o]? = some (10 + 0, 7)) (ho : o < 50) (hK : K < 7) (h0 : m.1 o 0 = nI K) (h1 : m.1 o 1 = a) (ht : fx_tr m []) (n x : Int32) : fx_Ct Γ mX2_make 17 119 119 [fx_rf Γ 65, fx_rf Γ o, .int n, .int 1, .int x] m (fun r m' => r = some (.int (p_wa K K n a x)) ∧ fx_mk m m' ∧ fx_tr m' (p_waT K K)) := by
  refine fx_Ct.of (j := 0) (by decide) (Nat.le_of_ble_eq_true rfl) (Nat.le_of_ble_eq_true rfl) ?_
  show fx_E Γ mX2_make 17 119 119 _ 119 m 0 [some (fx_rf Γ 65), some (fx_rf Γ o), some (.int n), some (.int 1), some (.int x)] []
  refine e_aload_n dX2_make_0 rfl ?_
  refine e_aload_n dX2_make_1 rfl ?_
  refine e_putr dX2_make_2 ff_X2_22 rfl (fx_pi_lt (by decide)) (by decide) rfl (Or.inl rfl) (fun _ => rfl) (fun _ => rfl) ?_
  refine e_aload_n dX2_make_5 rfl ?_
  refine e_iload_n dX2_make_6 rfl ?_
  refine e_put dX2_make_7 ff_X2_19 rfl (fx_pi_lt (by decide)) (by decide) rfl (Or.inl rfl) ?_
  have hA : fx_mA (fx_sI (fx_sR m 65 2 (some o)) 65 3 n) o K n a := ⟨fx_rd0, by simp [fx_sR, fx_sI], hs, ho, by rw [fx_sI_n _ _ _ (by omega)]; exact h0, by rw [fx_sI_n _ _ _ (by omega)]; exact h1, fx_sR_lay hL, hK⟩
  have ht : fx_tr (fx_sI (fx_sR m 65 2 (some o)) 65 3 n) [] := ⟨by rw [fx_rd2 (by decide)]; exact ht.1, fun i v hi => by simp at hi⟩
  refine e_aload_n dX2_make_10 rfl ?_
  refine e_aload_n dX2_make_11 rfl ?_
  refine e_getr (o2 := o) dX2_make_12 ff_X2_22 rfl (fx_pi_lt (by decide)) (by decide) rfl (by simp [fx_sR, fx_sI]) ?_
  refine e_getv (v := nI K) dX2_make_15 ff_X2_26 hs (fx_pi_lt (by omega)) (by decide) rfl hA.2.2.2.2.1 ?_
  refine e_iload_n dX2_make_18 rfl ?_
  refine e_iload dX2_make_19 rfl ?_
  refine e_iconst dX2_make_21 kci_0 ?_
  refine e_callV (μ' := mX2_run) (ci := 2) (As := [.int (nI K), .int 1, .int x, .int 0]) dX2_make_22 wl_X2_31 ok_X2_run rfl rfl (fx_pi_lt (by decide)) (by decide) (Nat.le_of_ble_eq_true rfl) fx_n1 (s_X2_rK1 (m := fx_sI (fx_sR m 65 2 (some o)) 65 3 n) (d := 16) (by decide) hA (l := []) (by exact ht) (dep := 0) (by decide) (by decide) x) rfl (fun r_ m_ hpost => ?_)
  revert r_ m_
  intro r_ m1 hpost
  obtain ⟨rfl, g1, t1⟩ := hpost
  exact e_iret dX2_make_25 rfl rfl rfl ⟨rfl, fx_mk.of g1, by simpa using t1⟩
set_option maxRecDepth 100000 in
set_option maxHeartbeats 600000 in
theorem s_X2_make2 {Γ : fx_G} {m : fx_M} (hL : fx_Lay m) {o K : Nat} {a : Int32} (hs : fx_shapes[o]? = some (10 + 0, 7)) (ho : o < 50) (hK : K < 7) (h0 : m.1 o 0 = nI K) (h1 : m.1 o 1 = a) (ht : fx_tr m []) (n x : Int32) : fx_Ct Γ mX2_make 17 119 119 [fx_rf Γ 65, fx_rf Γ o, .int n, .int 2, .int x] m (fun r m' => r = some (.int (p_do K K n a x)) ∧ fx_mk m m' ∧ fx_tr m' (p_doT K K)) := by
  refine fx_Ct.of (j := 0) (by decide) (Nat.le_of_ble_eq_true rfl) (Nat.le_of_ble_eq_true rfl) ?_
  show fx_E Γ mX2_make 17 119 119 _ 119 m 0 [some (fx_rf Γ 65), some (fx_rf Γ o), some (.int n), some (.int 2), some (.int x)] []
  refine e_aload_n dX2_make_0 rfl ?_
  refine e_aload_n dX2_make_1 rfl ?_
  refine e_putr dX2_make_2 ff_X2_22 rfl (fx_pi_lt (by decide)) (by decide) rfl (Or.inl rfl) (fun _ => rfl) (fun _ => rfl) ?_
  refine e_aload_n dX2_make_5 rfl ?_
  refine e_iload_n dX2_make_6 rfl ?_
  refine e_put dX2_make_7 ff_X2_19 rfl (fx_pi_lt (by decide)) (by decide) rfl (Or.inl rfl) ?_
  have hA : fx_mA (fx_sI (fx_sR m 65 2 (some o)) 65 3 n) o K n a := ⟨fx_rd0, by simp [fx_sR, fx_sI], hs, ho, by rw [fx_sI_n _ _ _ (by omega)]; exact h0, by rw [fx_sI_n _ _ _ (by omega)]; exact h1, fx_sR_lay hL, hK⟩
  have ht : fx_tr (fx_sI (fx_sR m 65 2 (some o)) 65 3 n) [] := ⟨by rw [fx_rd2 (by decide)]; exact ht.1, fun i v hi => by simp at hi⟩
  refine e_aload_n dX2_make_10 rfl ?_
  refine e_aload_n dX2_make_11 rfl ?_
  refine e_getr (o2 := o) dX2_make_12 ff_X2_22 rfl (fx_pi_lt (by decide)) (by decide) rfl (by simp [fx_sR, fx_sI]) ?_
  refine e_getv (v := nI K) dX2_make_15 ff_X2_26 hs (fx_pi_lt (by omega)) (by decide) rfl hA.2.2.2.2.1 ?_
  refine e_iload_n dX2_make_18 rfl ?_
  refine e_iload dX2_make_19 rfl ?_
  refine e_iconst dX2_make_21 kci_0 ?_
  refine e_callV (μ' := mX2_run) (ci := 2) (As := [.int (nI K), .int 2, .int x, .int 0]) dX2_make_22 wl_X2_31 ok_X2_run rfl rfl (fx_pi_lt (by decide)) (by decide) (Nat.le_of_ble_eq_true rfl) fx_n1 (s_X2_rK2 (m := fx_sI (fx_sR m 65 2 (some o)) 65 3 n) (d := 16) (by decide) hA (l := []) (by exact ht) (dep := 0) (by decide) (by decide) x) rfl (fun r_ m_ hpost => ?_)
  revert r_ m_
  intro r_ m1 hpost
  obtain ⟨rfl, g1, t1⟩ := hpost
  exact e_iret dX2_make_25 rfl rfl rfl ⟨rfl, fx_mk.of g1, by simpa using t1⟩
theorem s_X2_make {Γ : fx_G} {m : fx_M} (hL : fx_Lay m) {o K : Nat} {a : Int32} (hs : fx_shapes[o]? = some (10 + 0, 7)) (ho : o < 50) (hK : K < 7) (h0 : m.1 o 0 = nI K) (h1 : m.1 o 1 = a) (ht : fx_tr m []) (n x : Int32) {w : Nat} (hw : w < 3) :
    fx_Ct Γ mX2_make 17 119 119 [fx_rf Γ 65, fx_rf Γ o, .int n, .int (nI w), .int x] m (fun r m' => r = some (.int (p_mvV w K n a x)) ∧ fx_mk m m' ∧ fx_tr m' (p_mvT w K)) := by
  have : w = 0 ∨ w = 1 ∨ w = 2 := by omega
  rcases this with rfl | rfl | rfl
  · exact s_X2_make0 hL hs ho hK h0 h1 ht n x
  · exact s_X2_make1 hL hs ho hK h0 h1 ht n x
  · exact s_X2_make2 hL hs ho hK h0 h1 ht n x
def q_act (A : Nat → Nat → Int32) (na : Nat) (x mv y : Int32) : Int32 := if ¬ p_el x (nI na) then 0 else if ¬ p_in mv 0 2 then 0 else p_mvV (p_ix mv) (p_ix (A (p_ix x) 0)) x (A (p_ix x) 1) y
def q_actT (A : Nat → Nat → Int32) (na : Nat) (x mv : Int32) : List Nat := if ¬ p_el x (nI na) then [] else if ¬ p_in mv 0 2 then [] else p_mvT (p_ix mv) (p_ix (A (p_ix x) 0))
set_option maxRecDepth 100000 in
set_option maxHeartbeats 600000 in
theorem s_X8_act {Γ : fx_G} {m : fx_M} (hL : fx_Lay m) {na : Nat} (hna : m.1 1 2 = nI na) (h8 : na ≤ 8) (hkd : ∀ x, x < na → ∃ kk : Nat, kk ≤ 6 ∧ m.1 (1 + 3 + x) 0 = nI kk) (x mv x2 : Int32) : fx_Ct Γ mX8_act 18 119 119 [fx_rf Γ 0, .int x, .int mv, .int x2] m (fun r m' => r = some (.int (q_act (fx_ar m 1) na x mv x2)) ∧ fx_tr m' (q_actT (fx_ar m 1) na x mv) ∧ m'.2.1 = m.2.1 ∧ (∀ o, o ≠ 65 → o ≠ 66 → m'.1 o = m.1 o) ∧ fx_Lay m' ∧ ∀ o k, ¬ (o = 65 ∧ k = 2) → m'.2.2 o k = m.2.2 o k) := by
  refine fx_Ct.of (j := 0) (by decide) (Nat.le_of_ble_eq_true rfl) (Nat.le_of_ble_eq_true rfl) ?_
  show fx_E Γ mX8_act 18 119 119 _ 119 m 0 [some (fx_rf Γ 0), some (.int x), some (.int mv), some (.int x2)] []
  refine e_aload_n dX8_act_0 rfl ?_
  refine e_getr (o2 := 65) dX8_act_1 ff_X8_69 rfl (fx_pi_lt (by decide)) (by decide) rfl (hL _ _ _ rfl) ?_
  refine e_callV1 (μ' := mX2_forget) (ci := 2) (As := []) dX8_act_4 wl_X8_328 ok_X2_forget rfl rfl (fx_pi_lt (by decide)) (by decide) (Nat.le_of_ble_eq_true rfl) fx_n1 (s_X2_forget) rfl ?_
  refine e_aload_n dX8_act_7 rfl ?_
  refine e_getr (o2 := 1) dX8_act_8 ff_X8_10 rfl (fx_pi_lt (by decide)) (by decide) rfl (hL _ _ _ rfl) ?_
  refine e_iload_n dX8_act_11 rfl ?_
  refine e_callV1 (μ' := mX6_isArm) (ci := 6) (As := [.int x]) dX8_act_12 wl_X8_117 ok_X6_isArm rfl rfl (fx_pi_lt (by decide)) (by decide) (Nat.le_of_ble_eq_true rfl) fx_n1 (s_X6_isArm (m := fx_sI m 65 0 0) 1 fx_s1 (na := na) (by rw [fx_sI_n _ _ _ (by decide)]; exact hna) x) rfl ?_
  refine e_if_eqB 27 dX8_act_15 rfl (fun c_1 => ?_) (fun c_1 => ?_)
  · refine e_iconst dX8_act_27 kci_0 ?_
    have hq : q_act (fx_ar m 1) na x mv x2 = 0 := by unfold q_act; (try (first | rw [if_pos c_1] | rw [if_neg c_1] | rw [if_neg (Decidable.not_not.mpr c_1)])); (try rfl)
    have hT : q_actT (fx_ar m 1) na x mv = [] := by unfold q_actT; (try (first | rw [if_pos c_1] | rw [if_neg c_1] | rw [if_neg (Decidable.not_not.mpr c_1)])); (try rfl)
    exact e_iret dX8_act_28 rfl rfl rfl ⟨by rw [hq], by rw [hT]; exact ⟨fx_rd0, fun i v hi => by simp at hi⟩, rfl, fun o h1 h2 => fx_sI_n _ _ _ h1, hL, fun o k h => rfl⟩
  · refine e_iload_n dX8_act_18 rfl ?_
    refine e_iconst dX8_act_19 kci_0 ?_
    refine e_iconst dX8_act_20 kci_2 ?_
    refine e_callS1 (μ' := mX8_within) (As := [.int mv, .int 0, .int 2]) dX8_act_21 wl_X8_81 ok_X8_within (by decide) (Nat.le_of_ble_eq_true rfl) fx_n1 (s_X8_within (m := fx_sI m 65 0 0) mv 0 2) rfl ?_
    refine e_if_neB 29 dX8_act_24 rfl (fun c_2 => ?_) (fun c_2 => ?_)
    · obtain ⟨y, hy, ey⟩ := p_el_ex c_1 (by omega)
      subst ey
      obtain ⟨w, hw2, ew⟩ := p_in_ex (hi := 2) c_2 (by decide)
      subst ew
      have hw : w < 3 := by omega
      obtain ⟨K, hK6, eK⟩ := hkd y hy
      have hK : K < 7 := by omega
      refine e_aload_n dX8_act_29 rfl ?_
      refine e_getr (o2 := 65) dX8_act_30 ff_X8_69 rfl (fx_pi_lt (by decide)) (by decide) rfl (hL _ _ _ rfl) ?_
      refine e_aload_n dX8_act_33 rfl ?_
      refine e_getr (o2 := 1) dX8_act_34 ff_X8_10 rfl (fx_pi_lt (by decide)) (by decide) rfl (hL _ _ _ rfl) ?_
      refine e_getr (o2 := 2) dX8_act_37 ff_X8_62 rfl (fx_pi_lt (by decide)) (by decide) rfl (hL _ _ _ rfl) ?_
      refine e_iload_n dX8_act_40 rfl ?_
      refine e_aald (j := y) (o2 := 1 + 3 + y) dX8_act_41 rfl (Or.inl rfl) (fx_pi_lt (by decide)) rfl (by omega) (by decide) (fx_s1.ra hL (by omega)) ?_
      refine e_iload_n dX8_act_42 rfl ?_
      refine e_iload_n dX8_act_43 rfl ?_
      refine e_iload_n dX8_act_44 rfl ?_
      refine e_callV (μ' := mX2_make) (ci := 2) (As := [fx_rf Γ (1 + 3 + y), .int (nI y), .int (nI w), .int x2]) dX8_act_45 wl_X8_331 ok_X2_make rfl rfl (fx_pi_lt (by decide)) (by decide) (Nat.le_of_ble_eq_true rfl) fx_n1 (s_X2_make (m := fx_sI m 65 0 0) hL (o := 1 + 3 + y) (K := K) (fx_s1.sa (by omega)) (by omega) hK (by rw [fx_sI_n _ _ _ (by omega)]; exact eK) (a := m.1 (1 + 3 + y) 1) (by rw [fx_sI_n _ _ _ (by omega)]) ⟨fx_rd0, fun i v hi => by simp at hi⟩ (nI y) x2 (w := w) hw) rfl (fun r_ m_ hpost => ?_)
      revert r_ m_
      intro r_ m1 hpost
      obtain ⟨rfl, g1, t1⟩ := hpost
      have hq : q_act (fx_ar m 1) na (nI y) (nI w) x2 = p_mvV w K (nI y) (m.1 (1 + 3 + y) 1) x2 := by unfold q_act; (try dsimp only); rw [if_neg (Decidable.not_not.mpr c_1), if_neg (Decidable.not_not.mpr c_2), p_ix_n (show y < 2 ^ 31 by omega), p_ix_n (show w < 2 ^ 31 by omega), show fx_ar m 1 y 0 = nI K from eK, p_ix_n (show K < 2 ^ 31 by omega)]
      have hT : q_actT (fx_ar m 1) na (nI y) (nI w) = p_mvT w K := by unfold q_actT; (try dsimp only); rw [if_neg (Decidable.not_not.mpr c_1), if_neg (Decidable.not_not.mpr c_2), p_ix_n (show y < 2 ^ 31 by omega), p_ix_n (show w < 2 ^ 31 by omega), show fx_ar m 1 y 0 = nI K from eK, p_ix_n (show K < 2 ^ 31 by omega)]
      exact e_iret dX8_act_48 rfl rfl rfl ⟨by rw [hq], by rw [hT]; exact t1, g1.1, fun o h1 h2 => by rw [g1.2.2 o h1 h2, fx_sI_n _ _ _ h1], (g1.lay (m := fx_sI m 65 0 0) hL), fun o k h => g1.2.1 o k h⟩
    · refine e_iconst dX8_act_27 kci_0 ?_
      have hq : q_act (fx_ar m 1) na x mv x2 = 0 := by unfold q_act; (try (first | rw [if_pos c_1] | rw [if_neg c_1] | rw [if_neg (Decidable.not_not.mpr c_1)])); (try (first | rw [if_pos c_2] | rw [if_neg c_2] | rw [if_neg (Decidable.not_not.mpr c_2)])); (try rfl)
      have hT : q_actT (fx_ar m 1) na x mv = [] := by unfold q_actT; (try (first | rw [if_pos c_1] | rw [if_neg c_1] | rw [if_neg (Decidable.not_not.mpr c_1)])); (try (first | rw [if_pos c_2] | rw [if_neg c_2] | rw [if_neg (Decidable.not_not.mpr c_2)])); (try rfl)
      exact e_iret dX8_act_28 rfl rfl rfl ⟨by rw [hq], by rw [hT]; exact ⟨fx_rd0, fun i v hi => by simp at hi⟩, rfl, fun o h1 h2 => fx_sI_n _ _ _ h1, hL, fun o k h => rfl⟩
