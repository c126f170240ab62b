/-! shelves of the reference: what is held, of which sort, the arm, the size, the cells -/
abbrev p_Sh := (Nat → Int32) × (Nat → Int32) × (Nat → Nat) × (Nat → Nat → Int64)
def p_hld (so sa : Int32) : Int32 := if so ≠ -1 then 1 else if sa ≠ -1 then 2 else 0
theorem p_hld2 {so sa : Int32} : p_hld so sa = 2 ↔ so = -1 ∧ sa ≠ -1 := by
  unfold p_hld
  by_cases c : so = -1 <;> by_cases d : sa = -1 <;> simp [c, d]
theorem p_hld0 {so sa : Int32} : p_hld so sa = 0 ↔ so = -1 ∧ sa = -1 := by
  unfold p_hld
  by_cases c : so = -1 <;> by_cases d : sa = -1 <;> simp [c, d]
theorem p_hld1 {so sa : Int32} : p_hld so sa = 1 ↔ so ≠ -1 := by
  unfold p_hld
  by_cases c : so = -1 <;> by_cases d : sa = -1 <;> simp [c, d]
def fx_MSk (m : fx_M) (na : Nat) (u : p_Sh) (k : Nat) : Prop := m.1 100 k = p_hld (u.1 k) (u.2.1 k) ∧ (u.1 k ≠ -1 → u.2.1 k = -1 ∧ p_in (u.1 k) 0 3 ∧ m.1 101 k = u.1 k ∧ m.1 102 k = nI (u.2.2.1 k) ∧ u.2.2.1 k ≤ 160 ∧ ∀ i, i < u.2.2.1 k → m.2.1 104 (160 * k + i) = u.2.2.2 k i) ∧ (u.1 k = -1 → u.2.2.1 k = 0 ∧ (u.2.1 k ≠ -1 → p_el (u.2.1 k) (nI na) ∧ m.1 103 k = u.2.1 k))
def fx_MSh (m : fx_M) (na : Nat) (u : p_Sh) : Prop := ∀ k, k < 8 → fx_MSk m na u k
def fx_KQ (m m' : fx_M) : Prop := m'.2.2 = m.2.2 ∧ (∀ o, ¬ (100 ≤ o ∧ o ≤ 103) → m'.1 o = m.1 o) ∧ ∀ o, ¬ (o = 104 ∨ o = 105) → m'.2.1 o = m.2.1 o
theorem fx_KQ.refl (m : fx_M) : fx_KQ m m := ⟨rfl, fun _ _ => rfl, fun _ _ => rfl⟩
theorem fx_KQ.trans {a b c : fx_M} (h : fx_KQ a b) (g : fx_KQ b c) : fx_KQ a c := ⟨g.1.trans h.1, fun o ho => (g.2.1 o ho).trans (h.2.1 o ho), fun o ho => (g.2.2 o ho).trans (h.2.2 o ho)⟩
theorem fx_KQ.sI {m m' : fx_M} {o k : Nat} {v : Int32} (h : fx_KQ m m') (ho : 100 ≤ o ∧ o ≤ 103) : fx_KQ m (fx_sI m' o k v) := ⟨h.1, fun a ha => by rw [fx_sI_n _ _ _ (by rintro rfl; exact ha ho)]; exact h.2.1 a ha, h.2.2⟩
theorem fx_KQ.lay {m m' : fx_M} (h : fx_KQ m m') (hL : fx_Lay m) : fx_Lay m' := fun o k v hv => by rw [h.1]; exact hL o k v hv
theorem fx_KQ.ms {m m' : fx_M} {na nd : Nat} {t : p_Sg} (h : fx_KQ m m') (H : fx_MS m na nd t) : fx_MS m' na nd t := H.cg (fun o ho => h.2.1 o (by omega)) (fun j hj => by rw [h.2.1 83 (by omega)])
theorem fx_MSk.cg {m m' : fx_M} {na : Nat} {u u' : p_Sh} {k : Nat} (H : fx_MSk m na u k) (h1 : ∀ o, 100 ≤ o → o ≤ 103 → m'.1 o k = m.1 o k) (h2 : ∀ i, i < 160 → m'.2.1 104 (160 * k + i) = m.2.1 104 (160 * k + i)) (e1 : u'.1 k = u.1 k) (e2 : u'.2.1 k = u.2.1 k) (e3 : u'.2.2.1 k = u.2.2.1 k) (e4 : u'.2.2.2 k = u.2.2.2 k) : fx_MSk m' na u' k := by
  unfold fx_MSk
  rw [e1, e2, e3, e4, h1 100 (by omega) (by omega), h1 101 (by omega) (by omega), h1 102 (by omega) (by omega), h1 103 (by omega) (by omega)]
  exact ⟨H.1, fun h => ⟨(H.2.1 h).1, (H.2.1 h).2.1, (H.2.1 h).2.2.1, (H.2.1 h).2.2.2.1, (H.2.1 h).2.2.2.2.1, fun i hi => by rw [h2 i (by have := (H.2.1 h).2.2.2.2.1; omega)]; exact (H.2.1 h).2.2.2.2.2 i hi⟩, H.2.2⟩
theorem fx_MSh.cg {m m' : fx_M} {na : Nat} {u : p_Sh} (H : fx_MSh m na u) (h1 : ∀ o, 100 ≤ o → o ≤ 103 → m'.1 o = m.1 o) (h2 : m'.2.1 104 = m.2.1 104) : fx_MSh m' na u := fun k hk => (H k hk).cg (fun o a b => by rw [h1 o a b]) (fun i hi => by rw [h2]) rfl rfl rfl rfl
theorem fx_MSh.na {m : fx_M} {na nb : Nat} {u : p_Sh} (H : fx_MSh m na u) (h : na ≤ nb) (hb : nb ≤ 9) : fx_MSh m nb u := fun k hk => ⟨(H k hk).1, (H k hk).2.1, fun q => ⟨((H k hk).2.2 q).1, fun r => ⟨⟨(((H k hk).2.2 q).2 r).1.1, Int32.lt_of_lt_of_le (((H k hk).2.2 q).2 r).1.2 (nI_le h (by omega))⟩, (((H k hk).2.2 q).2 r).2⟩⟩⟩
theorem fx_KF.sh {m m' : fx_M} {na : Nat} {u : p_Sh} (h : fx_KF m m') (H : fx_MSh m na u) : fx_MSh m' na u := H.cg (fun o a b => h.2.1 o (by omega)) (by rw [h.1])
theorem p_bR_1 {so sa : Nat → Int32} {s : Int32} (h : ¬ p_in s 0 7) : p_bR so sa s = 1 := if_pos h
theorem p_bR_k {so sa : Nat → Int32} {k : Nat} (h : p_in (nI k) 0 7) (hk : k < 8) : p_bR so sa (nI k) = if sa k ≠ -1 then 2 else if so k ≠ -1 then 0 else 3 := by
  unfold p_bR
  rw [if_neg (Decidable.not_not.mpr h), p_ix_n (show k < 2 ^ 31 by omega)]
theorem fx_MSk.b2 {m : fx_M} {na k : Nat} {u : p_Sh} (_ : fx_MSk m na u k) (h : p_in (nI k) 0 7) (hk : k < 8) (c : p_hld (u.1 k) (u.2.1 k) = 2) : p_bR u.1 u.2.1 (nI k) = 2 := by
  rw [p_bR_k h hk, if_pos (p_hld2.mp c).2]
theorem fx_MSk.b0 {m : fx_M} {na k : Nat} {u : p_Sh} (_ : fx_MSk m na u k) (h : p_in (nI k) 0 7) (hk : k < 8) (c : p_hld (u.1 k) (u.2.1 k) = 0) : p_bR u.1 u.2.1 (nI k) = 3 := by
  rw [p_bR_k h hk, if_neg (Decidable.not_not.mpr (p_hld0.mp c).2), if_neg (Decidable.not_not.mpr (p_hld0.mp c).1)]
theorem p_hldr {so sa : Int32} (c : ¬ p_hld so sa = 2) (d : ¬ p_hld so sa = 0) : so ≠ -1 := fun e => by
  by_cases f : sa = -1
  · exact d (p_hld0.mpr ⟨e, f⟩)
  · exact c (p_hld2.mpr ⟨e, f⟩)
theorem fx_MSk.b1 {m : fx_M} {na k : Nat} {u : p_Sh} (H : fx_MSk m na u k) (h : p_in (nI k) 0 7) (hk : k < 8) (c : ¬ p_hld (u.1 k) (u.2.1 k) = 2) (d : ¬ p_hld (u.1 k) (u.2.1 k) = 0) : p_bR u.1 u.2.1 (nI k) = 0 := by
  have e := p_hldr c d
  rw [p_bR_k h hk, if_neg (Decidable.not_not.mpr (H.2.1 e).1), if_pos e]
theorem i_cell (k y : Nat) : 160 * nI k + nI y = nI (160 * k + y) := by rw [show (160 : Int32) = nI 160 from rfl, i_mulc, nI_add]
set_option maxRecDepth 100000 in
set_option maxHeartbeats 600000 in
theorem s_X9_wanted {Γ : fx_G} {m : fx_M} (hL : fx_Lay m) {na : Nat} {u : p_Sh} (HS : fx_MSh m na u) (s : Int32) : fx_Ct Γ mX9_wanted 1 119 119 [fx_rf Γ 83, .int s] m (fx_is (some (.int (-(nI (p_bR u.1 u.2.1 s))))) m) := by
  refine fx_Ct.of (j := 0) (by decide) (Nat.le_of_ble_eq_true rfl) (Nat.le_of_ble_eq_true rfl) ?_
  show fx_E Γ mX9_wanted 1 119 119 _ 119 m 0 [some (fx_rf Γ 83), some (.int s)] []
  refine e_aload_n dX9_wanted_0 rfl ?_
  refine e_iload_n dX9_wanted_1 rfl ?_
  refine e_callV1 (μ' := mX9_isShelf) (ci := 9) (As := [.int s]) dX9_wanted_2 wl_X9_132 ok_X9_isShelf rfl rfl (fx_pi_lt (by decide)) (by decide) (Nat.le_of_ble_eq_true rfl) fx_n1 (s_X9_isShelf (m := m) hL s) rfl ?_
  refine e_if_neB 12 dX9_wanted_5 rfl (fun c_s => ?_) (fun c_s => ?_)
  · obtain ⟨k, hk, ek⟩ := p_in_ex7 c_s
    subst ek
    refine e_aload_n dX9_wanted_12 rfl ?_
    refine e_getr (o2 := 100) dX9_wanted_13 ff_X9_65 rfl (fx_pi_lt (by decide)) (by decide) rfl (hL _ _ _ rfl) ?_
    refine e_iload_n dX9_wanted_16 rfl ?_
    refine e_ialdv (j := k) (v := p_hld (u.1 k) (u.2.1 k)) dX9_wanted_17 rfl (fx_pi_lt (by decide)) rfl (by omega) (by decide) (HS _ (by omega)).1 ?_
    refine e_iconst dX9_wanted_18 kci_2 ?_
    refine e_icmp_ne 27 dX9_wanted_19 rfl (fun c_2 => ?_) (fun c_2 => ?_)
    · refine e_aload_n dX9_wanted_27 rfl ?_
      refine e_getr (o2 := 100) dX9_wanted_28 ff_X9_65 rfl (fx_pi_lt (by decide)) (by decide) rfl (hL _ _ _ rfl) ?_
      refine e_iload_n dX9_wanted_31 rfl ?_
      refine e_ialdv (j := k) (v := p_hld (u.1 k) (u.2.1 k)) dX9_wanted_32 rfl (fx_pi_lt (by decide)) rfl (by omega) (by decide) (HS _ (by omega)).1 ?_
      refine e_if_ne 41 dX9_wanted_33 rfl (fun c_0 => ?_) (fun c_0 => ?_)
      · refine e_iconst dX9_wanted_41 kci_0 ?_
        have hb := (HS k hk).b1 c_s hk c_2 c_0
        exact e_iret dX9_wanted_42 rfl rfl rfl ⟨by rw [hb]; rfl, rfl⟩
      · refine e_bipush dX9_wanted_36 kcb_m3 ?_
        refine e_goto 42 dX9_wanted_38 rfl ?_
        have hb := (HS k hk).b0 c_s hk c_0
        exact e_iret dX9_wanted_42 rfl rfl rfl ⟨by rw [hb]; rfl, rfl⟩
    · refine e_bipush dX9_wanted_22 kcb_m2 ?_
      refine e_goto 42 dX9_wanted_24 rfl ?_
      have hb := (HS k hk).b2 c_s hk c_2
      exact e_iret dX9_wanted_42 rfl rfl rfl ⟨by rw [hb]; rfl, rfl⟩
  · refine e_iconst dX9_wanted_8 kci_m1 ?_
    refine e_goto 42 dX9_wanted_9 rfl ?_
    have hb := p_bR_1 (so := u.1) (sa := u.2.1) c_s
    exact e_iret dX9_wanted_42 rfl rfl rfl ⟨by rw [hb]; rfl, rfl⟩
set_option maxRecDepth 100000 in
set_option maxHeartbeats 600000 in
theorem s_X9_intAt {Γ : fx_G} {m : fx_M} (hL : fx_Lay m) {k y : Nat} (hk : k < 8) (hy : y < 160) : fx_Ct Γ mX9_intAt 0 119 119 [fx_rf Γ 83, .int (nI k), .int (nI y)] m (fx_is (some (.int ((m.2.1 104 (160 * k + y)).toInt32))) m) := by
  refine fx_Ct.of (j := 0) (by decide) (Nat.le_of_ble_eq_true rfl) (Nat.le_of_ble_eq_true rfl) ?_
  show fx_E Γ mX9_intAt 0 119 119 _ 119 m 0 [some (fx_rf Γ 83), some (.int (nI k)), some (.int (nI y))] []
  refine e_aload_n dX9_intAt_0 rfl ?_
  refine e_getr (o2 := 104) dX9_intAt_1 ff_X9_77 rfl (fx_pi_lt (by decide)) (by decide) rfl (hL _ _ _ rfl) ?_
  refine e_sipush dX9_intAt_4 kcs_160 ?_
  refine e_iload_n dX9_intAt_7 rfl ?_
  refine e_imul dX9_intAt_8 ?_
  refine e_iload_n dX9_intAt_9 rfl ?_
  refine e_iadd dX9_intAt_10 ?_
  refine e_lald (j := 160 * k + y) dX9_intAt_11 rfl (fx_pi_lt (by decide)) (i_cell k y) (by omega) (by decide) ?_
  refine e_l2i dX9_intAt_12 ?_
  exact e_iret dX9_intAt_13 rfl rfl rfl ⟨rfl, rfl⟩
set_option maxRecDepth 100000 in
set_option maxHeartbeats 600000 in
theorem s_X9_element {Γ : fx_G} {m : fx_M} (hL : fx_Lay m) {na : Nat} {u : p_Sh} (HS : fx_MSh m na u) (s i : Int32) : fx_Ct Γ mX9_element 1 119 119 [fx_rf Γ 83, .int s, .int i] m (fx_is (some (.long (q_el u.2.2.1 u.2.2.2 s i))) m) := by
  refine fx_Ct.of (j := 0) (by decide) (Nat.le_of_ble_eq_true rfl) (Nat.le_of_ble_eq_true rfl) ?_
  show fx_E Γ mX9_element 1 119 119 _ 119 m 0 [some (fx_rf Γ 83), some (.int s), some (.int i)] []
  refine e_aload_n dX9_element_0 rfl ?_
  refine e_iload_n dX9_element_1 rfl ?_
  refine e_callV1 (μ' := mX9_isShelf) (ci := 9) (As := [.int s]) dX9_element_2 wl_X9_132 ok_X9_isShelf rfl rfl (fx_pi_lt (by decide)) (by decide) (Nat.le_of_ble_eq_true rfl) fx_n1 (s_X9_isShelf (m := m) hL s) rfl ?_
  refine e_if_eqB 47 dX9_element_5 rfl (fun c_s => ?_) (fun c_s => ?_)
  · refine e_lconst (v := 0) dX9_element_47 rfl ?_
    exact e_lret dX9_element_48 rfl rfl ⟨by unfold q_el; first | rw [if_pos c_s] | (rw [if_neg (Decidable.not_not.mpr c_s), p_ix_n (show k < 2 ^ 31 by omega), if_pos (by rintro ⟨h1, h2⟩; first | exact absurd h1 (Int32.not_le.mpr c_i) | exact absurd h2 (Int32.not_lt.mpr c_j) | exact absurd (Int32.lt_of_le_of_lt h1 h2) (by rw [((HS k hk).2.2 (Decidable.not_not.mp (mt p_hld1.mpr c_1))).1]; decide))]), rfl⟩
  · obtain ⟨k, hk, ek⟩ := p_in_ex7 c_s
    subst ek
    refine e_aload_n dX9_element_8 rfl ?_
    refine e_getr (o2 := 100) dX9_element_9 ff_X9_65 rfl (fx_pi_lt (by decide)) (by decide) rfl (hL _ _ _ rfl) ?_
    refine e_iload_n dX9_element_12 rfl ?_
    refine e_ialdv (j := k) (v := p_hld (u.1 k) (u.2.1 k)) dX9_element_13 rfl (fx_pi_lt (by decide)) rfl (by omega) (by decide) (HS _ (by omega)).1 ?_
    refine e_iconst dX9_element_14 kci_1 ?_
    refine e_icmp_ne 47 dX9_element_15 rfl (fun c_1 => ?_) (fun c_1 => ?_)
    · refine e_lconst (v := 0) dX9_element_47 rfl ?_
      exact e_lret dX9_element_48 rfl rfl ⟨by unfold q_el; first | rw [if_pos c_s] | (rw [if_neg (Decidable.not_not.mpr c_s), p_ix_n (show k < 2 ^ 31 by omega), if_pos (by rintro ⟨h1, h2⟩; first | exact absurd h1 (Int32.not_le.mpr c_i) | exact absurd h2 (Int32.not_lt.mpr c_j) | exact absurd (Int32.lt_of_le_of_lt h1 h2) (by rw [((HS k hk).2.2 (Decidable.not_not.mp (mt p_hld1.mpr c_1))).1]; decide))]), rfl⟩
    · have sok := p_hld1.mp c_1
      refine e_iload_n dX9_element_18 rfl ?_
      refine e_if_lt 47 dX9_element_19 rfl (fun c_i => ?_) (fun c_i => ?_)
      · refine e_lconst (v := 0) dX9_element_47 rfl ?_
        exact e_lret dX9_element_48 rfl rfl ⟨by unfold q_el; first | rw [if_pos c_s] | (rw [if_neg (Decidable.not_not.mpr c_s), p_ix_n (show k < 2 ^ 31 by omega), if_pos (by rintro ⟨h1, h2⟩; first | exact absurd h1 (Int32.not_le.mpr c_i) | exact absurd h2 (Int32.not_lt.mpr c_j) | exact absurd (Int32.lt_of_le_of_lt h1 h2) (by rw [((HS k hk).2.2 (Decidable.not_not.mp (mt p_hld1.mpr c_1))).1]; decide))]), rfl⟩
      · refine e_iload_n dX9_element_22 rfl ?_
        refine e_aload_n dX9_element_23 rfl ?_
        refine e_getr (o2 := 102) dX9_element_24 ff_X9_71 rfl (fx_pi_lt (by decide)) (by decide) rfl (hL _ _ _ rfl) ?_
        refine e_iload_n dX9_element_27 rfl ?_
        refine e_ialdv (j := k) (v := nI (u.2.2.1 k)) dX9_element_28 rfl (fx_pi_lt (by decide)) rfl (by omega) (by decide) ((HS k (by omega)).2.1 sok).2.2.2.1 ?_
        refine e_icmp_ge 47 dX9_element_29 rfl (fun c_j => ?_) (fun c_j => ?_)
        · refine e_lconst (v := 0) dX9_element_47 rfl ?_
          exact e_lret dX9_element_48 rfl rfl ⟨by unfold q_el; first | rw [if_pos c_s] | (rw [if_neg (Decidable.not_not.mpr c_s), p_ix_n (show k < 2 ^ 31 by omega), if_pos (by rintro ⟨h1, h2⟩; first | exact absurd h1 (Int32.not_le.mpr c_i) | exact absurd h2 (Int32.not_lt.mpr c_j) | exact absurd (Int32.lt_of_le_of_lt h1 h2) (by rw [((HS k hk).2.2 (Decidable.not_not.mp (mt p_hld1.mpr c_1))).1]; decide))]), rfl⟩
        · obtain ⟨y, hy, ey⟩ := p_el_ex ⟨Int32.not_lt.mp c_i, Int32.not_le.mp c_j⟩ (by have := ((HS k hk).2.1 sok).2.2.2.2.1; omega)
          subst ey
          have hc160 := ((HS k hk).2.1 sok).2.2.2.2.1
          refine e_aload_n dX9_element_32 rfl ?_
          refine e_getr (o2 := 104) dX9_element_33 ff_X9_77 rfl (fx_pi_lt (by decide)) (by decide) rfl (hL _ _ _ rfl) ?_
          refine e_sipush dX9_element_36 kcs_160 ?_
          refine e_iload_n dX9_element_39 rfl ?_
          refine e_imul dX9_element_40 ?_
          refine e_iload_n dX9_element_41 rfl ?_
          refine e_iadd dX9_element_42 ?_
          refine e_lald (j := 160 * k + y) dX9_element_43 rfl (fx_pi_lt (by decide)) (i_cell k y) (by omega) (by decide) ?_
          refine e_goto 48 dX9_element_44 rfl ?_
          exact e_lret dX9_element_48 rfl rfl ⟨by rw [((HS k hk).2.1 sok).2.2.2.2.2 y hy]; unfold q_el; rw [if_neg (Decidable.not_not.mpr c_s), p_ix_n (show k < 2 ^ 31 by omega), p_ix_n (show y < 2 ^ 31 by omega), if_neg (Decidable.not_not.mpr ⟨Int32.not_lt.mp c_i, Int32.not_le.mp c_j⟩)], rfl⟩
set_option maxRecDepth 100000 in
set_option maxHeartbeats 600000 in
theorem s_X9_holds {Γ : fx_G} {m : fx_M} (hL : fx_Lay m) {na : Nat} {u : p_Sh} (HS : fx_MSh m na u) (s : Int32) : fx_Ct Γ mX9_holds 1 119 119 [fx_rf Γ 83, .int s] m (fx_is (some (.int (q_holds u.1 u.2.1 s))) m) := by
  refine fx_Ct.of (j := 0) (by decide) (Nat.le_of_ble_eq_true rfl) (Nat.le_of_ble_eq_true rfl) ?_
  show fx_E Γ mX9_holds 1 119 119 _ 119 m 0 [some (fx_rf Γ 83), some (.int s)] []
  refine e_aload_n dX9_holds_0 rfl ?_
  refine e_iload_n dX9_holds_1 rfl ?_
  refine e_callV1 (μ' := mX9_isShelf) (ci := 9) (As := [.int s]) dX9_holds_2 wl_X9_132 ok_X9_isShelf rfl rfl (fx_pi_lt (by decide)) (by decide) (Nat.le_of_ble_eq_true rfl) fx_n1 (s_X9_isShelf (m := m) hL s) rfl ?_
  refine e_if_eqB 17 dX9_holds_5 rfl (fun c_s => ?_) (fun c_s => ?_)
  · refine e_iconst dX9_holds_17 kci_m1 ?_
    exact e_iret dX9_holds_18 rfl rfl rfl ⟨by unfold q_holds; first | rw [if_pos c_s] | (rw [if_neg (Decidable.not_not.mpr c_s), p_ix_n (show k < 2 ^ 31 by omega), if_neg (Decidable.not_not.mpr (p_hld0.mp c_0).1), (p_hld0.mp c_0).2]), rfl⟩
  · obtain ⟨k, hk, ek⟩ := p_in_ex7 c_s
    subst ek
    refine e_aload_n dX9_holds_8 rfl ?_
    refine e_getr (o2 := 100) dX9_holds_9 ff_X9_65 rfl (fx_pi_lt (by decide)) (by decide) rfl (hL _ _ _ rfl) ?_
    refine e_iload_n dX9_holds_12 rfl ?_
    refine e_ialdv (j := k) (v := p_hld (u.1 k) (u.2.1 k)) dX9_holds_13 rfl (fx_pi_lt (by decide)) rfl (by omega) (by decide) (HS _ (by omega)).1 ?_
    refine e_if_ne 19 dX9_holds_14 rfl (fun c_0 => ?_) (fun c_0 => ?_)
    · refine e_aload_n dX9_holds_19 rfl ?_
      refine e_getr (o2 := 100) dX9_holds_20 ff_X9_65 rfl (fx_pi_lt (by decide)) (by decide) rfl (hL _ _ _ rfl) ?_
      refine e_iload_n dX9_holds_23 rfl ?_
      refine e_ialdv (j := k) (v := p_hld (u.1 k) (u.2.1 k)) dX9_holds_24 rfl (fx_pi_lt (by decide)) rfl (by omega) (by decide) (HS _ (by omega)).1 ?_
      refine e_iconst dX9_holds_25 kci_1 ?_
      refine e_icmp_ne 41 dX9_holds_26 rfl (fun c_1 => ?_) (fun c_1 => ?_)
      · refine e_aload_n dX9_holds_41 rfl ?_
        refine e_getr (o2 := 103) dX9_holds_42 ff_X9_74 rfl (fx_pi_lt (by decide)) (by decide) rfl (hL _ _ _ rfl) ?_
        refine e_iload_n dX9_holds_45 rfl ?_
        refine e_iald (j := k) dX9_holds_46 rfl (fx_pi_lt (by decide)) rfl (by omega) (by decide) ?_
        have hso := Decidable.not_not.mp (mt p_hld1.mpr c_1)
        have hsa : u.2.1 k ≠ -1 := fun e => c_0 (p_hld0.mpr ⟨hso, e⟩)
        exact e_iret dX9_holds_47 rfl rfl rfl ⟨by rw [(((HS k hk).2.2 hso).2 hsa).2]; unfold q_holds; rw [if_neg (Decidable.not_not.mpr c_s), p_ix_n (show k < 2 ^ 31 by omega), if_neg (Decidable.not_not.mpr hso)], rfl⟩
      · have sok := p_hld1.mp c_1
        refine e_bipush dX9_holds_29 kcb_100 ?_
        refine e_aload_n dX9_holds_31 rfl ?_
        refine e_getr (o2 := 101) dX9_holds_32 ff_X9_68 rfl (fx_pi_lt (by decide)) (by decide) rfl (hL _ _ _ rfl) ?_
        refine e_iload_n dX9_holds_35 rfl ?_
        refine e_ialdv (j := k) (v := u.1 k) dX9_holds_36 rfl (fx_pi_lt (by decide)) rfl (by omega) (by decide) ((HS k (by omega)).2.1 sok).2.2.1 ?_
        refine e_iadd dX9_holds_37 ?_
        refine e_goto 47 dX9_holds_38 rfl ?_
        exact e_iret dX9_holds_47 rfl rfl rfl ⟨by unfold q_holds; rw [if_neg (Decidable.not_not.mpr c_s), p_ix_n (show k < 2 ^ 31 by omega), if_pos sok], rfl⟩
    · refine e_iconst dX9_holds_17 kci_m1 ?_
      exact e_iret dX9_holds_18 rfl rfl rfl ⟨by unfold q_holds; first | rw [if_pos c_s] | (rw [if_neg (Decidable.not_not.mpr c_s), p_ix_n (show k < 2 ^ 31 by omega), if_neg (Decidable.not_not.mpr (p_hld0.mp c_0).1), (p_hld0.mp c_0).2]), rfl⟩
