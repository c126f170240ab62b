/-! told days -/
abbrev p_okT (na nd : Nat) (t : p_Sg) (x v : Int32) : Prop := p_el x (nI na) ∧ p_el (v / 10) (nI nd) ∧ p_in (p_sd v) 0 1 ∧ p_can t.1 t.2.1 na (p_ix x) (p_dd v) (p_sd v)
def p_tl (na nd : Nat) (rd : Nat → Int32) : Nat → Nat → p_Sg → Option Nat × p_Sg
  | 0, _, t => (none, t)
  | j + 1, i, t => if p_okT na nd t (rd (2 * i)) (rd (2 * i + 1)) then p_tl na nd rd j (i + 1) (p_mend t (p_ix (rd (2 * i))) (p_dd (rd (2 * i + 1))) (p_sd (rd (2 * i + 1)))) else (some i, t)
theorem p_tl_lt {na nd : Nat} {rd : Nat → Int32} : ∀ {j i x : Nat} {t : p_Sg}, (p_tl na nd rd j i t).1 = some x → x < i + j
  | 0, i, x, t, h => by cases h
  | j + 1, i, x, t, h => by
    rw [p_tl] at h
    split at h
    · have := p_tl_lt h; omega
    · cases h; omega
theorem p_ifc {p q : Prop} [Decidable p] [Decidable q] (e : p ↔ q) : (if p then (1 : Int32) else 0) = if q then 1 else 0 := by
  by_cases h : p
  · rw [if_pos h, if_pos (e.mp h)]
  · rw [if_neg h, if_neg (mt e.mpr h)]
theorem s_X6_canComeT {Γ : fx_G} {m : fx_M} (S : Nat) (HS : fx_St S) (hL : fx_Lay m) {na nd x d : Nat} (h8 : na ≤ 8) (h5 : nd ≤ 5) {t : p_Sg} (H : fx_HT m S na nd t) (hx : x < na) (hd : d < nd) (s : Int32) : fx_Ct Γ mX6_canCome 2 119 119 [fx_rf Γ S, .int (nI x), .int (nI d), .int s] m (fx_is (some (.int (if p_can t.1 t.2.1 na x d s then 1 else 0))) m) := by
  have h := s_X6_canCome (Γ := Γ) S HS hL H.1 h8 H.2.1 h5 hx hd s
  have e : p_can (fx_ar m S) (fx_dr m S) na x d s ↔ p_can t.1 t.2.1 na x d s := p_can_congr H.2.2.1 H.2.2.2.1 hx hd
  rwa [p_ifc e] at h
theorem fx_fr.mend {m m1 : fx_M} {S x d : Nat} {s : Int32} (f : fx_fr S m m1) (hx : x < 8) : fx_fr S m (fx_mMend m1 S x d s) :=
  ((f.sI (by omega) (by omega) ⟨fun _ _ => by omega, fun h => by omega⟩).sI (by omega) (by omega) ⟨fun h => by omega, fun h => by omega⟩).sI (by omega) (by omega) ⟨fun h => by omega, fun h => by omega⟩
set_option maxRecDepth 100000 in
set_option maxHeartbeats 600000 in
theorem s_X8_tellDay {Γ : fx_G} {m : fx_M} (hL : fx_Lay m) {na nd : Nat} (h8 : na ≤ 8) (h5 : nd ≤ 5) {A D : Nat → Nat → Int32} {c : Nat → Int32} (H : fx_HS m 1 na nd A D c) (hJ1 : fx_J 1 m) (hJ33 : fx_J 33 m) {cn : Nat → Nat} {k N : Nat} (hk : k < 8) (hck : m.1 (67 + 2 * k) 2 = nI (cn k) ∧ cn k ≤ 160) (hN : 2 * N ≤ cn k) {rd : Nat → Int32} (hrd : ∀ j, j < cn k → (m.2.1 (67 + 2 * k + 1) j).toInt32 = rd j) : fx_Ct Γ mX8_tellDay 3 119 119 [fx_rf Γ 0, fx_rf Γ (67 + 2 * k), .int (nI N)] m (fun r m' => r = some (.int (p_oi (p_tl na nd rd N 0 (A, D, c)).1)) ∧ fx_fr 33 m m' ∧ fx_HT m' 33 na nd (p_tl na nd rd N 0 (A, D, c)).2) := by
  refine fx_Ct.of (j := 5) (by decide) (Nat.le_of_ble_eq_true rfl) (Nat.le_of_ble_eq_true rfl) ?_
  show fx_E Γ mX8_tellDay 3 119 119 _ 119 m 0 [some (fx_rf Γ 0), some (fx_rf Γ (67 + 2 * k)), some (.int (nI N)), none, none, none, none, none] []
  have lp : ∀ (j : Nat) (i : Nat) (m1 : fx_M) (t : p_Sg), i + j = N → fx_fr 33 m m1 → fx_HT m1 33 na nd t → fx_E Γ mX8_tellDay 3 119 119 (fun r m' => r = some (.int (p_oi (p_tl na nd rd j i t).1)) ∧ fx_fr 33 m m' ∧ fx_HT m' 33 na nd (p_tl na nd rd j i t).2) 119 m1 13 [some (fx_rf Γ 0), some (fx_rf Γ (67 + 2 * k)), some (.int (nI N)), some (.int (nI i)), none, none, none, none] [] := by
    intro j
    induction j with
    | zero =>
      intro i m1 t hi f1 H1
      have hL1 := f1.lay hL
      refine e_iload_n dX8_tellDay_13 rfl ?_
      refine e_iload_n dX8_tellDay_14 rfl ?_
      refine e_icmp_ge 121 dX8_tellDay_15 rfl (fun _ => ?_) (fun h => absurd (nI_le (by omega) (by omega)) h)
      refine e_iconst dX8_tellDay_121 kci_m1 ?_
      exact e_iret dX8_tellDay_122 rfl rfl rfl ⟨rfl, f1, H1⟩
    | succ j ih =>
      intro i m1 t hi f1 H1
      have hL1 := f1.lay hL
      refine e_iload_n dX8_tellDay_13 rfl ?_
      refine e_iload_n dX8_tellDay_14 rfl ?_
      refine e_icmp_ge 121 dX8_tellDay_15 rfl (fun h => absurd h (nI_ge (by omega) (by omega))) (fun _ => ?_)
      refine e_aload_n dX8_tellDay_18 rfl ?_
      refine e_iconst dX8_tellDay_19 kci_2 ?_
      refine e_iload_n dX8_tellDay_20 rfl ?_
      refine e_imul dX8_tellDay_21 ?_
      rw [show (2 : Int32) * nI i = nI (2 * i) from pk_mul 2 i]
      refine e_callV (μ' := mX5_read) (ci := 5) (As := [.int (nI (2 * i))]) dX8_tellDay_22 wl_X8_353 ok_X5_read (fx_Sf.mk (by omega)).sh rfl (fx_pi_lt (fx_Sf.mk (by omega)).lt) (by decide) (Nat.le_of_ble_eq_true rfl) fx_n1 (s_X5_read (m := m1) (67 + 2 * k) (fx_Sf.mk (by omega)) hL1 (c := cn k) hck.2 (by rw [f1.2.1 _ (by omega)]; exact hck.1) (nI (2 * i))) rfl (fun r_ m_ hpost => ?_)
      obtain ⟨rfl, e2⟩ := hpost
      have e2 := e2.symm
      subst e2
      rw [p_rd_in (by omega) (by omega), f1.1, hrd _ (by omega)]
      refine e_istore dX8_tellDay_25 (by decide) rfl ?_
      refine e_aload_n dX8_tellDay_27 rfl ?_
      refine e_iconst dX8_tellDay_28 kci_2 ?_
      refine e_iload_n dX8_tellDay_29 rfl ?_
      refine e_imul dX8_tellDay_30 ?_
      rw [show (2 : Int32) * nI i = nI (2 * i) from pk_mul 2 i]
      refine e_iconst dX8_tellDay_31 kci_1 ?_
      refine e_iadd dX8_tellDay_32 ?_
      rw [nI_1]
      refine e_callV (μ' := mX5_read) (ci := 5) (As := [.int (nI (2 * i + 1))]) dX8_tellDay_33 wl_X8_353 ok_X5_read (fx_Sf.mk (by omega)).sh rfl (fx_pi_lt (fx_Sf.mk (by omega)).lt) (by decide) (Nat.le_of_ble_eq_true rfl) fx_n1 (s_X5_read (m := m1) (67 + 2 * k) (fx_Sf.mk (by omega)) hL1 (c := cn k) hck.2 (by rw [f1.2.1 _ (by omega)]; exact hck.1) (nI (2 * i + 1))) rfl (fun r_ m_ hpost => ?_)
      obtain ⟨rfl, e2⟩ := hpost
      have e2 := e2.symm
      subst e2
      rw [p_rd_in (by omega) (by omega), f1.1, hrd _ (by omega)]
      refine e_istore dX8_tellDay_36 (by decide) rfl ?_
      refine e_iload dX8_tellDay_38 rfl ?_
      refine e_bipush dX8_tellDay_40 kcb_10 ?_
      refine e_idiv dX8_tellDay_42 (by decide) ?_
      refine e_istore dX8_tellDay_43 (by decide) rfl ?_
      refine e_iload dX8_tellDay_45 rfl ?_
      refine e_bipush dX8_tellDay_47 kcb_10 ?_
      refine e_irem dX8_tellDay_49 (by decide) ?_
      refine e_istore dX8_tellDay_50 (by decide) rfl ?_
      generalize evv : rd (2 * i + 1) = vv
      generalize esd : vv - vv / 10 * 10 = sd
      generalize edd : vv / 10 = dd
      generalize exx : rd (2 * i) = xx
      refine e_aload_n dX8_tellDay_52 rfl ?_
      refine e_getr (o2 := 33) dX8_tellDay_53 ff_X8_19 rfl (fx_pi_lt (by decide)) (by decide) rfl (hL1 _ _ _ rfl) ?_
      refine e_iload dX8_tellDay_56 rfl ?_
      refine e_callV1 (μ' := mX6_isArm) (ci := 6) (As := [.int xx]) dX8_tellDay_58 wl_X8_117 ok_X6_isArm rfl rfl (fx_pi_lt (by decide)) (by decide) (Nat.le_of_ble_eq_true rfl) fx_n1 (s_X6_isArm (m := m1) 33 fx_s33 (na := na) H1.1 xx) rfl ?_
      refine e_if_eqB 100 dX8_tellDay_61 rfl (fun c_1 => ?_) (fun c_1 => ?_)
      · refine e_iload_n dX8_tellDay_100 rfl ?_
        have hno : ¬ p_okT na nd t (rd (2 * i)) (rd (2 * i + 1)) := by intro h; have h1 := h.1; have h2 := h.2.1; have h3 := h.2.2.1; have h4 := h.2.2.2; simp only [p_sd, p_dd] at h3 h4; rw [exx] at h1; simp only [evv] at h2 h3 h4; rw [edd] at h2; rw [esd] at h3; rw [exx, esd, edd] at h4; first | exact absurd h1 c_1 | exact absurd h2 c_1 | exact absurd h3 c_1 | (rw [p_ix_n (show y < 2 ^ 31 by omega), nI_clamp (show z < 2 ^ 31 by omega)] at h4; exact absurd h4 c_1)
        exact e_iret dX8_tellDay_101 rfl rfl rfl (by rw [p_tl, if_neg hno]; exact ⟨rfl, f1, H1⟩)
      · refine e_aload_n dX8_tellDay_64 rfl ?_
        refine e_getr (o2 := 33) dX8_tellDay_65 ff_X8_19 rfl (fx_pi_lt (by decide)) (by decide) rfl (hL1 _ _ _ rfl) ?_
        refine e_iload dX8_tellDay_68 rfl ?_
        refine e_callV1 (μ' := mX6_isDoll) (ci := 6) (As := [.int dd]) dX8_tellDay_70 wl_X8_174 ok_X6_isDoll rfl rfl (fx_pi_lt (by decide)) (by decide) (Nat.le_of_ble_eq_true rfl) fx_n1 (s_X6_isDoll (m := m1) 33 fx_s33 (nd := nd) H1.2.1 dd) rfl ?_
        refine e_if_eqB 100 dX8_tellDay_73 rfl (fun c_2 => ?_) (fun c_2 => ?_)
        · refine e_iload_n dX8_tellDay_100 rfl ?_
          have hno : ¬ p_okT na nd t (rd (2 * i)) (rd (2 * i + 1)) := by intro h; have h1 := h.1; have h2 := h.2.1; have h3 := h.2.2.1; have h4 := h.2.2.2; simp only [p_sd, p_dd] at h3 h4; rw [exx] at h1; simp only [evv] at h2 h3 h4; rw [edd] at h2; rw [esd] at h3; rw [exx, esd, edd] at h4; first | exact absurd h1 c_2 | exact absurd h2 c_2 | exact absurd h3 c_2 | (rw [p_ix_n (show y < 2 ^ 31 by omega), nI_clamp (show z < 2 ^ 31 by omega)] at h4; exact absurd h4 c_2)
          exact e_iret dX8_tellDay_101 rfl rfl rfl (by rw [p_tl, if_neg hno]; exact ⟨rfl, f1, H1⟩)
        · refine e_iload dX8_tellDay_76 rfl ?_
          refine e_callS1 (μ' := mX8_isSide) (As := [.int sd]) dX8_tellDay_78 wl_X8_149 ok_X8_isSide (by decide) (Nat.le_of_ble_eq_true rfl) fx_n1 (s_X8_isSide (m := m1) sd) rfl ?_
          refine e_if_eqB 100 dX8_tellDay_81 rfl (fun c_3 => ?_) (fun c_3 => ?_)
          · refine e_iload_n dX8_tellDay_100 rfl ?_
            have hno : ¬ p_okT na nd t (rd (2 * i)) (rd (2 * i + 1)) := by intro h; have h1 := h.1; have h2 := h.2.1; have h3 := h.2.2.1; have h4 := h.2.2.2; simp only [p_sd, p_dd] at h3 h4; rw [exx] at h1; simp only [evv] at h2 h3 h4; rw [edd] at h2; rw [esd] at h3; rw [exx, esd, edd] at h4; first | exact absurd h1 c_3 | exact absurd h2 c_3 | exact absurd h3 c_3 | (rw [p_ix_n (show y < 2 ^ 31 by omega), nI_clamp (show z < 2 ^ 31 by omega)] at h4; exact absurd h4 c_3)
            exact e_iret dX8_tellDay_101 rfl rfl rfl (by rw [p_tl, if_neg hno]; exact ⟨rfl, f1, H1⟩)
          · obtain ⟨y, hy, ey⟩ := p_el_ex c_1 (by omega)
            subst ey
            obtain ⟨z, hz, ez⟩ := p_el_ex c_2 (by omega)
            subst ez
            refine e_aload_n dX8_tellDay_84 rfl ?_
            refine e_getr (o2 := 33) dX8_tellDay_85 ff_X8_19 rfl (fx_pi_lt (by decide)) (by decide) rfl (hL1 _ _ _ rfl) ?_
            refine e_iload dX8_tellDay_88 rfl ?_
            refine e_iload dX8_tellDay_90 rfl ?_
            refine e_iload dX8_tellDay_92 rfl ?_
            refine e_callV1 (μ' := mX6_canCome) (ci := 6) (As := [.int (nI y), .int (nI z), .int sd]) dX8_tellDay_94 wl_X8_300 ok_X6_canCome rfl rfl (fx_pi_lt (by decide)) (by decide) (Nat.le_of_ble_eq_true rfl) fx_n1 (s_X6_canComeT (m := m1) 33 fx_s33 hL1 h8 h5 H1 (x := y) (d := z) hy hz sd) rfl ?_
            refine e_if_neB 102 dX8_tellDay_97 rfl (fun c_4 => ?_) (fun c_4 => ?_)
            · refine e_aload_n dX8_tellDay_102 rfl ?_
              refine e_getr (o2 := 33) dX8_tellDay_103 ff_X8_19 rfl (fx_pi_lt (by decide)) (by decide) rfl (hL1 _ _ _ rfl) ?_
              refine e_iload dX8_tellDay_106 rfl ?_
              refine e_iload dX8_tellDay_108 rfl ?_
              refine e_iload dX8_tellDay_110 rfl ?_
              refine e_callV1 (μ' := mX6_mendWith) (ci := 6) (As := [.int (nI y), .int (nI z), .int sd]) dX8_tellDay_112 wl_X8_303 ok_X6_mendWith rfl rfl (fx_pi_lt (by decide)) (by decide) (Nat.le_of_ble_eq_true rfl) fx_n1 (s_X6_mendWith (m := m1) 33 fx_s33 hL1 (x := y) (d := z) (by omega) (by omega) sd) rfl ?_
              refine e_iinc (v := nI (i + 1)) dX8_tellDay_115 rfl (fx_inc _) (by decide) rfl ?_
              refine e_goto 13 dX8_tellDay_118 rfl ?_
              have hok : p_okT na nd t (rd (2 * i)) (rd (2 * i + 1)) := by simp only [p_okT, p_sd, p_dd, evv]; rw [exx, esd, edd, p_ix_n (show y < 2 ^ 31 by omega), nI_clamp (show z < 2 ^ 31 by omega)]; exact ⟨c_1, c_2, c_3, c_4⟩
              have eT : p_tl na nd rd (j + 1) i t = p_tl na nd rd j (i + 1) (p_mend t y z sd) := by rw [p_tl, if_pos hok, exx]; simp only [p_sd, p_dd, evv]; rw [esd, edd, p_ix_n (show y < 2 ^ 31 by omega), nI_clamp (show z < 2 ^ 31 by omega)]
              rw [eT]
              refine e_weak (lv2 := [some (fx_rf Γ 0), some (fx_rf Γ (67 + 2 * k)), some (.int (nI N)), some (.int (nI (i + 1))), none, none, none, none]) ⟨rfl, rfl, rfl, rfl, trivial⟩ ?_
              exact ih (i + 1) _ _ (by omega) (f1.mend (by omega)) (fx_HS.mend H1 hy hz h8)
            · refine e_iload_n dX8_tellDay_100 rfl ?_
              have hno : ¬ p_okT na nd t (rd (2 * i)) (rd (2 * i + 1)) := by intro h; have h1 := h.1; have h2 := h.2.1; have h3 := h.2.2.1; have h4 := h.2.2.2; simp only [p_sd, p_dd] at h3 h4; rw [exx] at h1; simp only [evv] at h2 h3 h4; rw [edd] at h2; rw [esd] at h3; rw [exx, esd, edd] at h4; first | exact absurd h1 c_4 | exact absurd h2 c_4 | exact absurd h3 c_4 | (rw [p_ix_n (show y < 2 ^ 31 by omega), nI_clamp (show z < 2 ^ 31 by omega)] at h4; exact absurd h4 c_4)
              exact e_iret dX8_tellDay_101 rfl rfl rfl (by rw [p_tl, if_neg hno]; exact ⟨rfl, f1, H1⟩)
  refine e_aload_n dX8_tellDay_0 rfl ?_
  refine e_getr (o2 := 33) dX8_tellDay_1 ff_X8_19 rfl (fx_pi_lt (by decide)) (by decide) rfl (hL _ _ _ rfl) ?_
  refine e_aload_n dX8_tellDay_4 rfl ?_
  refine e_getr (o2 := 1) dX8_tellDay_5 ff_X8_10 rfl (fx_pi_lt (by decide)) (by decide) rfl (hL _ _ _ rfl) ?_
  refine e_callV (μ' := mX6_takeFrom) (ci := 6) (As := [fx_rf Γ 1]) dX8_tellDay_8 wl_X8_203 ok_X6_takeFrom rfl rfl (fx_pi_lt (by decide)) (by decide) (Nat.le_of_ble_eq_true rfl) fx_n1 (s_X6_takeFrom (m := m) 33 fx_s33 hL 1 fx_s1 (by decide) h8 h5 H hJ33 hJ1) rfl (fun r_ m_ hpost => ?_)
  revert m_
  intro m1 hpost
  obtain ⟨rfl, f1, H1⟩ := hpost
  refine e_iconst dX8_tellDay_11 kci_0 ?_
  refine e_istore_n dX8_tellDay_12 (by decide) rfl ?_
  exact lp N 0 m1 (A, D, c) (by omega) f1 H1
def p_bD (so sa : Nat → Int32) (cn : Nat → Nat) (s n : Int32) : Nat := if nI (p_bR so sa s) = 0 then (if ¬ 0 ≤ n then 4 else if ¬ n ≤ nI (cn (p_ix s)) / 2 then 5 else if n ≤ 20 then 0 else 6) else p_bR so sa s
theorem p_bD_le (so sa : Nat → Int32) (cn : Nat → Nat) (s n : Int32) : p_bD so sa cn s n ≤ 7 := by
  unfold p_bD
  split
  · split; decide; split; decide; split <;> decide
  · exact p_bR_le _ _ _
theorem p_bD_0 {so sa : Nat → Int32} {cn : Nat → Nat} {s n : Int32} (hc : ∀ k, k < 8 → cn k ≤ 160) (h : p_bD so sa cn s n = 0) : ∃ k N : Nat, k < 8 ∧ s = nI k ∧ n = nI N ∧ 2 * N ≤ cn k ∧ N ≤ 20 := by
  have hb := p_bR_le so sa s
  unfold p_bD at h
  split at h
  · rename_i h0
    obtain ⟨k, hk, rfl⟩ := p_in_ex7 (p_bR_0 ((nI_0i (by omega)).mp h0)).1
    have hck := hc k hk
    split at h
    · cases h
    · rename_i h1
      split at h
      · cases h
      · rename_i h2
        split at h
        · rename_i h3
          obtain ⟨N, hN, rfl⟩ := nI_of (Int32.not_lt.mpr (Decidable.not_not.mp h1))
          have h4 := Decidable.not_not.mp h2
          rw [p_ix_n (show k < 2 ^ 31 by omega), show nI (cn k) / 2 = nI (cn k / 2) from pk_div (d := 2) (by omega) (by decide) (by decide), nI_leI hN (by omega)] at h4
          exact ⟨k, N, hk, rfl, rfl, by omega, (nI_leI (b := 20) hN (by decide)).mp h3⟩
        · cases h
  · rename_i h0
    exact absurd (by rw [h]; rfl) h0
set_option maxRecDepth 100000 in
set_option maxHeartbeats 600000 in
theorem s_X8_barToDay {Γ : fx_G} {m : fx_M} (hL : fx_Lay m) {cn : Nat → Nat} (hcn : ∀ k, k < 8 → m.1 (67 + 2 * k) 2 = nI (cn k) ∧ cn k ≤ 160) (s n : Int32) : fx_Ct Γ mX8_barToDay 3 119 119 [fx_rf Γ 0, .int s, .int n] m (fx_is (some (.int (nI (p_bD (fun k => m.1 (67 + 2 * k) 1) (fun k => m.1 (67 + 2 * k) 3) cn s n)))) m) := by
  refine fx_Ct.of (j := 1) (by decide) (Nat.le_of_ble_eq_true rfl) (Nat.le_of_ble_eq_true rfl) ?_
  show fx_E Γ mX8_barToDay 3 119 119 _ 119 m 0 [some (fx_rf Γ 0), some (.int s), some (.int n), none] []
  refine e_aload_n dX8_barToDay_0 rfl ?_
  refine e_iload_n dX8_barToDay_1 rfl ?_
  refine e_callV1 (μ' := mX8_barToRow) (ci := 8) (As := [.int s]) dX8_barToDay_2 wl_X8_89 ok_X8_barToRow rfl rfl (fx_pi_lt (by decide)) (by decide) (Nat.le_of_ble_eq_true rfl) fx_n1 (s_X8_barToRow (m := m) hL s) rfl ?_
  refine e_istore_n dX8_barToDay_5 (by decide) rfl ?_
  refine e_iload_n dX8_barToDay_6 rfl ?_
  refine e_if_eq 12 dX8_barToDay_7 rfl (fun c_0 => ?_) (fun c_0 => ?_)
  · refine e_iload_n dX8_barToDay_12 rfl ?_
    refine e_if_ge 18 dX8_barToDay_13 rfl (fun c_1 => ?_) (fun c_1 => ?_)
    · have hb7 := p_bR_le (fun k => m.1 (67 + 2 * k) 1) (fun k => m.1 (67 + 2 * k) 3) s
      obtain ⟨k, hk, ek⟩ := p_in_ex7 (p_bR_0 ((nI_0i (by omega)).mp c_0)).1
      subst ek
      have hck := hcn k hk
      refine e_iload_n dX8_barToDay_18 rfl ?_
      refine e_aload_n dX8_barToDay_19 rfl ?_
      refine e_getr (o2 := 49) dX8_barToDay_20 ff_X8_28 rfl (fx_pi_lt (by decide)) (by decide) rfl (hL _ _ _ rfl) ?_
      refine e_iload_n dX8_barToDay_23 rfl ?_
      refine e_aald (j := k) (o2 := 67 + 2 * k) dX8_barToDay_24 rfl (Or.inr (Or.inr rfl)) (fx_pi_lt (by decide)) rfl (by omega) (by decide) (fx_r49 hL (by omega)) ?_
      refine e_getv (v := nI (cn k)) dX8_barToDay_25 ff_X8_268 (fx_Sf.mk (by omega)).sh (fx_pi_lt (fx_Sf.mk (by omega)).lt) (by decide) rfl hck.1 ?_
      refine e_iconst dX8_barToDay_28 kci_2 ?_
      refine e_idiv dX8_barToDay_29 (by decide) ?_
      refine e_icmp_le 35 dX8_barToDay_30 rfl (fun c_2 => ?_) (fun c_2 => ?_)
      · refine e_iload_n dX8_barToDay_35 rfl ?_
        refine e_bipush dX8_barToDay_36 kcb_20 ?_
        refine e_icmp_le 46 dX8_barToDay_38 rfl (fun c_3 => ?_) (fun c_3 => ?_)
        · refine e_iconst dX8_barToDay_46 kci_0 ?_
          have hq : p_bD (fun k => m.1 (67 + 2 * k) 1) (fun k => m.1 (67 + 2 * k) 3) cn (nI k) n = 0 := by unfold p_bD; rw [if_pos c_0]; (try dsimp only); (try rw [p_ix_n (show k < 2 ^ 31 by omega)]); (try (first | rw [if_pos c_1] | rw [if_neg c_1] | rw [if_neg (Decidable.not_not.mpr c_1)])); (try (first | rw [if_pos c_2] | rw [if_neg c_2] | rw [if_neg (Decidable.not_not.mpr c_2)])); (try (first | rw [if_pos c_3] | rw [if_neg c_3] | rw [if_neg (Decidable.not_not.mpr c_3)])); (try rfl)
          exact e_iret dX8_barToDay_47 rfl rfl rfl ⟨by rw [hq]; rfl, rfl⟩
        · refine e_bipush dX8_barToDay_41 kcb_6 ?_
          refine e_goto 47 dX8_barToDay_43 rfl ?_
          have hq : p_bD (fun k => m.1 (67 + 2 * k) 1) (fun k => m.1 (67 + 2 * k) 3) cn (nI k) n = 6 := by unfold p_bD; rw [if_pos c_0]; (try dsimp only); (try rw [p_ix_n (show k < 2 ^ 31 by omega)]); (try (first | rw [if_pos c_1] | rw [if_neg c_1] | rw [if_neg (Decidable.not_not.mpr c_1)])); (try (first | rw [if_pos c_2] | rw [if_neg c_2] | rw [if_neg (Decidable.not_not.mpr c_2)])); (try (first | rw [if_pos c_3] | rw [if_neg c_3] | rw [if_neg (Decidable.not_not.mpr c_3)])); (try rfl)
          exact e_iret dX8_barToDay_47 rfl rfl rfl ⟨by rw [hq]; rfl, rfl⟩
      · refine e_iconst dX8_barToDay_33 kci_5 ?_
        have hq : p_bD (fun k => m.1 (67 + 2 * k) 1) (fun k => m.1 (67 + 2 * k) 3) cn (nI k) n = 5 := by unfold p_bD; rw [if_pos c_0]; (try dsimp only); (try rw [p_ix_n (show k < 2 ^ 31 by omega)]); (try (first | rw [if_pos c_1] | rw [if_neg c_1] | rw [if_neg (Decidable.not_not.mpr c_1)])); (try (first | rw [if_pos c_2] | rw [if_neg c_2] | rw [if_neg (Decidable.not_not.mpr c_2)])); (try rfl)
        exact e_iret dX8_barToDay_34 rfl rfl rfl ⟨by rw [hq]; rfl, rfl⟩
    · refine e_iconst dX8_barToDay_16 kci_4 ?_
      have hq : p_bD (fun k => m.1 (67 + 2 * k) 1) (fun k => m.1 (67 + 2 * k) 3) cn s n = 4 := by unfold p_bD; rw [if_pos c_0]; (try (first | rw [if_pos c_1] | rw [if_neg c_1] | rw [if_neg (Decidable.not_not.mpr c_1)])); (try rfl)
      exact e_iret dX8_barToDay_17 rfl rfl rfl ⟨by rw [hq]; rfl, rfl⟩
  · refine e_iload_n dX8_barToDay_10 rfl ?_
    have hq : p_bD (fun k => m.1 (67 + 2 * k) 1) (fun k => m.1 (67 + 2 * k) 3) cn s n = (p_bR (fun k => m.1 (67 + 2 * k) 1) (fun k => m.1 (67 + 2 * k) 3) s) := by unfold p_bD; exact if_neg c_0
    exact e_iret dX8_barToDay_11 rfl rfl rfl ⟨by rw [hq], rfl⟩
