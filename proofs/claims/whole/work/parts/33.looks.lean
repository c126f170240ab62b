set_option maxRecDepth 100000 in
set_option maxHeartbeats 600000 in
theorem s_X8_done {Γ : fx_G} {m : fx_M} (hL : fx_Lay m) {cn : Nat → Nat} (hcn : ∀ k, k < 8 → m.1 (67 + 2 * k) 2 = nI (cn k) ∧ cn k ≤ 160) {na nd : Nat} (h8 : na ≤ 8) (h5 : nd ≤ 5) {A D : Nat → Nat → Int32} {c : Nat → Int32} (H : fx_HS m 1 na nd A D c) (hJ1 : fx_J 1 m) (hJ33 : fx_J 33 m) {rd : Nat → Nat → Int32} (hrd : ∀ k, k < 8 → ∀ j, j < cn k → (m.2.1 (67 + 2 * k + 1) j).toInt32 = rd k j) (s n : Int32) : fx_Ct Γ mX8_done 4 119 119 [fx_rf Γ 0, .int s, .int n] m (fun r m' => r = some (.int (q_done na nd (fun k => m.1 (67 + 2 * k) 1) (fun k => m.1 (67 + 2 * k) 3) cn rd (A, D, c) s n).2) ∧ ((q_done na nd (fun k => m.1 (67 + 2 * k) 1) (fun k => m.1 (67 + 2 * k) 3) cn rd (A, D, c) s n).1 ≠ 0 → fx_fr 33 (fx_no m (q_done na nd (fun k => m.1 (67 + 2 * k) 1) (fun k => m.1 (67 + 2 * k) 3) cn rd (A, D, c) s n).1) m') ∧ ((q_done na nd (fun k => m.1 (67 + 2 * k) 1) (fun k => m.1 (67 + 2 * k) 3) cn rd (A, D, c) s n).1 = 0 → fx_HT m' 1 na nd (p_tl na nd (rd (p_ix s)) (p_ix n) 0 (A, D, c)).2 ∧ ∃ m1, fx_fr 33 m m1 ∧ fx_fr 1 m1 m')) := by
  refine fx_Ct.of (j := 1) (by decide) (Nat.le_of_ble_eq_true rfl) (Nat.le_of_ble_eq_true rfl) ?_
  show fx_E Γ mX8_done 4 119 119 _ 119 m 0 [some (fx_rf Γ 0), some (.int s), some (.int n), none] []
  refine e_aload_n dX8_done_0 rfl ?_
  refine e_iload_n dX8_done_1 rfl ?_
  refine e_iload_n dX8_done_2 rfl ?_
  refine e_callV1 (μ' := mX8_barToDay) (ci := 8) (As := [.int s, .int n]) dX8_done_3 wl_X8_281 ok_X8_barToDay rfl rfl (fx_pi_lt (by decide)) (by decide) (Nat.le_of_ble_eq_true rfl) fx_n1 (s_X8_barToDay (m := m) hL hcn s n) rfl ?_
  refine e_istore_n dX8_done_6 (by decide) rfl ?_
  refine e_iload_n dX8_done_7 rfl ?_
  refine e_if_ne 29 dX8_done_8 rfl (fun c_0 => ?_) (fun c_0 => ?_)
  · refine e_iload_n dX8_done_29 rfl ?_
    refine e_if_eq 39 dX8_done_30 rfl (fun h => absurd h c_0) (fun _ => ?_)
    have hb7 := p_bD_le (fun k => m.1 (67 + 2 * k) 1) (fun k => m.1 (67 + 2 * k) 3) cn s n
    have hb1 : 1 ≤ p_bD (fun k => m.1 (67 + 2 * k) 1) (fun k => m.1 (67 + 2 * k) 3) cn s n := by have q : p_bD (fun k => m.1 (67 + 2 * k) 1) (fun k => m.1 (67 + 2 * k) 3) cn s n ≠ 0 := mt (nI_0i (by omega)).mpr c_0; omega
    refine e_aload_n dX8_done_33 rfl ?_
    refine e_iload_n dX8_done_34 rfl ?_
    refine e_callV1 (μ' := mX8_refuse) (ci := 8) (As := [.int (nI (p_bD (fun k => m.1 (67 + 2 * k) 1) (fun k => m.1 (67 + 2 * k) 3) cn s n))]) dX8_done_35 wl_X8_77 ok_X8_refuse rfl rfl (fx_pi_lt (by decide)) (by decide) (Nat.le_of_ble_eq_true rfl) fx_n1 (s_X8_refuse (m := m) hL (p_bD (fun k => m.1 (67 + 2 * k) 1) (fun k => m.1 (67 + 2 * k) 3) cn s n) (by first | decide | omega) (by first | decide | omega)) rfl ?_
    have hq : q_done na nd (fun k => m.1 (67 + 2 * k) 1) (fun k => m.1 (67 + 2 * k) 3) cn rd (A, D, c) s n = ((p_bD (fun k => m.1 (67 + 2 * k) 1) (fun k => m.1 (67 + 2 * k) 3) cn s n), -(nI (p_bD (fun k => m.1 (67 + 2 * k) 1) (fun k => m.1 (67 + 2 * k) 3) cn s n))) := by unfold q_done; (first | rw [if_pos c_0] | rw [if_neg c_0]); skip; (try rfl)
    exact e_iret dX8_done_38 rfl rfl rfl ⟨by rw [hq], fun _ => by rw [hq]; simp only []; rw [fx_no_n (by first | decide | omega)]; exact fx_fr.refl _ _, fun h => by rw [hq] at h; simp only [] at h; omega⟩
  · have hb7 := p_bD_le (fun k => m.1 (67 + 2 * k) 1) (fun k => m.1 (67 + 2 * k) 3) cn s n
    obtain ⟨k, N, hk, ek, eN, hN2, hN20⟩ := p_bD_0 (fun k hk => (hcn k hk).2) ((nI_0i (by omega)).mp c_0)
    subst ek
    subst eN
    refine e_aload_n dX8_done_11 rfl ?_
    refine e_aload_n dX8_done_12 rfl ?_
    refine e_getr (o2 := 49) dX8_done_13 ff_X8_28 rfl (fx_pi_lt (by decide)) (by decide) rfl (hL _ _ _ rfl) ?_
    refine e_iload_n dX8_done_16 rfl ?_
    refine e_aald (j := k) (o2 := 67 + 2 * k) dX8_done_17 rfl (Or.inr (Or.inr rfl)) (fx_pi_lt (by decide)) rfl (by omega) (by decide) (fx_r49 hL (by omega)) ?_
    refine e_iload_n dX8_done_18 rfl ?_
    refine e_callV (μ' := mX8_tellDay) (ci := 8) (As := [fx_rf Γ (67 + 2 * k), .int (nI N)]) dX8_done_19 wl_X8_284 ok_X8_tellDay rfl rfl (fx_pi_lt (by decide)) (by decide) (Nat.le_of_ble_eq_true rfl) fx_n1 (s_X8_tellDay (m := m) hL h8 h5 H hJ1 hJ33 hk (hcn k hk) hN2 (rd := rd k) (hrd k hk)) rfl (fun r_ m_ hpost => ?_)
    revert r_ m_
    intro r_ m1 hpost
    obtain ⟨rfl, f1, H1⟩ := hpost
    have hL1 := f1.lay hL
    refine e_iconst dX8_done_22 kci_m1 ?_
    refine e_icmp_eq 29 dX8_done_23 rfl (fun c_1 => ?_) (fun c_1 => ?_)
    · refine e_iload_n dX8_done_29 rfl ?_
      refine e_if_eq 39 dX8_done_30 rfl (fun _ => ?_) (fun h => absurd c_0 h)
      refine e_aload_n dX8_done_39 rfl ?_
      refine e_getr (o2 := 1) dX8_done_40 ff_X8_10 rfl (fx_pi_lt (by decide)) (by decide) rfl (hL1 _ _ _ rfl) ?_
      refine e_aload_n dX8_done_43 rfl ?_
      refine e_getr (o2 := 33) dX8_done_44 ff_X8_19 rfl (fx_pi_lt (by decide)) (by decide) rfl (hL1 _ _ _ rfl) ?_
      refine e_callV (μ' := mX6_takeFrom) (ci := 6) (As := [fx_rf Γ 33]) dX8_done_47 wl_X8_203 ok_X6_takeFrom rfl rfl (fx_pi_lt (by decide)) (by decide) (Nat.le_of_ble_eq_true rfl) fx_n1 (s_X6_takeFrom (m := m1) 1 fx_s1 hL1 33 fx_s33 (by decide) h8 h5 H1 (f1.JJ (by decide) hJ1) (f1.J hJ33)) rfl (fun r_ m_ hpost => ?_)
      revert m_
      intro m2 hpost
      obtain ⟨rfl, f2, H2⟩ := hpost
      have hL2 := f2.lay hL1
      refine e_aload_n dX8_done_50 rfl ?_
      refine e_getr (o2 := 1) dX8_done_51 ff_X8_10 rfl (fx_pi_lt (by decide)) (by decide) rfl (hL2 _ _ _ rfl) ?_
      refine e_getv (v := (p_tl na nd (rd k) N 0 (A, D, c)).2.2.2 0) dX8_done_54 ff_X8_297 rfl (fx_pi_lt (by decide)) (by decide) rfl (H2.2.2.2.2 0 (by decide)) ?_
      have hq : q_done na nd (fun k => m.1 (67 + 2 * k) 1) (fun k => m.1 (67 + 2 * k) 3) cn rd (A, D, c) (nI k) (nI N) = (0, (p_tl na nd (rd k) N 0 (A, D, c)).2.2.2 0) := by unfold q_done; (first | rw [if_pos c_0] | rw [if_neg c_0]); (try dsimp only); (try rw [p_ix_n (show N < 2 ^ 31 by omega)]); (try dsimp only); (try rw [p_ix_n (show k < 2 ^ 31 by omega)]); (try (first | rw [if_pos c_1] | rw [if_neg c_1] | rw [if_neg (Decidable.not_not.mpr c_1)])); (try rfl)
      exact e_iret dX8_done_57 rfl rfl rfl ⟨by rw [hq], fun h => absurd (congrArg Prod.fst hq) h, fun _ => ⟨by rw [p_ix_n (show k < 2 ^ 31 by omega), p_ix_n (show N < 2 ^ 31 by omega)]; exact H2, m1, f1, f2⟩⟩
    · refine e_bipush dX8_done_26 kcb_6 ?_
      refine e_istore_n dX8_done_28 (by decide) rfl ?_
      refine e_iload_n dX8_done_29 rfl ?_
      refine e_if_eq 39 dX8_done_30 rfl (fun h => absurd h (by decide)) (fun _ => ?_)
      refine e_aload_n dX8_done_33 rfl ?_
      refine e_iload_n dX8_done_34 rfl ?_
      refine e_callV1 (μ' := mX8_refuse) (ci := 8) (As := [.int 6]) dX8_done_35 wl_X8_77 ok_X8_refuse rfl rfl (fx_pi_lt (by decide)) (by decide) (Nat.le_of_ble_eq_true rfl) fx_n1 (s_X8_refuse (m := m1) hL1 6 (by first | decide | omega) (by first | decide | omega)) rfl ?_
      have hq : q_done na nd (fun k => m.1 (67 + 2 * k) 1) (fun k => m.1 (67 + 2 * k) 3) cn rd (A, D, c) (nI k) (nI N) = (6, -(nI 6)) := by unfold q_done; (first | rw [if_pos c_0] | rw [if_neg c_0]); (try dsimp only); (try rw [p_ix_n (show N < 2 ^ 31 by omega)]); (try dsimp only); (try rw [p_ix_n (show k < 2 ^ 31 by omega)]); (try (first | rw [if_pos c_1] | rw [if_neg c_1] | rw [if_neg (Decidable.not_not.mpr c_1)])); (try rfl)
      exact e_iret dX8_done_38 rfl rfl rfl ⟨by rw [hq], fun _ => by rw [hq]; simp only []; rw [fx_no_n (by decide), f1.2.1 50 (by omega)]; exact f1.no, fun h => by rw [hq] at h; cases h⟩
abbrev p_lkP (A D : Nat → Nat → Int32) (nd : Nat) (rd : Nat → Int32) (x : Nat) (sh : Bool) (v : Nat) : Prop := ∀ d, d < nd → p_far (A x) (D d) (if sh = true then nI v else A x 4) (if sh = true then A x 5 else nI v) = rd d
def p_lk (A D : Nat → Nat → Int32) (nd : Nat) (rd : Nat → Int32) (x : Nat) (sh : Bool) : Nat := p_sN (p_lkP A D nd rd x sh) 10
def q_looks (A D : Nat → Nat → Int32) (na nd : Nat) (so sa : Nat → Int32) (cn : Nat → Nat) (rd : Nat → Nat → Int32) (s x w : Int32) : Nat × Int32 := if ¬ p_in s 0 7 then p_no 1 else if ¬ p_el x (nI na) then p_no 1 else if nI (p_bR so sa s) = 0 then (if nI (cn (p_ix s)) < nI nd then p_no 5 else if ¬ p_in w 0 1 then p_no 5 else (0, nI (p_lk A D nd (rd (p_ix s)) (p_ix x) (decide (w = 0))))) else p_no (p_bR so sa s)
set_option maxRecDepth 100000 in
set_option maxHeartbeats 600000 in
theorem s_X8_looksAllowed1 {Γ : fx_G} {m : fx_M} (hL : fx_Lay m) {nd : Nat} (hnd : m.1 1 3 = nI nd) (h5 : nd ≤ 5) {cn : Nat → Nat} {k x : Nat} (hk : k < 8) (hx : x < 8) (hck : m.1 (67 + 2 * k) 2 = nI (cn k) ∧ cn k ≤ 160) (hcd : nd ≤ cn k) {rd : Nat → Nat → Int32} (hrd : ∀ k, k < 8 → ∀ j, j < cn k → (m.2.1 (67 + 2 * k + 1) j).toInt32 = rd k j) : fx_Ct Γ mX8_looksAllowed 3 119 119 [fx_rf Γ 0, fx_rf Γ (67 + 2 * k), fx_rf Γ (1 + 3 + x), .int 1] m (fx_is (some (.int (nI (p_lk (fx_ar m 1) (fx_dr m 1) nd (rd k) x true)))) m) := by
  refine fx_Ct.of (j := 6) (by decide) (Nat.le_of_ble_eq_true rfl) (Nat.le_of_ble_eq_true rfl) ?_
  show fx_E Γ mX8_looksAllowed 3 119 119 _ 119 m 0 [some (fx_rf Γ 0), some (fx_rf Γ (67 + 2 * k)), some (fx_rf Γ (1 + 3 + x)), some (.int 1), none, none, none, none, none, none] []
  have lp : ∀ (j : Nat) (v : Nat), v + j = 10 → fx_E Γ mX8_looksAllowed 3 119 119 (fx_is (some (.int (nI (p_sN (p_lkP (fx_ar m 1) (fx_dr m 1) nd (rd k) x true) 10)))) m) 119 m 6 [some (fx_rf Γ 0), some (fx_rf Γ (67 + 2 * k)), some (fx_rf Γ (1 + 3 + x)), some (.int 1), some (.int (nI (p_sN (p_lkP (fx_ar m 1) (fx_dr m 1) nd (rd k) x true) v))), some (.int (nI v)), none, none, none, none] [] := by
    intro j
    induction j with
    | zero =>
      intro v hv
      refine e_iload dX8_looksAllowed_6 rfl ?_
      refine e_bipush dX8_looksAllowed_8 kcb_9 ?_
      refine e_icmp_gt 126 dX8_looksAllowed_10 rfl (fun _ => ?_) (fun h => absurd (show nI 9 < nI v from nI_lt (by omega) (by omega)) h)
      refine e_iload dX8_looksAllowed_126 rfl ?_
      obtain rfl : v = 10 := (by omega); exact e_iret dX8_looksAllowed_128 rfl rfl rfl ⟨rfl, rfl⟩
    | succ j ih =>
      intro v hv
      refine e_iload dX8_looksAllowed_6 rfl ?_
      refine e_bipush dX8_looksAllowed_8 kcb_9 ?_
      refine e_icmp_gt 126 dX8_looksAllowed_10 rfl (fun h => absurd h (Int32.not_lt.mpr (show nI v ≤ nI 9 from nI_le (by omega) (by omega)))) (fun _ => ?_)
      refine e_iload_n dX8_looksAllowed_13 rfl ?_
      refine e_if_eq 22 dX8_looksAllowed_14 rfl (fun h => absurd h (by decide)) (fun _ => ?_)
      refine e_iload dX8_looksAllowed_17 rfl ?_
      refine e_goto 26 dX8_looksAllowed_19 rfl ?_
      refine e_istore dX8_looksAllowed_26 (by decide) rfl ?_
      refine e_iload_n dX8_looksAllowed_28 rfl ?_
      refine e_if_eq 39 dX8_looksAllowed_29 rfl (fun h => absurd h (by decide)) (fun _ => ?_)
      refine e_aload_n dX8_looksAllowed_32 rfl ?_
      refine e_get dX8_looksAllowed_33 ff_X8_171 (fx_s1.sa (by omega)) (fx_pi_lt (fx_s1.la (by omega))) (by decide) rfl ?_
      refine e_goto 41 dX8_looksAllowed_36 rfl ?_
      refine e_istore dX8_looksAllowed_41 (by decide) rfl ?_
      refine e_iconst dX8_looksAllowed_43 kci_1 ?_
      refine e_istore dX8_looksAllowed_44 (by decide) rfl ?_
      refine e_iconst dX8_looksAllowed_46 kci_0 ?_
      refine e_istore dX8_looksAllowed_47 (by decide) rfl ?_
      have hz : ¬ p_lkP (fx_ar m 1) (fx_dr m 1) nd (rd k) x true v → ∀ (d : Nat), d ≤ nd → fx_E Γ mX8_looksAllowed 3 119 119 (fx_is (some (.int (nI (p_sN (p_lkP (fx_ar m 1) (fx_dr m 1) nd (rd k) x true) 10)))) m) 119 m 49 [some (fx_rf Γ 0), some (fx_rf Γ (67 + 2 * k)), some (fx_rf Γ (1 + 3 + x)), some (.int 1), some (.int (nI (p_sN (p_lkP (fx_ar m 1) (fx_dr m 1) nd (rd k) x true) v))), some (.int (nI v)), some (.int (nI v)), some (.int (m.1 (1 + 3 + x) 5)), some (.int 0), some (.int (nI d))] [] := by
        intro hN d hd
        refine e_iload dX8_looksAllowed_49 rfl ?_
        refine e_aload_n dX8_looksAllowed_51 rfl ?_
        refine e_getr (o2 := 1) dX8_looksAllowed_52 ff_X8_10 rfl (fx_pi_lt (by decide)) (by decide) rfl (hL _ _ _ rfl) ?_
        refine e_getv (v := nI nd) dX8_looksAllowed_55 ff_X8_238 rfl (fx_pi_lt (by decide)) (by decide) rfl hnd ?_
        refine e_icmp_ge 106 dX8_looksAllowed_58 rfl (fun c_1 => ?_) (fun c_1 => ?_)
        · refine e_iload dX8_looksAllowed_106 rfl ?_
          refine e_if_eq 120 dX8_looksAllowed_108 rfl (fun _ => ?_) (fun h => absurd (by decide) h)
          refine e_iinc (v := nI (v + 1)) dX8_looksAllowed_120 rfl (fx_inc _) (by decide) rfl ?_
          refine e_goto 6 dX8_looksAllowed_123 rfl ?_
          rw [← p_sN_no (P := (p_lkP (fx_ar m 1) (fx_dr m 1) nd (rd k) x true)) hN]
          refine e_weak (lv2 := [some (fx_rf Γ 0), some (fx_rf Γ (67 + 2 * k)), some (fx_rf Γ (1 + 3 + x)), some (.int 1), some (.int (nI (p_sN (p_lkP (fx_ar m 1) (fx_dr m 1) nd (rd k) x true) (v + 1)))), some (.int (nI (v + 1))), none, none, none, none]) ⟨rfl, rfl, rfl, rfl, rfl, rfl, trivial⟩ ?_
          exact ih (v + 1) (by omega)
        · refine e_iload dX8_looksAllowed_61 rfl ?_
          refine e_if_eq 106 dX8_looksAllowed_63 rfl (fun _ => ?_) (fun h => absurd (by decide) h)
          refine e_iload dX8_looksAllowed_106 rfl ?_
          refine e_if_eq 120 dX8_looksAllowed_108 rfl (fun _ => ?_) (fun h => absurd (by decide) h)
          refine e_iinc (v := nI (v + 1)) dX8_looksAllowed_120 rfl (fx_inc _) (by decide) rfl ?_
          refine e_goto 6 dX8_looksAllowed_123 rfl ?_
          rw [← p_sN_no (P := (p_lkP (fx_ar m 1) (fx_dr m 1) nd (rd k) x true)) hN]
          refine e_weak (lv2 := [some (fx_rf Γ 0), some (fx_rf Γ (67 + 2 * k)), some (fx_rf Γ (1 + 3 + x)), some (.int 1), some (.int (nI (p_sN (p_lkP (fx_ar m 1) (fx_dr m 1) nd (rd k) x true) (v + 1)))), some (.int (nI (v + 1))), none, none, none, none]) ⟨rfl, rfl, rfl, rfl, rfl, rfl, trivial⟩ ?_
          exact ih (v + 1) (by omega)
      have lpi : ∀ (ji : Nat) (d : Nat), d + ji = nd → (∀ e, e < d → p_far (m.1 (1 + 3 + x)) (m.1 (1 + 11 + e)) (nI v) (m.1 (1 + 3 + x) 5) = rd k e) → fx_E Γ mX8_looksAllowed 3 119 119 (fx_is (some (.int (nI (p_sN (p_lkP (fx_ar m 1) (fx_dr m 1) nd (rd k) x true) 10)))) m) 119 m 49 [some (fx_rf Γ 0), some (fx_rf Γ (67 + 2 * k)), some (fx_rf Γ (1 + 3 + x)), some (.int 1), some (.int (nI (p_sN (p_lkP (fx_ar m 1) (fx_dr m 1) nd (rd k) x true) v))), some (.int (nI v)), some (.int (nI v)), some (.int (m.1 (1 + 3 + x) 5)), some (.int 1), some (.int (nI d))] [] := by
        intro ji
        induction ji with
        | zero =>
          intro d hd J
          refine e_iload dX8_looksAllowed_49 rfl ?_
          refine e_aload_n dX8_looksAllowed_51 rfl ?_
          refine e_getr (o2 := 1) dX8_looksAllowed_52 ff_X8_10 rfl (fx_pi_lt (by decide)) (by decide) rfl (hL _ _ _ rfl) ?_
          refine e_getv (v := nI nd) dX8_looksAllowed_55 ff_X8_238 rfl (fx_pi_lt (by decide)) (by decide) rfl hnd ?_
          refine e_icmp_ge 106 dX8_looksAllowed_58 rfl (fun _ => ?_) (fun h => absurd (nI_le (by omega) (by omega)) h)
          refine e_iload dX8_looksAllowed_106 rfl ?_
          refine e_if_eq 120 dX8_looksAllowed_108 rfl (fun h => absurd h (by decide)) (fun _ => ?_)
          refine e_iload dX8_looksAllowed_111 rfl ?_
          refine e_iconst dX8_looksAllowed_113 kci_1 ?_
          refine e_iload dX8_looksAllowed_114 rfl ?_
          refine e_ishl dX8_looksAllowed_116 ?_
          refine e_ior dX8_looksAllowed_117 ?_
          refine e_istore dX8_looksAllowed_118 (by decide) rfl ?_
          refine e_iinc (v := nI (v + 1)) dX8_looksAllowed_120 rfl (fx_inc _) (by decide) rfl ?_
          refine e_goto 6 dX8_looksAllowed_123 rfl ?_
          have hP : p_lkP (fx_ar m 1) (fx_dr m 1) nd (rd k) x true v := fun d hd => J d (by omega)
          rw [p_sN_or (P := (p_lkP (fx_ar m 1) (fx_dr m 1) nd (rd k) x true)) (by omega) hP]
          refine e_weak (lv2 := [some (fx_rf Γ 0), some (fx_rf Γ (67 + 2 * k)), some (fx_rf Γ (1 + 3 + x)), some (.int 1), some (.int (nI (p_sN (p_lkP (fx_ar m 1) (fx_dr m 1) nd (rd k) x true) (v + 1)))), some (.int (nI (v + 1))), none, none, none, none]) ⟨rfl, rfl, rfl, rfl, rfl, rfl, trivial⟩ ?_
          exact ih (v + 1) (by omega)
        | succ ji ihI =>
          intro d hd J
          refine e_iload dX8_looksAllowed_49 rfl ?_
          refine e_aload_n dX8_looksAllowed_51 rfl ?_
          refine e_getr (o2 := 1) dX8_looksAllowed_52 ff_X8_10 rfl (fx_pi_lt (by decide)) (by decide) rfl (hL _ _ _ rfl) ?_
          refine e_getv (v := nI nd) dX8_looksAllowed_55 ff_X8_238 rfl (fx_pi_lt (by decide)) (by decide) rfl hnd ?_
          refine e_icmp_ge 106 dX8_looksAllowed_58 rfl (fun h => absurd h (nI_ge (by omega) (by omega))) (fun _ => ?_)
          refine e_iload dX8_looksAllowed_61 rfl ?_
          refine e_if_eq 106 dX8_looksAllowed_63 rfl (fun h => absurd h (by decide)) (fun _ => ?_)
          refine e_aload_n dX8_looksAllowed_66 rfl ?_
          refine e_aload_n dX8_looksAllowed_67 rfl ?_
          refine e_getr (o2 := 1) dX8_looksAllowed_68 ff_X8_10 rfl (fx_pi_lt (by decide)) (by decide) rfl (hL _ _ _ rfl) ?_
          refine e_getr (o2 := 3) dX8_looksAllowed_71 ff_X8_180 rfl (fx_pi_lt (by decide)) (by decide) rfl (hL _ _ _ rfl) ?_
          refine e_iload dX8_looksAllowed_74 rfl ?_
          refine e_aald (j := d) (o2 := 1 + 11 + d) dX8_looksAllowed_76 rfl (Or.inr (Or.inl rfl)) (fx_pi_lt (by decide)) rfl (by omega) (by decide) (fx_s1.rd hL (by omega)) ?_
          refine e_iload dX8_looksAllowed_77 rfl ?_
          refine e_iload dX8_looksAllowed_79 rfl ?_
          refine e_callV1 (μ' := mX0_farIf) (ci := 0) (As := [fx_rf Γ (1 + 11 + d), .int (nI v), .int (m.1 (1 + 3 + x) 5)]) dX8_looksAllowed_81 wl_X8_356 ok_X0_farIf (fx_s1.sa (by omega)) rfl (fx_pi_lt (fx_s1.la (by omega))) (by decide) (Nat.le_of_ble_eq_true rfl) fx_n1 (s_X0_farIf (m := m) (1 + 3 + x) (fx_s1.sa (by omega)) (fx_s1.la (by omega)) (1 + 11 + d) (fx_s1.sd (by omega)) (fx_s1.ld (by omega)) (nI v) (m.1 (1 + 3 + x) 5)) rfl ?_
          refine e_aload_n dX8_looksAllowed_84 rfl ?_
          refine e_iload dX8_looksAllowed_85 rfl ?_
          refine e_callV (μ' := mX5_read) (ci := 5) (As := [.int (nI d)]) dX8_looksAllowed_87 wl_X8_353 ok_X5_read (fx_Sf.mk (by omega)).sh rfl (fx_pi_lt (fx_Sf.mk (by omega)).lt) (by decide) (Nat.le_of_ble_eq_true rfl) fx_n1 (s_X5_read (m := m) (67 + 2 * k) (fx_Sf.mk (by omega)) hL (c := cn k) hck.2 hck.1 (nI d)) rfl (fun r_ m_ hpost => ?_)
          obtain ⟨rfl, e2⟩ := hpost
          have e2 := e2.symm
          subst e2
          rw [p_rd_in (by omega) (by omega), hrd k hk _ (by omega)]
          refine e_icmp_ne 97 dX8_looksAllowed_90 rfl (fun c_f => ?_) (fun c_f => ?_)
          · refine e_iconst dX8_looksAllowed_97 kci_0 ?_
            refine e_istore dX8_looksAllowed_98 (by decide) rfl ?_
            refine e_iinc (v := nI (d + 1)) dX8_looksAllowed_100 rfl (fx_inc _) (by decide) rfl ?_
            refine e_goto 49 dX8_looksAllowed_103 rfl ?_
            exact hz (fun h => c_f (h d (by omega))) (d + 1) (by omega)
          · refine e_iconst dX8_looksAllowed_93 kci_1 ?_
            refine e_goto 98 dX8_looksAllowed_94 rfl ?_
            refine e_istore dX8_looksAllowed_98 (by decide) rfl ?_
            refine e_iinc (v := nI (d + 1)) dX8_looksAllowed_100 rfl (fx_inc _) (by decide) rfl ?_
            refine e_goto 49 dX8_looksAllowed_103 rfl ?_
            exact ihI (d + 1) (by omega) (fun e he => by by_cases q : e = d; (subst q; exact c_f); exact J e (by omega))
      exact lpi nd 0 (by omega) (fun e he => absurd he (Nat.not_lt_zero _))
  refine e_iconst dX8_looksAllowed_0 kci_0 ?_
  refine e_istore dX8_looksAllowed_1 (by decide) rfl ?_
  refine e_iconst dX8_looksAllowed_3 kci_0 ?_
  refine e_istore dX8_looksAllowed_4 (by decide) rfl ?_
  exact lp 10 0 (by omega)
set_option maxRecDepth 100000 in
set_option maxHeartbeats 600000 in
theorem s_X8_looksAllowed0 {Γ : fx_G} {m : fx_M} (hL : fx_Lay m) {nd : Nat} (hnd : m.1 1 3 = nI nd) (h5 : nd ≤ 5) {cn : Nat → Nat} {k x : Nat} (hk : k < 8) (hx : x < 8) (hck : m.1 (67 + 2 * k) 2 = nI (cn k) ∧ cn k ≤ 160) (hcd : nd ≤ cn k) {rd : Nat → Nat → Int32} (hrd : ∀ k, k < 8 → ∀ j, j < cn k → (m.2.1 (67 + 2 * k + 1) j).toInt32 = rd k j) : fx_Ct Γ mX8_looksAllowed 3 119 119 [fx_rf Γ 0, fx_rf Γ (67 + 2 * k), fx_rf Γ (1 + 3 + x), .int 0] m (fx_is (some (.int (nI (p_lk (fx_ar m 1) (fx_dr m 1) nd (rd k) x false)))) m) := by
  refine fx_Ct.of (j := 6) (by decide) (Nat.le_of_ble_eq_true rfl) (Nat.le_of_ble_eq_true rfl) ?_
  show fx_E Γ mX8_looksAllowed 3 119 119 _ 119 m 0 [some (fx_rf Γ 0), some (fx_rf Γ (67 + 2 * k)), some (fx_rf Γ (1 + 3 + x)), some (.int 0), none, none, none, none, none, none] []
  have lp : ∀ (j : Nat) (v : Nat), v + j = 10 → fx_E Γ mX8_looksAllowed 3 119 119 (fx_is (some (.int (nI (p_sN (p_lkP (fx_ar m 1) (fx_dr m 1) nd (rd k) x false) 10)))) m) 119 m 6 [some (fx_rf Γ 0), some (fx_rf Γ (67 + 2 * k)), some (fx_rf Γ (1 + 3 + x)), some (.int 0), some (.int (nI (p_sN (p_lkP (fx_ar m 1) (fx_dr m 1) nd (rd k) x false) v))), some (.int (nI v)), none, none, none, none] [] := by
    intro j
    induction j with
    | zero =>
      intro v hv
      refine e_iload dX8_looksAllowed_6 rfl ?_
      refine e_bipush dX8_looksAllowed_8 kcb_9 ?_
      refine e_icmp_gt 126 dX8_looksAllowed_10 rfl (fun _ => ?_) (fun h => absurd (show nI 9 < nI v from nI_lt (by omega) (by omega)) h)
      refine e_iload dX8_looksAllowed_126 rfl ?_
      obtain rfl : v = 10 := (by omega); exact e_iret dX8_looksAllowed_128 rfl rfl rfl ⟨rfl, rfl⟩
    | succ j ih =>
      intro v hv
      refine e_iload dX8_looksAllowed_6 rfl ?_
      refine e_bipush dX8_looksAllowed_8 kcb_9 ?_
      refine e_icmp_gt 126 dX8_looksAllowed_10 rfl (fun h => absurd h (Int32.not_lt.mpr (show nI v ≤ nI 9 from nI_le (by omega) (by omega)))) (fun _ => ?_)
      refine e_iload_n dX8_looksAllowed_13 rfl ?_
      refine e_if_eq 22 dX8_looksAllowed_14 rfl (fun _ => ?_) (fun h => absurd (by decide) h)
      refine e_aload_n dX8_looksAllowed_22 rfl ?_
      refine e_get dX8_looksAllowed_23 ff_X8_168 (fx_s1.sa (by omega)) (fx_pi_lt (fx_s1.la (by omega))) (by decide) rfl ?_
      refine e_istore dX8_looksAllowed_26 (by decide) rfl ?_
      refine e_iload_n dX8_looksAllowed_28 rfl ?_
      refine e_if_eq 39 dX8_looksAllowed_29 rfl (fun _ => ?_) (fun h => absurd (by decide) h)
      refine e_iload dX8_looksAllowed_39 rfl ?_
      refine e_istore dX8_looksAllowed_41 (by decide) rfl ?_
      refine e_iconst dX8_looksAllowed_43 kci_1 ?_
      refine e_istore dX8_looksAllowed_44 (by decide) rfl ?_
      refine e_iconst dX8_looksAllowed_46 kci_0 ?_
      refine e_istore dX8_looksAllowed_47 (by decide) rfl ?_
      have hz : ¬ p_lkP (fx_ar m 1) (fx_dr m 1) nd (rd k) x false v → ∀ (d : Nat), d ≤ nd → fx_E Γ mX8_looksAllowed 3 119 119 (fx_is (some (.int (nI (p_sN (p_lkP (fx_ar m 1) (fx_dr m 1) nd (rd k) x false) 10)))) m) 119 m 49 [some (fx_rf Γ 0), some (fx_rf Γ (67 + 2 * k)), some (fx_rf Γ (1 + 3 + x)), some (.int 0), some (.int (nI (p_sN (p_lkP (fx_ar m 1) (fx_dr m 1) nd (rd k) x false) v))), some (.int (nI v)), some (.int (m.1 (1 + 3 + x) 4)), some (.int (nI v)), some (.int 0), some (.int (nI d))] [] := by
        intro hN d hd
        refine e_iload dX8_looksAllowed_49 rfl ?_
        refine e_aload_n dX8_looksAllowed_51 rfl ?_
        refine e_getr (o2 := 1) dX8_looksAllowed_52 ff_X8_10 rfl (fx_pi_lt (by decide)) (by decide) rfl (hL _ _ _ rfl) ?_
        refine e_getv (v := nI nd) dX8_looksAllowed_55 ff_X8_238 rfl (fx_pi_lt (by decide)) (by decide) rfl hnd ?_
        refine e_icmp_ge 106 dX8_looksAllowed_58 rfl (fun c_1 => ?_) (fun c_1 => ?_)
        · refine e_iload dX8_looksAllowed_106 rfl ?_
          refine e_if_eq 120 dX8_looksAllowed_108 rfl (fun _ => ?_) (fun h => absurd (by decide) h)
          refine e_iinc (v := nI (v + 1)) dX8_looksAllowed_120 rfl (fx_inc _) (by decide) rfl ?_
          refine e_goto 6 dX8_looksAllowed_123 rfl ?_
          rw [← p_sN_no (P := (p_lkP (fx_ar m 1) (fx_dr m 1) nd (rd k) x false)) hN]
          refine e_weak (lv2 := [some (fx_rf Γ 0), some (fx_rf Γ (67 + 2 * k)), some (fx_rf Γ (1 + 3 + x)), some (.int 0), some (.int (nI (p_sN (p_lkP (fx_ar m 1) (fx_dr m 1) nd (rd k) x false) (v + 1)))), some (.int (nI (v + 1))), none, none, none, none]) ⟨rfl, rfl, rfl, rfl, rfl, rfl, trivial⟩ ?_
          exact ih (v + 1) (by omega)
        · refine e_iload dX8_looksAllowed_61 rfl ?_
          refine e_if_eq 106 dX8_looksAllowed_63 rfl (fun _ => ?_) (fun h => absurd (by decide) h)
          refine e_iload dX8_looksAllowed_106 rfl ?_
          refine e_if_eq 120 dX8_looksAllowed_108 rfl (fun _ => ?_) (fun h => absurd (by decide) h)
          refine e_iinc (v := nI (v + 1)) dX8_looksAllowed_120 rfl (fx_inc _) (by decide) rfl ?_
          refine e_goto 6 dX8_looksAllowed_123 rfl ?_
          rw [← p_sN_no (P := (p_lkP (fx_ar m 1) (fx_dr m 1) nd (rd k) x false)) hN]
          refine e_weak (lv2 := [some (fx_rf Γ 0), some (fx_rf Γ (67 + 2 * k)), some (fx_rf Γ (1 + 3 + x)), some (.int 0), some (.int (nI (p_sN (p_lkP (fx_ar m 1) (fx_dr m 1) nd (rd k) x false) (v + 1)))), some (.int (nI (v + 1))), none, none, none, none]) ⟨rfl, rfl, rfl, rfl, rfl, rfl, trivial⟩ ?_
          exact ih (v + 1) (by omega)
      have lpi : ∀ (ji : Nat) (d : Nat), d + ji = nd → (∀ e, e < d → p_far (m.1 (1 + 3 + x)) (m.1 (1 + 11 + e)) (m.1 (1 + 3 + x) 4) (nI v) = rd k e) → fx_E Γ mX8_looksAllowed 3 119 119 (fx_is (some (.int (nI (p_sN (p_lkP (fx_ar m 1) (fx_dr m 1) nd (rd k) x false) 10)))) m) 119 m 49 [some (fx_rf Γ 0), some (fx_rf Γ (67 + 2 * k)), some (fx_rf Γ (1 + 3 + x)), some (.int 0), some (.int (nI (p_sN (p_lkP (fx_ar m 1) (fx_dr m 1) nd (rd k) x false) v))), some (.int (nI v)), some (.int (m.1 (1 + 3 + x) 4)), some (.int (nI v)), some (.int 1), some (.int (nI d))] [] := by
        intro ji
        induction ji with
        | zero =>
          intro d hd J
          refine e_iload dX8_looksAllowed_49 rfl ?_
          refine e_aload_n dX8_looksAllowed_51 rfl ?_
          refine e_getr (o2 := 1) dX8_looksAllowed_52 ff_X8_10 rfl (fx_pi_lt (by decide)) (by decide) rfl (hL _ _ _ rfl) ?_
          refine e_getv (v := nI nd) dX8_looksAllowed_55 ff_X8_238 rfl (fx_pi_lt (by decide)) (by decide) rfl hnd ?_
          refine e_icmp_ge 106 dX8_looksAllowed_58 rfl (fun _ => ?_) (fun h => absurd (nI_le (by omega) (by omega)) h)
          refine e_iload dX8_looksAllowed_106 rfl ?_
          refine e_if_eq 120 dX8_looksAllowed_108 rfl (fun h => absurd h (by decide)) (fun _ => ?_)
          refine e_iload dX8_looksAllowed_111 rfl ?_
          refine e_iconst dX8_looksAllowed_113 kci_1 ?_
          refine e_iload dX8_looksAllowed_114 rfl ?_
          refine e_ishl dX8_looksAllowed_116 ?_
          refine e_ior dX8_looksAllowed_117 ?_
          refine e_istore dX8_looksAllowed_118 (by decide) rfl ?_
          refine e_iinc (v := nI (v + 1)) dX8_looksAllowed_120 rfl (fx_inc _) (by decide) rfl ?_
          refine e_goto 6 dX8_looksAllowed_123 rfl ?_
          have hP : p_lkP (fx_ar m 1) (fx_dr m 1) nd (rd k) x false v := fun d hd => J d (by omega)
          rw [p_sN_or (P := (p_lkP (fx_ar m 1) (fx_dr m 1) nd (rd k) x false)) (by omega) hP]
          refine e_weak (lv2 := [some (fx_rf Γ 0), some (fx_rf Γ (67 + 2 * k)), some (fx_rf Γ (1 + 3 + x)), some (.int 0), some (.int (nI (p_sN (p_lkP (fx_ar m 1) (fx_dr m 1) nd (rd k) x false) (v + 1)))), some (.int (nI (v + 1))), none, none, none, none]) ⟨rfl, rfl, rfl, rfl, rfl, rfl, trivial⟩ ?_
          exact ih (v + 1) (by omega)
        | succ ji ihI =>
          intro d hd J
          refine e_iload dX8_looksAllowed_49 rfl ?_
          refine e_aload_n dX8_looksAllowed_51 rfl ?_
          refine e_getr (o2 := 1) dX8_looksAllowed_52 ff_X8_10 rfl (fx_pi_lt (by decide)) (by decide) rfl (hL _ _ _ rfl) ?_
          refine e_getv (v := nI nd) dX8_looksAllowed_55 ff_X8_238 rfl (fx_pi_lt (by decide)) (by decide) rfl hnd ?_
          refine e_icmp_ge 106 dX8_looksAllowed_58 rfl (fun h => absurd h (nI_ge (by omega) (by omega))) (fun _ => ?_)
          refine e_iload dX8_looksAllowed_61 rfl ?_
          refine e_if_eq 106 dX8_looksAllowed_63 rfl (fun h => absurd h (by decide)) (fun _ => ?_)
          refine e_aload_n dX8_looksAllowed_66 rfl ?_
          refine e_aload_n dX8_looksAllowed_67 rfl ?_
          refine e_getr (o2 := 1) dX8_looksAllowed_68 ff_X8_10 rfl (fx_pi_lt (by decide)) (by decide) rfl (hL _ _ _ rfl) ?_
          refine e_getr (o2 := 3) dX8_looksAllowed_71 ff_X8_180 rfl (fx_pi_lt (by decide)) (by decide) rfl (hL _ _ _ rfl) ?_
          refine e_iload dX8_looksAllowed_74 rfl ?_
          refine e_aald (j := d) (o2 := 1 + 11 + d) dX8_looksAllowed_76 rfl (Or.inr (Or.inl rfl)) (fx_pi_lt (by decide)) rfl (by omega) (by decide) (fx_s1.rd hL (by omega)) ?_
          refine e_iload dX8_looksAllowed_77 rfl ?_
          refine e_iload dX8_looksAllowed_79 rfl ?_
          refine e_callV1 (μ' := mX0_farIf) (ci := 0) (As := [fx_rf Γ (1 + 11 + d), .int (m.1 (1 + 3 + x) 4), .int (nI v)]) dX8_looksAllowed_81 wl_X8_356 ok_X0_farIf (fx_s1.sa (by omega)) rfl (fx_pi_lt (fx_s1.la (by omega))) (by decide) (Nat.le_of_ble_eq_true rfl) fx_n1 (s_X0_farIf (m := m) (1 + 3 + x) (fx_s1.sa (by omega)) (fx_s1.la (by omega)) (1 + 11 + d) (fx_s1.sd (by omega)) (fx_s1.ld (by omega)) (m.1 (1 + 3 + x) 4) (nI v)) rfl ?_
          refine e_aload_n dX8_looksAllowed_84 rfl ?_
          refine e_iload dX8_looksAllowed_85 rfl ?_
          refine e_callV (μ' := mX5_read) (ci := 5) (As := [.int (nI d)]) dX8_looksAllowed_87 wl_X8_353 ok_X5_read (fx_Sf.mk (by omega)).sh rfl (fx_pi_lt (fx_Sf.mk (by omega)).lt) (by decide) (Nat.le_of_ble_eq_true rfl) fx_n1 (s_X5_read (m := m) (67 + 2 * k) (fx_Sf.mk (by omega)) hL (c := cn k) hck.2 hck.1 (nI d)) rfl (fun r_ m_ hpost => ?_)
          obtain ⟨rfl, e2⟩ := hpost
          have e2 := e2.symm
          subst e2
          rw [p_rd_in (by omega) (by omega), hrd k hk _ (by omega)]
          refine e_icmp_ne 97 dX8_looksAllowed_90 rfl (fun c_f => ?_) (fun c_f => ?_)
          · refine e_iconst dX8_looksAllowed_97 kci_0 ?_
            refine e_istore dX8_looksAllowed_98 (by decide) rfl ?_
            refine e_iinc (v := nI (d + 1)) dX8_looksAllowed_100 rfl (fx_inc _) (by decide) rfl ?_
            refine e_goto 49 dX8_looksAllowed_103 rfl ?_
            exact hz (fun h => c_f (h d (by omega))) (d + 1) (by omega)
          · refine e_iconst dX8_looksAllowed_93 kci_1 ?_
            refine e_goto 98 dX8_looksAllowed_94 rfl ?_
            refine e_istore dX8_looksAllowed_98 (by decide) rfl ?_
            refine e_iinc (v := nI (d + 1)) dX8_looksAllowed_100 rfl (fx_inc _) (by decide) rfl ?_
            refine e_goto 49 dX8_looksAllowed_103 rfl ?_
            exact ihI (d + 1) (by omega) (fun e he => by by_cases q : e = d; (subst q; exact c_f); exact J e (by omega))
      exact lpi nd 0 (by omega) (fun e he => absurd he (Nat.not_lt_zero _))
  refine e_iconst dX8_looksAllowed_0 kci_0 ?_
  refine e_istore dX8_looksAllowed_1 (by decide) rfl ?_
  refine e_iconst dX8_looksAllowed_3 kci_0 ?_
  refine e_istore dX8_looksAllowed_4 (by decide) rfl ?_
  exact lp 10 0 (by omega)
set_option maxRecDepth 100000 in
set_option maxHeartbeats 600000 in
theorem s_X8_looks {Γ : fx_G} {m : fx_M} (hL : fx_Lay m) {na : Nat} (hna : m.1 1 2 = nI na) (h8 : na ≤ 8) {nd : Nat} (hnd : m.1 1 3 = nI nd) (h5 : nd ≤ 5) {cn : Nat → Nat} (hcn : ∀ k, k < 8 → m.1 (67 + 2 * k) 2 = nI (cn k) ∧ cn k ≤ 160) {rd : Nat → Nat → Int32} (hrd : ∀ k, k < 8 → ∀ j, j < cn k → (m.2.1 (67 + 2 * k + 1) j).toInt32 = rd k j) (s x w : Int32) : fx_Ct Γ mX8_looks 4 119 119 [fx_rf Γ 0, .int s, .int x, .int w] m (fx_is (some (.int (q_looks (fx_ar m 1) (fx_dr m 1) na nd (fun k => m.1 (67 + 2 * k) 1) (fun k => m.1 (67 + 2 * k) 3) cn rd s x w).2)) (fx_no m (q_looks (fx_ar m 1) (fx_dr m 1) na nd (fun k => m.1 (67 + 2 * k) 1) (fun k => m.1 (67 + 2 * k) 3) cn rd s x w).1)) := by
  refine fx_Ct.of (j := 1) (by decide) (Nat.le_of_ble_eq_true rfl) (Nat.le_of_ble_eq_true rfl) ?_
  show fx_E Γ mX8_looks 4 119 119 _ 119 m 0 [some (fx_rf Γ 0), some (.int s), some (.int x), some (.int w), none] []
  refine e_iload_n dX8_looks_0 rfl ?_
  refine e_callS1 (μ' := mX8_isShelf) (As := [.int s]) dX8_looks_1 wl_X8_73 ok_X8_isShelf (by decide) (Nat.le_of_ble_eq_true rfl) fx_n1 (s_X8_isShelf (m := m) s) rfl ?_
  refine e_if_eqB 18 dX8_looks_4 rfl (fun c_1 => ?_) (fun c_1 => ?_)
  · refine e_aload_n dX8_looks_18 rfl ?_
    refine e_iconst dX8_looks_19 kci_1 ?_
    refine e_callV1 (μ' := mX8_refuse) (ci := 8) (As := [.int 1]) dX8_looks_20 wl_X8_77 ok_X8_refuse rfl rfl (fx_pi_lt (by decide)) (by decide) (Nat.le_of_ble_eq_true rfl) fx_n1 (s_X8_refuse (m := m) hL 1 (by first | decide | omega) (by first | decide | omega)) rfl ?_
    have hq : q_looks (fx_ar m 1) (fx_dr m 1) na nd (fun k => m.1 (67 + 2 * k) 1) (fun k => m.1 (67 + 2 * k) 3) cn rd s x w = (1, -(nI 1)) := by unfold q_looks; (try (first | rw [if_pos c_1] | rw [if_neg c_1] | rw [if_neg (Decidable.not_not.mpr c_1)])); (try simp only [c_w, decide_true, decide_false]); (try rfl)
    exact e_iret dX8_looks_23 rfl rfl rfl ⟨by rw [hq], by rw [hq]; exact (fx_no_n (by first | decide | omega)).symm⟩
  · refine e_aload_n dX8_looks_7 rfl ?_
    refine e_getr (o2 := 1) dX8_looks_8 ff_X8_10 rfl (fx_pi_lt (by decide)) (by decide) rfl (hL _ _ _ rfl) ?_
    refine e_iload_n dX8_looks_11 rfl ?_
    refine e_callV1 (μ' := mX6_isArm) (ci := 6) (As := [.int x]) dX8_looks_12 wl_X8_117 ok_X6_isArm rfl rfl (fx_pi_lt (by decide)) (by decide) (Nat.le_of_ble_eq_true rfl) fx_n1 (s_X6_isArm (m := m) 1 fx_s1 (na := na) hna x) rfl ?_
    refine e_if_neB 24 dX8_looks_15 rfl (fun c_2 => ?_) (fun c_2 => ?_)
    · refine e_aload_n dX8_looks_24 rfl ?_
      refine e_iload_n dX8_looks_25 rfl ?_
      refine e_callV1 (μ' := mX8_barToRow) (ci := 8) (As := [.int s]) dX8_looks_26 wl_X8_89 ok_X8_barToRow rfl rfl (fx_pi_lt (by decide)) (by decide) (Nat.le_of_ble_eq_true rfl) fx_n1 (s_X8_barToRow (m := m) hL s) rfl ?_
      refine e_istore dX8_looks_29 (by decide) rfl ?_
      refine e_iload dX8_looks_31 rfl ?_
      refine e_if_eq 43 dX8_looks_33 rfl (fun c_0 => ?_) (fun c_0 => ?_)
      · obtain ⟨k, hk, ek⟩ := p_in_ex7 c_1
        subst ek
        obtain ⟨y, hy, ey⟩ := p_el_ex c_2 (by omega)
        subst ey
        have hck := hcn k hk
        refine e_aload_n dX8_looks_43 rfl ?_
        refine e_getr (o2 := 49) dX8_looks_44 ff_X8_28 rfl (fx_pi_lt (by decide)) (by decide) rfl (hL _ _ _ rfl) ?_
        refine e_iload_n dX8_looks_47 rfl ?_
        refine e_aald (j := k) (o2 := 67 + 2 * k) dX8_looks_48 rfl (Or.inr (Or.inr rfl)) (fx_pi_lt (by decide)) rfl (by omega) (by decide) (fx_r49 hL (by omega)) ?_
        refine e_getv (v := nI (cn k)) dX8_looks_49 ff_X8_268 (fx_Sf.mk (by omega)).sh (fx_pi_lt (fx_Sf.mk (by omega)).lt) (by decide) rfl hck.1 ?_
        refine e_aload_n dX8_looks_52 rfl ?_
        refine e_getr (o2 := 1) dX8_looks_53 ff_X8_10 rfl (fx_pi_lt (by decide)) (by decide) rfl (hL _ _ _ rfl) ?_
        refine e_getv (v := nI nd) dX8_looks_56 ff_X8_238 rfl (fx_pi_lt (by decide)) (by decide) rfl hnd ?_
        refine e_icmp_lt 71 dX8_looks_59 rfl (fun c_lt => ?_) (fun c_lt => ?_)
        · refine e_aload_n dX8_looks_71 rfl ?_
          refine e_iconst dX8_looks_72 kci_5 ?_
          refine e_callV1 (μ' := mX8_refuse) (ci := 8) (As := [.int 5]) dX8_looks_73 wl_X8_77 ok_X8_refuse rfl rfl (fx_pi_lt (by decide)) (by decide) (Nat.le_of_ble_eq_true rfl) fx_n1 (s_X8_refuse (m := m) hL 5 (by first | decide | omega) (by first | decide | omega)) rfl ?_
          have hq : q_looks (fx_ar m 1) (fx_dr m 1) na nd (fun k => m.1 (67 + 2 * k) 1) (fun k => m.1 (67 + 2 * k) 3) cn rd (nI k) (nI y) w = (5, -(nI 5)) := by unfold q_looks; (try dsimp only); (try rw [p_ix_n (show k < 2 ^ 31 by omega)]); (try dsimp only); (try rw [p_ix_n (show y < 2 ^ 31 by omega)]); (try (first | rw [if_pos c_1] | rw [if_neg c_1] | rw [if_neg (Decidable.not_not.mpr c_1)])); (try (first | rw [if_pos c_2] | rw [if_neg c_2] | rw [if_neg (Decidable.not_not.mpr c_2)])); (try (first | rw [if_pos c_0] | rw [if_neg c_0] | rw [if_neg (Decidable.not_not.mpr c_0)])); (try (first | rw [if_pos c_lt] | rw [if_neg c_lt] | rw [if_neg (Decidable.not_not.mpr c_lt)])); (try simp only [c_w, decide_true, decide_false]); (try rfl)
          exact e_iret dX8_looks_76 rfl rfl rfl ⟨by rw [hq], by rw [hq]; exact (fx_no_n (by first | decide | omega)).symm⟩
        · refine e_iload_n dX8_looks_62 rfl ?_
          refine e_iconst dX8_looks_63 kci_0 ?_
          refine e_iconst dX8_looks_64 kci_1 ?_
          refine e_callS1 (μ' := mX8_within) (As := [.int w, .int 0, .int 1]) dX8_looks_65 wl_X8_81 ok_X8_within (by decide) (Nat.le_of_ble_eq_true rfl) fx_n1 (s_X8_within (m := m) w 0 1) rfl ?_
          refine e_if_neB 77 dX8_looks_68 rfl (fun c_3 => ?_) (fun c_3 => ?_)
          · have hcd : nd ≤ cn k := by have q := mt (nI_lt (a := cn k) (b := nd)) ; exact Nat.le_of_not_lt (fun q2 => c_lt (nI_lt q2 (by omega)))
            refine e_aload_n dX8_looks_77 rfl ?_
            refine e_aload_n dX8_looks_78 rfl ?_
            refine e_getr (o2 := 49) dX8_looks_79 ff_X8_28 rfl (fx_pi_lt (by decide)) (by decide) rfl (hL _ _ _ rfl) ?_
            refine e_iload_n dX8_looks_82 rfl ?_
            refine e_aald (j := k) (o2 := 67 + 2 * k) dX8_looks_83 rfl (Or.inr (Or.inr rfl)) (fx_pi_lt (by decide)) rfl (by omega) (by decide) (fx_r49 hL (by omega)) ?_
            refine e_aload_n dX8_looks_84 rfl ?_
            refine e_getr (o2 := 1) dX8_looks_85 ff_X8_10 rfl (fx_pi_lt (by decide)) (by decide) rfl (hL _ _ _ rfl) ?_
            refine e_getr (o2 := 2) dX8_looks_88 ff_X8_62 rfl (fx_pi_lt (by decide)) (by decide) rfl (hL _ _ _ rfl) ?_
            refine e_iload_n dX8_looks_91 rfl ?_
            refine e_aald (j := y) (o2 := 1 + 3 + y) dX8_looks_92 rfl (Or.inl rfl) (fx_pi_lt (by decide)) rfl (by omega) (by decide) (fx_s1.ra hL (by omega)) ?_
            refine e_iload_n dX8_looks_93 rfl ?_
            refine e_if_ne 101 dX8_looks_94 rfl (fun c_w => ?_) (fun c_w => ?_)
            · refine e_iconst dX8_looks_101 kci_0 ?_
              refine e_callV1 (μ' := mX8_looksAllowed) (ci := 8) (As := [fx_rf Γ (67 + 2 * k), fx_rf Γ (1 + 3 + y), .int 0]) dX8_looks_102 wl_X8_271 ok_X8_looksAllowed rfl rfl (fx_pi_lt (by decide)) (by decide) (Nat.le_of_ble_eq_true rfl) fx_n1 (s_X8_looksAllowed0 (m := m) hL hnd h5 hk (x := y) (by omega) (hcn k hk) hcd hrd) rfl ?_
              have hq : q_looks (fx_ar m 1) (fx_dr m 1) na nd (fun k => m.1 (67 + 2 * k) 1) (fun k => m.1 (67 + 2 * k) 3) cn rd (nI k) (nI y) w = (0, nI (p_lk (fx_ar m 1) (fx_dr m 1) nd (rd k) y false)) := by unfold q_looks; (try dsimp only); (try rw [p_ix_n (show k < 2 ^ 31 by omega)]); (try dsimp only); (try rw [p_ix_n (show y < 2 ^ 31 by omega)]); (try (first | rw [if_pos c_1] | rw [if_neg c_1] | rw [if_neg (Decidable.not_not.mpr c_1)])); (try (first | rw [if_pos c_2] | rw [if_neg c_2] | rw [if_neg (Decidable.not_not.mpr c_2)])); (try (first | rw [if_pos c_0] | rw [if_neg c_0] | rw [if_neg (Decidable.not_not.mpr c_0)])); (try (first | rw [if_pos c_lt] | rw [if_neg c_lt] | rw [if_neg (Decidable.not_not.mpr c_lt)])); (try (first | rw [if_pos c_3] | rw [if_neg c_3] | rw [if_neg (Decidable.not_not.mpr c_3)])); (try (first | rw [if_pos c_w] | rw [if_neg c_w] | rw [if_neg (Decidable.not_not.mpr c_w)])); (try simp only [c_w, decide_true, decide_false]); (try rfl)
              exact e_iret dX8_looks_105 rfl rfl rfl ⟨by rw [hq], by rw [hq]; rfl⟩
            · refine e_iconst dX8_looks_97 kci_1 ?_
              refine e_goto 102 dX8_looks_98 rfl ?_
              refine e_callV1 (μ' := mX8_looksAllowed) (ci := 8) (As := [fx_rf Γ (67 + 2 * k), fx_rf Γ (1 + 3 + y), .int 1]) dX8_looks_102 wl_X8_271 ok_X8_looksAllowed rfl rfl (fx_pi_lt (by decide)) (by decide) (Nat.le_of_ble_eq_true rfl) fx_n1 (s_X8_looksAllowed1 (m := m) hL hnd h5 hk (x := y) (by omega) (hcn k hk) hcd hrd) rfl ?_
              have hq : q_looks (fx_ar m 1) (fx_dr m 1) na nd (fun k => m.1 (67 + 2 * k) 1) (fun k => m.1 (67 + 2 * k) 3) cn rd (nI k) (nI y) w = (0, nI (p_lk (fx_ar m 1) (fx_dr m 1) nd (rd k) y true)) := by unfold q_looks; (try dsimp only); (try rw [p_ix_n (show k < 2 ^ 31 by omega)]); (try dsimp only); (try rw [p_ix_n (show y < 2 ^ 31 by omega)]); (try (first | rw [if_pos c_1] | rw [if_neg c_1] | rw [if_neg (Decidable.not_not.mpr c_1)])); (try (first | rw [if_pos c_2] | rw [if_neg c_2] | rw [if_neg (Decidable.not_not.mpr c_2)])); (try (first | rw [if_pos c_0] | rw [if_neg c_0] | rw [if_neg (Decidable.not_not.mpr c_0)])); (try (first | rw [if_pos c_lt] | rw [if_neg c_lt] | rw [if_neg (Decidable.not_not.mpr c_lt)])); (try (first | rw [if_pos c_3] | rw [if_neg c_3] | rw [if_neg (Decidable.not_not.mpr c_3)])); (try (first | rw [if_pos c_w] | rw [if_neg c_w] | rw [if_neg (Decidable.not_not.mpr c_w)])); (try simp only [c_w, decide_true, decide_false]); (try rfl)
              exact e_iret dX8_looks_105 rfl rfl rfl ⟨by rw [hq], by rw [hq]; rfl⟩
          · refine e_aload_n dX8_looks_71 rfl ?_
            refine e_iconst dX8_looks_72 kci_5 ?_
            refine e_callV1 (μ' := mX8_refuse) (ci := 8) (As := [.int 5]) dX8_looks_73 wl_X8_77 ok_X8_refuse rfl rfl (fx_pi_lt (by decide)) (by decide) (Nat.le_of_ble_eq_true rfl) fx_n1 (s_X8_refuse (m := m) hL 5 (by first | decide | omega) (by first | decide | omega)) rfl ?_
            have hq : q_looks (fx_ar m 1) (fx_dr m 1) na nd (fun k => m.1 (67 + 2 * k) 1) (fun k => m.1 (67 + 2 * k) 3) cn rd (nI k) (nI y) w = (5, -(nI 5)) := by unfold q_looks; (try dsimp only); (try rw [p_ix_n (show k < 2 ^ 31 by omega)]); (try dsimp only); (try rw [p_ix_n (show y < 2 ^ 31 by omega)]); (try (first | rw [if_pos c_1] | rw [if_neg c_1] | rw [if_neg (Decidable.not_not.mpr c_1)])); (try (first | rw [if_pos c_2] | rw [if_neg c_2] | rw [if_neg (Decidable.not_not.mpr c_2)])); (try (first | rw [if_pos c_0] | rw [if_neg c_0] | rw [if_neg (Decidable.not_not.mpr c_0)])); (try (first | rw [if_pos c_lt] | rw [if_neg c_lt] | rw [if_neg (Decidable.not_not.mpr c_lt)])); (try (first | rw [if_pos c_3] | rw [if_neg c_3] | rw [if_neg (Decidable.not_not.mpr c_3)])); (try simp only [c_w, decide_true, decide_false]); (try rfl)
            exact e_iret dX8_looks_76 rfl rfl rfl ⟨by rw [hq], by rw [hq]; exact (fx_no_n (by first | decide | omega)).symm⟩
      · have hb7 := p_bR_le (fun k => m.1 (67 + 2 * k) 1) (fun k => m.1 (67 + 2 * k) 3) s
        have hb1 : 1 ≤ p_bR (fun k => m.1 (67 + 2 * k) 1) (fun k => m.1 (67 + 2 * k) 3) s := by have q : p_bR (fun k => m.1 (67 + 2 * k) 1) (fun k => m.1 (67 + 2 * k) 3) s ≠ 0 := mt (nI_0i (by omega)).mpr c_0; omega
        refine e_aload_n dX8_looks_36 rfl ?_
        refine e_iload dX8_looks_37 rfl ?_
        refine e_callV1 (μ' := mX8_refuse) (ci := 8) (As := [.int (nI (p_bR (fun k => m.1 (67 + 2 * k) 1) (fun k => m.1 (67 + 2 * k) 3) s))]) dX8_looks_39 wl_X8_77 ok_X8_refuse rfl rfl (fx_pi_lt (by decide)) (by decide) (Nat.le_of_ble_eq_true rfl) fx_n1 (s_X8_refuse (m := m) hL (p_bR (fun k => m.1 (67 + 2 * k) 1) (fun k => m.1 (67 + 2 * k) 3) s) (by first | decide | omega) (by first | decide | omega)) rfl ?_
        have hq : q_looks (fx_ar m 1) (fx_dr m 1) na nd (fun k => m.1 (67 + 2 * k) 1) (fun k => m.1 (67 + 2 * k) 3) cn rd s x w = ((p_bR (fun k => m.1 (67 + 2 * k) 1) (fun k => m.1 (67 + 2 * k) 3) s), -(nI (p_bR (fun k => m.1 (67 + 2 * k) 1) (fun k => m.1 (67 + 2 * k) 3) s))) := by unfold q_looks; (try (first | rw [if_pos c_1] | rw [if_neg c_1] | rw [if_neg (Decidable.not_not.mpr c_1)])); (try (first | rw [if_pos c_2] | rw [if_neg c_2] | rw [if_neg (Decidable.not_not.mpr c_2)])); (try (first | rw [if_pos c_0] | rw [if_neg c_0] | rw [if_neg (Decidable.not_not.mpr c_0)])); (try simp only [c_w, decide_true, decide_false]); (try rfl)
        exact e_iret dX8_looks_42 rfl rfl rfl ⟨by rw [hq], by rw [hq]; exact (fx_no_n (by first | decide | omega)).symm⟩
    · refine e_aload_n dX8_looks_18 rfl ?_
      refine e_iconst dX8_looks_19 kci_1 ?_
      refine e_callV1 (μ' := mX8_refuse) (ci := 8) (As := [.int 1]) dX8_looks_20 wl_X8_77 ok_X8_refuse rfl rfl (fx_pi_lt (by decide)) (by decide) (Nat.le_of_ble_eq_true rfl) fx_n1 (s_X8_refuse (m := m) hL 1 (by first | decide | omega) (by first | decide | omega)) rfl ?_
      have hq : q_looks (fx_ar m 1) (fx_dr m 1) na nd (fun k => m.1 (67 + 2 * k) 1) (fun k => m.1 (67 + 2 * k) 3) cn rd s x w = (1, -(nI 1)) := by unfold q_looks; (try (first | rw [if_pos c_1] | rw [if_neg c_1] | rw [if_neg (Decidable.not_not.mpr c_1)])); (try (first | rw [if_pos c_2] | rw [if_neg c_2] | rw [if_neg (Decidable.not_not.mpr c_2)])); (try simp only [c_w, decide_true, decide_false]); (try rfl)
      exact e_iret dX8_looks_23 rfl rfl rfl ⟨by rw [hq], by rw [hq]; exact (fx_no_n (by first | decide | omega)).symm⟩
set_option maxRecDepth 100000 in
set_option maxHeartbeats 600000 in
theorem s_X8_image {Γ : fx_G} {m : fx_M} (hL : fx_Lay m) {na nd : Nat} (h8 : na ≤ 8) (h5 : nd ≤ 5) {A D : Nat → Nat → Int32} {c : Nat → Int32} (H : fx_HS m 1 na nd A D c) (hJ1 : fx_J 1 m) (hJ17 : fx_J 17 m) : fx_Ct Γ mX8_image 3 119 119 [fx_rf Γ 0] m (fun r m' => r = some (.int (nI na)) ∧ ∃ m1, fx_fr 17 m m1 ∧ fx_HS m1 17 na nd A D c ∧ m' = fx_sI m1 0 3 1) := by
  refine fx_Ct.of (j := 0) (by decide) (Nat.le_of_ble_eq_true rfl) (Nat.le_of_ble_eq_true rfl) ?_
  show fx_E Γ mX8_image 3 119 119 _ 119 m 0 [some (fx_rf Γ 0)] []
  refine e_aload_n dX8_image_0 rfl ?_
  refine e_getr (o2 := 17) dX8_image_1 ff_X8_16 rfl (fx_pi_lt (by decide)) (by decide) rfl (hL _ _ _ rfl) ?_
  refine e_aload_n dX8_image_4 rfl ?_
  refine e_getr (o2 := 1) dX8_image_5 ff_X8_10 rfl (fx_pi_lt (by decide)) (by decide) rfl (hL _ _ _ rfl) ?_
  refine e_callV (μ' := mX6_takeFrom) (ci := 6) (As := [fx_rf Γ 1]) dX8_image_8 wl_X8_203 ok_X6_takeFrom rfl rfl (fx_pi_lt (by decide)) (by decide) (Nat.le_of_ble_eq_true rfl) fx_n1 (s_X6_takeFrom (m := m) 17 fx_s17 hL 1 fx_s1 (by decide) h8 h5 H hJ17 hJ1) rfl (fun r_ m_ hpost => ?_)
  revert m_
  intro m1 hpost
  obtain ⟨rfl, f1, H1⟩ := hpost
  have hL1 := f1.lay hL
  refine e_aload_n dX8_image_11 rfl ?_
  refine e_iconst dX8_image_12 kci_1 ?_
  refine e_putz dX8_image_13 ff_X8_22 rfl (fx_pi_lt (by decide)) (by decide) rfl (Or.inl rfl) (Or.inr rfl) ?_
  refine e_aload_n dX8_image_16 rfl ?_
  refine e_getr (o2 := 1) dX8_image_17 ff_X8_10 rfl (fx_pi_lt (by decide)) (by decide) rfl (hL1 _ _ _ rfl) ?_
  refine e_getv (v := nI na) dX8_image_20 ff_X8_319 rfl (fx_pi_lt (by decide)) (by decide) rfl (by rw [fx_sI_n _ _ _ (by decide), f1.2.1 1 (by omega)]; exact H.1) ?_
  exact e_iret dX8_image_23 rfl rfl rfl ⟨rfl, m1, f1, H1, rfl⟩
/-- arms that are no more drop from the first k shelves -/
def fx_dA (na : Nat) (m1 m2 : fx_M) (k : Nat) : Prop := m2.2 = m1.2 ∧ (∀ o, (∀ s, s < k → o ≠ 67 + 2 * s) → m2.1 o = m1.1 o) ∧ ∀ s, s < k → ∀ j, m2.1 (67 + 2 * s) j = if j = 3 ∧ ¬ p_el (m1.1 (67 + 2 * s) 3) (nI na) then -1 else m1.1 (67 + 2 * s) j
theorem fx_dA.refl (na : Nat) (m : fx_M) : fx_dA na m m 0 := ⟨rfl, fun _ _ => rfl, fun s hs => absurd hs (Nat.not_lt_zero _)⟩
theorem fx_dA.cur {na k : Nat} {m1 m2 : fx_M} (h : fx_dA na m1 m2 k) : m2.1 (67 + 2 * k) = m1.1 (67 + 2 * k) := h.2.1 _ (fun s hs => by omega)
theorem fx_dA.keep {na k : Nat} {m1 m2 : fx_M} (h : fx_dA na m1 m2 k) (hc : p_el (m2.1 (67 + 2 * k) 3) (nI na)) : fx_dA na m1 m2 (k + 1) := by
  refine ⟨h.1, fun o ho => h.2.1 o (fun s hs => ho s (by omega)), fun s hs j => ?_⟩
  by_cases e : s = k
  · subst e
    rw [h.cur] at hc ⊢
    rw [if_neg (fun q => q.2 hc)]
  · exact h.2.2 s (by omega) j
theorem fx_dA.drop {na k : Nat} {m1 m2 : fx_M} (h : fx_dA na m1 m2 k) (hc : ¬ p_el (m2.1 (67 + 2 * k) 3) (nI na)) : fx_dA na m1 (fx_sI m2 (67 + 2 * k) 3 (-1)) (k + 1) := by
  refine ⟨h.1, fun o ho => ?_, fun s hs j => ?_⟩
  · rw [fx_sI_n _ _ _ (ho k (by omega))]
    exact h.2.1 o (fun s hs => ho s (by omega))
  · by_cases e : s = k
    · subst e
      rw [h.cur] at hc
      by_cases q : j = 3
      · subst q; rw [fx_rd0, if_pos ⟨rfl, hc⟩]
      · rw [fx_rd2 (Ne.symm q), if_neg (fun w => q w.1), h.cur]
    · rw [fx_sI_n _ _ _ (by omega)]
      exact h.2.2 s (by omega) j
set_option maxRecDepth 100000 in
set_option maxHeartbeats 600000 in
theorem s_X8_restore {Γ : fx_G} {m : fx_M} (hL : fx_Lay m) {na nd : Nat} (h8 : na ≤ 8) (h5 : nd ≤ 5) {A D : Nat → Nat → Int32} {c : Nat → Int32} (H : m.1 0 3 ≠ 0 → fx_HS m 17 na nd A D c) (hJ1 : fx_J 1 m) (hJ17 : fx_J 17 m) : fx_Ct Γ mX8_restore 3 119 119 [fx_rf Γ 0] m (fun r m' => (m.1 0 3 ≠ 0 → r = some (.int (nI na)) ∧ ∃ m1, fx_fr 1 m m1 ∧ fx_HS m1 1 na nd A D c ∧ fx_dA na m1 m' 8) ∧ (m.1 0 3 = 0 → r = some (.int (-(nI 6))) ∧ m' = fx_no m 6)) := by
  refine fx_Ct.of (j := 1) (by decide) (Nat.le_of_ble_eq_true rfl) (Nat.le_of_ble_eq_true rfl) ?_
  show fx_E Γ mX8_restore 3 119 119 _ 119 m 0 [some (fx_rf Γ 0), none] []
  refine e_aload_n dX8_restore_0 rfl ?_
  refine e_get dX8_restore_1 ff_X8_22 rfl (fx_pi_lt (by decide)) (by decide) rfl ?_
  refine e_if_ne 14 dX8_restore_4 rfl (fun c_h => ?_) (fun c_h => ?_)
  · have H := H c_h
    refine fx_E.post (post := fun r m' => r = some (.int (nI na)) ∧ ∃ m1, fx_fr 1 m m1 ∧ fx_HS m1 1 na nd A D c ∧ fx_dA na m1 m' 8) (fun r mm h => ⟨fun _ => h, fun q => absurd q c_h⟩) ?_
    refine e_aload_n dX8_restore_14 rfl ?_
    refine e_getr (o2 := 1) dX8_restore_15 ff_X8_10 rfl (fx_pi_lt (by decide)) (by decide) rfl (hL _ _ _ rfl) ?_
    refine e_aload_n dX8_restore_18 rfl ?_
    refine e_getr (o2 := 17) dX8_restore_19 ff_X8_16 rfl (fx_pi_lt (by decide)) (by decide) rfl (hL _ _ _ rfl) ?_
    refine e_callV (μ' := mX6_takeFrom) (ci := 6) (As := [fx_rf Γ 17]) dX8_restore_22 wl_X8_203 ok_X6_takeFrom rfl rfl (fx_pi_lt (by decide)) (by decide) (Nat.le_of_ble_eq_true rfl) fx_n1 (s_X6_takeFrom (m := m) 1 fx_s1 hL 17 fx_s17 (by decide) h8 h5 H hJ1 hJ17) rfl (fun r_ m_ hpost => ?_)
    revert m_
    intro m1 hpost
    obtain ⟨rfl, f1, H1⟩ := hpost
    have hL1 := f1.lay hL
    refine e_iconst dX8_restore_25 kci_0 ?_
    refine e_istore_n dX8_restore_26 (by decide) rfl ?_
    have lp : ∀ (j : Nat) (k : Nat) (m2 : fx_M), k + j = 8 → fx_dA na m1 m2 k → fx_E Γ mX8_restore 3 119 119 (fun r m' => r = some (.int (nI na)) ∧ ∃ m1, fx_fr 1 m m1 ∧ fx_HS m1 1 na nd A D c ∧ fx_dA na m1 m' 8) 119 m2 27 [some (fx_rf Γ 0), some (.int (nI k))] [] := by
      intro j
      induction j with
      | zero =>
        intro k m2 hk J
        have hL2 : fx_Lay m2 := fun o k v h => by rw [J.1]; exact hL1 o k v h
        have hna2 : m2.1 1 2 = nI na := by rw [J.2.1 1 (fun s hs => by omega)]; exact H1.1
        have hk8 : k = 8 := by omega
        have J8 : fx_dA na m1 m2 8 := by rw [← hk8]; exact J
        refine e_iload_n dX8_restore_27 rfl ?_
        refine e_bipush dX8_restore_28 kcb_8 ?_
        refine e_icmp_ge 67 dX8_restore_30 rfl (fun _ => ?_) (fun h => absurd (show nI 8 ≤ nI k from nI_le (by omega) (by omega)) h)
        refine e_aload_n dX8_restore_67 rfl ?_
        refine e_getr (o2 := 1) dX8_restore_68 ff_X8_10 rfl (fx_pi_lt (by decide)) (by decide) rfl (hL2 _ _ _ rfl) ?_
        refine e_getv (v := nI na) dX8_restore_71 ff_X8_319 rfl (fx_pi_lt (by decide)) (by decide) rfl hna2 ?_
        exact e_iret dX8_restore_74 rfl rfl rfl ⟨rfl, m1, f1, H1, J8⟩
      | succ j ih =>
        intro k m2 hk J
        have hL2 : fx_Lay m2 := fun o k v h => by rw [J.1]; exact hL1 o k v h
        have hna2 : m2.1 1 2 = nI na := by rw [J.2.1 1 (fun s hs => by omega)]; exact H1.1
        refine e_iload_n dX8_restore_27 rfl ?_
        refine e_bipush dX8_restore_28 kcb_8 ?_
        refine e_icmp_ge 67 dX8_restore_30 rfl (fun h => absurd h (show ¬ nI 8 ≤ nI k from nI_ge (by omega) (by omega))) (fun _ => ?_)
        refine e_aload_n dX8_restore_33 rfl ?_
        refine e_getr (o2 := 1) dX8_restore_34 ff_X8_10 rfl (fx_pi_lt (by decide)) (by decide) rfl (hL2 _ _ _ rfl) ?_
        refine e_aload_n dX8_restore_37 rfl ?_
        refine e_getr (o2 := 49) dX8_restore_38 ff_X8_28 rfl (fx_pi_lt (by decide)) (by decide) rfl (hL2 _ _ _ rfl) ?_
        refine e_iload_n dX8_restore_41 rfl ?_
        refine e_aald (j := k) (o2 := 67 + 2 * k) dX8_restore_42 rfl (Or.inr (Or.inr rfl)) (fx_pi_lt (by decide)) rfl (by omega) (by decide) (fx_r49 hL2 (by omega)) ?_
        refine e_get dX8_restore_43 ff_X8_135 (fx_Sf.mk (by omega)).sh (fx_pi_lt (fx_Sf.mk (by omega)).lt) (by decide) rfl ?_
        refine e_callV1 (μ' := mX6_isArm) (ci := 6) (As := [.int (m2.1 (67 + 2 * k) 3)]) dX8_restore_46 wl_X8_117 ok_X6_isArm rfl rfl (fx_pi_lt (by decide)) (by decide) (Nat.le_of_ble_eq_true rfl) fx_n1 (s_X6_isArm (m := m2) 1 fx_s1 (na := na) hna2 (m2.1 (67 + 2 * k) 3)) rfl ?_
        refine e_if_neB 61 dX8_restore_49 rfl (fun c_a => ?_) (fun c_a => ?_)
        · refine e_iinc (v := nI (k + 1)) dX8_restore_61 rfl (fx_inc _) (by decide) rfl ?_
          refine e_goto 27 dX8_restore_64 rfl ?_
          exact ih (k + 1) _ (by omega) (J.keep c_a)
        · refine e_aload_n dX8_restore_52 rfl ?_
          refine e_getr (o2 := 49) dX8_restore_53 ff_X8_28 rfl (fx_pi_lt (by decide)) (by decide) rfl (hL2 _ _ _ rfl) ?_
          refine e_iload_n dX8_restore_56 rfl ?_
          refine e_aald (j := k) (o2 := 67 + 2 * k) dX8_restore_57 rfl (Or.inr (Or.inr rfl)) (fx_pi_lt (by decide)) rfl (by omega) (by decide) (fx_r49 hL2 (by omega)) ?_
          refine e_callV1 (μ' := mX5_dropArm) (ci := 5) (As := []) dX8_restore_58 wl_X8_338 ok_X5_dropArm (fx_Sf.mk (by omega)).sh rfl (fx_pi_lt (fx_Sf.mk (by omega)).lt) (by decide) (Nat.le_of_ble_eq_true rfl) fx_n1 (s_X5_dropArm (m := m2) (67 + 2 * k) (fx_Sf.mk (by omega))) rfl ?_
          refine e_iinc (v := nI (k + 1)) dX8_restore_61 rfl (fx_inc _) (by decide) rfl ?_
          refine e_goto 27 dX8_restore_64 rfl ?_
          exact ih (k + 1) _ (by omega) (J.drop c_a)
    exact lp 8 0 m1 (by omega) (fx_dA.refl na m1)
  · refine e_aload_n dX8_restore_7 rfl ?_
    refine e_bipush dX8_restore_8 kcb_6 ?_
    refine e_callV1 (μ' := mX8_refuse) (ci := 8) (As := [.int 6]) dX8_restore_10 wl_X8_77 ok_X8_refuse rfl rfl (fx_pi_lt (by decide)) (by decide) (Nat.le_of_ble_eq_true rfl) fx_n1 (s_X8_refuse (m := m) hL 6 (by first | decide | omega) (by first | decide | omega)) rfl ?_
    exact e_iret dX8_restore_13 rfl rfl rfl ⟨fun h => absurd c_h h, fun _ => ⟨rfl, (fx_no_n (by decide)).symm⟩⟩
