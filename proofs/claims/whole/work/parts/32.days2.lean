abbrev p_wb (A : Nat → Nat → Int32) (na nd : Nat) : Int32 := p_fold (p_ct (p_both A na)) nd 0 0
abbrev p_ua1 (A D : Nat → Nat → Int32) (na nd : Nat) : Int32 := p_fold (p_sm (p_unl A D na)) nd 0 0
abbrev p_hs (A D : Nat → Nat → Int32) (na nd : Nat) : Int32 := p_fold (p_ct (p_her A D na)) nd 0 0
theorem p_wb_congr {A A' : Nat → Nat → Int32} {na nd : Nat} (h : ∀ x, x < na → A x = A' x) : p_wb A na nd = p_wb A' na nd :=
  p_fold_congr nd 0 0 (fun d s _ _ => by simp only [p_ct, p_both, p_at_congr h])
theorem p_uo_congr {o : Option Nat} {f g : Nat → Int32} {s : Int32} (h : ∀ x, o = some x → f x = g x) : p_uo o f s = p_uo o g s := by
  cases o with
  | none => rfl
  | some x => show s + f x = s + g x; rw [h x rfl]
theorem p_unl_congr {A D A' D' : Nat → Nat → Int32} {na nd d : Nat} (h : ∀ x, x < na → A x = A' x) (h2 : ∀ d, d < nd → D d = D' d) (hd : d < nd) : p_unl A D na d = p_unl A' D' na d := by
  unfold p_unl
  rw [p_at_congr h, p_at_congr h]
  have e : ∀ (s : Int32) (x : Nat), p_at A' na (nI d) s = some x → p_farA A D x d = p_farA A' D' x d := fun s x hx => by
    have hl := (p_fd_some hx).2.1
    rw [p_farA, p_farA, h x (by omega), h2 d hd]
  rw [p_uo_congr (e 0), p_uo_congr (e 1)]
theorem p_ua1_congr {A D A' D' : Nat → Nat → Int32} {na nd : Nat} (h : ∀ x, x < na → A x = A' x) (h2 : ∀ d, d < nd → D d = D' d) : p_ua1 A D na nd = p_ua1 A' D' na nd :=
  p_fold_congr nd 0 0 (fun d s _ hd => by rw [p_sm, p_sm, p_unl_congr h h2 (by omega)])
theorem p_hs_congr {A D A' D' : Nat → Nat → Int32} {na nd : Nat} (h : ∀ x, x < na → A x = A' x) (h2 : ∀ d, d < nd → D d = D' d) : p_hs A D na nd = p_hs A' D' na nd :=
  p_fold_congr nd 0 0 (fun d s _ hd => by simp only [p_ct, p_her, p_unl_congr h h2 (show d < nd by omega), h2 d (show d < nd by omega)])
def q_judge (na nd : Nat) (so sa : Nat → Int32) (cn : Nat → Nat) (rd : Nat → Nat → Int32) (t : p_Sg) (s n : Int32) : Nat × Int32 := if nI (p_bD so sa cn s n) = 0 then (0, p_oi (p_tl na nd (rd (p_ix s)) (p_ix n) 0 t).1) else p_no10 (p_bD so sa cn s n)
def p_beh (na nd : Nat) (t : p_Sg) (w : Int32) : Int32 := if w = 0 then p_wb t.1 na nd else if w = 1 then p_ua1 t.1 t.2.1 na nd else p_hs t.1 t.2.1 na nd
def q_behind (na nd : Nat) (so sa : Nat → Int32) (cn : Nat → Nat) (rd : Nat → Nat → Int32) (t : p_Sg) (s n w : Int32) : Nat × Int32 :=
  if nI (p_bD so sa cn s n) = 0 then (if ¬ p_in w 0 2 then p_no 5 else if p_oi (p_tl na nd (rd (p_ix s)) (p_ix n) 0 t).1 = -1 then (0, p_beh na nd (p_tl na nd (rd (p_ix s)) (p_ix n) 0 t).2 w) else p_no 6)
  else if nI (p_bD so sa cn s n) ≤ 5 then p_no (p_bD so sa cn s n) else if ¬ p_in w 0 2 then p_no 5 else p_no (p_bD so sa cn s n)
def q_done (na nd : Nat) (so sa : Nat → Int32) (cn : Nat → Nat) (rd : Nat → Nat → Int32) (t : p_Sg) (s n : Int32) : Nat × Int32 :=
  if nI (p_bD so sa cn s n) = 0 then (if p_oi (p_tl na nd (rd (p_ix s)) (p_ix n) 0 t).1 = -1 then (0, (p_tl na nd (rd (p_ix s)) (p_ix n) 0 t).2.2.2 0) else p_no 6) else p_no (p_bD so sa cn s n)
theorem fx_fr.no {m m1 : fx_M} {b : Nat} {v : Int32} (f : fx_fr 33 m m1) : fx_fr 33 (fx_sI m 50 b v) (fx_sI m1 50 b v) := by
  refine ⟨f.1, fun o ho => ?_, fun o k h => ?_⟩
  · by_cases c : o = 50
    · subst c
      funext k
      have h1 := congrFun (f.2.1 50 (by omega)) k
      simp only [fx_sI, if_true, h1]
    · rw [fx_sI_n _ _ _ c, fx_sI_n _ _ _ c, f.2.1 o ho]
  · by_cases c : o = 50
    · subst c
      have h1 := congrFun (f.2.1 50 (by omega)) k
      simp only [fx_sI, if_true, h1]
    · rw [fx_sI_n _ _ _ c, fx_sI_n _ _ _ c]
      exact f.2.2 o k h
set_option maxRecDepth 100000 in
set_option maxHeartbeats 600000 in
theorem s_X8_judge {Γ : fx_G} {m : fx_M} (hL : fx_Lay m) {cn : Nat → Nat} (hcn : ∀ k, k < 8 → m.1 (67 + 2 * k) 2 = nI (cn k) ∧ cn k ≤ 160) {na nd : Nat} (h8 : na ≤ 8) (h5 : nd ≤ 5) {A D : Nat → Nat → Int32} {c : Nat → Int32} (H : fx_HS m 1 na nd A D c) (hJ1 : fx_J 1 m) (hJ33 : fx_J 33 m) {rd : Nat → Nat → Int32} (hrd : ∀ k, k < 8 → ∀ j, j < cn k → (m.2.1 (67 + 2 * k + 1) j).toInt32 = rd k j) (s n : Int32) : fx_Ct Γ mX8_judge 4 119 119 [fx_rf Γ 0, .int s, .int n] m (fun r m' => r = some (.int (q_judge na nd (fun k => m.1 (67 + 2 * k) 1) (fun k => m.1 (67 + 2 * k) 3) cn rd (A, D, c) s n).2) ∧ fx_fr 33 (fx_no m (q_judge na nd (fun k => m.1 (67 + 2 * k) 1) (fun k => m.1 (67 + 2 * k) 3) cn rd (A, D, c) s n).1) m') := by
  refine fx_Ct.of (j := 1) (by decide) (Nat.le_of_ble_eq_true rfl) (Nat.le_of_ble_eq_true rfl) ?_
  show fx_E Γ mX8_judge 4 119 119 _ 119 m 0 [some (fx_rf Γ 0), some (.int s), some (.int n), none] []
  refine e_aload_n dX8_judge_0 rfl ?_
  refine e_iload_n dX8_judge_1 rfl ?_
  refine e_iload_n dX8_judge_2 rfl ?_
  refine e_callV1 (μ' := mX8_barToDay) (ci := 8) (As := [.int s, .int n]) dX8_judge_3 wl_X8_281 ok_X8_barToDay rfl rfl (fx_pi_lt (by decide)) (by decide) (Nat.le_of_ble_eq_true rfl) fx_n1 (s_X8_barToDay (m := m) hL hcn s n) rfl ?_
  refine e_istore_n dX8_judge_6 (by decide) rfl ?_
  refine e_iload_n dX8_judge_7 rfl ?_
  refine e_if_eq 17 dX8_judge_8 rfl (fun c_0 => ?_) (fun c_0 => ?_)
  · have hb7 := p_bD_le (fun k => m.1 (67 + 2 * k) 1) (fun k => m.1 (67 + 2 * k) 3) cn s n
    obtain ⟨k, N, hk, ek, eN, hN2, hN20⟩ := p_bD_0 (fun k hk => (hcn k hk).2) ((nI_0i (by omega)).mp c_0)
    subst ek
    subst eN
    refine e_aload_n dX8_judge_17 rfl ?_
    refine e_aload_n dX8_judge_18 rfl ?_
    refine e_getr (o2 := 49) dX8_judge_19 ff_X8_28 rfl (fx_pi_lt (by decide)) (by decide) rfl (hL _ _ _ rfl) ?_
    refine e_iload_n dX8_judge_22 rfl ?_
    refine e_aald (j := k) (o2 := 67 + 2 * k) dX8_judge_23 rfl (Or.inr (Or.inr rfl)) (fx_pi_lt (by decide)) rfl (by omega) (by decide) (fx_r49 hL (by omega)) ?_
    refine e_iload_n dX8_judge_24 rfl ?_
    refine e_callV (μ' := mX8_tellDay) (ci := 8) (As := [fx_rf Γ (67 + 2 * k), .int (nI N)]) dX8_judge_25 wl_X8_284 ok_X8_tellDay rfl rfl (fx_pi_lt (by decide)) (by decide) (Nat.le_of_ble_eq_true rfl) fx_n1 (s_X8_tellDay (m := m) hL h8 h5 H hJ1 hJ33 hk (hcn k hk) hN2 (rd := rd k) (hrd k hk)) rfl (fun r_ m_ hpost => ?_)
    revert r_ m_
    intro r_ m1 hpost
    obtain ⟨rfl, f1, H1⟩ := hpost
    have hL1 := f1.lay hL
    have hq : q_judge na nd (fun k => m.1 (67 + 2 * k) 1) (fun k => m.1 (67 + 2 * k) 3) cn rd (A, D, c) (nI k) (nI N) = (0, p_oi (p_tl na nd (rd k) N 0 (A, D, c)).1) := by unfold q_judge; (first | rw [if_pos c_0] | rw [if_neg c_0]); (try dsimp only); (try rw [p_ix_n (show N < 2 ^ 31 by omega)]); (try dsimp only); (try rw [p_ix_n (show k < 2 ^ 31 by omega)]); (try rw [p_ix_n (show N < 2 ^ 31 by omega)]); skip; (try rfl)
    exact e_iret dX8_judge_28 rfl rfl rfl ⟨by rw [hq], by rw [hq]; exact f1⟩
  · have hb7 := p_bD_le (fun k => m.1 (67 + 2 * k) 1) (fun k => m.1 (67 + 2 * k) 3) cn s n
    have hb1 : 1 ≤ p_bD (fun k => m.1 (67 + 2 * k) 1) (fun k => m.1 (67 + 2 * k) 3) cn s n := by have q : p_bD (fun k => m.1 (67 + 2 * k) 1) (fun k => m.1 (67 + 2 * k) 3) cn s n ≠ 0 := mt (nI_0i (by omega)).mpr c_0; omega
    refine e_aload_n dX8_judge_11 rfl ?_
    refine e_iload_n dX8_judge_12 rfl ?_
    refine e_callV1 (μ' := mX8_refuseApart) (ci := 8) (As := [.int (nI (p_bD (fun k => m.1 (67 + 2 * k) 1) (fun k => m.1 (67 + 2 * k) 3) cn s n))]) dX8_judge_13 wl_X8_197 ok_X8_refuseApart rfl rfl (fx_pi_lt (by decide)) (by decide) (Nat.le_of_ble_eq_true rfl) fx_n1 (s_X8_refuseApart (m := m) hL (p_bD (fun k => m.1 (67 + 2 * k) 1) (fun k => m.1 (67 + 2 * k) 3) cn s n) (by first | decide | omega) (by first | decide | omega)) rfl ?_
    have hq : q_judge na nd (fun k => m.1 (67 + 2 * k) 1) (fun k => m.1 (67 + 2 * k) 3) cn rd (A, D, c) s n = ((p_bD (fun k => m.1 (67 + 2 * k) 1) (fun k => m.1 (67 + 2 * k) 3) cn s n), -(nI (p_bD (fun k => m.1 (67 + 2 * k) 1) (fun k => m.1 (67 + 2 * k) 3) cn s n)) - 10) := by unfold q_judge; (first | rw [if_pos c_0] | rw [if_neg c_0]); (try rw [p_ix_n (show N < 2 ^ 31 by omega)]); skip; (try rfl)
    exact e_iret dX8_judge_16 rfl rfl rfl ⟨by rw [hq], by rw [hq]; simp only []; rw [fx_no_n (by first | decide | omega)]; exact fx_fr.refl _ _⟩
set_option maxRecDepth 100000 in
set_option maxHeartbeats 600000 in
theorem s_X8_behind {Γ : fx_G} {m : fx_M} (hL : fx_Lay m) {cn : Nat → Nat} (hcn : ∀ k, k < 8 → m.1 (67 + 2 * k) 2 = nI (cn k) ∧ cn k ≤ 160) {na nd : Nat} (h8 : na ≤ 8) (h5 : nd ≤ 5) {A D : Nat → Nat → Int32} {c : Nat → Int32} (H : fx_HS m 1 na nd A D c) (hJ1 : fx_J 1 m) (hJ33 : fx_J 33 m) {rd : Nat → Nat → Int32} (hrd : ∀ k, k < 8 → ∀ j, j < cn k → (m.2.1 (67 + 2 * k + 1) j).toInt32 = rd k j) (s n w : Int32) : fx_Ct Γ mX8_behind 7 119 119 [fx_rf Γ 0, .int s, .int n, .int w] m (fun r m' => r = some (.int (q_behind na nd (fun k => m.1 (67 + 2 * k) 1) (fun k => m.1 (67 + 2 * k) 3) cn rd (A, D, c) s n w).2) ∧ fx_fr 33 (fx_no m (q_behind na nd (fun k => m.1 (67 + 2 * k) 1) (fun k => m.1 (67 + 2 * k) 3) cn rd (A, D, c) s n w).1) m') := by
  refine fx_Ct.of (j := 1) (by decide) (Nat.le_of_ble_eq_true rfl) (Nat.le_of_ble_eq_true rfl) ?_
  show fx_E Γ mX8_behind 7 119 119 _ 119 m 0 [some (fx_rf Γ 0), some (.int s), some (.int n), some (.int w), none] []
  refine e_aload_n dX8_behind_0 rfl ?_
  refine e_iload_n dX8_behind_1 rfl ?_
  refine e_iload_n dX8_behind_2 rfl ?_
  refine e_callV1 (μ' := mX8_barToDay) (ci := 8) (As := [.int s, .int n]) dX8_behind_3 wl_X8_281 ok_X8_barToDay rfl rfl (fx_pi_lt (by decide)) (by decide) (Nat.le_of_ble_eq_true rfl) fx_n1 (s_X8_barToDay (m := m) hL hcn s n) rfl ?_
  refine e_istore dX8_behind_6 (by decide) rfl ?_
  refine e_iload dX8_behind_8 rfl ?_
  refine e_if_eq 19 dX8_behind_10 rfl (fun c_0 => ?_) (fun c_0 => ?_)
  · refine e_iload_n dX8_behind_19 rfl ?_
    refine e_iconst dX8_behind_20 kci_0 ?_
    refine e_iconst dX8_behind_21 kci_2 ?_
    refine e_callS1 (μ' := mX8_within) (As := [.int w, .int 0, .int 2]) dX8_behind_22 wl_X8_81 ok_X8_within (by decide) (Nat.le_of_ble_eq_true rfl) fx_n1 (s_X8_within (m := m) w 0 2) rfl ?_
    refine e_if_neB 31 dX8_behind_25 rfl (fun c_1 => ?_) (fun c_1 => ?_)
    · refine e_iload dX8_behind_31 rfl ?_
      refine e_if_ne 55 dX8_behind_33 rfl (fun h => absurd h (not_not_intro c_0)) (fun _ => ?_)
      have hb7 := p_bD_le (fun k => m.1 (67 + 2 * k) 1) (fun k => m.1 (67 + 2 * k) 3) cn s n
      obtain ⟨k, N, hk, ek, eN, hN2, hN20⟩ := p_bD_0 (fun k hk => (hcn k hk).2) ((nI_0i (by omega)).mp c_0)
      subst ek
      subst eN
      refine e_aload_n dX8_behind_36 rfl ?_
      refine e_aload_n dX8_behind_37 rfl ?_
      refine e_getr (o2 := 49) dX8_behind_38 ff_X8_28 rfl (fx_pi_lt (by decide)) (by decide) rfl (hL _ _ _ rfl) ?_
      refine e_iload_n dX8_behind_41 rfl ?_
      refine e_aald (j := k) (o2 := 67 + 2 * k) dX8_behind_42 rfl (Or.inr (Or.inr rfl)) (fx_pi_lt (by decide)) rfl (by omega) (by decide) (fx_r49 hL (by omega)) ?_
      refine e_iload_n dX8_behind_43 rfl ?_
      refine e_callV (μ' := mX8_tellDay) (ci := 8) (As := [fx_rf Γ (67 + 2 * k), .int (nI N)]) dX8_behind_44 wl_X8_284 ok_X8_tellDay rfl rfl (fx_pi_lt (by decide)) (by decide) (Nat.le_of_ble_eq_true rfl) fx_n1 (s_X8_tellDay (m := m) hL h8 h5 H hJ1 hJ33 hk (hcn k hk) hN2 (rd := rd k) (hrd k hk)) rfl (fun r_ m_ hpost => ?_)
      revert r_ m_
      intro r_ m1 hpost
      obtain ⟨rfl, f1, H1⟩ := hpost
      have hL1 := f1.lay hL
      refine e_iconst dX8_behind_47 kci_m1 ?_
      refine e_icmp_eq 55 dX8_behind_48 rfl (fun c_2 => ?_) (fun c_2 => ?_)
      · refine e_iload dX8_behind_55 rfl ?_
        refine e_if_eq 67 dX8_behind_57 rfl (fun _ => ?_) (fun h => absurd c_0 h)
        refine e_iload_n dX8_behind_67 rfl ?_
        refine e_if_ne 79 dX8_behind_68 rfl (fun c_3 => ?_) (fun c_3 => ?_)
        · refine e_iload_n dX8_behind_79 rfl ?_
          refine e_iconst dX8_behind_80 kci_1 ?_
          refine e_icmp_ne 94 dX8_behind_81 rfl (fun c_4 => ?_) (fun c_4 => ?_)
          · refine e_aload_n dX8_behind_94 rfl ?_
            refine e_getr (o2 := 33) dX8_behind_95 ff_X8_19 rfl (fx_pi_lt (by decide)) (by decide) rfl (hL1 _ _ _ rfl) ?_
            refine e_callV (μ' := mX6_dollsHerself) (ci := 6) (As := []) dX8_behind_98 wl_X8_294 ok_X6_dollsHerself rfl rfl (fx_pi_lt (by decide)) (by decide) (Nat.le_of_ble_eq_true rfl) fx_n1 (s_X6_dollsHerself (m := m1) 33 fx_s33 hL1 H1.1 h8 H1.2.1 h5) rfl (fun r_ m_ hpost => ?_)
            obtain ⟨rfl, e2⟩ := hpost
            have e2 := e2.symm
            subst e2
            rw [show p_fold (p_ct (p_her (fx_ar m1 33) (fx_dr m1 33) na)) nd 0 0 = p_hs (p_tl na nd (rd k) N 0 (A, D, c)).2.1 (p_tl na nd (rd k) N 0 (A, D, c)).2.2.1 na nd from p_hs_congr H1.2.2.1 H1.2.2.2.1]
            have hq : q_behind na nd (fun k => m.1 (67 + 2 * k) 1) (fun k => m.1 (67 + 2 * k) 3) cn rd (A, D, c) (nI k) (nI N) w = (0, p_hs (p_tl na nd (rd k) N 0 (A, D, c)).2.1 (p_tl na nd (rd k) N 0 (A, D, c)).2.2.1 na nd) := by unfold q_behind; (first | rw [if_pos c_0] | rw [if_neg c_0]); (try dsimp only); (try rw [p_ix_n (show N < 2 ^ 31 by omega)]); (try dsimp only); (try rw [p_ix_n (show k < 2 ^ 31 by omega)]); (try rw [p_ix_n (show N < 2 ^ 31 by omega)]); (try (first | rw [if_pos c_1] | rw [if_neg c_1] | rw [if_neg (Decidable.not_not.mpr c_1)])); (try (first | rw [if_pos c_2] | rw [if_neg c_2] | rw [if_neg (Decidable.not_not.mpr c_2)])); (try (first | rw [if_pos c_3] | rw [if_neg c_3] | rw [if_neg (Decidable.not_not.mpr c_3)])); (try (first | rw [if_pos c_4] | rw [if_neg c_4] | rw [if_neg (Decidable.not_not.mpr c_4)])); (try (unfold p_beh)); (try (first | rw [if_pos c_3] | rw [if_neg c_3] | rw [if_neg (Decidable.not_not.mpr c_3)])); (try (first | rw [if_pos c_4] | rw [if_neg c_4] | rw [if_neg (Decidable.not_not.mpr c_4)])); (try rfl)
            exact e_iret dX8_behind_101 rfl rfl rfl ⟨by rw [hq], by rw [hq]; exact f1⟩
          · refine e_aload_n dX8_behind_84 rfl ?_
            refine e_getr (o2 := 33) dX8_behind_85 ff_X8_19 rfl (fx_pi_lt (by decide)) (by decide) rfl (hL1 _ _ _ rfl) ?_
            refine e_callV (μ' := mX6_unlikeOfAllOn) (ci := 6) (As := []) dX8_behind_88 wl_X8_291 ok_X6_unlikeOfAllOn rfl rfl (fx_pi_lt (by decide)) (by decide) (Nat.le_of_ble_eq_true rfl) fx_n1 (s_X6_unlikeOfAllOn (m := m1) 33 fx_s33 hL1 H1.1 h8 H1.2.1 h5) rfl (fun r_ m_ hpost => ?_)
            obtain ⟨rfl, e2⟩ := hpost
            have e2 := e2.symm
            subst e2
            rw [show p_fold (p_sm (p_unl (fx_ar m1 33) (fx_dr m1 33) na)) nd 0 0 = p_ua1 (p_tl na nd (rd k) N 0 (A, D, c)).2.1 (p_tl na nd (rd k) N 0 (A, D, c)).2.2.1 na nd from p_ua1_congr H1.2.2.1 H1.2.2.2.1]
            refine e_goto 101 dX8_behind_91 rfl ?_
            have hq : q_behind na nd (fun k => m.1 (67 + 2 * k) 1) (fun k => m.1 (67 + 2 * k) 3) cn rd (A, D, c) (nI k) (nI N) w = (0, p_ua1 (p_tl na nd (rd k) N 0 (A, D, c)).2.1 (p_tl na nd (rd k) N 0 (A, D, c)).2.2.1 na nd) := by unfold q_behind; (first | rw [if_pos c_0] | rw [if_neg c_0]); (try dsimp only); (try rw [p_ix_n (show N < 2 ^ 31 by omega)]); (try dsimp only); (try rw [p_ix_n (show k < 2 ^ 31 by omega)]); (try rw [p_ix_n (show N < 2 ^ 31 by omega)]); (try (first | rw [if_pos c_1] | rw [if_neg c_1] | rw [if_neg (Decidable.not_not.mpr c_1)])); (try (first | rw [if_pos c_2] | rw [if_neg c_2] | rw [if_neg (Decidable.not_not.mpr c_2)])); (try (first | rw [if_pos c_3] | rw [if_neg c_3] | rw [if_neg (Decidable.not_not.mpr c_3)])); (try (first | rw [if_pos c_4] | rw [if_neg c_4] | rw [if_neg (Decidable.not_not.mpr c_4)])); (try (unfold p_beh)); (try (first | rw [if_pos c_3] | rw [if_neg c_3] | rw [if_neg (Decidable.not_not.mpr c_3)])); (try (first | rw [if_pos c_4] | rw [if_neg c_4] | rw [if_neg (Decidable.not_not.mpr c_4)])); (try rfl)
            exact e_iret dX8_behind_101 rfl rfl rfl ⟨by rw [hq], by rw [hq]; exact f1⟩
        · refine e_aload_n dX8_behind_71 rfl ?_
          refine e_getr (o2 := 33) dX8_behind_72 ff_X8_19 rfl (fx_pi_lt (by decide)) (by decide) rfl (hL1 _ _ _ rfl) ?_
          refine e_callV (μ' := mX6_dollsWithBoth) (ci := 6) (As := []) dX8_behind_75 wl_X8_288 ok_X6_dollsWithBoth rfl rfl (fx_pi_lt (by decide)) (by decide) (Nat.le_of_ble_eq_true rfl) fx_n1 (s_X6_dollsWithBoth (m := m1) 33 fx_s33 hL1 H1.1 h8 H1.2.1 h5) rfl (fun r_ m_ hpost => ?_)
          obtain ⟨rfl, e2⟩ := hpost
          have e2 := e2.symm
          subst e2
          rw [show p_fold (p_ct (p_both (fx_ar m1 33) na)) nd 0 0 = p_wb (p_tl na nd (rd k) N 0 (A, D, c)).2.1 na nd from p_wb_congr H1.2.2.1]
          have hq : q_behind na nd (fun k => m.1 (67 + 2 * k) 1) (fun k => m.1 (67 + 2 * k) 3) cn rd (A, D, c) (nI k) (nI N) w = (0, p_wb (p_tl na nd (rd k) N 0 (A, D, c)).2.1 na nd) := by unfold q_behind; (first | rw [if_pos c_0] | rw [if_neg c_0]); (try dsimp only); (try rw [p_ix_n (show N < 2 ^ 31 by omega)]); (try dsimp only); (try rw [p_ix_n (show k < 2 ^ 31 by omega)]); (try rw [p_ix_n (show N < 2 ^ 31 by omega)]); (try (first | rw [if_pos c_1] | rw [if_neg c_1] | rw [if_neg (Decidable.not_not.mpr c_1)])); (try (first | rw [if_pos c_2] | rw [if_neg c_2] | rw [if_neg (Decidable.not_not.mpr c_2)])); (try (first | rw [if_pos c_3] | rw [if_neg c_3] | rw [if_neg (Decidable.not_not.mpr c_3)])); (try (unfold p_beh)); (try (first | rw [if_pos c_2] | rw [if_neg c_2] | rw [if_neg (Decidable.not_not.mpr c_2)])); (try (first | rw [if_pos c_3] | rw [if_neg c_3] | rw [if_neg (Decidable.not_not.mpr c_3)])); (try rfl)
          exact e_iret dX8_behind_78 rfl rfl rfl ⟨by rw [hq], by rw [hq]; exact f1⟩
      · refine e_bipush dX8_behind_51 kcb_6 ?_
        refine e_istore dX8_behind_53 (by decide) rfl ?_
        refine e_iload dX8_behind_55 rfl ?_
        refine e_if_eq 67 dX8_behind_57 rfl (fun h => absurd h (by decide)) (fun _ => ?_)
        refine e_aload_n dX8_behind_60 rfl ?_
        refine e_iload dX8_behind_61 rfl ?_
        refine e_callV1 (μ' := mX8_refuse) (ci := 8) (As := [.int 6]) dX8_behind_63 wl_X8_77 ok_X8_refuse rfl rfl (fx_pi_lt (by decide)) (by decide) (Nat.le_of_ble_eq_true rfl) fx_n1 (s_X8_refuse (m := m1) hL1 6 (by first | decide | omega) (by first | decide | omega)) rfl ?_
        have hq : q_behind na nd (fun k => m.1 (67 + 2 * k) 1) (fun k => m.1 (67 + 2 * k) 3) cn rd (A, D, c) (nI k) (nI N) w = (6, -(nI 6)) := by unfold q_behind; (first | rw [if_pos c_0] | rw [if_neg c_0]); (try dsimp only); (try rw [p_ix_n (show N < 2 ^ 31 by omega)]); (try dsimp only); (try rw [p_ix_n (show k < 2 ^ 31 by omega)]); (try rw [p_ix_n (show N < 2 ^ 31 by omega)]); (try (first | rw [if_pos c_1] | rw [if_neg c_1] | rw [if_neg (Decidable.not_not.mpr c_1)])); (try (first | rw [if_pos c_2] | rw [if_neg c_2] | rw [if_neg (Decidable.not_not.mpr c_2)])); (try (unfold p_beh)); (try (first | rw [if_pos c_1] | rw [if_neg c_1] | rw [if_neg (Decidable.not_not.mpr c_1)])); (try (first | rw [if_pos c_2] | rw [if_neg c_2] | rw [if_neg (Decidable.not_not.mpr c_2)])); (try rfl)
        exact e_iret dX8_behind_66 rfl rfl rfl ⟨by rw [hq], by rw [hq]; simp only []; rw [fx_no_n (by decide), f1.2.1 50 (by omega)]; exact f1.no⟩
    · refine e_iconst dX8_behind_28 kci_5 ?_
      refine e_istore dX8_behind_29 (by decide) rfl ?_
      refine e_iload dX8_behind_31 rfl ?_
      refine e_if_ne 55 dX8_behind_33 rfl (fun _ => ?_) (fun h => absurd h (by decide))
      refine e_iload dX8_behind_55 rfl ?_
      refine e_if_eq 67 dX8_behind_57 rfl (fun h => absurd h (by decide)) (fun _ => ?_)
      refine e_aload_n dX8_behind_60 rfl ?_
      refine e_iload dX8_behind_61 rfl ?_
      refine e_callV1 (μ' := mX8_refuse) (ci := 8) (As := [.int 5]) dX8_behind_63 wl_X8_77 ok_X8_refuse rfl rfl (fx_pi_lt (by decide)) (by decide) (Nat.le_of_ble_eq_true rfl) fx_n1 (s_X8_refuse (m := m) hL 5 (by first | decide | omega) (by first | decide | omega)) rfl ?_
      have hq : q_behind na nd (fun k => m.1 (67 + 2 * k) 1) (fun k => m.1 (67 + 2 * k) 3) cn rd (A, D, c) s n w = (5, -(nI 5)) := by unfold q_behind; (first | rw [if_pos c_0] | rw [if_neg c_0]); (try rw [p_ix_n (show N < 2 ^ 31 by omega)]); (try (first | rw [if_pos c_1] | rw [if_neg c_1] | rw [if_neg (Decidable.not_not.mpr c_1)])); (try (unfold p_beh)); (try (first | rw [if_pos c_0] | rw [if_neg c_0] | rw [if_neg (Decidable.not_not.mpr c_0)])); (try (first | rw [if_pos c_1] | rw [if_neg c_1] | rw [if_neg (Decidable.not_not.mpr c_1)])); (try rfl)
      exact e_iret dX8_behind_66 rfl rfl rfl ⟨by rw [hq], by rw [hq]; simp only []; rw [fx_no_n (by first | decide | omega)]; exact fx_fr.refl _ _⟩
  · refine e_iload dX8_behind_13 rfl ?_
    refine e_iconst dX8_behind_15 kci_5 ?_
    refine e_icmp_le 31 dX8_behind_16 rfl (fun c_5 => ?_) (fun c_5 => ?_)
    · refine e_iload dX8_behind_31 rfl ?_
      refine e_if_ne 55 dX8_behind_33 rfl (fun _ => ?_) (fun h => absurd h c_0)
      refine e_iload dX8_behind_55 rfl ?_
      refine e_if_eq 67 dX8_behind_57 rfl (fun h => absurd h c_0) (fun _ => ?_)
      have hb7 := p_bD_le (fun k => m.1 (67 + 2 * k) 1) (fun k => m.1 (67 + 2 * k) 3) cn s n
      have hb1 : 1 ≤ p_bD (fun k => m.1 (67 + 2 * k) 1) (fun k => m.1 (67 + 2 * k) 3) cn s n := by have q : p_bD (fun k => m.1 (67 + 2 * k) 1) (fun k => m.1 (67 + 2 * k) 3) cn s n ≠ 0 := mt (nI_0i (by omega)).mpr c_0; omega
      refine e_aload_n dX8_behind_60 rfl ?_
      refine e_iload dX8_behind_61 rfl ?_
      refine e_callV1 (μ' := mX8_refuse) (ci := 8) (As := [.int (nI (p_bD (fun k => m.1 (67 + 2 * k) 1) (fun k => m.1 (67 + 2 * k) 3) cn s n))]) dX8_behind_63 wl_X8_77 ok_X8_refuse rfl rfl (fx_pi_lt (by decide)) (by decide) (Nat.le_of_ble_eq_true rfl) fx_n1 (s_X8_refuse (m := m) hL (p_bD (fun k => m.1 (67 + 2 * k) 1) (fun k => m.1 (67 + 2 * k) 3) cn s n) (by first | decide | omega) (by first | decide | omega)) rfl ?_
      have hq : q_behind na nd (fun k => m.1 (67 + 2 * k) 1) (fun k => m.1 (67 + 2 * k) 3) cn rd (A, D, c) s n w = ((p_bD (fun k => m.1 (67 + 2 * k) 1) (fun k => m.1 (67 + 2 * k) 3) cn s n), -(nI (p_bD (fun k => m.1 (67 + 2 * k) 1) (fun k => m.1 (67 + 2 * k) 3) cn s n))) := by unfold q_behind; (first | rw [if_pos c_0] | rw [if_neg c_0]); (try rw [p_ix_n (show N < 2 ^ 31 by omega)]); (try (first | rw [if_pos c_5] | rw [if_neg c_5] | rw [if_neg (Decidable.not_not.mpr c_5)])); (try (unfold p_beh)); (try (first | rw [if_pos c_0] | rw [if_neg c_0] | rw [if_neg (Decidable.not_not.mpr c_0)])); (try (first | rw [if_pos c_5] | rw [if_neg c_5] | rw [if_neg (Decidable.not_not.mpr c_5)])); (try rfl)
      exact e_iret dX8_behind_66 rfl rfl rfl ⟨by rw [hq], by rw [hq]; simp only []; rw [fx_no_n (by first | decide | omega)]; exact fx_fr.refl _ _⟩
    · refine e_iload_n dX8_behind_19 rfl ?_
      refine e_iconst dX8_behind_20 kci_0 ?_
      refine e_iconst dX8_behind_21 kci_2 ?_
      refine e_callS1 (μ' := mX8_within) (As := [.int w, .int 0, .int 2]) dX8_behind_22 wl_X8_81 ok_X8_within (by decide) (Nat.le_of_ble_eq_true rfl) fx_n1 (s_X8_within (m := m) w 0 2) rfl ?_
      refine e_if_neB 31 dX8_behind_25 rfl (fun c_6 => ?_) (fun c_6 => ?_)
      · refine e_iload dX8_behind_31 rfl ?_
        refine e_if_ne 55 dX8_behind_33 rfl (fun _ => ?_) (fun h => absurd h c_0)
        refine e_iload dX8_behind_55 rfl ?_
        refine e_if_eq 67 dX8_behind_57 rfl (fun h => absurd h c_0) (fun _ => ?_)
        have hb7 := p_bD_le (fun k => m.1 (67 + 2 * k) 1) (fun k => m.1 (67 + 2 * k) 3) cn s n
        have hb1 : 1 ≤ p_bD (fun k => m.1 (67 + 2 * k) 1) (fun k => m.1 (67 + 2 * k) 3) cn s n := by have q : p_bD (fun k => m.1 (67 + 2 * k) 1) (fun k => m.1 (67 + 2 * k) 3) cn s n ≠ 0 := mt (nI_0i (by omega)).mpr c_0; omega
        refine e_aload_n dX8_behind_60 rfl ?_
        refine e_iload dX8_behind_61 rfl ?_
        refine e_callV1 (μ' := mX8_refuse) (ci := 8) (As := [.int (nI (p_bD (fun k => m.1 (67 + 2 * k) 1) (fun k => m.1 (67 + 2 * k) 3) cn s n))]) dX8_behind_63 wl_X8_77 ok_X8_refuse rfl rfl (fx_pi_lt (by decide)) (by decide) (Nat.le_of_ble_eq_true rfl) fx_n1 (s_X8_refuse (m := m) hL (p_bD (fun k => m.1 (67 + 2 * k) 1) (fun k => m.1 (67 + 2 * k) 3) cn s n) (by first | decide | omega) (by first | decide | omega)) rfl ?_
        have hq : q_behind na nd (fun k => m.1 (67 + 2 * k) 1) (fun k => m.1 (67 + 2 * k) 3) cn rd (A, D, c) s n w = ((p_bD (fun k => m.1 (67 + 2 * k) 1) (fun k => m.1 (67 + 2 * k) 3) cn s n), -(nI (p_bD (fun k => m.1 (67 + 2 * k) 1) (fun k => m.1 (67 + 2 * k) 3) cn s n))) := by unfold q_behind; (first | rw [if_pos c_0] | rw [if_neg c_0]); (try rw [p_ix_n (show N < 2 ^ 31 by omega)]); (try (first | rw [if_pos c_5] | rw [if_neg c_5] | rw [if_neg (Decidable.not_not.mpr c_5)])); (try (first | rw [if_pos c_6] | rw [if_neg c_6] | rw [if_neg (Decidable.not_not.mpr c_6)])); (try (unfold p_beh)); (try (first | rw [if_pos c_5] | rw [if_neg c_5] | rw [if_neg (Decidable.not_not.mpr c_5)])); (try (first | rw [if_pos c_6] | rw [if_neg c_6] | rw [if_neg (Decidable.not_not.mpr c_6)])); (try rfl)
        exact e_iret dX8_behind_66 rfl rfl rfl ⟨by rw [hq], by rw [hq]; simp only []; rw [fx_no_n (by first | decide | omega)]; exact fx_fr.refl _ _⟩
      · refine e_iconst dX8_behind_28 kci_5 ?_
        refine e_istore dX8_behind_29 (by decide) rfl ?_
        refine e_iload dX8_behind_31 rfl ?_
        refine e_if_ne 55 dX8_behind_33 rfl (fun _ => ?_) (fun h => absurd h (by decide))
        refine e_iload dX8_behind_55 rfl ?_
        refine e_if_eq 67 dX8_behind_57 rfl (fun h => absurd h (by decide)) (fun _ => ?_)
        refine e_aload_n dX8_behind_60 rfl ?_
        refine e_iload dX8_behind_61 rfl ?_
        refine e_callV1 (μ' := mX8_refuse) (ci := 8) (As := [.int 5]) dX8_behind_63 wl_X8_77 ok_X8_refuse rfl rfl (fx_pi_lt (by decide)) (by decide) (Nat.le_of_ble_eq_true rfl) fx_n1 (s_X8_refuse (m := m) hL 5 (by first | decide | omega) (by first | decide | omega)) rfl ?_
        have hq : q_behind na nd (fun k => m.1 (67 + 2 * k) 1) (fun k => m.1 (67 + 2 * k) 3) cn rd (A, D, c) s n w = (5, -(nI 5)) := by unfold q_behind; (first | rw [if_pos c_0] | rw [if_neg c_0]); (try rw [p_ix_n (show N < 2 ^ 31 by omega)]); (try (first | rw [if_pos c_5] | rw [if_neg c_5] | rw [if_neg (Decidable.not_not.mpr c_5)])); (try (first | rw [if_pos c_6] | rw [if_neg c_6] | rw [if_neg (Decidable.not_not.mpr c_6)])); (try (unfold p_beh)); (try (first | rw [if_pos c_5] | rw [if_neg c_5] | rw [if_neg (Decidable.not_not.mpr c_5)])); (try (first | rw [if_pos c_6] | rw [if_neg c_6] | rw [if_neg (Decidable.not_not.mpr c_6)])); (try rfl)
        exact e_iret dX8_behind_66 rfl rfl rfl ⟨by rw [hq], by rw [hq]; simp only []; rw [fx_no_n (by first | decide | omega)]; exact fx_fr.refl _ _⟩
