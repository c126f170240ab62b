/-! the class's own methods over the parting's table -/
def p_TB (A D : Nat → Nat → Int32) (na nd t s : Nat) : Int32 := p_tb (p_wt A D na nd) (p_ab A D na nd) (p_np A na) (p_ns A na nd - t) t s
def p_B (A D : Nat → Nat → Int32) (na nd : Nat) : Int32 := p_TB A D na nd 0 (2 ^ p_np A na - 1)
def p_fil (v : Int32) : Int32 := (v + 1000 - 1) / 1000
abbrev fx_PTA (m : fx_M) (A D : Nat → Nat → Int32) (na nd : Nat) : Prop := fx_PT m (p_np A na) (p_ns A na nd) (p_pl A na) (p_sl A na nd) (p_ab A D na nd) (p_wt A D na nd)
theorem fx_PT.B {m : fx_M} {A D : Nat → Nat → Int32} {na nd : Nat} (T : fx_PTA m A D na nd) {t s : Nat} (ht : t ≤ p_ns A na nd) (hs : s < 2 ^ p_np A na) : m.1 54 (t * 256 + s) = p_TB A D na nd t s := T.2.2.2.2 t ht s hs
theorem fx_PT.B0 {m : fx_M} {A D : Nat → Nat → Int32} {na nd : Nat} (T : fx_PTA m A D na nd) {s : Nat} (hs : s < 2 ^ p_np A na) : m.1 54 s = p_TB A D na nd 0 s := by
  have h := T.B (Nat.zero_le _) hs
  rwa [Nat.zero_mul, Nat.zero_add] at h
theorem fx_PT.BB {m : fx_M} {A D : Nat → Nat → Int32} {na nd : Nat} (T : fx_PTA m A D na nd) : m.1 54 (2 ^ p_np A na - 1) = p_B A D na nd := T.B0 (by have := Nat.two_pow_pos (p_np A na); omega)
/-- the first place for slot t out of the set s -/
def p_fpl (A D : Nat → Nat → Int32) (na nd t s : Nat) : Option Nat := p_fd (fun p => (s &&& p_ab A D na nd t).testBit p = true ∧ p_wt A D na nd t p + p_TB A D na nd (t + 1) (s ^^^ 2 ^ p) = p_TB A D na nd t s) (p_np A na) 0
def p_gvn (A D : Nat → Nat → Int32) (na nd x : Nat) : Nat → Nat → Nat → Int32
  | 0, _, _ => -1
  | j + 1, t, s => if p_sl A na nd t = x then (match p_fpl A D na nd t s with | none => -1 | some p => nI (p_pl A na p)) else p_gvn A D na nd x j (t + 1) (match p_fpl A D na nd t s with | none => s | some p => s ^^^ 2 ^ p)
theorem fx_PT.fpl {m : fx_M} {A D : Nat → Nat → Int32} {na nd : Nat} (T : fx_PTA m A D na nd) {t s : Nat} (ht : t < p_ns A na nd) (hs : s < 2 ^ p_np A na) : p_fp (m.1 61) (m.1 54) (p_ab A D na nd t) (p_np A na) t s = p_fpl A D na nd t s := by
  refine p_fd_congr _ _ (fun p _ hp => ?_)
  show (_ ∧ _) ↔ _
  rw [(T.2.2.2.1 t ht).2.2.2 p (by omega), T.B (by omega) hs, T.B (t := t + 1) (by omega) (p_xor_lt hs (by omega))]
theorem fx_PT.gvn {m : fx_M} {A D : Nat → Nat → Int32} {na nd x : Nat} (h5 : nd ≤ 5) (hx : x < 2 * nd) (T : fx_PTA m A D na nd) : ∀ (j t s : Nat), t + j = p_ns A na nd → s < 2 ^ p_np A na → p_afs (m.1 61) (m.1 54) (m.1 58) (m.1 59) (p_ab A D na nd) (p_np A na) (m.1 57) (nI (x / 2)) (nI (x % 2)) j t s = p_gvn A D na nd x j t s
  | 0, _, _, _, _ => rfl
  | j + 1, t, s, h, hs => by
    have l := (T.2.2.2.1 t (by omega))
    have hsl := (p_sl_lt (show t < p_ns A na nd by omega)).1
    rw [p_afs, p_gvn, T.fpl (by omega) hs, l.1, l.2.1]
    have e : (nI (p_sl A na nd t / 2) = nI (x / 2) ∧ nI (p_sl A na nd t % 2) = nI (x % 2)) ↔ p_sl A na nd t = x := by
      rw [nI_eq (by omega) (by omega), nI_eq (by omega) (by omega)]
      omega
    by_cases c : p_sl A na nd t = x
    · rw [if_pos (e.mpr c), if_pos c]
      cases hp : p_fpl A D na nd t s with
      | none => rfl
      | some p => exact T.2.2.1 p (by have := (p_fd_some hp).2.1; omega)
    · rw [if_neg (mt e.mp c), if_neg c]
      cases hp : p_fpl A D na nd t s with
      | none => exact T.gvn h5 hx j (t + 1) _ (by omega) hs
      | some p => exact T.gvn h5 hx j (t + 1) _ (by omega) (p_xor_lt hs (by have := (p_fd_some hp).2.1; omega))
def p_dst (A D : Nat → Nat → Int32) (na nd : Nat) : Int32 := match p_fold (p_bst (fun _ => True) (fun p => p_TB A D na nd 0 ((2 ^ p_np A na - 1) ^^^ 2 ^ p))) (p_np A na) 0 none with | none => -1 | some p => nI (p_pl A na p)
theorem fx_PT.dst {m : fx_M} {A D : Nat → Nat → Int32} {na nd : Nat} (T : fx_PTA m A D na nd) : p_oa (m.1 57) (p_fold (p_bst (fun _ => True) (fun p => m.1 54 ((2 ^ p_np A na - 1) ^^^ 2 ^ p))) (p_np A na) 0 none) = p_dst A D na nd := by
  have h20 := Nat.two_pow_pos (p_np A na)
  rw [p_dst, p_bs_congr (f := fun p => m.1 54 ((2 ^ p_np A na - 1) ^^^ 2 ^ p)) (g := fun p => p_TB A D na nd 0 ((2 ^ p_np A na - 1) ^^^ 2 ^ p)) (fun p hp _ => T.B0 (p_xor_lt (by omega) hp))]
  cases hp : p_fold (p_bst (fun _ => True) (fun p => p_TB A D na nd 0 ((2 ^ p_np A na - 1) ^^^ 2 ^ p))) (p_np A na) 0 none with
  | none => rfl
  | some p => exact T.2.2.1 p (by rcases p_bs_lt_ hp with h | h; cases h; omega)
def p_woT (A D : Nat → Nat → Int32) (na nd t : Nat) : Int32 := p_mx (fun s => p_ahs (p_wt A D na nd) (p_ab A D na nd) (p_np A na) t s + p_TB A D na nd (t + 1) ((2 ^ p_np A na - 1) ^^^ s)) (2 ^ p_np A na) 0
def p_cst (A D : Nat → Nat → Int32) (na nd : Nat) : Int32 := p_ca D (fun t => p_sl A na nd t / 2) (fun t => nI (p_sl A na nd t % 2)) (p_woT A D na nd) (p_ns A na nd) (p_B A D na nd)
theorem p_ahs_congr {wt wt' : Nat → Nat → Int32} {ab : Nat → Nat} {np : Nat} : ∀ (t s : Nat), (∀ u, u < t → ∀ p, p < np → wt u p = wt' u p) → p_ahs wt ab np t s = p_ahs wt' ab np t s
  | 0, _, _ => rfl
  | t + 1, s, h => by
    show p_bw _ _ _ _ _ _ = p_bw _ _ _ _ _ _
    exact p_bw_congr (fun x _ => p_ahs_congr t _ (fun u hu => h u (by omega))) (h t (by omega))
theorem p_mx_congr {f g : Nat → Int32} : ∀ (j : Nat) (z : Int32), (∀ s, s < j → f s = g s) → p_mx f j z = p_mx g j z
  | 0, _, _ => rfl
  | j + 1, z, h => by
    show p_mx f j _ = p_mx g j _
    rw [h j (by omega)]
    exact p_mx_congr j _ (fun s hs => h s (by omega))
theorem fx_PT.wo {m : fx_M} {A D : Nat → Nat → Int32} {na nd t : Nat} (T : fx_PTA m A D na nd) (ht : t < p_ns A na nd) : p_wo (fun t p => m.1 61 (t * 8 + p)) (p_ab A D na nd) (p_np A na) (m.1 54) t = p_woT A D na nd t := by
  refine p_mx_congr _ _ (fun s hs => ?_)
  show p_ahs _ _ _ _ _ + _ = _
  rw [T.B (t := t + 1) (by omega) (Nat.xor_lt_two_pow (by have := Nat.two_pow_pos (p_np A na); omega) hs), p_ahs_congr t s (fun u hu p hp => (T.2.2.2.1 u (by omega)).2.2.2 p hp)]
theorem p_caV_congr {D D' : Nat → Nat → Int32} {dl : Nat → Nat} {sd sd' Wo Wo' : Nat → Int32} {ns : Nat} {b : Int32} {c : Nat} (h : ∀ t, t < ns → D (dl t) = D' (dl t) ∧ sd t = sd' t ∧ Wo t = Wo' t) : p_caV D dl sd Wo ns b c = p_caV D' dl sd' Wo' ns b c :=
  p_fold_congr ns 0 b (fun t z _ ht => by
    have h1 := h t (by omega)
    rw [p_bwa1, p_bwa1, h1.1, h1.2.1, h1.2.2])
theorem p_ca_congr {D D' : Nat → Nat → Int32} {dl : Nat → Nat} {sd sd' Wo Wo' : Nat → Int32} {ns : Nat} {b : Int32} (h : ∀ t, t < ns → D (dl t) = D' (dl t) ∧ sd t = sd' t ∧ Wo t = Wo' t) : p_ca D dl sd Wo ns b = p_ca D' dl sd' Wo' ns b := by
  unfold p_ca
  rw [p_fold_congr (g := p_ca1 (p_caV D' dl sd' Wo' ns b)) 200 0 _ (fun c z _ _ => by simp only [p_ca1, p_caV_congr h])]
theorem fx_memo.cg {m m' : fx_M} (h : ∀ o, o = 53 ∨ o = 54 ∨ o = 60 ∨ o = 61 → m'.1 o = m.1 o) (H : fx_memo m) : fx_memo m' := by
  obtain ⟨np, ns, ab, g8, g10, g9, gs, ga, gt⟩ := H
  refine ⟨np, ns, ab, g8, g10, by rw [h 53 (by omega)]; exact g9, by rw [h 53 (by omega)]; exact gs, fun t ht => by rw [h 60 (by omega)]; exact ga t ht, fun t ht s hs => ?_⟩
  rw [h 54 (by omega), h 61 (by omega)]
  exact gt t ht s hs
theorem fx_memo.no {m : fx_M} {b : Nat} (H : fx_memo m) : fx_memo (fx_no m b) := by
  by_cases c : b = 0
  · rw [c]; exact H
  · rw [fx_no_n c]; exact H.cg (fun o ho => fx_sI_n _ _ _ (by omega))
def q_whole (A D : Nat → Nat → Int32) (na nd : Nat) (w : Int32) : Nat × Int32 := if ¬ p_in w 0 1 then p_no 5 else if w = 0 then (0, p_fil (p_B A D na nd)) else (0, 1000 * p_fil (p_B A D na nd) - p_B A D na nd)
def q_given (A D : Nat → Nat → Int32) (na nd : Nat) (i : Int32) : Nat × Int32 := if i < 0 then p_no10 5 else if ¬ i < 2 * nI nd then p_no10 5 else (0, p_gvn A D na nd (p_ix i) (p_ns A na nd) 0 (2 ^ p_np A na - 1))
def q_dearest (A D : Nat → Nat → Int32) (na nd : Nat) (w : Int32) : Nat × Int32 := if ¬ p_in w 0 1 then p_no10 5 else if w = 1 then (0, p_swap (fun x y => p_gain (A x) (A y) D) na) else (0, p_dst A D na nd)
set_option maxRecDepth 100000 in
set_option maxHeartbeats 600000 in
theorem s_X8_whole {Γ : fx_G} {m : fx_M} (hL : fx_Lay m) {na : Nat} (hna : m.1 1 2 = nI na) (h8 : na ≤ 8) {nd : Nat} (hnd : m.1 1 3 = nI nd) (h5 : nd ≤ 5) (hM : fx_memo m) (w : Int32) : fx_Ct Γ mX8_whole 7 119 119 [fx_rf Γ 0, .int w] m (fun r m' => r = some (.int (q_whole (fx_ar m 1) (fx_dr m 1) na nd w).2) ∧ fx_oP (fun o => o = 53 ∨ o = 54 ∨ o = 55 ∨ o = 56 ∨ o = 57 ∨ o = 58 ∨ o = 59 ∨ o = 60 ∨ o = 61 ∨ o = 62) (fx_no m (q_whole (fx_ar m 1) (fx_dr m 1) na nd w).1) m' ∧ fx_memo m') := by
  refine fx_Ct.of (j := 0) (by decide) (Nat.le_of_ble_eq_true rfl) (Nat.le_of_ble_eq_true rfl) ?_
  show fx_E Γ mX8_whole 7 119 119 _ 119 m 0 [some (fx_rf Γ 0), some (.int w)] []
  refine e_iload_n dX8_whole_0 rfl ?_
  refine e_iconst dX8_whole_1 kci_0 ?_
  refine e_iconst dX8_whole_2 kci_1 ?_
  refine e_callS1 (μ' := mX8_within) (As := [.int w, .int 0, .int 1]) dX8_whole_3 wl_X8_81 ok_X8_within (by decide) (Nat.le_of_ble_eq_true rfl) fx_n1 (s_X8_within (m := m) w 0 1) rfl ?_
  refine e_if_neB 15 dX8_whole_6 rfl (fun c_1 => ?_) (fun c_1 => ?_)
  · refine e_aload_n dX8_whole_15 rfl ?_
    refine e_getr (o2 := 53) dX8_whole_16 ff_X8_39 rfl (fx_pi_lt (by decide)) (by decide) rfl (hL _ _ _ rfl) ?_
    refine e_aload_n dX8_whole_19 rfl ?_
    refine e_getr (o2 := 1) dX8_whole_20 ff_X8_10 rfl (fx_pi_lt (by decide)) (by decide) rfl (hL _ _ _ rfl) ?_
    refine e_callV (μ' := mX3_weigh) (ci := 3) (As := [fx_rf Γ 1]) dX8_whole_23 wl_X8_228 ok_X3_weigh rfl rfl (fx_pi_lt (by decide)) (by decide) (Nat.le_of_ble_eq_true rfl) fx_n1 (s_X3_weigh (m := m) 1 fx_s1 hL hna h8 hnd h5 (A := fx_ar m 1) (D := fx_dr m 1) (fun _ _ => rfl) (fun _ _ => rfl) hM) rfl (fun r_ m_ hpost => ?_)
    revert m_
    intro m1 hpost
    obtain ⟨rfl, o1, T1, M1⟩ := hpost
    have hL1 := o1.lay hL
    have l8 := p_np_le (fx_ar m 1) na
    have l10 := p_ns_le (fx_ar m 1) na nd
    have h20 := Nat.two_pow_pos (p_np (fx_ar m 1) na)
    have O1 : fx_oP (fun o => o = 53 ∨ o = 54 ∨ o = 55 ∨ o = 56 ∨ o = 57 ∨ o = 58 ∨ o = 59 ∨ o = 60 ∨ o = 61 ∨ o = 62) m m1 := ⟨o1.1, fun o ho => o1.2 o (fun h => ho (by omega))⟩
    refine e_iload_n dX8_whole_26 rfl ?_
    refine e_if_ne 40 dX8_whole_27 rfl (fun c_2 => ?_) (fun c_2 => ?_)
    · refine e_aload_n dX8_whole_40 rfl ?_
      refine e_getr (o2 := 53) dX8_whole_41 ff_X8_39 rfl (fx_pi_lt (by decide)) (by decide) rfl (hL1 _ _ _ rfl) ?_
      refine e_callV (μ' := mX3_unlikeness) (ci := 3) (As := []) dX8_whole_44 wl_X8_235 ok_X3_unlikeness rfl rfl (fx_pi_lt (by decide)) (by decide) (Nat.le_of_ble_eq_true rfl) fx_n1 (s_X3_unlikeness (m := m1) hL1 T1.1 (by omega)) rfl (fun r_ m_ hpost => ?_)
      obtain ⟨rfl, e2⟩ := hpost
      have e2 := e2.symm
      subst e2
      rw [T1.BB, show (p_B (fx_ar m 1) (fx_dr m 1) na nd + 1000 - 1) / 1000 = p_fil (p_B (fx_ar m 1) (fx_dr m 1) na nd) from rfl]
      have hq : q_whole (fx_ar m 1) (fx_dr m 1) na nd w = (0, 1000 * p_fil (p_B (fx_ar m 1) (fx_dr m 1) na nd) - p_B (fx_ar m 1) (fx_dr m 1) na nd) := by unfold q_whole; (try dsimp only); (try (first | rw [if_pos c_1] | rw [if_neg c_1] | rw [if_neg (Decidable.not_not.mpr c_1)])); (try (first | rw [if_pos c_2] | rw [if_neg c_2] | rw [if_neg (Decidable.not_not.mpr c_2)])); (try rfl)
      exact e_iret dX8_whole_47 rfl rfl rfl ⟨by rw [hq], by rw [hq]; exact O1, M1⟩
    · refine e_aload_n dX8_whole_30 rfl ?_
      refine e_getr (o2 := 53) dX8_whole_31 ff_X8_39 rfl (fx_pi_lt (by decide)) (by decide) rfl (hL1 _ _ _ rfl) ?_
      refine e_callV (μ' := mX3_filled) (ci := 3) (As := []) dX8_whole_34 wl_X8_231 ok_X3_filled rfl rfl (fx_pi_lt (by decide)) (by decide) (Nat.le_of_ble_eq_true rfl) fx_n1 (s_X3_filled (m := m1) hL1 T1.1 (by omega)) rfl (fun r_ m_ hpost => ?_)
      obtain ⟨rfl, e2⟩ := hpost
      have e2 := e2.symm
      subst e2
      rw [T1.BB, show (p_B (fx_ar m 1) (fx_dr m 1) na nd + 1000 - 1) / 1000 = p_fil (p_B (fx_ar m 1) (fx_dr m 1) na nd) from rfl]
      refine e_goto 47 dX8_whole_37 rfl ?_
      have hq : q_whole (fx_ar m 1) (fx_dr m 1) na nd w = (0, p_fil (p_B (fx_ar m 1) (fx_dr m 1) na nd)) := by unfold q_whole; (try dsimp only); (try (first | rw [if_pos c_1] | rw [if_neg c_1] | rw [if_neg (Decidable.not_not.mpr c_1)])); (try (first | rw [if_pos c_2] | rw [if_neg c_2] | rw [if_neg (Decidable.not_not.mpr c_2)])); (try rfl)
      exact e_iret dX8_whole_47 rfl rfl rfl ⟨by rw [hq], by rw [hq]; exact O1, M1⟩
  · refine e_aload_n dX8_whole_9 rfl ?_
    refine e_iconst dX8_whole_10 kci_5 ?_
    refine e_callV1 (μ' := mX8_refuse) (ci := 8) (As := [.int 5]) dX8_whole_11 wl_X8_77 ok_X8_refuse rfl rfl (fx_pi_lt (by decide)) (by decide) (Nat.le_of_ble_eq_true rfl) fx_n1 (s_X8_refuse (m := m) hL 5 (by first | decide | omega) (by first | decide | omega)) rfl ?_
    have hq : q_whole (fx_ar m 1) (fx_dr m 1) na nd w = (5, -(nI 5)) := by unfold q_whole; (try dsimp only); (try (first | rw [if_pos c_1] | rw [if_neg c_1] | rw [if_neg (Decidable.not_not.mpr c_1)])); (try rfl)
    exact e_iret dX8_whole_14 rfl rfl rfl ⟨by rw [hq], by rw [hq, fx_no_n (show 5 ≠ 0 by decide)]; exact fx_oP.refl _ _, by first | exact (hM.no (b := 5)) | exact hM.cg (fun o ho => fx_sI_n _ _ _ (by omega))⟩
set_option maxRecDepth 100000 in
set_option maxHeartbeats 600000 in
theorem s_X8_given {Γ : fx_G} {m : fx_M} (hL : fx_Lay m) {na : Nat} (hna : m.1 1 2 = nI na) (h8 : na ≤ 8) {nd : Nat} (hnd : m.1 1 3 = nI nd) (h5 : nd ≤ 5) (hM : fx_memo m) (i : Int32) : fx_Ct Γ mX8_given 7 119 119 [fx_rf Γ 0, .int i] m (fun r m' => r = some (.int (q_given (fx_ar m 1) (fx_dr m 1) na nd i).2) ∧ fx_oP (fun o => o = 53 ∨ o = 54 ∨ o = 55 ∨ o = 56 ∨ o = 57 ∨ o = 58 ∨ o = 59 ∨ o = 60 ∨ o = 61 ∨ o = 62) (fx_no m (q_given (fx_ar m 1) (fx_dr m 1) na nd i).1) m' ∧ fx_memo m') := by
  refine fx_Ct.of (j := 0) (by decide) (Nat.le_of_ble_eq_true rfl) (Nat.le_of_ble_eq_true rfl) ?_
  show fx_E Γ mX8_given 7 119 119 _ 119 m 0 [some (fx_rf Γ 0), some (.int i)] []
  refine e_iload_n dX8_given_0 rfl ?_
  refine e_if_lt 17 dX8_given_1 rfl (fun c_1 => ?_) (fun c_1 => ?_)
  · refine e_aload_n dX8_given_17 rfl ?_
    refine e_iconst dX8_given_18 kci_5 ?_
    refine e_callV1 (μ' := mX8_refuseApart) (ci := 8) (As := [.int 5]) dX8_given_19 wl_X8_197 ok_X8_refuseApart rfl rfl (fx_pi_lt (by decide)) (by decide) (Nat.le_of_ble_eq_true rfl) fx_n1 (s_X8_refuseApart (m := m) hL 5 (by first | decide | omega) (by first | decide | omega)) rfl ?_
    have hq : q_given (fx_ar m 1) (fx_dr m 1) na nd i = (5, -(nI 5) - 10) := by unfold q_given; (try dsimp only); (try (first | rw [if_pos c_1] | rw [if_neg c_1] | rw [if_neg (Decidable.not_not.mpr c_1)])); (try rfl)
    exact e_iret dX8_given_22 rfl rfl rfl ⟨by rw [hq], by rw [hq, fx_no_n (show 5 ≠ 0 by decide)]; exact fx_oP.refl _ _, by first | exact (hM.no (b := 5)) | exact hM.cg (fun o ho => fx_sI_n _ _ _ (by omega))⟩
  · refine e_iload_n dX8_given_4 rfl ?_
    refine e_iconst dX8_given_5 kci_2 ?_
    refine e_aload_n dX8_given_6 rfl ?_
    refine e_getr (o2 := 1) dX8_given_7 ff_X8_10 rfl (fx_pi_lt (by decide)) (by decide) rfl (hL _ _ _ rfl) ?_
    refine e_getv (v := nI nd) dX8_given_10 ff_X8_238 rfl (fx_pi_lt (by decide)) (by decide) rfl hnd ?_
    refine e_imul dX8_given_13 ?_
    refine e_icmp_lt 23 dX8_given_14 rfl (fun c_2 => ?_) (fun c_2 => ?_)
    · obtain ⟨x, hx, ex⟩ := p_el_ex (c := 2 * nd) ⟨Int32.not_lt.mp c_1, by rw [← i_mulc]; exact c_2⟩ (by omega)
      subst ex
      refine e_aload_n dX8_given_23 rfl ?_
      refine e_getr (o2 := 53) dX8_given_24 ff_X8_39 rfl (fx_pi_lt (by decide)) (by decide) rfl (hL _ _ _ rfl) ?_
      refine e_aload_n dX8_given_27 rfl ?_
      refine e_getr (o2 := 1) dX8_given_28 ff_X8_10 rfl (fx_pi_lt (by decide)) (by decide) rfl (hL _ _ _ rfl) ?_
      refine e_callV (μ' := mX3_weigh) (ci := 3) (As := [fx_rf Γ 1]) dX8_given_31 wl_X8_228 ok_X3_weigh rfl rfl (fx_pi_lt (by decide)) (by decide) (Nat.le_of_ble_eq_true rfl) fx_n1 (s_X3_weigh (m := m) 1 fx_s1 hL hna h8 hnd h5 (A := fx_ar m 1) (D := fx_dr m 1) (fun _ _ => rfl) (fun _ _ => rfl) hM) rfl (fun r_ m_ hpost => ?_)
      revert m_
      intro m1 hpost
      obtain ⟨rfl, o1, T1, M1⟩ := hpost
      have hL1 := o1.lay hL
      have l8 := p_np_le (fx_ar m 1) na
      have l10 := p_ns_le (fx_ar m 1) na nd
      have h20 := Nat.two_pow_pos (p_np (fx_ar m 1) na)
      have O1 : fx_oP (fun o => o = 53 ∨ o = 54 ∨ o = 55 ∨ o = 56 ∨ o = 57 ∨ o = 58 ∨ o = 59 ∨ o = 60 ∨ o = 61 ∨ o = 62) m m1 := ⟨o1.1, fun o ho => o1.2 o (fun h => ho (by omega))⟩
      refine e_aload_n dX8_given_34 rfl ?_
      refine e_getr (o2 := 53) dX8_given_35 ff_X8_39 rfl (fx_pi_lt (by decide)) (by decide) rfl (hL1 _ _ _ rfl) ?_
      refine e_iload_n dX8_given_38 rfl ?_
      refine e_iconst dX8_given_39 kci_2 ?_
      refine e_idiv dX8_given_40 (by decide) ?_
      rw [show nI x / 2 = nI (x / 2) from pk_div (d := 2) (by omega) (by decide) (by decide)]
      refine e_iload_n dX8_given_41 rfl ?_
      refine e_iconst dX8_given_42 kci_2 ?_
      refine e_irem dX8_given_43 (by decide) ?_
      rw [show nI x - nI x / 2 * 2 = nI (x % 2) from pk_rem (d := 2) (by omega) (by decide) (by decide)]
      refine e_callV (μ' := mX3_armForSide) (ci := 3) (As := [.int (nI (x / 2)), .int (nI (x % 2))]) dX8_given_44 wl_X8_241 ok_X3_armForSide rfl rfl (fx_pi_lt (by decide)) (by decide) (Nat.le_of_ble_eq_true rfl) fx_n1 (s_X3_armForSide (m := m1) hL1 T1.1 (by omega) (ns := p_ns (fx_ar m 1) na nd) T1.2.1 (by omega) (ab := p_ab (fx_ar m 1) (fx_dr m 1) na nd) (fun t ht => ⟨(T1.2.2.2.1 t ht).2.2.1, p_ab_lt h8⟩) (nI (x / 2)) (nI (x % 2))) rfl (fun r_ m_ hpost => ?_)
      obtain ⟨rfl, e2⟩ := hpost
      have e2 := e2.symm
      subst e2
      rw [T1.gvn h5 hx _ _ _ (by omega) (by omega)]
      have hq : q_given (fx_ar m 1) (fx_dr m 1) na nd (nI x) = (0, p_gvn (fx_ar m 1) (fx_dr m 1) na nd x (p_ns (fx_ar m 1) na nd) 0 (2 ^ p_np (fx_ar m 1) na - 1)) := by unfold q_given; (try dsimp only); (try dsimp only); (try rw [p_ix_n (show x < 2 ^ 31 by omega)]); (try (first | rw [if_pos c_1] | rw [if_neg c_1] | rw [if_neg (Decidable.not_not.mpr c_1)])); (try (first | rw [if_pos c_2] | rw [if_neg c_2] | rw [if_neg (Decidable.not_not.mpr c_2)])); (try rfl)
      exact e_iret dX8_given_47 rfl rfl rfl ⟨by rw [hq], by rw [hq]; exact O1, M1⟩
    · refine e_aload_n dX8_given_17 rfl ?_
      refine e_iconst dX8_given_18 kci_5 ?_
      refine e_callV1 (μ' := mX8_refuseApart) (ci := 8) (As := [.int 5]) dX8_given_19 wl_X8_197 ok_X8_refuseApart rfl rfl (fx_pi_lt (by decide)) (by decide) (Nat.le_of_ble_eq_true rfl) fx_n1 (s_X8_refuseApart (m := m) hL 5 (by first | decide | omega) (by first | decide | omega)) rfl ?_
      have hq : q_given (fx_ar m 1) (fx_dr m 1) na nd i = (5, -(nI 5) - 10) := by unfold q_given; (try dsimp only); (try (first | rw [if_pos c_1] | rw [if_neg c_1] | rw [if_neg (Decidable.not_not.mpr c_1)])); (try (first | rw [if_pos c_2] | rw [if_neg c_2] | rw [if_neg (Decidable.not_not.mpr c_2)])); (try rfl)
      exact e_iret dX8_given_22 rfl rfl rfl ⟨by rw [hq], by rw [hq, fx_no_n (show 5 ≠ 0 by decide)]; exact fx_oP.refl _ _, by first | exact (hM.no (b := 5)) | exact hM.cg (fun o ho => fx_sI_n _ _ _ (by omega))⟩
set_option maxRecDepth 100000 in
set_option maxHeartbeats 600000 in
theorem s_X8_dearest {Γ : fx_G} {m : fx_M} (hL : fx_Lay m) {na : Nat} (hna : m.1 1 2 = nI na) (h8 : na ≤ 8) {nd : Nat} (hnd : m.1 1 3 = nI nd) (h5 : nd ≤ 5) (hM : fx_memo m) (hsp : ∀ x, x < na → p_spot nd (m.1 (1 + 3 + x) 6)) (w : Int32) : fx_Ct Γ mX8_dearest 7 119 119 [fx_rf Γ 0, .int w] m (fun r m' => r = some (.int (q_dearest (fx_ar m 1) (fx_dr m 1) na nd w).2) ∧ fx_oP (fun o => o = 53 ∨ o = 54 ∨ o = 55 ∨ o = 56 ∨ o = 57 ∨ o = 58 ∨ o = 59 ∨ o = 60 ∨ o = 61 ∨ o = 62) (fx_no m (q_dearest (fx_ar m 1) (fx_dr m 1) na nd w).1) m' ∧ fx_memo m') := by
  refine fx_Ct.of (j := 0) (by decide) (Nat.le_of_ble_eq_true rfl) (Nat.le_of_ble_eq_true rfl) ?_
  show fx_E Γ mX8_dearest 7 119 119 _ 119 m 0 [some (fx_rf Γ 0), some (.int w)] []
  refine e_iload_n dX8_dearest_0 rfl ?_
  refine e_iconst dX8_dearest_1 kci_0 ?_
  refine e_iconst dX8_dearest_2 kci_1 ?_
  refine e_callS1 (μ' := mX8_within) (As := [.int w, .int 0, .int 1]) dX8_dearest_3 wl_X8_81 ok_X8_within (by decide) (Nat.le_of_ble_eq_true rfl) fx_n1 (s_X8_within (m := m) w 0 1) rfl ?_
  refine e_if_neB 15 dX8_dearest_6 rfl (fun c_1 => ?_) (fun c_1 => ?_)
  · refine e_iload_n dX8_dearest_15 rfl ?_
    refine e_iconst dX8_dearest_16 kci_1 ?_
    refine e_icmp_ne 28 dX8_dearest_17 rfl (fun c_2 => ?_) (fun c_2 => ?_)
    · refine e_aload_n dX8_dearest_28 rfl ?_
      refine e_getr (o2 := 53) dX8_dearest_29 ff_X8_39 rfl (fx_pi_lt (by decide)) (by decide) rfl (hL _ _ _ rfl) ?_
      refine e_aload_n dX8_dearest_32 rfl ?_
      refine e_getr (o2 := 1) dX8_dearest_33 ff_X8_10 rfl (fx_pi_lt (by decide)) (by decide) rfl (hL _ _ _ rfl) ?_
      refine e_callV (μ' := mX3_weigh) (ci := 3) (As := [fx_rf Γ 1]) dX8_dearest_36 wl_X8_228 ok_X3_weigh rfl rfl (fx_pi_lt (by decide)) (by decide) (Nat.le_of_ble_eq_true rfl) fx_n1 (s_X3_weigh (m := m) 1 fx_s1 hL hna h8 hnd h5 (A := fx_ar m 1) (D := fx_dr m 1) (fun _ _ => rfl) (fun _ _ => rfl) hM) rfl (fun r_ m_ hpost => ?_)
      revert m_
      intro m1 hpost
      obtain ⟨rfl, o1, T1, M1⟩ := hpost
      have hL1 := o1.lay hL
      have l8 := p_np_le (fx_ar m 1) na
      have l10 := p_ns_le (fx_ar m 1) na nd
      have h20 := Nat.two_pow_pos (p_np (fx_ar m 1) na)
      have O1 : fx_oP (fun o => o = 53 ∨ o = 54 ∨ o = 55 ∨ o = 56 ∨ o = 57 ∨ o = 58 ∨ o = 59 ∨ o = 60 ∨ o = 61 ∨ o = 62) m m1 := ⟨o1.1, fun o ho => o1.2 o (fun h => ho (by omega))⟩
      refine e_aload_n dX8_dearest_39 rfl ?_
      refine e_getr (o2 := 53) dX8_dearest_40 ff_X8_39 rfl (fx_pi_lt (by decide)) (by decide) rfl (hL1 _ _ _ rfl) ?_
      refine e_callV (μ' := mX3_mostMissed) (ci := 3) (As := []) dX8_dearest_43 wl_X8_278 ok_X3_mostMissed rfl rfl (fx_pi_lt (by decide)) (by decide) (Nat.le_of_ble_eq_true rfl) fx_n1 (s_X3_mostMissed (m := m1) hL1 T1.1 (by omega) (fun p hp => by rw [T1.2.2.1 p hp]; exact fun h => absurd (h ▸ nI_pos' (show p_pl (fx_ar m 1) na p < 2 ^ 31 by have := (p_pl_lt hp).1; omega)) (by decide))) rfl (fun r_ m_ hpost => ?_)
      obtain ⟨rfl, e2⟩ := hpost
      have e2 := e2.symm
      subst e2
      rw [T1.dst]
      have hq : q_dearest (fx_ar m 1) (fx_dr m 1) na nd w = (0, p_dst (fx_ar m 1) (fx_dr m 1) na nd) := by unfold q_dearest; (try dsimp only); (try (first | rw [if_pos c_1] | rw [if_neg c_1] | rw [if_neg (Decidable.not_not.mpr c_1)])); (try (first | rw [if_pos c_2] | rw [if_neg c_2] | rw [if_neg (Decidable.not_not.mpr c_2)])); (try rfl)
      exact e_iret dX8_dearest_46 rfl rfl rfl ⟨by rw [hq], by rw [hq]; exact O1, M1⟩
    · refine e_aload_n dX8_dearest_20 rfl ?_
      refine e_getr (o2 := 1) dX8_dearest_21 ff_X8_10 rfl (fx_pi_lt (by decide)) (by decide) rfl (hL _ _ _ rfl) ?_
      refine e_callV1 (μ' := mX6_bestSwap) (ci := 6) (As := []) dX8_dearest_24 wl_X8_275 ok_X6_bestSwap rfl rfl (fx_pi_lt (by decide)) (by decide) (Nat.le_of_ble_eq_true rfl) fx_n1 (s_X6_bestSwap (m := m) 1 fx_s1 hL hna h8 hnd h5 hsp) rfl ?_
      have hq : q_dearest (fx_ar m 1) (fx_dr m 1) na nd w = (0, p_swap (fun x y => p_gain (fx_ar m 1 x) (fx_ar m 1 y) (fx_dr m 1)) na) := by unfold q_dearest; (try dsimp only); (try (first | rw [if_pos c_1] | rw [if_neg c_1] | rw [if_neg (Decidable.not_not.mpr c_1)])); (try (first | rw [if_pos c_2] | rw [if_neg c_2] | rw [if_neg (Decidable.not_not.mpr c_2)])); (try rfl)
      exact e_iret dX8_dearest_27 rfl rfl rfl ⟨by rw [hq], by rw [hq]; exact fx_oP.refl _ m, hM⟩
  · refine e_aload_n dX8_dearest_9 rfl ?_
    refine e_iconst dX8_dearest_10 kci_5 ?_
    refine e_callV1 (μ' := mX8_refuseApart) (ci := 8) (As := [.int 5]) dX8_dearest_11 wl_X8_197 ok_X8_refuseApart rfl rfl (fx_pi_lt (by decide)) (by decide) (Nat.le_of_ble_eq_true rfl) fx_n1 (s_X8_refuseApart (m := m) hL 5 (by first | decide | omega) (by first | decide | omega)) rfl ?_
    have hq : q_dearest (fx_ar m 1) (fx_dr m 1) na nd w = (5, -(nI 5) - 10) := by unfold q_dearest; (try dsimp only); (try (first | rw [if_pos c_1] | rw [if_neg c_1] | rw [if_neg (Decidable.not_not.mpr c_1)])); (try rfl)
    exact e_iret dX8_dearest_14 rfl rfl rfl ⟨by rw [hq], by rw [hq, fx_no_n (show 5 ≠ 0 by decide)]; exact fx_oP.refl _ _, by first | exact (hM.no (b := 5)) | exact hM.cg (fun o ho => fx_sI_n _ _ _ (by omega))⟩
set_option maxRecDepth 100000 in
set_option maxHeartbeats 600000 in
theorem s_X8_cast {Γ : fx_G} {m : fx_M} (hL : fx_Lay m) {na : Nat} (hna : m.1 1 2 = nI na) (h8 : na ≤ 8) {nd : Nat} (hnd : m.1 1 3 = nI nd) (h5 : nd ≤ 5) (hM : fx_memo m) : fx_Ct Γ mX8_cast 8 119 119 [fx_rf Γ 0] m (fun r m' => r = some (.int (p_cst (fx_ar m 1) (fx_dr m 1) na nd)) ∧ fx_oP (fun o => o = 53 ∨ o = 54 ∨ o = 55 ∨ o = 56 ∨ o = 57 ∨ o = 58 ∨ o = 59 ∨ o = 60 ∨ o = 61 ∨ o = 62) m m' ∧ fx_memo m') := by
  refine fx_Ct.of (j := 0) (by decide) (Nat.le_of_ble_eq_true rfl) (Nat.le_of_ble_eq_true rfl) ?_
  show fx_E Γ mX8_cast 8 119 119 _ 119 m 0 [some (fx_rf Γ 0)] []
  refine e_aload_n dX8_cast_0 rfl ?_
  refine e_getr (o2 := 53) dX8_cast_1 ff_X8_39 rfl (fx_pi_lt (by decide)) (by decide) rfl (hL _ _ _ rfl) ?_
  refine e_aload_n dX8_cast_4 rfl ?_
  refine e_getr (o2 := 1) dX8_cast_5 ff_X8_10 rfl (fx_pi_lt (by decide)) (by decide) rfl (hL _ _ _ rfl) ?_
  refine e_callV (μ' := mX3_weigh) (ci := 3) (As := [fx_rf Γ 1]) dX8_cast_8 wl_X8_228 ok_X3_weigh rfl rfl (fx_pi_lt (by decide)) (by decide) (Nat.le_of_ble_eq_true rfl) fx_n1 (s_X3_weigh (m := m) 1 fx_s1 hL hna h8 hnd h5 (A := fx_ar m 1) (D := fx_dr m 1) (fun _ _ => rfl) (fun _ _ => rfl) hM) rfl (fun r_ m_ hpost => ?_)
  revert m_
  intro m1 hpost
  obtain ⟨rfl, o1, T1, M1⟩ := hpost
  have hL1 := o1.lay hL
  have l8 := p_np_le (fx_ar m 1) na
  have l10 := p_ns_le (fx_ar m 1) na nd
  have h20 := Nat.two_pow_pos (p_np (fx_ar m 1) na)
  have O1 : fx_oP (fun o => o = 53 ∨ o = 54 ∨ o = 55 ∨ o = 56 ∨ o = 57 ∨ o = 58 ∨ o = 59 ∨ o = 60 ∨ o = 61 ∨ o = 62) m m1 := ⟨o1.1, fun o ho => o1.2 o (fun h => ho (by omega))⟩
  refine e_aload_n dX8_cast_11 rfl ?_
  refine e_getr (o2 := 53) dX8_cast_12 ff_X8_39 rfl (fx_pi_lt (by decide)) (by decide) rfl (hL1 _ _ _ rfl) ?_
  refine e_aload_n dX8_cast_15 rfl ?_
  refine e_getr (o2 := 1) dX8_cast_16 ff_X8_10 rfl (fx_pi_lt (by decide)) (by decide) rfl (hL1 _ _ _ rfl) ?_
  refine e_callV (μ' := mX3_castAnew) (ci := 3) (As := [fx_rf Γ 1]) dX8_cast_19 wl_X8_244 ok_X3_castAnew rfl rfl (fx_pi_lt (by decide)) (by decide) (Nat.le_of_ble_eq_true rfl) fx_n1 (s_X3_castAnew (m := m1) hL1 T1.1 (by omega) (ns := p_ns (fx_ar m 1) na nd) T1.2.1 (by omega) (ab := p_ab (fx_ar m 1) (fx_dr m 1) na nd) (fun t ht => ⟨(T1.2.2.2.1 t ht).2.2.1, p_ab_lt h8⟩) 1 fx_s1 (dl := fun t => p_sl (fx_ar m 1) na nd t / 2) (fun t ht => ⟨(T1.2.2.2.1 t ht).1, by have := (p_sl_lt ht).1; omega⟩)) rfl (fun r_ m_ hpost => ?_)
  revert r_ m_
  intro r_ m2 hpost
  obtain ⟨rfl, o2⟩ := hpost
  rw [T1.BB, p_ca_congr (D' := fx_dr m 1) (sd' := fun t => nI (p_sl (fx_ar m 1) na nd t % 2)) (Wo' := p_woT (fx_ar m 1) (fx_dr m 1) na nd) (fun t ht => ⟨o1.2 _ (by have := (p_sl_lt ht).1; omega), (T1.2.2.2.1 t ht).2.1, T1.wo ht⟩)]
  exact e_iret dX8_cast_22 rfl rfl rfl ⟨rfl, O1.trans ⟨o2.1, fun o ho => o2.2 o (fun h => ho (by omega))⟩, M1.cg (fun o ho => o2.2 o (by omega))⟩
