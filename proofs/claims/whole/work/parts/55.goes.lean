theorem p_neg10 {v : Int32} (h : v < 0) : ¬ (0 ≤ v / 10 ∧ 0 ≤ p_sd v) := by
  rintro ⟨h1, h2⟩
  have r := fb_rng v
  have hv := Int32.lt_iff_toInt_lt.mp h
  rw [show (0 : Int32).toInt = 0 from rfl] at hv
  have e : (v / 10).toInt = -((-v.toInt) / 10) := by
    rw [Int32.toInt_div_of_ne_right _ _ (by decide), show (10 : Int32).toInt = 10 from rfl, show v.toInt = -(-v.toInt) by omega, Int.neg_tdiv, Int.tdiv_eq_ediv_of_nonneg (by omega)]
    omega
  have g1 := Int32.le_iff_toInt_le.mp h1
  rw [e, show (0 : Int32).toInt = 0 from rfl] at g1
  have z : v / 10 = 0 := Int32.toInt_inj.mp (by rw [e]; show _ = (0 : Int); omega)
  unfold p_sd at h2
  rw [z, show (0 : Int32) * 10 = 0 from rfl, Int32.sub_zero] at h2
  exact absurd h (Int32.not_lt.mpr h2)
theorem p_okT_neg {na nd : Nat} {t : p_Sg} {x v : Int32} (h : v < 0) : ¬ p_okT na nd t x v := fun q => p_neg10 h ⟨q.2.1.1, q.2.2.1.1⟩
theorem p_bD_of {so sa : Nat → Int32} {cn : Nat → Nat} {s n : Int32} {b : Nat} (hb : p_bR so sa s = b) (h0 : b ≠ 0) (h7 : b ≤ 7) : p_bD so sa cn s n = b := by
  unfold p_bD
  rw [hb, if_neg (fun q => h0 ((nI_0i (by omega)).mp q))]
theorem p_bD_4 {so sa : Nat → Int32} {cn : Nat → Nat} {s n : Int32} (hb : p_bR so sa s = 0) : p_bD so sa cn s n = if ¬ 0 ≤ n then 4 else if ¬ n ≤ nI (cn (p_ix s)) / 2 then 5 else if n ≤ 20 then 0 else 6 := by
  unfold p_bD
  rw [hb, if_pos (show nI 0 = 0 from rfl)]
theorem p_neg0 {b : Nat} (h : b ≤ 7) : -(nI b) = 0 ↔ b = 0 := by
  constructor
  · intro e
    have q : nI b = 0 := by have := congrArg (fun z => -z) e; simpa using this
    exact (nI_0i (by omega)).mp q
  · rintro rfl
    rfl
set_option maxRecDepth 100000 in
set_option maxHeartbeats 600000 in
theorem s_X9_barsOf {Γ : fx_G} {m : fx_M} (hL : fx_Lay m) {na : Nat} {u : p_Sh} (HS : fx_MSh m na u) (s n : Int32) : fx_Ct Γ mX9_barsOf 2 119 119 [fx_rf Γ 83, .int s, .int n] m (fx_is (some (.int (-(nI (p_bD u.1 u.2.1 u.2.2.1 s n))))) m) := by
  refine fx_Ct.of (j := 1) (by decide) (Nat.le_of_ble_eq_true rfl) (Nat.le_of_ble_eq_true rfl) ?_
  show fx_E Γ mX9_barsOf 2 119 119 _ 119 m 0 [some (fx_rf Γ 83), some (.int s), some (.int n), none] []
  refine e_aload_n dX9_barsOf_0 rfl ?_
  refine e_iload_n dX9_barsOf_1 rfl ?_
  refine e_callV1 (μ' := mX9_wanted) (ci := 9) (As := [.int s]) dX9_barsOf_2 wl_X9_244 ok_X9_wanted rfl rfl (fx_pi_lt (by decide)) (by decide) (Nat.le_of_ble_eq_true rfl) fx_n1 (s_X9_wanted (m := m) hL HS s) rfl ?_
  refine e_istore_n dX9_barsOf_5 (by decide) rfl ?_
  refine e_iload_n dX9_barsOf_6 rfl ?_
  refine e_if_eq 14 dX9_barsOf_7 rfl (fun c_0 => ?_) (fun c_0 => ?_)
  · have hb0 := (p_neg0 (p_bR_le u.1 u.2.1 s)).mp c_0
    obtain ⟨hs7, hsa, hso⟩ := p_bR_0 hb0
    obtain ⟨k, hk, ek⟩ := p_in_ex7 hs7
    subst ek
    rw [p_ix_n (show k < 2 ^ 31 by omega)] at hso
    have sok := hso
    refine e_iload_n dX9_barsOf_14 rfl ?_
    refine e_if_ge 23 dX9_barsOf_15 rfl (fun c_n => ?_) (fun c_n => ?_)
    · refine e_iload_n dX9_barsOf_23 rfl ?_
      refine e_aload_n dX9_barsOf_24 rfl ?_
      refine e_getr (o2 := 102) dX9_barsOf_25 ff_X9_71 rfl (fx_pi_lt (by decide)) (by decide) rfl (hL _ _ _ rfl) ?_
      refine e_iload_n dX9_barsOf_28 rfl ?_
      refine e_ialdv (j := k) (v := nI (u.2.2.1 k)) dX9_barsOf_29 rfl (fx_pi_lt (by decide)) rfl (by omega) (by decide) ((HS k (by omega)).2.1 sok).2.2.2.1 ?_
      refine e_iconst dX9_barsOf_30 kci_2 ?_
      refine e_idiv dX9_barsOf_31 (by decide) ?_
      refine e_icmp_le 40 dX9_barsOf_32 rfl (fun c_5 => ?_) (fun c_5 => ?_)
      · refine e_iload_n dX9_barsOf_40 rfl ?_
        refine e_bipush dX9_barsOf_41 kcb_20 ?_
        refine e_icmp_le 51 dX9_barsOf_43 rfl (fun c_6 => ?_) (fun c_6 => ?_)
        · refine e_iconst dX9_barsOf_51 kci_0 ?_
          have hD : p_bD u.1 u.2.1 u.2.2.1 (nI k) n = 0 := by rw [p_bD_4 hb0, if_neg (Decidable.not_not.mpr c_n), p_ix_n (show k < 2 ^ 31 by omega), if_neg (Decidable.not_not.mpr c_5), if_pos c_6]
          exact e_iret dX9_barsOf_52 rfl rfl rfl ⟨by rw [hD]; rfl, rfl⟩
        · refine e_bipush dX9_barsOf_46 kcb_m6 ?_
          refine e_goto 52 dX9_barsOf_48 rfl ?_
          have hD : p_bD u.1 u.2.1 u.2.2.1 (nI k) n = 6 := by rw [p_bD_4 hb0, if_neg (Decidable.not_not.mpr c_n), p_ix_n (show k < 2 ^ 31 by omega), if_neg (Decidable.not_not.mpr c_5), if_neg c_6]
          exact e_iret dX9_barsOf_52 rfl rfl rfl ⟨by rw [hD]; rfl, rfl⟩
      · refine e_bipush dX9_barsOf_35 kcb_m5 ?_
        refine e_goto 52 dX9_barsOf_37 rfl ?_
        have hD : p_bD u.1 u.2.1 u.2.2.1 (nI k) n = 5 := by rw [p_bD_4 hb0, if_neg (Decidable.not_not.mpr c_n), p_ix_n (show k < 2 ^ 31 by omega), if_pos c_5]
        exact e_iret dX9_barsOf_52 rfl rfl rfl ⟨by rw [hD]; rfl, rfl⟩
    · refine e_bipush dX9_barsOf_18 kcb_m4 ?_
      refine e_goto 52 dX9_barsOf_20 rfl ?_
      have hD : p_bD u.1 u.2.1 u.2.2.1 (nI k) n = 4 := by rw [p_bD_4 hb0, if_pos c_n]
      exact e_iret dX9_barsOf_52 rfl rfl rfl ⟨by rw [hD]; rfl, rfl⟩
  · refine e_iload_n dX9_barsOf_10 rfl ?_
    refine e_goto 52 dX9_barsOf_11 rfl ?_
    have hD := p_bD_of (cn := u.2.2.1) (n := n) (rfl : p_bR u.1 u.2.1 s = _) (fun e => c_0 ((p_neg0 (p_bR_le _ _ _)).mpr e)) (p_bR_le _ _ _)
    exact e_iret dX9_barsOf_52 rfl rfl rfl ⟨by rw [hD], rfl⟩
def p_rdI (u : p_Sh) (k j : Nat) : Int32 := (u.2.2.2 k j).toInt32
def fx_KG (m m' : fx_M) : Prop := m'.2 = m.2 ∧ (∀ o, ¬ (o = 91 ∨ o = 83) → m'.1 o = m.1 o) ∧ ∀ j, ¬ (j = 2 ∨ j = 3) → m'.1 83 j = m.1 83 j
theorem fx_KG.refl (m : fx_M) : fx_KG m m := ⟨rfl, fun _ _ => rfl, fun _ _ => rfl⟩
theorem fx_KG.trans {a b c : fx_M} (h : fx_KG a b) (g : fx_KG b c) : fx_KG a c := ⟨g.1.trans h.1, fun o ho => (g.2.1 o ho).trans (h.2.1 o ho), fun j hj => (g.2.2 j hj).trans (h.2.2 j hj)⟩
theorem fx_KG.mend (m : fx_M) (x d : Nat) (s : Int32) : fx_KG m (fx_aM m x d s) := by
  unfold fx_aM
  refine ⟨rfl, fun o ho => ?_, fun j hj => ?_⟩
  · rw [fx_sI_n _ _ _ (by omega), fx_sI_n _ _ _ (by omega), fx_sI_n _ _ _ (by omega)]
  · rw [fx_rd2 (by omega), fx_rd2 (by omega), fx_sI_n _ _ _ (by omega)]
theorem fx_KG.lay {m m' : fx_M} (h : fx_KG m m') (hL : fx_Lay m) : fx_Lay m' := fun o k v hv => by rw [h.1]; exact hL o k v hv
theorem fx_KG.kf {m m' : fx_M} (h : fx_KG m m') : fx_KF m m' := ⟨h.1, fun o ho => h.2.1 o (by omega), fun j hj => h.2.2 j (by omega)⟩
theorem p_okT_n {na nd : Nat} {t : p_Sg} {x v : Int32} (h : ¬ p_okT na nd t x v) {rd : Nat → Int32} {j i : Nat} (hx : rd (2 * i) = x) (hv : rd (2 * i + 1) = v) : p_tl na nd rd (j + 1) i t = (some i, t) := by
  rw [p_tl, hx, hv, if_neg h]
theorem p_okT_y {na nd : Nat} {t : p_Sg} {x v : Int32} (h : p_okT na nd t x v) {rd : Nat → Int32} {j i : Nat} (hx : rd (2 * i) = x) (hv : rd (2 * i + 1) = v) : p_tl na nd rd (j + 1) i t = p_tl na nd rd j (i + 1) (p_mend t (p_ix x) (p_dd v) (p_sd v)) := by
  rw [p_tl, hx, hv, if_pos h]
theorem p_div10 (n : Nat) (h : n < 2 ^ 31) : nI n / 10 = nI (n / 10) := by rw [show (10 : Int32) = nI 10 from rfl, pk_div h (by decide) (by decide)]
theorem p_dd_n (n : Nat) (h : n < 2 ^ 31) : p_dd (nI n) = n / 10 := by rw [p_dd, p_div10 n h, nI_clamp (by omega)]
theorem p_sd_nn (n : Nat) (h : n < 2 ^ 31) : 0 ≤ p_sd (nI n) := by
  have e : p_sd (nI n) = nI (n % 10) := pk_rem h (by decide) (by decide)
  rw [e]
  exact nI_le (a := 0) (by omega) (by omega)
set_option maxRecDepth 100000 in
set_option maxHeartbeats 600000 in
theorem s_X9_goes {Γ : fx_G} {m : fx_M} (hL : fx_Lay m) {na nd : Nat} {t : p_Sg} (H : fx_MS m na nd t) {u : p_Sh} {k N : Nat} (hk : k < 8) (hN : 2 * N ≤ 160) (hr : ∀ j, j < 2 * N → (m.2.1 104 (160 * k + j)).toInt32 = p_rdI u k j) : fx_Ct Γ mX9_goes 4 119 119 [fx_rf Γ 83, .int (nI k), .int (nI N)] m (fun r m' => r = some (.int (p_oi (p_tl na nd (p_rdI u k) N 0 t).1)) ∧ fx_MS m' na nd (p_tl na nd (p_rdI u k) N 0 t).2 ∧ fx_KG m m') := by
  refine fx_Ct.of (j := 3) (by decide) (Nat.le_of_ble_eq_true rfl) (Nat.le_of_ble_eq_true rfl) ?_
  show fx_E Γ mX9_goes 4 119 119 _ 119 m 0 [some (fx_rf Γ 83), some (.int (nI k)), some (.int (nI N)), none, none, none] []
  have lp : ∀ (j : Nat) (i : Nat) (m1 : fx_M) (t : p_Sg), i + j = N → fx_MS m1 na nd t → fx_KG m m1 → fx_E Γ mX9_goes 4 119 119 (fun r m' => r = some (.int (p_oi (p_tl na nd (p_rdI u k) j i t).1)) ∧ fx_MS m' na nd (p_tl na nd (p_rdI u k) j i t).2 ∧ fx_KG m m') 119 m1 2 [some (fx_rf Γ 83), some (.int (nI k)), some (.int (nI N)), some (.int (nI i)), none, none] [] := by
    intro j
    induction j with
    | zero =>
      intro i m1 t hi H1 K1
      have hL1 := K1.lay hL
      refine e_iload_n dX9_goes_2 rfl ?_
      refine e_iload_n dX9_goes_3 rfl ?_
      refine e_icmp_ge 107 dX9_goes_4 rfl (fun _ => ?_) (fun h => absurd (nI_le (by omega) (by omega)) h)
      refine e_iconst dX9_goes_107 kci_m1 ?_
      exact e_iret dX9_goes_108 rfl rfl rfl ⟨rfl, H1, K1⟩
    | succ j ih =>
      intro i m1 t hi H1 K1
      have hL1 := K1.lay hL
      have h9 := H1.2.2.2.2.2.1
      have h5 := H1.2.2.2.2.2.2.1
      have hr1 : ∀ j, j < 2 * N → (m1.2.1 104 (160 * k + j)).toInt32 = p_rdI u k j := fun j hj => by rw [K1.1]; exact hr j hj
      obtain ⟨x, hx⟩ : ∃ x, p_rdI u k (2 * i) = x := ⟨_, rfl⟩
      obtain ⟨v, hv⟩ : ∃ v, p_rdI u k (2 * i + 1) = v := ⟨_, rfl⟩
      refine e_iload_n dX9_goes_2 rfl ?_
      refine e_iload_n dX9_goes_3 rfl ?_
      refine e_icmp_ge 107 dX9_goes_4 rfl (fun h => absurd h (nI_ge (by omega) (by omega))) (fun _ => ?_)
      refine e_aload_n dX9_goes_7 rfl ?_
      refine e_iload_n dX9_goes_8 rfl ?_
      refine e_iconst dX9_goes_9 kci_2 ?_
      refine e_iload_n dX9_goes_10 rfl ?_
      refine e_imul dX9_goes_11 ?_
      rw [show (2 : Int32) * nI i = nI (2 * i) from i_mulc 2 i]
      refine e_callV (μ' := mX9_intAt) (ci := 9) (As := [.int (nI k), .int (nI (2 * i))]) dX9_goes_12 wl_X9_277 ok_X9_intAt rfl rfl (fx_pi_lt (by decide)) (by decide) (Nat.le_of_ble_eq_true rfl) fx_n1 (s_X9_intAt (m := m1) hL1 (k := k) (y := 2 * i) hk (by omega)) rfl (fun r_ m_ hpost => ?_)
      obtain ⟨rfl, e2⟩ := hpost
      have e2 := e2.symm
      subst e2
      rw [hr1 (2 * i) (by omega), hx]
      refine e_istore dX9_goes_15 (by decide) rfl ?_
      refine e_aload_n dX9_goes_17 rfl ?_
      refine e_iload_n dX9_goes_18 rfl ?_
      refine e_iconst dX9_goes_19 kci_2 ?_
      refine e_iload_n dX9_goes_20 rfl ?_
      refine e_imul dX9_goes_21 ?_
      refine e_iconst dX9_goes_22 kci_1 ?_
      refine e_iadd dX9_goes_23 ?_
      rw [show (2 : Int32) * nI i = nI (2 * i) from i_mulc 2 i, nI_1]
      refine e_callV (μ' := mX9_intAt) (ci := 9) (As := [.int (nI k), .int (nI (2 * i + 1))]) dX9_goes_24 wl_X9_277 ok_X9_intAt rfl rfl (fx_pi_lt (by decide)) (by decide) (Nat.le_of_ble_eq_true rfl) fx_n1 (s_X9_intAt (m := m1) hL1 (k := k) (y := 2 * i + 1) hk (by omega)) rfl (fun r_ m_ hpost => ?_)
      obtain ⟨rfl, e2⟩ := hpost
      have e2 := e2.symm
      subst e2
      rw [hr1 (2 * i + 1) (by omega), hv]
      refine e_istore dX9_goes_27 (by decide) rfl ?_
      refine e_aload_n dX9_goes_29 rfl ?_
      refine e_iload dX9_goes_30 rfl ?_
      refine e_callV1 (μ' := mX9_isArm) (ci := 9) (As := [.int x]) dX9_goes_32 wl_X9_140 ok_X9_isArm rfl rfl (fx_pi_lt (by decide)) (by decide) (Nat.le_of_ble_eq_true rfl) fx_n1 (s_X9_isArm (m := m1) hL1 H1 x) rfl ?_
      refine e_if_eqB 83 dX9_goes_35 rfl (fun c_x => ?_) (fun c_x => ?_)
      · refine e_iload_n dX9_goes_83 rfl ?_
        have hno : ¬ p_okT na nd t x v := fun q => c_x q.1
        have e := p_okT_n hno (rd := p_rdI u k) (j := j) (i := i) hx hv
        exact e_iret dX9_goes_84 rfl rfl rfl ⟨by rw [e]; rfl, by rw [e]; exact H1, K1⟩
      · refine e_iload dX9_goes_38 rfl ?_
        refine e_if_lt 83 dX9_goes_40 rfl (fun c_v => ?_) (fun c_v => ?_)
        · refine e_iload_n dX9_goes_83 rfl ?_
          have hno : ¬ p_okT na nd t x v := p_okT_neg c_v
          have e := p_okT_n hno (rd := p_rdI u k) (j := j) (i := i) hx hv
          exact e_iret dX9_goes_84 rfl rfl rfl ⟨by rw [e]; rfl, by rw [e]; exact H1, K1⟩
        · obtain ⟨n, hn, en⟩ := nI_of (Int32.not_lt.mpr (Int32.not_lt.mp c_v))
          subst en
          refine e_iload dX9_goes_43 rfl ?_
          refine e_bipush dX9_goes_45 kcb_10 ?_
          refine e_idiv dX9_goes_47 (by decide) ?_
          rw [p_div10 n hn]
          refine e_aload_n dX9_goes_48 rfl ?_
          refine e_getv (v := nI nd) dX9_goes_49 ff_X9_129 rfl (fx_pi_lt (by decide)) (by decide) rfl H1.2.1 ?_
          refine e_icmp_ge 83 dX9_goes_52 rfl (fun c_d => ?_) (fun c_d => ?_)
          · refine e_iload_n dX9_goes_83 rfl ?_
            have hno : ¬ p_okT na nd t x (nI n) := fun q => absurd q.2.1.2 (by rw [p_div10 n hn]; exact Int32.not_lt.mpr c_d)
            have e := p_okT_n hno (rd := p_rdI u k) (j := j) (i := i) hx hv
            exact e_iret dX9_goes_84 rfl rfl rfl ⟨by rw [e]; rfl, by rw [e]; exact H1, K1⟩
          · refine e_iload dX9_goes_55 rfl ?_
            refine e_bipush dX9_goes_57 kcb_10 ?_
            refine e_irem dX9_goes_59 (by decide) ?_
            refine e_iconst dX9_goes_60 kci_1 ?_
            refine e_icmp_gt 83 dX9_goes_61 rfl (fun c_s => ?_) (fun c_s => ?_)
            · refine e_iload_n dX9_goes_83 rfl ?_
              have hno : ¬ p_okT na nd t x (nI n) := fun q => absurd q.2.2.1.2 (Int32.not_le.mpr c_s)
              have e := p_okT_n hno (rd := p_rdI u k) (j := j) (i := i) hx hv
              exact e_iret dX9_goes_84 rfl rfl rfl ⟨by rw [e]; rfl, by rw [e]; exact H1, K1⟩
            · obtain ⟨y, hy, ey⟩ := p_el_ex c_x (by omega)
              subst ey
              have hd : n / 10 < nd := by have h1 := (nI_ltI (a := n / 10) (b := nd) (by omega) (by omega)).mp (Int32.not_le.mp c_d); exact h1
              refine e_aload_n dX9_goes_64 rfl ?_
              refine e_iload dX9_goes_65 rfl ?_
              refine e_iload dX9_goes_67 rfl ?_
              refine e_bipush dX9_goes_69 kcb_10 ?_
              refine e_idiv dX9_goes_71 (by decide) ?_
              rw [p_div10 n hn]
              refine e_iload dX9_goes_72 rfl ?_
              refine e_bipush dX9_goes_74 kcb_10 ?_
              refine e_irem dX9_goes_76 (by decide) ?_
              refine e_callV1 (μ' := mX9_isMend) (ci := 9) (As := [.int (nI y), .int (nI (n / 10)), .int ((nI n) - (nI n) / 10 * 10)]) dX9_goes_77 wl_X9_286 ok_X9_isMend rfl rfl (fx_pi_lt (by decide)) (by decide) (Nat.le_of_ble_eq_true rfl) fx_n1 (s_X9_isMend (m := m1) hL1 H1 (x := y) hy (d := n / 10) hd (p_sd (nI n))) rfl ?_
              refine e_if_neB 85 dX9_goes_80 rfl (fun c_c => ?_) (fun c_c => ?_)
              · refine e_aload_n dX9_goes_85 rfl ?_
                refine e_iload dX9_goes_86 rfl ?_
                refine e_iload dX9_goes_88 rfl ?_
                refine e_bipush dX9_goes_90 kcb_10 ?_
                refine e_idiv dX9_goes_92 (by decide) ?_
                rw [p_div10 n hn]
                refine e_iload dX9_goes_93 rfl ?_
                refine e_bipush dX9_goes_95 kcb_10 ?_
                refine e_irem dX9_goes_97 (by decide) ?_
                refine e_callV1 (μ' := mX9_mends) (ci := 9) (As := [.int (nI y), .int (nI (n / 10)), .int ((nI n) - (nI n) / 10 * 10)]) dX9_goes_98 wl_X9_289 ok_X9_mends rfl rfl (fx_pi_lt (by decide)) (by decide) (Nat.le_of_ble_eq_true rfl) fx_n1 (s_X9_mends (m := m1) hL1 H1 (x := y) hy (d := n / 10) hd (p_sd (nI n))) rfl ?_
                refine e_iinc (v := nI (i + 1)) dX9_goes_101 rfl (fx_inc _) (by decide) rfl ?_
                refine e_goto 2 dX9_goes_104 rfl ?_
                have hok : p_okT na nd t (nI y) (nI n) := ⟨c_x, by rw [p_div10 n hn]; exact ⟨nI_le (a := 0) (by omega) (by omega), Int32.not_le.mp c_d⟩, ⟨(p_sd_nn n hn), Int32.not_lt.mp c_s⟩, by rw [p_ix_n (show y < 2 ^ 31 by omega), p_dd_n n hn]; exact c_c⟩
                have e := p_okT_y hok (rd := p_rdI u k) (j := j) (i := i) hx hv
                rw [p_ix_n (show y < 2 ^ 31 by omega), p_dd_n n hn] at e
                rw [e]
                have HM := H1.mend (s := p_sd (nI n)) hy hd
                refine e_weak (lv2 := [some (fx_rf Γ 83), some (.int (nI k)), some (.int (nI N)), some (.int (nI (i + 1))), none, none]) ⟨rfl, rfl, rfl, rfl, trivial⟩ ?_
                exact ih (i + 1) _ _ (by omega) HM.1 (K1.trans (fx_KG.mend _ _ _ _))
              · refine e_iload_n dX9_goes_83 rfl ?_
                have hno : ¬ p_okT na nd t (nI y) (nI n) := fun q => c_c (by have g := q.2.2.2; rw [p_ix_n (show y < 2 ^ 31 by omega), p_dd_n n hn] at g; exact g)
                have e := p_okT_n hno (rd := p_rdI u k) (j := j) (i := i) hx hv
                exact e_iret dX9_goes_84 rfl rfl rfl ⟨by rw [e]; rfl, by rw [e]; exact H1, K1⟩
  refine e_iconst dX9_goes_0 kci_0 ?_
  refine e_istore_n dX9_goes_1 (by decide) rfl ?_
  exact lp N 0 m t (by omega) H (fx_KG.refl m)
