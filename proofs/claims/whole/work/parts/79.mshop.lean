theorem p_armI_8 {tx : Nat → Int32} {n w p na nd : Nat} {t : p_Sg} (h : na ≤ 8) : (p_armI tx n w p na nd t).2.2.1 ≤ 8 := by
  unfold p_armI
  split
  · exact h
  · split
    · exact h
    · show na + 1 ≤ 8
      omega
theorem p_it_8 {tx : Nat → Int32} {n p na nd : Nat} {t : p_Sg} (h : na ≤ 8) : (p_it tx n p na nd t).2.2.1 ≤ 8 := by
  unfold p_it
  repeat' split
  all_goals first | exact h | exact p_armI_8 h | (unfold p_dollI; repeat' split) | (unfold p_lieI; repeat' split) | (unfold p_offI; repeat' split) | (unfold p_onI; repeat' split)
  all_goals exact h
def fx_Kp (m m' : fx_M) : Prop := m'.2 = m.2 ∧ (∀ o, (o < 83 ∨ o = 84 ∨ (100 ≤ o ∧ o ≤ 103) ∨ (106 ≤ o ∧ o ≤ 109) ∨ o = 112 ∨ o = 118) → m'.1 o = m.1 o) ∧ ∀ j, (j = 44 ∨ j = 49 ∨ j = 50) → m'.1 83 j = m.1 83 j
def fx_K0 (m m' : fx_M) : Prop := m'.2 = m.2 ∧ (∀ o, o ≠ 83 → m'.1 o = m.1 o) ∧ ∀ j, ¬ (j = 6 ∨ (34 ≤ j ∧ j ≤ 36)) → m'.1 83 j = m.1 83 j
theorem fx_K0.refl (m : fx_M) : fx_K0 m m := ⟨rfl, fun _ _ => rfl, fun _ _ => rfl⟩
theorem fx_K0.sI {m m' : fx_M} {k : Nat} {v : Int32} (h : fx_K0 m m') (hk : k = 6 ∨ (34 ≤ k ∧ k ≤ 36)) : fx_K0 m (fx_sI m' 83 k v) := ⟨h.1, fun o ho => by rw [fx_sI_n _ _ _ ho]; exact h.2.1 o ho, fun j hj => by rw [fx_rd2 (by rintro rfl; exact hj hk)]; exact h.2.2 j hj⟩
theorem fx_Kp.ok {m m1 m2 m4 : fx_M} (V : fx_sv m m1 111 102) (I : fx_K0 m1 m2) (K : fx_KT m2 m4) : fx_Kp m m4 := by
  refine ⟨K.1.trans (I.1.trans V.2.1), fun o ho => ?_, fun j hj => ?_⟩
  · rw [K.2.1 o (by omega), I.2.1 o (by omega), V.2.2 o (by omega)]
  · rw [K.2.2 j (by omega), I.2.2 j (by omega), V.2.2 83 (by decide)]
theorem fx_Kp.fail {m m1 m2 m4 m5 : fx_M} {v : Int32} (V : fx_sv m m1 111 102) (I : fx_K0 m1 m2) (K : fx_KT m2 m4) (U : fx_ld m4 m5 111 102) : fx_Kp (fx_mno m 6) (fx_sI (fx_sI m5 83 6 v) 84 6 ((fx_sI m5 83 6 v).1 84 6 + 1)) := by
  have e : fx_mno m 6 = fx_sI m 84 6 (m.1 84 6 + 1) := fx_mno_n (by decide)
  rw [e]
  have h : ∀ o, o ≠ 83 → (o < 83 ∨ o = 84 ∨ (100 ≤ o ∧ o ≤ 103) ∨ (106 ≤ o ∧ o ≤ 109) ∨ o = 112 ∨ o = 118) → m5.1 o = m.1 o := fun o h0 ho => funext fun i => by
    rw [U.2.2 o i (p_ob_na h0 (by omega)), K.2.1 o (by omega), I.2.1 o h0, V.2.2 o (by omega)]
  refine ⟨(U.2.1.trans (K.1.trans (I.1.trans V.2.1)) : m5.2 = m.2), fun o ho => ?_, fun j hj => ?_⟩
  · by_cases c : o = 84
    · subst c
      rw [fx_sI_o, fx_sI_o, fx_sI_n _ _ _ (by decide), h 84 (by decide) (by omega)]
    · by_cases d : o = 83
      · omega
      · rw [fx_sI_n _ _ _ c, fx_sI_n _ _ _ d, fx_sI_n _ _ _ c, h o d ho]
  · rw [fx_sI_n _ _ _ (by decide), fx_rd2 (by omega), fx_sI_n _ _ _ (by decide), U.2.2 83 j (p_ob_n6 (by omega)), K.2.2 j (by omega), I.2.2 j (by omega), V.2.2 83 (by decide)]
def p_rS (tx : Nat → Int32) (n j it na nd : Nat) (t : p_Sg) (res : p_IR) : p_IR := match res with
  | (some g, _) => (some g, it, na, nd, t)
  | (none, p', na', nd', t') => if p' = n then (none, it, na', nd', t') else match p_spI tx n [59] 1 0 p' with
    | some g => (some g, it, na', nd', t')
    | none => p_rA tx n j (it + 1) (p' + 1) na' nd' t'
theorem p_rS_f {tx : Nat → Int32} {n j it na nd f : Nat} {t : p_Sg} {res : p_IR} (h : res.1 = some f) : (p_rS tx n j it na nd t res).1 = some f := by
  obtain ⟨o, p2, na3, nd3, t3⟩ := res
  have e : o = some f := h
  subst e
  rfl
theorem p_rS_n {tx : Nat → Int32} {n j it na nd na3 nd3 : Nat} {t t3 : p_Sg} : p_rS tx n j it na nd t (none, n, na3, nd3, t3) = (none, it, na3, nd3, t3) := if_pos rfl
theorem p_rS_b {tx : Nat → Int32} {n j it na nd p2 na3 nd3 : Nat} {t t3 : p_Sg} (h : ¬ p2 = n) (hb : ¬ p_tc tx n p2 = 59) : (p_rS tx n j it na nd t (none, p2, na3, nd3, t3)).1 = some p2 := by
  unfold p_rS
  simp only []
  rw [if_neg h, show p_spI tx n [59] 1 0 p2 = some p2 from p_spI_n (w := [59]) (i := 0) hb]
theorem p_rS_s {tx : Nat → Int32} {n j it na nd p2 na3 nd3 : Nat} {t t3 : p_Sg} (h : ¬ p2 = n) (hb : p_tc tx n p2 = 59) : p_rS tx n j it na nd t (none, p2, na3, nd3, t3) = p_rA tx n j (it + 1) (p2 + 1) na3 nd3 t3 := by
  unfold p_rS
  simp only []
  rw [if_neg h, show p_spI tx n [59] 1 0 p2 = none from p_spI_y (w := [59]) (i := 0) hb rfl]
def fx_SR (m : fx_M) (na nd : Nat) (t : p_Sg) (RES : p_IR) (r : Option Value) (m' : fx_M) : Prop :=
  (∀ f, RES.1 = some f → r = some (.int (-6)) ∧ m'.1 83 6 = nI f ∧ fx_MS m' na nd t ∧ fx_Kp (fx_mno m 6) m') ∧ (RES.1 = none → r = some (.int (nI RES.2.1)) ∧ m'.1 83 6 = -1 ∧ fx_MS m' RES.2.2.1 RES.2.2.2.1 RES.2.2.2.2 ∧ fx_Kp m m')
theorem fx_SR_n0 {m m' : fx_M} {na nd f : Nat} {t : p_Sg} {RES : p_IR} (h : RES.1 = some f) (h6 : m'.1 83 6 = nI f) (H : fx_MS m' na nd t) (K : fx_Kp (fx_mno m 6) m') : fx_SR m na nd t RES (some (.int (-6))) m' := ⟨fun g hg => by rw [h] at hg; cases hg; exact ⟨rfl, h6, H, K⟩, fun hg => (by rw [h] at hg; cases hg)⟩
theorem fx_SR_y0 {m m' : fx_M} {na nd it na' nd' : Nat} {t t' : p_Sg} {RES : p_IR} (h : RES = (none, it, na', nd', t')) (h6 : m'.1 83 6 = -1) (H : fx_MS m' na' nd' t') (K : fx_Kp m m') : fx_SR m na nd t RES (some (.int (nI it))) m' := by
  subst h
  exact ⟨fun g hg => (by cases hg), fun _ => ⟨rfl, h6, H, K⟩⟩
set_option maxRecDepth 100000 in
set_option maxHeartbeats 600000 in
theorem s_X9_shopL {Γ : fx_G} {m m1 m2 : fx_M} {na nd : Nat} {t : p_Sg} {k n : Nat} {tx : Nat → Int32} (hL2 : fx_Lay m2) (V1 : fx_sv m m1 111 102) (I1 : fx_img m1 111 na nd t) (K0 : fx_K0 m1 m2) (W2 : fx_WC m2) (h6m : m2.1 83 6 = -1) : ∀ (j it p na2 nd2 : Nat) (t2 : p_Sg) (res : p_IR) (m4 : fx_M), it + j + 1 = 161 → (n - p) / 2 + 1 ≤ j + 1 → res = p_it tx n p na2 nd2 t2 → na2 ≤ 8 → fx_KT m2 m4 → (∀ f, res.1 = some f → m4.1 83 38 = nI f) → (res.1 = none → fx_MS m4 res.2.2.1 res.2.2.2.1 res.2.2.2.2 ∧ fx_MR m4 k n tx res.2.1) → fx_E Γ mX9_shop 5 119 119 (fx_SR m na nd t (p_rA tx n (j + 1) it p na2 nd2 t2)) 119 m4 62 [some (fx_rf Γ 83), some (.int (nI k)), none, some (.int (nI it)), some (.int (if res.1 = none then 1 else 0))] [] := by
  intro j
  induction j with
  | zero =>
    intro it p na2 nd2 t2 res m4 hij hfu hres h82 K4 hf hok
    have hL4 := K4.lay hL2
    have I4 : fx_img m4 111 na nd t := I1.cg ((K4.2.1 111 (by decide)).trans (K0.2.1 111 (by decide)))
    have hra : p_rA tx n (0 + 1) it p na2 nd2 t2 = p_rS tx n 0 it na2 nd2 t2 res := by rw [hres]; rfl
    have h83 : res.2.2.1 ≤ 8 := by rw [hres]; exact p_it_8 h82
    have hadv : res.1 = none → p < res.2.1 := fun h => by rw [hres] at h ⊢; exact p_it_adv h
    refine e_iload dX9_shop_62 rfl ?_
    refine e_if_eqB 133 dX9_shop_64 rfl (fun c_g => ?_) (fun c_g => ?_)
    · refine e_iload dX9_shop_133 rfl ?_
      refine e_if_eqB 140 dX9_shop_135 rfl (fun _ => ?_) (fun h => absurd h c_g)
      refine e_aload_n dX9_shop_140 rfl ?_
      refine e_aload_n dX9_shop_141 rfl ?_
      refine e_getr (o2 := 111) dX9_shop_142 ff_X9_99 rfl (fx_pi_lt (by decide)) (by decide) rfl (hL4 _ _ _ rfl) ?_
      refine e_iconst dX9_shop_145 kci_1 ?_
      refine e_callV (μ' := mX9_all) (ci := 9) (As := [fx_rf Γ 111, .int 1]) dX9_shop_146 wl_X9_247 ok_X9_all rfl rfl (fx_pi_lt (by decide)) (by decide) (Nat.le_of_ble_eq_true rfl) fx_n1 (s_X9_all1 (m := m4) hL4 (o := 111) rfl (by decide) (by decide)) rfl (fun r_ m_ hpost => ?_)
      revert r_ m_
      intro r_ m5 hpost
      obtain ⟨rfl, V5⟩ := hpost
      have H5 := V5.ms I4
      have hL5 : fx_Lay m5 := fun o k v hv => by rw [V5.2.1]; exact hL4 o k v hv
      refine e_aload_n dX9_shop_149 rfl ?_
      refine e_aload_n dX9_shop_150 rfl ?_
      refine e_get dX9_shop_151 ff_X9_193 rfl (fx_pi_lt (by decide)) (by decide) rfl ?_
      refine e_put dX9_shop_154 ff_X9_13 rfl (fx_pi_lt (by decide)) (by decide) rfl (Or.inl rfl) ?_
      refine e_aload_n dX9_shop_157 rfl ?_
      refine e_bipush dX9_shop_158 kcb_m6 ?_
      refine e_callV1 (μ' := mX9_no) (ci := 9) (As := [.int (-6)]) dX9_shop_160 wl_X9_136 ok_X9_no rfl rfl (fx_pi_lt (by decide)) (by decide) (Nat.le_of_ble_eq_true rfl) fx_n1 (s_X9_no (m := fx_sI m5 83 6 (m5.1 83 38)) hL5 (b := 6) (z := (-6)) (by decide) (by decide)) rfl ?_
      obtain ⟨f, hf0⟩ := Option.ne_none_iff_exists'.mp c_g
      exact e_iret dX9_shop_163 rfl rfl rfl (fx_SR_n0 (f := f) ((congrArg Prod.fst hra).trans (p_rS_f hf0)) (by rw [fx_sI_n _ _ _ (by decide), fx_rd0, V5.2.2 83 38 (p_ob_n6 (by decide))]; exact hf f hf0) ((H5.sO (by decide) (fun _ => by decide)).sO (by decide) (fun h => absurd h (by decide))) (fx_Kp.fail V1 K0 K4 V5))
    · obtain ⟨o, p2, na3, nd3, t3⟩ := res
      have c_g : o = none := c_g
      subst c_g
      obtain ⟨H4, R4⟩ := hok rfl
      have hp2 : p < p2 := hadv rfl
      have hn := R4.2.2.2.2.1
      have hk := R4.2.2.2.1
      have hp2n : p2 ≤ n := R4.2.2.2.2.2.1
      have h83 : na3 ≤ 8 := h83
      refine e_weak (lv2 := [some (fx_rf Γ 83), some (.int (nI k)), none, some (.int (nI it)), some (.int 1)]) ⟨rfl, rfl, rfl, rfl, trivial⟩ ?_
      refine e_aload_n dX9_shop_67 rfl ?_
      refine e_getv (v := nI p2) dX9_shop_68 ff_X9_196 rfl (fx_pi_lt (by decide)) (by decide) rfl R4.2.2.1 ?_
      refine e_aload_n dX9_shop_71 rfl ?_
      refine e_getv (v := nI n) dX9_shop_72 ff_X9_199 rfl (fx_pi_lt (by decide)) (by decide) rfl R4.2.1 ?_
      refine e_icmp_ge 133 dX9_shop_75 rfl (fun c_n => ?_) (fun c_n => ?_)
      · refine e_iload dX9_shop_133 rfl ?_
        refine e_if_eq 140 dX9_shop_135 rfl (fun h => absurd h (by decide)) (fun _ => ?_)
        refine e_iload_n dX9_shop_138 rfl ?_
        have e : p2 = n := by rcases Nat.lt_or_ge p2 n with h | h; exact absurd c_n (nI_ge h (by omega)); omega
        exact e_iret dX9_shop_139 rfl rfl rfl (fx_SR_y0 (na' := na3) (nd' := nd3) (t' := t3) (hra.trans (by rw [e]; exact p_rS_n)) ((K4.2.2 6 (by omega)).trans h6m) H4 (fx_Kp.ok V1 K0 K4))
      · have hl2 : p2 < n := by rcases Nat.lt_or_ge p2 n with h | h; exact h; exact absurd (nI_le h (by omega)) c_n
        refine e_aload_n dX9_shop_78 rfl ?_
        refine e_getr (o2 := 104) dX9_shop_79 ff_X9_77 rfl (fx_pi_lt (by decide)) (by decide) rfl (hL4 _ _ _ rfl) ?_
        refine e_aload_n dX9_shop_82 rfl ?_
        refine e_getv (v := nI (160 * k)) dX9_shop_83 ff_X9_202 rfl (fx_pi_lt (by decide)) (by decide) rfl R4.1 ?_
        refine e_aload_n dX9_shop_86 rfl ?_
        refine e_getv (v := nI p2) dX9_shop_87 ff_X9_196 rfl (fx_pi_lt (by decide)) (by decide) rfl R4.2.2.1 ?_
        refine e_iadd dX9_shop_90 ?_
        refine e_lald (j := 160 * k + p2) dX9_shop_91 rfl (fx_pi_lt (by decide)) (by rw [nI_add]) (by omega) (by decide) ?_
        refine e_l2i dX9_shop_92 ?_
        rw [R4.tq hl2]
        refine e_bipush dX9_shop_93 kcb_59 ?_
        refine e_icmp_eq 111 dX9_shop_95 rfl (fun c_b => ?_) (fun c_b => ?_)
        · refine e_aload_n dX9_shop_111 rfl ?_
          refine e_dup dX9_shop_112 rfl ?_
          refine e_getv (v := nI p2) dX9_shop_113 ff_X9_196 rfl (fx_pi_lt (by decide)) (by decide) rfl R4.2.2.1 ?_
          refine e_iconst dX9_shop_116 kci_1 ?_
          refine e_iadd dX9_shop_117 ?_
          rw [nI_1]
          refine e_put dX9_shop_118 ff_X9_196 rfl (fx_pi_lt (by decide)) (by decide) rfl (Or.inl rfl) ?_
          obtain ⟨m7, hm7⟩ : ∃ z, z = fx_sI m4 83 36 (nI (p2 + 1)) := ⟨_, rfl⟩
          have K7 : fx_KT m2 m7 := by rw [hm7]; exact K4.sI (by omega)
          have hL7 := K7.lay hL2
          have H7 : fx_MS m7 na3 nd3 t3 := by rw [hm7]; exact H4.sO (by decide) (fun _ => by decide)
          have R7 : fx_MR m7 k n tx (p2 + 1) := by rw [hm7]; exact ((fx_KT.refl m4).sI (by omega)).mr R4 fx_rd0 (by omega)
          have W7 := K7.wc W2
          rw [← hm7]
          refine e_iinc (v := nI (it + 1)) dX9_shop_121 rfl (fx_inc _) (by decide) rfl ?_
          refine e_aload_n dX9_shop_124 rfl ?_
          refine e_callV (μ' := mX9_item) (ci := 9) (As := []) dX9_shop_125 wl_X9_251 ok_X9_item rfl rfl (fx_pi_lt (by decide)) (by decide) (Nat.le_of_ble_eq_true rfl) fx_n1 (s_X9_item (m := m7) hL7 H7 R7 W7 h83) rfl (fun r_ m_ hpost => ?_)
          revert r_ m_
          intro r_ m8 hpost
          obtain ⟨res3, hr3⟩ : ∃ z, z = p_it tx n (p2 + 1) na3 nd3 t3 := ⟨_, rfl⟩
          rw [← hr3] at hpost
          obtain ⟨rfl, K8, hf8, hok8⟩ := hpost
          refine e_istore dX9_shop_128 (by decide) rfl ?_
          refine e_goto 62 dX9_shop_130 rfl ?_
          exact absurd hfu (by omega)
        · refine e_aload_n dX9_shop_98 rfl ?_
          refine e_aload_n dX9_shop_99 rfl ?_
          refine e_getv (v := nI p2) dX9_shop_100 ff_X9_196 rfl (fx_pi_lt (by decide)) (by decide) rfl R4.2.2.1 ?_
          refine e_callV1 (μ' := mX9_wrong) (ci := 9) (As := [.int (nI p2)]) dX9_shop_103 wl_X9_212 ok_X9_wrong rfl rfl (fx_pi_lt (by decide)) (by decide) (Nat.le_of_ble_eq_true rfl) fx_n1 (s_X9_wrong (m := m4) hL4 (nI p2)) rfl ?_
          obtain ⟨m6, hm6⟩ : ∃ z, z = fx_sI m4 83 38 (nI p2) := ⟨_, rfl⟩
          have K6 : fx_KT m2 m6 := by rw [hm6]; exact K4.sI (by omega)
          have hL6 := K6.lay hL2
          rw [← hm6]
          refine e_istore dX9_shop_106 (by decide) rfl ?_
          refine e_goto 62 dX9_shop_108 rfl ?_
          refine e_iload dX9_shop_62 rfl ?_
          refine e_if_eq 133 dX9_shop_64 rfl (fun _ => ?_) (fun h => absurd (by decide) h)
          refine e_iload dX9_shop_133 rfl ?_
          refine e_if_eq 140 dX9_shop_135 rfl (fun _ => ?_) (fun h => absurd (by decide) h)
          refine e_aload_n dX9_shop_140 rfl ?_
          refine e_aload_n dX9_shop_141 rfl ?_
          refine e_getr (o2 := 111) dX9_shop_142 ff_X9_99 rfl (fx_pi_lt (by decide)) (by decide) rfl (hL6 _ _ _ rfl) ?_
          refine e_iconst dX9_shop_145 kci_1 ?_
          refine e_callV (μ' := mX9_all) (ci := 9) (As := [fx_rf Γ 111, .int 1]) dX9_shop_146 wl_X9_247 ok_X9_all rfl rfl (fx_pi_lt (by decide)) (by decide) (Nat.le_of_ble_eq_true rfl) fx_n1 (s_X9_all1 (m := m6) hL6 (o := 111) rfl (by decide) (by decide)) rfl (fun r_ m_ hpost => ?_)
          revert r_ m_
          intro r_ m5 hpost
          obtain ⟨rfl, V5⟩ := hpost
          have H5 := V5.ms (I4.cg (m' := m6) (by rw [hm6]; exact fx_sI_n _ _ _ (by decide)))
          have hL5 : fx_Lay m5 := fun o k v hv => by rw [V5.2.1]; exact hL6 o k v hv
          refine e_aload_n dX9_shop_149 rfl ?_
          refine e_aload_n dX9_shop_150 rfl ?_
          refine e_get dX9_shop_151 ff_X9_193 rfl (fx_pi_lt (by decide)) (by decide) rfl ?_
          refine e_put dX9_shop_154 ff_X9_13 rfl (fx_pi_lt (by decide)) (by decide) rfl (Or.inl rfl) ?_
          refine e_aload_n dX9_shop_157 rfl ?_
          refine e_bipush dX9_shop_158 kcb_m6 ?_
          refine e_callV1 (μ' := mX9_no) (ci := 9) (As := [.int (-6)]) dX9_shop_160 wl_X9_136 ok_X9_no rfl rfl (fx_pi_lt (by decide)) (by decide) (Nat.le_of_ble_eq_true rfl) fx_n1 (s_X9_no (m := fx_sI m5 83 6 (m5.1 83 38)) hL5 (b := 6) (z := (-6)) (by decide) (by decide)) rfl ?_
          have e : ¬ p2 = n := fun h => c_n (nI_le (by omega) (by omega))
          exact e_iret dX9_shop_163 rfl rfl rfl (fx_SR_n0 (f := p2) ((congrArg Prod.fst hra).trans (p_rS_b e c_b)) (by rw [fx_sI_n _ _ _ (by decide), fx_rd0, V5.2.2 83 38 (p_ob_n6 (by decide)), hm6]; exact fx_rd0) ((H5.sO (by decide) (fun _ => by decide)).sO (by decide) (fun h => absurd h (by decide))) (fx_Kp.fail V1 K0 K6 V5))
  | succ j ih =>
    intro it p na2 nd2 t2 res m4 hij hfu hres h82 K4 hf hok
    have hL4 := K4.lay hL2
    have I4 : fx_img m4 111 na nd t := I1.cg ((K4.2.1 111 (by decide)).trans (K0.2.1 111 (by decide)))
    have hra : p_rA tx n (j + 1 + 1) it p na2 nd2 t2 = p_rS tx n (j + 1) it na2 nd2 t2 res := by rw [hres]; rfl
    have h83 : res.2.2.1 ≤ 8 := by rw [hres]; exact p_it_8 h82
    have hadv : res.1 = none → p < res.2.1 := fun h => by rw [hres] at h ⊢; exact p_it_adv h
    refine e_iload dX9_shop_62 rfl ?_
    refine e_if_eqB 133 dX9_shop_64 rfl (fun c_g => ?_) (fun c_g => ?_)
    · refine e_iload dX9_shop_133 rfl ?_
      refine e_if_eqB 140 dX9_shop_135 rfl (fun _ => ?_) (fun h => absurd h c_g)
      refine e_aload_n dX9_shop_140 rfl ?_
      refine e_aload_n dX9_shop_141 rfl ?_
      refine e_getr (o2 := 111) dX9_shop_142 ff_X9_99 rfl (fx_pi_lt (by decide)) (by decide) rfl (hL4 _ _ _ rfl) ?_
      refine e_iconst dX9_shop_145 kci_1 ?_
      refine e_callV (μ' := mX9_all) (ci := 9) (As := [fx_rf Γ 111, .int 1]) dX9_shop_146 wl_X9_247 ok_X9_all rfl rfl (fx_pi_lt (by decide)) (by decide) (Nat.le_of_ble_eq_true rfl) fx_n1 (s_X9_all1 (m := m4) hL4 (o := 111) rfl (by decide) (by decide)) rfl (fun r_ m_ hpost => ?_)
      revert r_ m_
      intro r_ m5 hpost
      obtain ⟨rfl, V5⟩ := hpost
      have H5 := V5.ms I4
      have hL5 : fx_Lay m5 := fun o k v hv => by rw [V5.2.1]; exact hL4 o k v hv
      refine e_aload_n dX9_shop_149 rfl ?_
      refine e_aload_n dX9_shop_150 rfl ?_
      refine e_get dX9_shop_151 ff_X9_193 rfl (fx_pi_lt (by decide)) (by decide) rfl ?_
      refine e_put dX9_shop_154 ff_X9_13 rfl (fx_pi_lt (by decide)) (by decide) rfl (Or.inl rfl) ?_
      refine e_aload_n dX9_shop_157 rfl ?_
      refine e_bipush dX9_shop_158 kcb_m6 ?_
      refine e_callV1 (μ' := mX9_no) (ci := 9) (As := [.int (-6)]) dX9_shop_160 wl_X9_136 ok_X9_no rfl rfl (fx_pi_lt (by decide)) (by decide) (Nat.le_of_ble_eq_true rfl) fx_n1 (s_X9_no (m := fx_sI m5 83 6 (m5.1 83 38)) hL5 (b := 6) (z := (-6)) (by decide) (by decide)) rfl ?_
      obtain ⟨f, hf0⟩ := Option.ne_none_iff_exists'.mp c_g
      exact e_iret dX9_shop_163 rfl rfl rfl (fx_SR_n0 (f := f) ((congrArg Prod.fst hra).trans (p_rS_f hf0)) (by rw [fx_sI_n _ _ _ (by decide), fx_rd0, V5.2.2 83 38 (p_ob_n6 (by decide))]; exact hf f hf0) ((H5.sO (by decide) (fun _ => by decide)).sO (by decide) (fun h => absurd h (by decide))) (fx_Kp.fail V1 K0 K4 V5))
    · obtain ⟨o, p2, na3, nd3, t3⟩ := res
      have c_g : o = none := c_g
      subst c_g
      obtain ⟨H4, R4⟩ := hok rfl
      have hp2 : p < p2 := hadv rfl
      have hn := R4.2.2.2.2.1
      have hk := R4.2.2.2.1
      have hp2n : p2 ≤ n := R4.2.2.2.2.2.1
      have h83 : na3 ≤ 8 := h83
      refine e_weak (lv2 := [some (fx_rf Γ 83), some (.int (nI k)), none, some (.int (nI it)), some (.int 1)]) ⟨rfl, rfl, rfl, rfl, trivial⟩ ?_
      refine e_aload_n dX9_shop_67 rfl ?_
      refine e_getv (v := nI p2) dX9_shop_68 ff_X9_196 rfl (fx_pi_lt (by decide)) (by decide) rfl R4.2.2.1 ?_
      refine e_aload_n dX9_shop_71 rfl ?_
      refine e_getv (v := nI n) dX9_shop_72 ff_X9_199 rfl (fx_pi_lt (by decide)) (by decide) rfl R4.2.1 ?_
      refine e_icmp_ge 133 dX9_shop_75 rfl (fun c_n => ?_) (fun c_n => ?_)
      · refine e_iload dX9_shop_133 rfl ?_
        refine e_if_eq 140 dX9_shop_135 rfl (fun h => absurd h (by decide)) (fun _ => ?_)
        refine e_iload_n dX9_shop_138 rfl ?_
        have e : p2 = n := by rcases Nat.lt_or_ge p2 n with h | h; exact absurd c_n (nI_ge h (by omega)); omega
        exact e_iret dX9_shop_139 rfl rfl rfl (fx_SR_y0 (na' := na3) (nd' := nd3) (t' := t3) (hra.trans (by rw [e]; exact p_rS_n)) ((K4.2.2 6 (by omega)).trans h6m) H4 (fx_Kp.ok V1 K0 K4))
      · have hl2 : p2 < n := by rcases Nat.lt_or_ge p2 n with h | h; exact h; exact absurd (nI_le h (by omega)) c_n
        refine e_aload_n dX9_shop_78 rfl ?_
        refine e_getr (o2 := 104) dX9_shop_79 ff_X9_77 rfl (fx_pi_lt (by decide)) (by decide) rfl (hL4 _ _ _ rfl) ?_
        refine e_aload_n dX9_shop_82 rfl ?_
        refine e_getv (v := nI (160 * k)) dX9_shop_83 ff_X9_202 rfl (fx_pi_lt (by decide)) (by decide) rfl R4.1 ?_
        refine e_aload_n dX9_shop_86 rfl ?_
        refine e_getv (v := nI p2) dX9_shop_87 ff_X9_196 rfl (fx_pi_lt (by decide)) (by decide) rfl R4.2.2.1 ?_
        refine e_iadd dX9_shop_90 ?_
        refine e_lald (j := 160 * k + p2) dX9_shop_91 rfl (fx_pi_lt (by decide)) (by rw [nI_add]) (by omega) (by decide) ?_
        refine e_l2i dX9_shop_92 ?_
        rw [R4.tq hl2]
        refine e_bipush dX9_shop_93 kcb_59 ?_
        refine e_icmp_eq 111 dX9_shop_95 rfl (fun c_b => ?_) (fun c_b => ?_)
        · refine e_aload_n dX9_shop_111 rfl ?_
          refine e_dup dX9_shop_112 rfl ?_
          refine e_getv (v := nI p2) dX9_shop_113 ff_X9_196 rfl (fx_pi_lt (by decide)) (by decide) rfl R4.2.2.1 ?_
          refine e_iconst dX9_shop_116 kci_1 ?_
          refine e_iadd dX9_shop_117 ?_
          rw [nI_1]
          refine e_put dX9_shop_118 ff_X9_196 rfl (fx_pi_lt (by decide)) (by decide) rfl (Or.inl rfl) ?_
          obtain ⟨m7, hm7⟩ : ∃ z, z = fx_sI m4 83 36 (nI (p2 + 1)) := ⟨_, rfl⟩
          have K7 : fx_KT m2 m7 := by rw [hm7]; exact K4.sI (by omega)
          have hL7 := K7.lay hL2
          have H7 : fx_MS m7 na3 nd3 t3 := by rw [hm7]; exact H4.sO (by decide) (fun _ => by decide)
          have R7 : fx_MR m7 k n tx (p2 + 1) := by rw [hm7]; exact ((fx_KT.refl m4).sI (by omega)).mr R4 fx_rd0 (by omega)
          have W7 := K7.wc W2
          rw [← hm7]
          refine e_iinc (v := nI (it + 1)) dX9_shop_121 rfl (fx_inc _) (by decide) rfl ?_
          refine e_aload_n dX9_shop_124 rfl ?_
          refine e_callV (μ' := mX9_item) (ci := 9) (As := []) dX9_shop_125 wl_X9_251 ok_X9_item rfl rfl (fx_pi_lt (by decide)) (by decide) (Nat.le_of_ble_eq_true rfl) fx_n1 (s_X9_item (m := m7) hL7 H7 R7 W7 h83) rfl (fun r_ m_ hpost => ?_)
          revert r_ m_
          intro r_ m8 hpost
          obtain ⟨res3, hr3⟩ : ∃ z, z = p_it tx n (p2 + 1) na3 nd3 t3 := ⟨_, rfl⟩
          rw [← hr3] at hpost
          obtain ⟨rfl, K8, hf8, hok8⟩ := hpost
          refine e_istore dX9_shop_128 (by decide) rfl ?_
          refine e_goto 62 dX9_shop_130 rfl ?_
          have e : ¬ p2 = n := fun h => c_n (nI_le (by omega) (by omega))
          rw [hra.trans (p_rS_s e c_b)]
          refine e_weak (lv2 := [some (fx_rf Γ 83), some (.int (nI k)), none, some (.int (nI (it + 1))), some (.int (if res3.1 = none then 1 else 0))]) ⟨rfl, rfl, rfl, rfl, trivial⟩ ?_
          exact ih (it + 1) (p2 + 1) na3 nd3 t3 res3 m8 (by omega) (by omega) hr3 h83 (K7.trans K8) hf8 hok8
        · refine e_aload_n dX9_shop_98 rfl ?_
          refine e_aload_n dX9_shop_99 rfl ?_
          refine e_getv (v := nI p2) dX9_shop_100 ff_X9_196 rfl (fx_pi_lt (by decide)) (by decide) rfl R4.2.2.1 ?_
          refine e_callV1 (μ' := mX9_wrong) (ci := 9) (As := [.int (nI p2)]) dX9_shop_103 wl_X9_212 ok_X9_wrong rfl rfl (fx_pi_lt (by decide)) (by decide) (Nat.le_of_ble_eq_true rfl) fx_n1 (s_X9_wrong (m := m4) hL4 (nI p2)) rfl ?_
          obtain ⟨m6, hm6⟩ : ∃ z, z = fx_sI m4 83 38 (nI p2) := ⟨_, rfl⟩
          have K6 : fx_KT m2 m6 := by rw [hm6]; exact K4.sI (by omega)
          have hL6 := K6.lay hL2
          rw [← hm6]
          refine e_istore dX9_shop_106 (by decide) rfl ?_
          refine e_goto 62 dX9_shop_108 rfl ?_
          refine e_iload dX9_shop_62 rfl ?_
          refine e_if_eq 133 dX9_shop_64 rfl (fun _ => ?_) (fun h => absurd (by decide) h)
          refine e_iload dX9_shop_133 rfl ?_
          refine e_if_eq 140 dX9_shop_135 rfl (fun _ => ?_) (fun h => absurd (by decide) h)
          refine e_aload_n dX9_shop_140 rfl ?_
          refine e_aload_n dX9_shop_141 rfl ?_
          refine e_getr (o2 := 111) dX9_shop_142 ff_X9_99 rfl (fx_pi_lt (by decide)) (by decide) rfl (hL6 _ _ _ rfl) ?_
          refine e_iconst dX9_shop_145 kci_1 ?_
          refine e_callV (μ' := mX9_all) (ci := 9) (As := [fx_rf Γ 111, .int 1]) dX9_shop_146 wl_X9_247 ok_X9_all rfl rfl (fx_pi_lt (by decide)) (by decide) (Nat.le_of_ble_eq_true rfl) fx_n1 (s_X9_all1 (m := m6) hL6 (o := 111) rfl (by decide) (by decide)) rfl (fun r_ m_ hpost => ?_)
          revert r_ m_
          intro r_ m5 hpost
          obtain ⟨rfl, V5⟩ := hpost
          have H5 := V5.ms (I4.cg (m' := m6) (by rw [hm6]; exact fx_sI_n _ _ _ (by decide)))
          have hL5 : fx_Lay m5 := fun o k v hv => by rw [V5.2.1]; exact hL6 o k v hv
          refine e_aload_n dX9_shop_149 rfl ?_
          refine e_aload_n dX9_shop_150 rfl ?_
          refine e_get dX9_shop_151 ff_X9_193 rfl (fx_pi_lt (by decide)) (by decide) rfl ?_
          refine e_put dX9_shop_154 ff_X9_13 rfl (fx_pi_lt (by decide)) (by decide) rfl (Or.inl rfl) ?_
          refine e_aload_n dX9_shop_157 rfl ?_
          refine e_bipush dX9_shop_158 kcb_m6 ?_
          refine e_callV1 (μ' := mX9_no) (ci := 9) (As := [.int (-6)]) dX9_shop_160 wl_X9_136 ok_X9_no rfl rfl (fx_pi_lt (by decide)) (by decide) (Nat.le_of_ble_eq_true rfl) fx_n1 (s_X9_no (m := fx_sI m5 83 6 (m5.1 83 38)) hL5 (b := 6) (z := (-6)) (by decide) (by decide)) rfl ?_
          have e : ¬ p2 = n := fun h => c_n (nI_le (by omega) (by omega))
          exact e_iret dX9_shop_163 rfl rfl rfl (fx_SR_n0 (f := p2) ((congrArg Prod.fst hra).trans (p_rS_b e c_b)) (by rw [fx_sI_n _ _ _ (by decide), fx_rd0, V5.2.2 83 38 (p_ob_n6 (by decide)), hm6]; exact fx_rd0) ((H5.sO (by decide) (fun _ => by decide)).sO (by decide) (fun h => absurd h (by decide))) (fx_Kp.fail V1 K0 K6 V5))
set_option maxRecDepth 100000 in
set_option maxHeartbeats 600000 in
theorem s_X9_shop {Γ : fx_G} {m : fx_M} (hL : fx_Lay m) {na nd : Nat} {t : p_Sg} (H : fx_MS m na nd t) (h8b : na ≤ 8) {u : p_Sh} (HS : fx_MSh m na u) (W : fx_WC m) (s : Int32) : fx_Ct Γ mX9_shop 5 119 119 [fx_rf Γ 83, .int s] m (fun r m' => (p_bR u.1 u.2.1 s ≠ 0 → r = some (.int (-(nI (p_bR u.1 u.2.1 s)))) ∧ m' = fx_mno m (p_bR u.1 u.2.1 s)) ∧ (p_bR u.1 u.2.1 s = 0 → fx_SR m na nd t (p_rA (p_rdI u (p_ix s)) (u.2.2.1 (p_ix s)) 160 1 0 na nd t) r m')) := by
  refine fx_Ct.of (j := 3) (by decide) (Nat.le_of_ble_eq_true rfl) (Nat.le_of_ble_eq_true rfl) ?_
  show fx_E Γ mX9_shop 5 119 119 _ 119 m 0 [some (fx_rf Γ 83), some (.int s), none, none, none] []
  have h9 := H.2.2.2.2.2.1
  have h5 := H.2.2.2.2.2.2.1
  refine e_aload_n dX9_shop_0 rfl ?_
  refine e_iload_n dX9_shop_1 rfl ?_
  refine e_callV1 (μ' := mX9_wanted) (ci := 9) (As := [.int s]) dX9_shop_2 wl_X9_244 ok_X9_wanted rfl rfl (fx_pi_lt (by decide)) (by decide) (Nat.le_of_ble_eq_true rfl) fx_n1 (s_X9_wanted (m := m) hL HS s) rfl ?_
  refine e_istore_n dX9_shop_5 (by decide) rfl ?_
  obtain ⟨b, hb⟩ : ∃ b, p_bR u.1 u.2.1 s = b := ⟨_, rfl⟩
  have hb7 : b ≤ 7 := hb ▸ (Nat.le_trans (p_bR_le _ _ _) (by decide))
  rw [hb]
  refine e_iload_n dX9_shop_6 rfl ?_
  refine e_if_eq 16 dX9_shop_7 rfl (fun c_0 => ?_) (fun c_0 => ?_)
  · have hb0 : b = 0 := (p_neg0 hb7).mp c_0
    subst hb0
    have hz := p_bR_0 hb
    obtain ⟨k, hk, ek⟩ := p_in_ex7 hz.1
    subst ek
    rw [p_ix_n (show k < 2 ^ 31 by omega)] at hz ⊢
    have hsk := (HS k hk).2.1 hz.2.2
    obtain ⟨n, hn⟩ : ∃ z, z = u.2.2.1 k := ⟨_, rfl⟩
    have hn160 : n ≤ 160 := by rw [hn]; exact hsk.2.2.2.2.1
    refine e_aload_n dX9_shop_16 rfl ?_
    refine e_aload_n dX9_shop_17 rfl ?_
    refine e_getr (o2 := 111) dX9_shop_18 ff_X9_99 rfl (fx_pi_lt (by decide)) (by decide) rfl (hL _ _ _ rfl) ?_
    refine e_iconst dX9_shop_21 kci_0 ?_
    refine e_callV (μ' := mX9_all) (ci := 9) (As := [fx_rf Γ 111, .int 0]) dX9_shop_22 wl_X9_247 ok_X9_all rfl rfl (fx_pi_lt (by decide)) (by decide) (Nat.le_of_ble_eq_true rfl) fx_n1 (s_X9_all0 (m := m) hL (o := 111) rfl (by decide) (by decide)) rfl (fun r_ m_ hpost => ?_)
    revert r_ m_
    intro r_ m1 hpost
    obtain ⟨rfl, V1⟩ := hpost
    have H1 := V1.ms (by decide) H
    have I1 := V1.img H h8b
    have hL1 : fx_Lay m1 := fun o k v hv => by rw [V1.2.1]; exact hL o k v hv
    have W1 : fx_WC m1 := W.cg (fun o ho => V1.2.2 o (by omega))
    refine e_aload_n dX9_shop_25 rfl ?_
    refine e_sipush dX9_shop_26 kcs_160 ?_
    refine e_iload_n dX9_shop_29 rfl ?_
    refine e_imul dX9_shop_30 ?_
    rw [show (160 : Int32) * nI k = nI (160 * k) by rw [show (160 : Int32) = nI 160 from rfl, i_mulc]]
    refine e_put dX9_shop_31 ff_X9_202 rfl (fx_pi_lt (by decide)) (by decide) rfl (Or.inl rfl) ?_
    refine e_aload_n dX9_shop_34 rfl ?_
    refine e_iconst dX9_shop_35 kci_0 ?_
    refine e_put dX9_shop_36 ff_X9_196 rfl (fx_pi_lt (by decide)) (by decide) rfl (Or.inl rfl) ?_
    refine e_aload_n dX9_shop_39 rfl ?_
    refine e_aload_n dX9_shop_40 rfl ?_
    refine e_getr (o2 := 102) dX9_shop_41 ff_X9_71 rfl (fx_pi_lt (by decide)) (by decide) rfl (hL1 _ _ _ rfl) ?_
    refine e_iload_n dX9_shop_44 rfl ?_
    refine e_ialdv (j := k) (v := nI n) dX9_shop_45 rfl (fx_pi_lt (by decide)) rfl (by omega) (by decide) (by rw [fx_sI_n _ _ _ (by decide), fx_sI_n _ _ _ (by decide), V1.2.2 102 (by decide), hn]; exact hsk.2.2.2.1) ?_
    refine e_put dX9_shop_46 ff_X9_199 rfl (fx_pi_lt (by decide)) (by decide) rfl (Or.inl rfl) ?_
    refine e_aload_n dX9_shop_49 rfl ?_
    refine e_iconst dX9_shop_50 kci_m1 ?_
    refine e_put dX9_shop_51 ff_X9_13 rfl (fx_pi_lt (by decide)) (by decide) rfl (Or.inl rfl) ?_
    obtain ⟨m2, hm2⟩ : ∃ z, z = fx_sI (fx_sI (fx_sI (fx_sI m1 83 34 (nI (160 * k))) 83 36 0) 83 35 (nI n)) 83 6 (-1) := ⟨_, rfl⟩
    have K0 : fx_K0 m1 m2 := by rw [hm2]; exact ((((fx_K0.refl m1).sI (by omega)).sI (by omega)).sI (by omega)).sI (by omega)
    have hL2 : fx_Lay m2 := fun o k v hv => by rw [K0.1]; exact hL1 o k v hv
    have H2 : fx_MS m2 na nd t := H1.cg (fun o ho => K0.2.1 o (by omega)) (fun j hj => K0.2.2 j (by omega))
    have W2 : fx_WC m2 := W1.cg (fun o ho => K0.2.1 o (by omega))
    have h6m : m2.1 83 6 = -1 := by rw [hm2]; exact fx_rd0
    have R2 : fx_MR m2 k n (p_rdI u k) 0 := by refine ⟨by rw [hm2]; simp [fx_sI], by rw [hm2]; simp [fx_sI], by rw [hm2]; simp [fx_sI]; rfl, hk, hn160, Nat.zero_le _, fun j hj => ?_⟩; rw [K0.1, V1.2.1, hsk.2.2.2.2.2 j (by omega)]; rfl
    rw [← hm2]
    refine e_iconst dX9_shop_54 kci_1 ?_
    refine e_istore_n dX9_shop_55 (by decide) rfl ?_
    refine e_aload_n dX9_shop_56 rfl ?_
    refine e_callV (μ' := mX9_item) (ci := 9) (As := []) dX9_shop_57 wl_X9_251 ok_X9_item rfl rfl (fx_pi_lt (by decide)) (by decide) (Nat.le_of_ble_eq_true rfl) fx_n1 (s_X9_item (m := m2) hL2 H2 R2 W2 h8b) rfl (fun r_ m_ hpost => ?_)
    revert r_ m_
    intro r_ m4 hpost
    obtain ⟨res, hres⟩ : ∃ z, z = p_it (p_rdI u k) n 0 na nd t := ⟨_, rfl⟩
    rw [← hres] at hpost
    obtain ⟨rfl, K4, hf4, hok4⟩ := hpost
    refine e_istore dX9_shop_60 (by decide) rfl ?_
    refine e_weak (lv2 := [some (fx_rf Γ 83), some (.int (nI k)), none, some (.int 1), some (.int (if res.1 = none then 1 else 0))]) ⟨rfl, rfl, rfl, rfl, trivial⟩ ?_
    have e := s_X9_shopL (Γ := Γ) hL2 V1 I1 K0 W2 h6m 159 1 0 na nd t res m4 rfl (by omega) hres h8b K4 hf4 hok4
    rw [show 159 + 1 = 160 from rfl] at e
    rw [← hn]
    exact fx_E.post (fun r mm h => ⟨fun q => absurd rfl q, fun _ => h⟩) e
  · refine e_aload_n dX9_shop_10 rfl ?_
    refine e_iload_n dX9_shop_11 rfl ?_
    refine e_callV1 (μ' := mX9_no) (ci := 9) (As := [.int (-(nI b))]) dX9_shop_12 wl_X9_136 ok_X9_no rfl rfl (fx_pi_lt (by decide)) (by decide) (Nat.le_of_ble_eq_true rfl) fx_n1 (s_X9_no (m := m) hL (b := b) (z := (-(nI b))) (by simp) (by omega)) rfl ?_
    have hb0 : b ≠ 0 := fun e => c_0 ((p_neg0 hb7).mpr e)
    have e0 := fx_mno_n (m := m) hb0
    exact e_iret dX9_shop_15 rfl rfl rfl ⟨fun _ => ⟨rfl, e0.symm⟩, fun h => absurd h hb0⟩
