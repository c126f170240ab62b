def p_nwR (a b d : Int32) (k : Nat) : Int32 := if k = 2 then a else if k = 3 then b else if k = 4 then d else if k = 6 then 99 else 0
theorem p_nwR_g {a b d : Int32} (h1 : p_in a 0 1) (h2 : p_in b 0 9) (h3 : p_in d 0 9) : p_gA (p_nwR a b d) := ⟨show p_in (0 : Int32) 0 6 from ⟨by decide, by decide⟩, show p_in (0 : Int32) 0 9 from ⟨by decide, by decide⟩, h1, h2, h3, show p_in (0 : Int32) 0 9 from ⟨by decide, by decide⟩⟩
theorem p_uaa {A : Nat → Nat → Int32} {x : Nat} {R S : Nat → Int32} : p_ua (p_ua A x R) x S = p_ua A x S := by
  funext y
  simp only [p_ua]
  by_cases c : y = x <;> simp [c]
theorem p_ua_at {A : Nat → Nat → Int32} {x : Nat} {R : Nat → Int32} : p_ua A x R x = R := if_pos rfl
theorem p_nwR2 {a b d v : Int32} : p_u (p_nwR a b d) 2 v = p_nwR v b d := by
  funext k
  simp only [p_u, p_nwR]
  by_cases c : k = 2 <;> simp [c]
theorem p_nwR3 {a b d v : Int32} : p_u (p_nwR a b d) 3 v = p_nwR a v d := by
  funext k
  simp only [p_u, p_nwR]
  by_cases c : k = 3
  · subst c; simp
  · simp [c]
theorem p_nwR4 {a b d v : Int32} : p_u (p_nwR a b d) 4 v = p_nwR a b v := by
  funext k
  simp only [p_u, p_nwR]
  by_cases c : k = 4
  · subst c; simp
  · simp [c]
theorem fx_MS.cs {m : fx_M} {na nd : Nat} {t : p_Sg} {a b d a2 b2 d2 : Int32} (H : fx_MS m (na + 1) nd (p_ua t.1 na (p_nwR a b d), t.2.1, t.2.2)) (h1 : p_in a2 0 1) (h2 : p_in b2 0 9) (h3 : p_in d2 0 9) (g2 : p_in b 0 9) (g3 : p_in d 0 9) : fx_MS (fx_sI (fx_sI (fx_sI m 87 na a2) 88 na b2) 89 na d2) (na + 1) nd (p_ua t.1 na (p_nwR a2 b2 d2), t.2.1, t.2.2) := by
  have q1 := H.sA (x := na) (j := 2) (v := a2) (by omega) (by decide) (by show p_gA (p_u (p_ua t.1 na (p_nwR a b d) na) 2 a2); rw [p_ua_at, p_nwR2]; exact p_nwR_g h1 g2 g3)
  rw [show ((p_ua t.1 na (p_nwR a b d), t.2.1, t.2.2) : p_Sg).1 = p_ua t.1 na (p_nwR a b d) from rfl, p_ua_at, p_nwR2, p_uaa] at q1
  have q2 := q1.sA (x := na) (j := 3) (v := b2) (by omega) (by decide) (by show p_gA (p_u (p_ua t.1 na (p_nwR a2 b d) na) 3 b2); rw [p_ua_at, p_nwR3]; exact p_nwR_g h1 h2 g3)
  rw [show ((p_ua t.1 na (p_nwR a2 b d), t.2.1, t.2.2) : p_Sg).1 = p_ua t.1 na (p_nwR a2 b d) from rfl, p_ua_at, p_nwR3, p_uaa] at q2
  have q3 := q2.sA (x := na) (j := 4) (v := d2) (by omega) (by decide) (by show p_gA (p_u (p_ua t.1 na (p_nwR a2 b2 d) na) 4 d2); rw [p_ua_at, p_nwR4]; exact p_nwR_g h1 h2 h3)
  rw [show ((p_ua t.1 na (p_nwR a2 b2 d), t.2.1, t.2.2) : p_Sg).1 = p_ua t.1 na (p_nwR a2 b2 d) from rfl, p_ua_at, p_nwR4, p_uaa] at q3
  exact q3
theorem fx_MS.drop {m : fx_M} {na nd : Nat} {t : p_Sg} {R : Nat → Int32} (H : fx_MS m (na + 1) nd (p_ua t.1 na R, t.2.1, t.2.2)) : fx_MS (fx_sI m 83 0 (nI na)) na nd t := by
  obtain ⟨r1, r2, r3, r4, r5, r6, r7, r8, r9⟩ := H
  have e : ∀ x, x < na → p_ua t.1 na R x = t.1 x := fun x hx => if_neg (by omega)
  refine ⟨fx_rd0, by rw [fx_rd2 (by decide)]; exact r2, fun j hj => by rw [fx_rd2 (by omega)]; exact r3 j hj, fun x hx j hj => by rw [fx_sI_n _ _ _ (by omega), ← e x hx]; exact r4 x (by omega) j hj, fun d hd j hj => by rw [fx_sI_n _ _ _ (by omega)]; exact r5 d hd j hj, by omega, r7, fun x hx => ?_, r9⟩
  have q := r8 x (by omega)
  rw [show ((p_ua t.1 na R, t.2.1, t.2.2) : p_Sg).1 x = t.1 x from e x hx] at q
  exact q
theorem p_cR {c : Nat} (hc : c < 200) : p_in (nI c / 100) 0 1 ∧ p_in (nI c / 10 - nI c / 10 / 10 * 10) 0 9 ∧ p_in (nI c - nI c / 10 * 10) 0 9 := by
  have e1 : nI c / 100 = nI (c / 100) := pk_div (d := 100) (by omega) (by decide) (by decide)
  have e2 : nI c / 10 = nI (c / 10) := p_div10 c (by omega)
  have e3 : nI c - nI c / 10 * 10 = nI (c % 10) := pk_rem (d := 10) (by omega) (by decide) (by decide)
  have e4 : nI (c / 10) - nI (c / 10) / 10 * 10 = nI (c / 10 % 10) := pk_rem (d := 10) (by omega) (by decide) (by decide)
  have g : ∀ {k b : Nat}, k ≤ b → b < 2 ^ 31 → p_in (nI k) 0 (nI b) := fun h h2 => ⟨nI_le (a := 0) (by omega) (by omega), nI_le h h2⟩
  refine ⟨?_, ?_, ?_⟩
  · rw [e1]; exact g (b := 1) (by omega) (by decide)
  · rw [e2, e4]; exact g (b := 9) (by omega) (by decide)
  · rw [e3]; exact g (b := 9) (by omega) (by decide)
theorem fx_KF.kp {a b c : fx_M} (h : fx_KF a b) (g : fx_KP b c) : fx_KF a c := ⟨g.1.trans h.1, fun o ho => (g.2 o (by omega) (by omega)).trans (h.2.1 o ho), fun j hj => by rw [g.2 83 (by decide) (by decide)]; exact h.2.2 j hj⟩
set_option maxRecDepth 100000 in
set_option maxHeartbeats 600000 in
theorem s_X9_cast {Γ : fx_G} {m : fx_M} (hL : fx_Lay m) {na nd : Nat} {t : p_Sg} (H : fx_MS m na nd t) (h8 : na ≤ 8) (hwo : m.1 83 44 = -1) : fx_Ct Γ mX9_cast 5 119 119 [fx_rf Γ 83] m (fun r m' => r = some (.int ((p_fold (p_ca1 (fun c => p_mG (p_ua t.1 na (p_new c)) t.2.1 (na + 1) nd none 0 0)) 200 0 (-1, -1)).1)) ∧ fx_MS m' na nd t ∧ fx_KF m m') := by
  refine fx_Ct.of (j := 4) (by decide) (Nat.le_of_ble_eq_true rfl) (Nat.le_of_ble_eq_true rfl) ?_
  show fx_E Γ mX9_cast 5 119 119 _ 119 m 0 [some (fx_rf Γ 83), none, none, none, none] []
  have h9 := H.2.2.2.2.2.1
  have h5 := H.2.2.2.2.2.2.1
  have lp : ∀ (j : Nat) (c : Nat) (a b d : Int32) (s : Int32 × Int32) (m2 : fx_M), c + j = 200 → p_in b 0 9 → p_in d 0 9 → fx_MS m2 (na + 1) nd (p_ua t.1 na (p_nwR a b d), t.2.1, t.2.2) → fx_KF m m2 → (p_fold (p_ca1 (fun c => p_mG (p_ua t.1 na (p_new c)) t.2.1 (na + 1) nd none 0 0)) 200 0 (-1, -1)).1 = (p_fold (p_ca1 (fun c => p_mG (p_ua t.1 na (p_new c)) t.2.1 (na + 1) nd none 0 0)) j c s).1 → fx_E Γ mX9_cast 5 119 119 (fun r m' => r = some (.int ((p_fold (p_ca1 (fun c => p_mG (p_ua t.1 na (p_new c)) t.2.1 (na + 1) nd none 0 0)) 200 0 (-1, -1)).1)) ∧ fx_MS m' na nd t ∧ fx_KF m m') 119 m2 18 [some (fx_rf Γ 83), some (.int s.1), some (.int s.2), some (.int (nI na)), some (.int (nI c))] [] := by
    intro j
    induction j with
    | zero =>
      intro c a b d s m2 hc g2 g3 H2 K2 hq
      have hL2 := K2.lay hL
      refine e_iload dX9_cast_18 rfl ?_
      refine e_sipush dX9_cast_20 kcs_200 ?_
      refine e_icmp_ge 95 dX9_cast_23 rfl (fun _ => ?_) (fun h => absurd (nI_le (a := 200) (by omega) (by omega)) h)
      refine e_aload_n dX9_cast_95 rfl ?_
      refine e_dup dX9_cast_96 rfl ?_
      refine e_getv (v := nI (na + 1)) dX9_cast_97 ff_X9_126 rfl (fx_pi_lt (by decide)) (by decide) rfl H2.1 ?_
      refine e_iconst dX9_cast_100 kci_1 ?_
      refine e_isub dX9_cast_101 ?_
      rw [show nI (na + 1) - 1 = nI na from by rw [← nI_1, Int32.add_sub_cancel]]
      refine e_put dX9_cast_102 ff_X9_126 rfl (fx_pi_lt (by decide)) (by decide) rfl (Or.inl rfl) ?_
      refine e_iload_n dX9_cast_105 rfl ?_
      exact e_iret dX9_cast_106 rfl rfl rfl ⟨by rw [hq]; rfl, H2.drop, K2.sI (by omega)⟩
    | succ j ih =>
      intro c a b d s m2 hc g2 g3 H2 K2 hq
      have hL2 := K2.lay hL
      refine e_iload dX9_cast_18 rfl ?_
      refine e_sipush dX9_cast_20 kcs_200 ?_
      refine e_icmp_ge 95 dX9_cast_23 rfl (fun h => absurd h (nI_ge (b := 200) (by omega) (by decide))) (fun _ => ?_)
      refine e_aload_n dX9_cast_26 rfl ?_
      refine e_getr (o2 := 87) dX9_cast_27 ff_X9_26 rfl (fx_pi_lt (by decide)) (by decide) rfl (hL2 _ _ _ rfl) ?_
      refine e_iload_n dX9_cast_30 rfl ?_
      refine e_iload dX9_cast_31 rfl ?_
      refine e_bipush dX9_cast_33 kcb_100 ?_
      refine e_idiv dX9_cast_35 (by decide) ?_
      refine e_iast (j := na) dX9_cast_36 rfl (fx_pi_lt (by decide)) rfl (by omega) (by decide) ?_
      refine e_aload_n dX9_cast_37 rfl ?_
      refine e_getr (o2 := 88) dX9_cast_38 ff_X9_29 rfl (fx_pi_lt (by decide)) (by decide) rfl (hL2 _ _ _ rfl) ?_
      refine e_iload_n dX9_cast_41 rfl ?_
      refine e_iload dX9_cast_42 rfl ?_
      refine e_bipush dX9_cast_44 kcb_10 ?_
      refine e_idiv dX9_cast_46 (by decide) ?_
      refine e_bipush dX9_cast_47 kcb_10 ?_
      refine e_irem dX9_cast_49 (by decide) ?_
      refine e_iast (j := na) dX9_cast_50 rfl (fx_pi_lt (by decide)) rfl (by omega) (by decide) ?_
      refine e_aload_n dX9_cast_51 rfl ?_
      refine e_getr (o2 := 89) dX9_cast_52 ff_X9_32 rfl (fx_pi_lt (by decide)) (by decide) rfl (hL2 _ _ _ rfl) ?_
      refine e_iload_n dX9_cast_55 rfl ?_
      refine e_iload dX9_cast_56 rfl ?_
      refine e_bipush dX9_cast_58 kcb_10 ?_
      refine e_irem dX9_cast_60 (by decide) ?_
      refine e_iast (j := na) dX9_cast_61 rfl (fx_pi_lt (by decide)) rfl (by omega) (by decide) ?_
      have hR := p_cR (c := c) (by omega)
      have H3 := H2.cs hR.1 hR.2.1 hR.2.2 g2 g3
      have K3 : fx_KF m (fx_sI (fx_sI (fx_sI m2 87 na ((nI c) / 100)) 88 na (((nI c) / 10) - ((nI c) / 10) / 10 * 10)) 89 na ((nI c) - (nI c) / 10 * 10)) := ((K2.sI (by omega)).sI (by omega)).sI (by omega)
      obtain ⟨m3, hm3⟩ : ∃ z, z = fx_sI (fx_sI (fx_sI m2 87 na ((nI c) / 100)) 88 na (((nI c) / 10) - ((nI c) / 10) / 10 * 10)) 89 na ((nI c) - (nI c) / 10 * 10) := ⟨_, rfl⟩
      rw [← hm3] at H3 K3 ⊢
      have hL3 := K3.lay hL
      have hw3 : m3.1 83 44 = -1 := (K3.2.2 44 (by omega)).trans hwo
      refine e_aload_n dX9_cast_62 rfl ?_
      refine e_callV (μ' := mX9_parts) (ci := 9) (As := []) dX9_cast_63 wl_X9_260 ok_X9_parts rfl rfl (fx_pi_lt (by decide)) (by decide) (Nat.le_of_ble_eq_true rfl) fx_n1 (s_X9_parts (m := m3) hL3 H3 (o := none) hw3 (fun w e => by cases e)) rfl (fun r_ m_ hpost => ?_)
      revert r_ m_
      intro r_ m4 hpost
      obtain ⟨rfl, KP4, P14, P34⟩ := hpost
      have hL4 := KP4.lay hL3
      have H4 := KP4.ms H3
      have K4 := K3.kp KP4
      refine e_aload_n dX9_cast_66 rfl ?_
      refine e_iconst dX9_cast_67 kci_0 ?_
      refine e_iconst dX9_cast_68 kci_0 ?_
      refine e_callV (μ' := mX9_goodFrom) (ci := 9) (As := [.int 0, .int 0]) dX9_cast_69 wl_X9_257 ok_X9_goodFrom rfl rfl (fx_pi_lt (by decide)) (by decide) (Nat.le_of_ble_eq_true rfl) fx_n1 (s_X9_goodFrom (m := m4) hL4 (a := 0) (b := 0) (by decide)) rfl (fun r_ m_ hpost => ?_)
      obtain ⟨rfl, e2⟩ := hpost
      have e2 := e2.symm
      subst e2
      rw [P34 0 (by omega) (by omega) 0 (Nat.two_pow_pos _)]
      refine e_iload_n dX9_cast_72 rfl ?_
      refine e_icmp_gt 79 dX9_cast_73 rfl (fun c_l => ?_) (fun c_l => ?_)
      · refine e_iload dX9_cast_79 rfl ?_
        refine e_istore_n dX9_cast_81 (by decide) rfl ?_
        refine e_aload_n dX9_cast_82 rfl ?_
        refine e_iconst dX9_cast_83 kci_0 ?_
        refine e_iconst dX9_cast_84 kci_0 ?_
        refine e_callV (μ' := mX9_goodFrom) (ci := 9) (As := [.int 0, .int 0]) dX9_cast_85 wl_X9_257 ok_X9_goodFrom rfl rfl (fx_pi_lt (by decide)) (by decide) (Nat.le_of_ble_eq_true rfl) fx_n1 (s_X9_goodFrom (m := m4) hL4 (a := 0) (b := 0) (by decide)) rfl (fun r_ m_ hpost => ?_)
        obtain ⟨rfl, e2⟩ := hpost
        have e2 := e2.symm
        subst e2
        rw [P34 0 (by omega) (by omega) 0 (Nat.two_pow_pos _)]
        refine e_istore_n dX9_cast_88 (by decide) rfl ?_
        refine e_iinc (v := nI (c + 1)) dX9_cast_89 rfl (fx_inc _) (by decide) rfl ?_
        refine e_goto 18 dX9_cast_92 rfl ?_
        have e : p_ca1 (fun c => p_mG (p_ua t.1 na (p_new c)) t.2.1 (na + 1) nd none 0 0) c s = (nI c, (fun c => p_mG (p_ua t.1 na (p_new c)) t.2.1 (na + 1) nd none 0 0) c) := if_pos c_l
        rw [p_fold_s e] at hq
        exact ih (c + 1) _ _ _ (nI c, (fun c => p_mG (p_ua t.1 na (p_new c)) t.2.1 (na + 1) nd none 0 0) c) m4 (by omega) hR.2.1 hR.2.2 H4 K4 hq
      · refine e_goto 89 dX9_cast_76 rfl ?_
        refine e_iinc (v := nI (c + 1)) dX9_cast_89 rfl (fx_inc _) (by decide) rfl ?_
        refine e_goto 18 dX9_cast_92 rfl ?_
        have e : p_ca1 (fun c => p_mG (p_ua t.1 na (p_new c)) t.2.1 (na + 1) nd none 0 0) c s = s := if_neg c_l
        rw [p_fold_s e] at hq
        exact ih (c + 1) _ _ _ s m4 (by omega) hR.2.1 hR.2.2 H4 K4 hq
  refine e_iconst dX9_cast_0 kci_m1 ?_
  refine e_istore_n dX9_cast_1 (by decide) rfl ?_
  refine e_iconst dX9_cast_2 kci_m1 ?_
  refine e_istore_n dX9_cast_3 (by decide) rfl ?_
  refine e_aload_n dX9_cast_4 rfl ?_
  refine e_iconst dX9_cast_5 kci_0 ?_
  refine e_iconst dX9_cast_6 kci_0 ?_
  refine e_iconst dX9_cast_7 kci_0 ?_
  refine e_iconst dX9_cast_8 kci_0 ?_
  refine e_iconst dX9_cast_9 kci_0 ?_
  refine e_iconst dX9_cast_10 kci_0 ?_
  refine e_callV1 (μ' := mX9_addsArm) (ci := 9) (As := [.int 0, .int 0, .int 0, .int 0, .int 0, .int 0]) dX9_cast_11 wl_X9_176 ok_X9_addsArm rfl rfl (fx_pi_lt (by decide)) (by decide) (Nat.le_of_ble_eq_true rfl) fx_n1 (s_X9_addsArm (m := m) hL H (by omega) 0 0 0 0 0 0) rfl ?_
  refine e_istore_n dX9_cast_14 (by decide) rfl ?_
  refine e_iconst dX9_cast_15 kci_0 ?_
  refine e_istore dX9_cast_16 (by decide) rfl ?_
  have HA := H.arm (by omega) (fun _ => 0) ⟨⟨by decide, by decide⟩, ⟨by decide, by decide⟩, ⟨by decide, by decide⟩, ⟨by decide, by decide⟩, ⟨by decide, by decide⟩, ⟨by decide, by decide⟩⟩
  have eR : p_recA (fun _ => 0) = p_nwR 0 0 0 := by funext k; simp only [p_recA, p_nwR]; by_cases q : k < 6; (rw [if_pos q]; by_cases q2 : k = 2; (rw [if_pos q2]); (rw [if_neg q2]; by_cases q3 : k = 3; (rw [if_pos q3]); (rw [if_neg q3]; by_cases q4 : k = 4; (rw [if_pos q4]); (rw [if_neg q4, if_neg (by omega)])))); (rw [if_neg q, if_neg (show ¬ k = 2 by omega), if_neg (show ¬ k = 3 by omega), if_neg (show ¬ k = 4 by omega)])
  rw [eR] at HA
  exact lp 200 0 0 0 0 (-1, -1) _ (by omega) ⟨by decide, by decide⟩ ⟨by decide, by decide⟩ HA.1 HA.2 rfl
