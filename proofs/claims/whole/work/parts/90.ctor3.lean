def fx_rl : List (Nat × Nat) → Nat → Option Nat
  | [], _ => none
  | q :: l, k => if k = q.1 then some q.2 else fx_rl l k
def fx_E0 (o : Nat) (m : fx_M) (l : List (Nat × Nat)) : Prop := (∀ k, m.1 o k = 0) ∧ (∀ k, m.2.1 o k = 0) ∧ ∀ k, m.2.2 o k = fx_rl l k
theorem fx_E0.of {o a : Nat} {m : fx_M} (h : fx_Z a m) (ho : a ≤ fx_pi o) : fx_E0 o m [] := h o ho
theorem fx_E0.nb {o a b : Nat} {m m' : fx_M} {l : List (Nat × Nat)} (h : fx_E0 o m l) (N : fx_NB a b m m') (ho : ¬ (a ≤ fx_pi o ∧ fx_pi o < b)) : fx_E0 o m' l := by
  have q := N.1 o ho
  exact ⟨fun k => by rw [q.1]; exact h.1 k, fun k => by rw [q.2.1]; exact h.2.1 k, fun k => by rw [q.2.2]; exact h.2.2 k⟩
theorem fx_E0.sR {o k v : Nat} {m : fx_M} {l : List (Nat × Nat)} (h : fx_E0 o m l) : fx_E0 o (fx_sR m o k (some v)) ((k, v) :: l) := ⟨h.1, h.2.1, fun j => by
  by_cases c : j = k
  · simp [fx_sR, fx_rl, c]
  · simp [fx_sR, fx_rl, c, h.2.2 j]⟩
theorem fx_E0.sRo {o o2 k : Nat} {v : Option Nat} {m : fx_M} {l : List (Nat × Nat)} (h : fx_E0 o m l) (ho : o ≠ o2) : fx_E0 o (fx_sR m o2 k v) l := ⟨h.1, h.2.1, fun j => by simp [fx_sR, ho, h.2.2 j]⟩
theorem fx_E0.sI0 {o o2 k : Nat} {m : fx_M} {l : List (Nat × Nat)} (h : fx_E0 o m l) : fx_E0 o (fx_sI m o2 k 0) l := ⟨fun j => by
  by_cases c : o = o2
  · subst c
    by_cases d : j = k
    · subst d; exact fx_rd0
    · rw [fx_rd2 (Ne.symm d)]; exact h.1 j
  · rw [fx_sI_n _ _ _ c]; exact h.1 j, h.2.1, h.2.2⟩
def fx_DN (n : Nat) (m : fx_M) : Prop := ∀ o, 1 ≤ fx_pi o → fx_pi o < n → o ≠ 49 → fx_fin o m
theorem fx_fin.cg {o : Nat} {m m' : fx_M} (h : fx_fin o m) (h1 : m'.1 o = m.1 o) (h2 : m'.2.1 o = m.2.1 o) (h3 : m'.2.2 o = m.2.2 o) : fx_fin o m' := ⟨fun k => by rw [h1]; exact h.1 k, fun k => by rw [h2]; exact h.2.1 k, fun k v q => by rw [h3]; exact h.2.2 k v q⟩
theorem fx_DN.nb {a b : Nat} {m m' : fx_M} (h : fx_DN a m) (N : fx_NB a b m m') : fx_DN b m' := fun o h1 h2 h3 => by
  by_cases c : a ≤ fx_pi o
  · exact N.2 o c h2
  · have q := N.1 o (by omega)
    exact (h o h1 (by omega) h3).cg q.1 q.2.1 q.2.2
theorem fx_DN.sR {a o k : Nat} {v : Option Nat} {m : fx_M} (h : fx_DN a m) (ho : o = 0 ∨ o = 49) : fx_DN a (fx_sR m o k v) := fun x h1 h2 h3 => (h x h1 h2 h3).cg rfl rfl (by
  have e : x ≠ o := fun e => by
    subst e
    rcases ho with rfl | rfl
    · exact absurd h1 (by decide)
    · exact h3 rfl
  funext j; simp [fx_sR, e])
theorem fx_DN.sI {a k : Nat} {v : Int32} {m : fx_M} (h : fx_DN a m) : fx_DN a (fx_sI m 0 k v) := fun x h1 h2 h3 => (h x h1 h2 h3).cg (fx_sI_n _ _ _ (fun e => by subst e; exact absurd h1 (by decide))) rfl rfl
theorem fx_DN.a49 {m : fx_M} (h : fx_DN 49 m) : fx_DN 50 m := fun o h1 h2 h3 => h o h1 (by have : fx_pi o ≠ 49 := fun e => h3 (fx_pi_inj (show fx_pi o = fx_pi 49 from e)); omega) h3
theorem fx_DN.a50 {m : fx_M} (h : fx_DN 50 m) (hZ : fx_Z 50 m) : fx_DN 51 m := fun o h1 h2 h3 => by
  by_cases c : o = 50
  · subst c
    exact fx_fin_z (hZ 50 (by decide)).1 (hZ 50 (by decide)).2.1 (fun k => rfl) rfl
  · exact h o h1 (by have : fx_pi o ≠ 50 := fun e => c (fx_pi_inj (show fx_pi o = fx_pi 50 from e)); omega) h3
theorem fx_E0.fin {o L : Nat} {m : fx_M} {l : List (Nat × Nat)} (h : fx_E0 o m l) (hI : ∀ k, fx_I0 o k = 0) (hL : (fx_layT.getD o []).length = L) (hl : ∀ k, k < L → fx_lay o k = none ∨ fx_lay o k = fx_rl l k) : fx_fin o m := ⟨fun k => by rw [h.1, hI], h.2.1, fun k v q => by
  rw [h.2.2]
  have hk := fx_lay_lt q
  rw [hL] at hk
  rcases hl k hk with e | e
  · rw [e] at q; cases q
  · rw [← e]; exact q⟩
set_option maxRecDepth 100000 in
set_option maxHeartbeats 8000000 in
theorem s_X8_init {Γ : fx_G} {m : fx_M} (hZ : fx_Z 0 m) : fx_Ct Γ mX8_init 3 1 83 [fx_rf Γ 0] m (fun r m' => r = none ∧ fx_NB 0 83 m m') := by
  refine fx_Ct.of (j := 1) (by decide) (by decide) (Nat.le_of_ble_eq_true rfl) ?_
  show fx_E Γ mX8_init 3 1 83 _ 1 m 0 [some (fx_rf Γ 0), none] []
  have D : fx_DN 1 m := fun o h1 h2 _ => absurd h2 (by omega)
  have E : fx_E0 0 m [] := fx_E0.of hZ (by decide)
  refine e_aload_n dX8_init_0 rfl ?_
  refine e_objInit dX8_init_1 wl_X8_1 wi_Objectinit_V fx_wobj (by decide) (Nat.le_of_ble_eq_true rfl) ?_
  refine e_aload_n dX8_init_4 rfl ?_
  refine e_new (o := 1) (ci := 6) dX8_init_5 wk_X8_7 wn_DrawerOfArmsStock wz_DrawerOfArmsStock fx_cl6 (by decide) rfl (by decide) (by decide) (fx_z_dv (hZ.mono (by decide)) fx_dv6) ?_
  refine e_dup dX8_init_8 rfl ?_
  refine e_callI (μ' := mX6_init) (As := []) dX8_init_9 wl_X8_9 ok_X6_init (by decide) (Nat.le_of_ble_eq_true rfl) ⟨by decide, by decide⟩ (s_X6_init1 (m := m) ((hZ.mono (by decide)))) rfl (fun r_ m_ hpost => ?_)
  revert r_ m_
  intro r_ m1 hpost
  obtain ⟨rfl, N1⟩ := hpost
  have hZ1 : fx_Z 17 m1 := N1.z ((hZ.mono (by decide))) (by decide)
  have D1 : fx_DN 17 m1 := D.nb N1
  have E1 : fx_E0 0 m1 [] := E.nb N1 (by decide)
  refine e_putr dX8_init_12 ff_X8_10 rfl (by decide) (by decide) rfl (Or.inr ⟨rfl, rfl⟩) (fun _ => rfl) (fun _ => rfl) ?_
  obtain ⟨m2, hm2⟩ : ∃ z, z = fx_sR m1 0 0 (some 1) := ⟨_, rfl⟩
  have hZ2 : fx_Z 17 m2 := by rw [hm2]; exact (((hZ1.mono (by decide))).sR (by decide))
  have D2 : fx_DN 17 m2 := by rw [hm2]; exact D1.sR (Or.inl rfl)
  have E2 : fx_E0 0 m2 [(0, 1)] := by rw [hm2]; exact E1.sR
  rw [← hm2]
  refine e_aload_n dX8_init_15 rfl ?_
  refine e_new (o := 17) (ci := 6) dX8_init_16 wk_X8_7 wn_DrawerOfArmsStock wz_DrawerOfArmsStock fx_cl6 (by decide) rfl (by decide) (by decide) (fx_z_dv (hZ2.mono (by decide)) fx_dv6) ?_
  refine e_dup dX8_init_19 rfl ?_
  refine e_callI (μ' := mX6_init) (As := []) dX8_init_20 wl_X8_9 ok_X6_init (by decide) (Nat.le_of_ble_eq_true rfl) ⟨by decide, by decide⟩ (s_X6_init17 (m := m2) ((hZ2.mono (by decide)))) rfl (fun r_ m_ hpost => ?_)
  revert r_ m_
  intro r_ m3 hpost
  obtain ⟨rfl, N3⟩ := hpost
  have hZ3 : fx_Z 33 m3 := N3.z ((hZ2.mono (by decide))) (by decide)
  have D3 : fx_DN 33 m3 := D2.nb N3
  have E3 : fx_E0 0 m3 [(0, 1)] := E2.nb N3 (by decide)
  refine e_putr dX8_init_23 ff_X8_16 rfl (by decide) (by decide) rfl (Or.inr ⟨rfl, rfl⟩) (fun _ => rfl) (fun _ => rfl) ?_
  obtain ⟨m4, hm4⟩ : ∃ z, z = fx_sR m3 0 1 (some 17) := ⟨_, rfl⟩
  have hZ4 : fx_Z 33 m4 := by rw [hm4]; exact (((hZ3.mono (by decide))).sR (by decide))
  have D4 : fx_DN 33 m4 := by rw [hm4]; exact D3.sR (Or.inl rfl)
  have E4 : fx_E0 0 m4 [(1, 17), (0, 1)] := by rw [hm4]; exact E3.sR
  rw [← hm4]
  refine e_aload_n dX8_init_26 rfl ?_
  refine e_new (o := 33) (ci := 6) dX8_init_27 wk_X8_7 wn_DrawerOfArmsStock wz_DrawerOfArmsStock fx_cl6 (by decide) rfl (by decide) (by decide) (fx_z_dv (hZ4.mono (by decide)) fx_dv6) ?_
  refine e_dup dX8_init_30 rfl ?_
  refine e_callI (μ' := mX6_init) (As := []) dX8_init_31 wl_X8_9 ok_X6_init (by decide) (Nat.le_of_ble_eq_true rfl) ⟨by decide, by decide⟩ (s_X6_init33 (m := m4) ((hZ4.mono (by decide)))) rfl (fun r_ m_ hpost => ?_)
  revert r_ m_
  intro r_ m5 hpost
  obtain ⟨rfl, N5⟩ := hpost
  have hZ5 : fx_Z 49 m5 := N5.z ((hZ4.mono (by decide))) (by decide)
  have D5 : fx_DN 49 m5 := D4.nb N5
  have E5 : fx_E0 0 m5 [(1, 17), (0, 1)] := E4.nb N5 (by decide)
  refine e_putr dX8_init_34 ff_X8_19 rfl (by decide) (by decide) rfl (Or.inr ⟨rfl, rfl⟩) (fun _ => rfl) (fun _ => rfl) ?_
  obtain ⟨m6, hm6⟩ : ∃ z, z = fx_sR m5 0 2 (some 33) := ⟨_, rfl⟩
  have hZ6 : fx_Z 49 m6 := by rw [hm6]; exact (((hZ5.mono (by decide))).sR (by decide))
  have D6 : fx_DN 49 m6 := by rw [hm6]; exact D5.sR (Or.inl rfl)
  have E6 : fx_E0 0 m6 [(2, 33), (1, 17), (0, 1)] := by rw [hm6]; exact E5.sR
  rw [← hm6]
  refine e_aload_n dX8_init_37 rfl ?_
  refine e_iconst dX8_init_38 kci_0 ?_
  refine e_putz dX8_init_39 ff_X8_22 rfl (by decide) (by decide) rfl (Or.inl rfl) (Or.inl rfl) ?_
  obtain ⟨m7, hm7⟩ : ∃ z, z = fx_sI m6 0 3 0 := ⟨_, rfl⟩
  have hZ7 : fx_Z 49 m7 := by rw [hm7]; exact (((hZ6.mono (by decide))).sI (by decide))
  have D7 : fx_DN 49 m7 := by rw [hm7]; exact D6.sI
  have E7 : fx_E0 0 m7 [(2, 33), (1, 17), (0, 1)] := by rw [hm7]; exact E6.sI0
  rw [← hm7]
  refine e_aload_n dX8_init_42 rfl ?_
  refine e_bipush dX8_init_43 kcb_8 ?_
  refine e_newQ (o := 49) (N := 8) (t := 4) dX8_init_45 wk_X8_26 (Or.inr (Or.inr ⟨rfl, rfl, rfl⟩)) rfl (by decide) rfl (by decide) (by decide) (by decide) (fun j _ => ((hZ7.mono (by decide)) _ (Nat.le_refl _)).2.2 j) ?_
  have D7 := D7.a49
  have F7 : fx_E0 49 m7 [] := fx_E0.of hZ7 (by decide)
  have hZ7 : fx_Z 50 m7 := hZ7.mono (by decide)
  refine e_putr dX8_init_48 ff_X8_28 rfl (by decide) (by decide) rfl (Or.inr ⟨rfl, rfl⟩) (fun _ => rfl) (fun _ => rfl) ?_
  obtain ⟨m8, hm8⟩ : ∃ z, z = fx_sR m7 0 4 (some 49) := ⟨_, rfl⟩
  have hZ8 : fx_Z 50 m8 := by rw [hm8]; exact (((hZ7.mono (by decide))).sR (by decide))
  have D8 : fx_DN 50 m8 := by rw [hm8]; exact D7.sR (Or.inl rfl)
  have E8 : fx_E0 0 m8 [(4, 49), (2, 33), (1, 17), (0, 1)] := by rw [hm8]; exact E7.sR
  have F8 : fx_E0 49 m8 [] := by rw [hm8]; exact F7.sRo (by decide)
  rw [← hm8]
  refine e_aload_n dX8_init_51 rfl ?_
  refine e_bipush dX8_init_52 kcb_8 ?_
  refine e_newI (o := 50) (N := 8) dX8_init_54 wa_int rfl (by decide) rfl (by decide) (by decide) (by decide) (fun j _ => ((hZ8.mono (by decide)) _ (Nat.le_refl _)).1 j) ?_
  have D8 := D8.a50 hZ8
  have hZ8 : fx_Z 51 m8 := hZ8.mono (by decide)
  refine e_putr dX8_init_56 ff_X8_32 rfl (by decide) (by decide) rfl (Or.inr ⟨rfl, rfl⟩) (fun _ => rfl) (fun _ => rfl) ?_
  obtain ⟨m9, hm9⟩ : ∃ z, z = fx_sR m8 0 5 (some 50) := ⟨_, rfl⟩
  have hZ9 : fx_Z 51 m9 := by rw [hm9]; exact (((hZ8.mono (by decide))).sR (by decide))
  have D9 : fx_DN 51 m9 := by rw [hm9]; exact D8.sR (Or.inl rfl)
  have E9 : fx_E0 0 m9 [(5, 50), (4, 49), (2, 33), (1, 17), (0, 1)] := by rw [hm9]; exact E8.sR
  have F9 : fx_E0 49 m9 [] := by rw [hm9]; exact F8.sRo (by decide)
  rw [← hm9]
  refine e_aload_n dX8_init_59 rfl ?_
  refine e_new (o := 53) (ci := 3) dX8_init_60 wk_X8_36 wn_DrawerOfArmsParting wz_DrawerOfArmsParting fx_cl3 (by decide) rfl (by decide) (by decide) (fx_z_dv (hZ9.mono (by decide)) fx_dv3) ?_
  refine e_dup dX8_init_63 rfl ?_
  refine e_callN (μ' := mX3_init) (As := []) dX8_init_64 (List.mem_of_getElem? (i := 2) rfl) ok_X3_init (by decide) (Nat.le_of_ble_eq_true rfl) ⟨by decide, by decide⟩ (s_X3_init (m := m9) ((hZ9.mono (by decide)))) rfl (fun r_ m_ hpost => ?_)
  revert r_ m_
  intro r_ m10 hpost
  obtain ⟨rfl, N10⟩ := hpost
  have hZ10 : fx_Z 61 m10 := N10.z ((hZ9.mono (by decide))) (by decide)
  have D10 : fx_DN 61 m10 := D9.nb N10
  have E10 : fx_E0 0 m10 [(5, 50), (4, 49), (2, 33), (1, 17), (0, 1)] := E9.nb N10 (by decide)
  have F10 : fx_E0 49 m10 [] := F9.nb N10 (by decide)
  refine e_putr dX8_init_67 ff_X8_39 rfl (by decide) (by decide) rfl (Or.inr ⟨rfl, rfl⟩) (fun _ => rfl) (fun _ => rfl) ?_
  obtain ⟨m11, hm11⟩ : ∃ z, z = fx_sR m10 0 7 (some 53) := ⟨_, rfl⟩
  have hZ11 : fx_Z 61 m11 := by rw [hm11]; exact (((hZ10.mono (by decide))).sR (by decide))
  have D11 : fx_DN 61 m11 := by rw [hm11]; exact D10.sR (Or.inl rfl)
  have E11 : fx_E0 0 m11 [(7, 53), (5, 50), (4, 49), (2, 33), (1, 17), (0, 1)] := by rw [hm11]; exact E10.sR
  have F11 : fx_E0 49 m11 [] := by rw [hm11]; exact F10.sRo (by decide)
  rw [← hm11]
  refine e_aload_n dX8_init_70 rfl ?_
  refine e_new (o := 63) (ci := 7) dX8_init_71 wk_X8_43 wn_DrawerOfArmsWaiting wz_DrawerOfArmsWaiting fx_cl7 (by decide) rfl (by decide) (by decide) (fx_z_dv (hZ11.mono (by decide)) fx_dv7) ?_
  refine e_dup dX8_init_74 rfl ?_
  refine e_callN (μ' := mX7_init) (As := []) dX8_init_75 (List.mem_of_getElem? (i := 4) rfl) ok_X7_init (by decide) (Nat.le_of_ble_eq_true rfl) ⟨by decide, by decide⟩ (s_X7_init (m := m11) ((hZ11.mono (by decide)))) rfl (fun r_ m_ hpost => ?_)
  revert r_ m_
  intro r_ m12 hpost
  obtain ⟨rfl, N12⟩ := hpost
  have hZ12 : fx_Z 63 m12 := N12.z ((hZ11.mono (by decide))) (by decide)
  have D12 : fx_DN 63 m12 := D11.nb N12
  have E12 : fx_E0 0 m12 [(7, 53), (5, 50), (4, 49), (2, 33), (1, 17), (0, 1)] := E11.nb N12 (by decide)
  have F12 : fx_E0 49 m12 [] := F11.nb N12 (by decide)
  refine e_putr dX8_init_78 ff_X8_46 rfl (by decide) (by decide) rfl (Or.inr ⟨rfl, rfl⟩) (fun _ => rfl) (fun _ => rfl) ?_
  obtain ⟨m13, hm13⟩ : ∃ z, z = fx_sR m12 0 8 (some 63) := ⟨_, rfl⟩
  have hZ13 : fx_Z 63 m13 := by rw [hm13]; exact (((hZ12.mono (by decide))).sR (by decide))
  have D13 : fx_DN 63 m13 := by rw [hm13]; exact D12.sR (Or.inl rfl)
  have E13 : fx_E0 0 m13 [(8, 63), (7, 53), (5, 50), (4, 49), (2, 33), (1, 17), (0, 1)] := by rw [hm13]; exact E12.sR
  have F13 : fx_E0 49 m13 [] := by rw [hm13]; exact F12.sRo (by decide)
  rw [← hm13]
  refine e_iconst dX8_init_81 kci_0 ?_
  refine e_istore_n dX8_init_82 (by decide) rfl ?_
  refine e_weak (lv2 := [some (fx_rf Γ 0), some (.int 0)]) ⟨rfl, rfl, trivial⟩ ?_
  refine e_iload_n dX8_init_83 rfl ?_
  refine e_bipush dX8_init_84 kcb_8 ?_
  refine e_icmp_ge 108 dX8_init_86 rfl (fun h => absurd h (by decide)) (fun _ => ?_)
  refine e_aload_n dX8_init_89 rfl ?_
  refine e_getr (o2 := 49) dX8_init_90 ff_X8_28 rfl (by decide) (by decide) rfl (by rw [E13.2.2]; rfl) ?_
  refine e_iload_n dX8_init_93 rfl ?_
  refine e_new (o := 67) (ci := 5) dX8_init_94 wk_X8_26 wn_DrawerOfArmsShelf wz_DrawerOfArmsShelf fx_cl5 (by decide) rfl (by decide) (by decide) (fx_z_dv (hZ13.mono (by decide)) fx_dv5) ?_
  refine e_dup dX8_init_97 rfl ?_
  refine e_callN (μ' := mX5_init) (As := []) dX8_init_98 (List.mem_of_getElem? (i := 5) rfl) ok_X5_init (by decide) (Nat.le_of_ble_eq_true rfl) ⟨by decide, by decide⟩ (s_X5_init0 (m := m13) ((hZ13.mono (by decide)))) rfl (fun r_ m_ hpost => ?_)
  revert r_ m_
  intro r_ m14 hpost
  obtain ⟨rfl, N14⟩ := hpost
  have hZ14 : fx_Z 65 m14 := N14.z ((hZ13.mono (by decide))) (by decide)
  have D14 : fx_DN 65 m14 := D13.nb N14
  have E14 : fx_E0 0 m14 [(8, 63), (7, 53), (5, 50), (4, 49), (2, 33), (1, 17), (0, 1)] := E13.nb N14 (by decide)
  have F14 : fx_E0 49 m14 [] := F13.nb N14 (by decide)
  refine e_aast (j := 0) dX8_init_101 rfl (Or.inr (Or.inr ⟨rfl, rfl, rfl⟩)) (by decide) rfl (by decide) rfl (by decide) (by decide) ?_
  obtain ⟨m15, hm15⟩ : ∃ z, z = fx_sR m14 49 0 (some 67) := ⟨_, rfl⟩
  have hZ15 : fx_Z 65 m15 := by rw [hm15]; exact (((hZ14.mono (by decide))).sR (by decide))
  have D15 : fx_DN 65 m15 := by rw [hm15]; exact D14.sR (Or.inr rfl)
  have E15 : fx_E0 0 m15 [(8, 63), (7, 53), (5, 50), (4, 49), (2, 33), (1, 17), (0, 1)] := by rw [hm15]; exact E14.sRo (by decide)
  have F15 : fx_E0 49 m15 [(0, 67)] := by rw [hm15]; exact F14.sR
  rw [← hm15]
  refine e_iinc (v := 1) dX8_init_102 rfl (by decide) (by decide) rfl ?_
  refine e_goto 83 dX8_init_105 rfl ?_
  refine e_weak (lv2 := [some (fx_rf Γ 0), some (.int 1)]) ⟨rfl, rfl, trivial⟩ ?_
  refine e_iload_n dX8_init_83 rfl ?_
  refine e_bipush dX8_init_84 kcb_8 ?_
  refine e_icmp_ge 108 dX8_init_86 rfl (fun h => absurd h (by decide)) (fun _ => ?_)
  refine e_aload_n dX8_init_89 rfl ?_
  refine e_getr (o2 := 49) dX8_init_90 ff_X8_28 rfl (by decide) (by decide) rfl (by rw [E15.2.2]; rfl) ?_
  refine e_iload_n dX8_init_93 rfl ?_
  refine e_new (o := 69) (ci := 5) dX8_init_94 wk_X8_26 wn_DrawerOfArmsShelf wz_DrawerOfArmsShelf fx_cl5 (by decide) rfl (by decide) (by decide) (fx_z_dv (hZ15.mono (by decide)) fx_dv5) ?_
  refine e_dup dX8_init_97 rfl ?_
  refine e_callN (μ' := mX5_init) (As := []) dX8_init_98 (List.mem_of_getElem? (i := 5) rfl) ok_X5_init (by decide) (Nat.le_of_ble_eq_true rfl) ⟨by decide, by decide⟩ (s_X5_init1 (m := m15) ((hZ15.mono (by decide)))) rfl (fun r_ m_ hpost => ?_)
  revert r_ m_
  intro r_ m16 hpost
  obtain ⟨rfl, N16⟩ := hpost
  have hZ16 : fx_Z 67 m16 := N16.z ((hZ15.mono (by decide))) (by decide)
  have D16 : fx_DN 67 m16 := D15.nb N16
  have E16 : fx_E0 0 m16 [(8, 63), (7, 53), (5, 50), (4, 49), (2, 33), (1, 17), (0, 1)] := E15.nb N16 (by decide)
  have F16 : fx_E0 49 m16 [(0, 67)] := F15.nb N16 (by decide)
  refine e_aast (j := 1) dX8_init_101 rfl (Or.inr (Or.inr ⟨rfl, rfl, rfl⟩)) (by decide) rfl (by decide) rfl (by decide) (by decide) ?_
  obtain ⟨m17, hm17⟩ : ∃ z, z = fx_sR m16 49 1 (some 69) := ⟨_, rfl⟩
  have hZ17 : fx_Z 67 m17 := by rw [hm17]; exact (((hZ16.mono (by decide))).sR (by decide))
  have D17 : fx_DN 67 m17 := by rw [hm17]; exact D16.sR (Or.inr rfl)
  have E17 : fx_E0 0 m17 [(8, 63), (7, 53), (5, 50), (4, 49), (2, 33), (1, 17), (0, 1)] := by rw [hm17]; exact E16.sRo (by decide)
  have F17 : fx_E0 49 m17 [(1, 69), (0, 67)] := by rw [hm17]; exact F16.sR
  rw [← hm17]
  refine e_iinc (v := 2) dX8_init_102 rfl (by decide) (by decide) rfl ?_
  refine e_goto 83 dX8_init_105 rfl ?_
  refine e_weak (lv2 := [some (fx_rf Γ 0), some (.int 2)]) ⟨rfl, rfl, trivial⟩ ?_
  refine e_iload_n dX8_init_83 rfl ?_
  refine e_bipush dX8_init_84 kcb_8 ?_
  refine e_icmp_ge 108 dX8_init_86 rfl (fun h => absurd h (by decide)) (fun _ => ?_)
  refine e_aload_n dX8_init_89 rfl ?_
  refine e_getr (o2 := 49) dX8_init_90 ff_X8_28 rfl (by decide) (by decide) rfl (by rw [E17.2.2]; rfl) ?_
  refine e_iload_n dX8_init_93 rfl ?_
  refine e_new (o := 71) (ci := 5) dX8_init_94 wk_X8_26 wn_DrawerOfArmsShelf wz_DrawerOfArmsShelf fx_cl5 (by decide) rfl (by decide) (by decide) (fx_z_dv (hZ17.mono (by decide)) fx_dv5) ?_
  refine e_dup dX8_init_97 rfl ?_
  refine e_callN (μ' := mX5_init) (As := []) dX8_init_98 (List.mem_of_getElem? (i := 5) rfl) ok_X5_init (by decide) (Nat.le_of_ble_eq_true rfl) ⟨by decide, by decide⟩ (s_X5_init2 (m := m17) ((hZ17.mono (by decide)))) rfl (fun r_ m_ hpost => ?_)
  revert r_ m_
  intro r_ m18 hpost
  obtain ⟨rfl, N18⟩ := hpost
  have hZ18 : fx_Z 69 m18 := N18.z ((hZ17.mono (by decide))) (by decide)
  have D18 : fx_DN 69 m18 := D17.nb N18
  have E18 : fx_E0 0 m18 [(8, 63), (7, 53), (5, 50), (4, 49), (2, 33), (1, 17), (0, 1)] := E17.nb N18 (by decide)
  have F18 : fx_E0 49 m18 [(1, 69), (0, 67)] := F17.nb N18 (by decide)
  refine e_aast (j := 2) dX8_init_101 rfl (Or.inr (Or.inr ⟨rfl, rfl, rfl⟩)) (by decide) rfl (by decide) rfl (by decide) (by decide) ?_
  obtain ⟨m19, hm19⟩ : ∃ z, z = fx_sR m18 49 2 (some 71) := ⟨_, rfl⟩
  have hZ19 : fx_Z 69 m19 := by rw [hm19]; exact (((hZ18.mono (by decide))).sR (by decide))
  have D19 : fx_DN 69 m19 := by rw [hm19]; exact D18.sR (Or.inr rfl)
  have E19 : fx_E0 0 m19 [(8, 63), (7, 53), (5, 50), (4, 49), (2, 33), (1, 17), (0, 1)] := by rw [hm19]; exact E18.sRo (by decide)
  have F19 : fx_E0 49 m19 [(2, 71), (1, 69), (0, 67)] := by rw [hm19]; exact F18.sR
  rw [← hm19]
  refine e_iinc (v := 3) dX8_init_102 rfl (by decide) (by decide) rfl ?_
  refine e_goto 83 dX8_init_105 rfl ?_
  refine e_weak (lv2 := [some (fx_rf Γ 0), some (.int 3)]) ⟨rfl, rfl, trivial⟩ ?_
  refine e_iload_n dX8_init_83 rfl ?_
  refine e_bipush dX8_init_84 kcb_8 ?_
  refine e_icmp_ge 108 dX8_init_86 rfl (fun h => absurd h (by decide)) (fun _ => ?_)
  refine e_aload_n dX8_init_89 rfl ?_
  refine e_getr (o2 := 49) dX8_init_90 ff_X8_28 rfl (by decide) (by decide) rfl (by rw [E19.2.2]; rfl) ?_
  refine e_iload_n dX8_init_93 rfl ?_
  refine e_new (o := 73) (ci := 5) dX8_init_94 wk_X8_26 wn_DrawerOfArmsShelf wz_DrawerOfArmsShelf fx_cl5 (by decide) rfl (by decide) (by decide) (fx_z_dv (hZ19.mono (by decide)) fx_dv5) ?_
  refine e_dup dX8_init_97 rfl ?_
  refine e_callN (μ' := mX5_init) (As := []) dX8_init_98 (List.mem_of_getElem? (i := 5) rfl) ok_X5_init (by decide) (Nat.le_of_ble_eq_true rfl) ⟨by decide, by decide⟩ (s_X5_init3 (m := m19) ((hZ19.mono (by decide)))) rfl (fun r_ m_ hpost => ?_)
  revert r_ m_
  intro r_ m20 hpost
  obtain ⟨rfl, N20⟩ := hpost
  have hZ20 : fx_Z 71 m20 := N20.z ((hZ19.mono (by decide))) (by decide)
  have D20 : fx_DN 71 m20 := D19.nb N20
  have E20 : fx_E0 0 m20 [(8, 63), (7, 53), (5, 50), (4, 49), (2, 33), (1, 17), (0, 1)] := E19.nb N20 (by decide)
  have F20 : fx_E0 49 m20 [(2, 71), (1, 69), (0, 67)] := F19.nb N20 (by decide)
  refine e_aast (j := 3) dX8_init_101 rfl (Or.inr (Or.inr ⟨rfl, rfl, rfl⟩)) (by decide) rfl (by decide) rfl (by decide) (by decide) ?_
  obtain ⟨m21, hm21⟩ : ∃ z, z = fx_sR m20 49 3 (some 73) := ⟨_, rfl⟩
  have hZ21 : fx_Z 71 m21 := by rw [hm21]; exact (((hZ20.mono (by decide))).sR (by decide))
  have D21 : fx_DN 71 m21 := by rw [hm21]; exact D20.sR (Or.inr rfl)
  have E21 : fx_E0 0 m21 [(8, 63), (7, 53), (5, 50), (4, 49), (2, 33), (1, 17), (0, 1)] := by rw [hm21]; exact E20.sRo (by decide)
  have F21 : fx_E0 49 m21 [(3, 73), (2, 71), (1, 69), (0, 67)] := by rw [hm21]; exact F20.sR
  rw [← hm21]
  refine e_iinc (v := 4) dX8_init_102 rfl (by decide) (by decide) rfl ?_
  refine e_goto 83 dX8_init_105 rfl ?_
  refine e_weak (lv2 := [some (fx_rf Γ 0), some (.int 4)]) ⟨rfl, rfl, trivial⟩ ?_
  refine e_iload_n dX8_init_83 rfl ?_
  refine e_bipush dX8_init_84 kcb_8 ?_
  refine e_icmp_ge 108 dX8_init_86 rfl (fun h => absurd h (by decide)) (fun _ => ?_)
  refine e_aload_n dX8_init_89 rfl ?_
  refine e_getr (o2 := 49) dX8_init_90 ff_X8_28 rfl (by decide) (by decide) rfl (by rw [E21.2.2]; rfl) ?_
  refine e_iload_n dX8_init_93 rfl ?_
  refine e_new (o := 75) (ci := 5) dX8_init_94 wk_X8_26 wn_DrawerOfArmsShelf wz_DrawerOfArmsShelf fx_cl5 (by decide) rfl (by decide) (by decide) (fx_z_dv (hZ21.mono (by decide)) fx_dv5) ?_
  refine e_dup dX8_init_97 rfl ?_
  refine e_callN (μ' := mX5_init) (As := []) dX8_init_98 (List.mem_of_getElem? (i := 5) rfl) ok_X5_init (by decide) (Nat.le_of_ble_eq_true rfl) ⟨by decide, by decide⟩ (s_X5_init4 (m := m21) ((hZ21.mono (by decide)))) rfl (fun r_ m_ hpost => ?_)
  revert r_ m_
  intro r_ m22 hpost
  obtain ⟨rfl, N22⟩ := hpost
  have hZ22 : fx_Z 73 m22 := N22.z ((hZ21.mono (by decide))) (by decide)
  have D22 : fx_DN 73 m22 := D21.nb N22
  have E22 : fx_E0 0 m22 [(8, 63), (7, 53), (5, 50), (4, 49), (2, 33), (1, 17), (0, 1)] := E21.nb N22 (by decide)
  have F22 : fx_E0 49 m22 [(3, 73), (2, 71), (1, 69), (0, 67)] := F21.nb N22 (by decide)
  refine e_aast (j := 4) dX8_init_101 rfl (Or.inr (Or.inr ⟨rfl, rfl, rfl⟩)) (by decide) rfl (by decide) rfl (by decide) (by decide) ?_
  obtain ⟨m23, hm23⟩ : ∃ z, z = fx_sR m22 49 4 (some 75) := ⟨_, rfl⟩
  have hZ23 : fx_Z 73 m23 := by rw [hm23]; exact (((hZ22.mono (by decide))).sR (by decide))
  have D23 : fx_DN 73 m23 := by rw [hm23]; exact D22.sR (Or.inr rfl)
  have E23 : fx_E0 0 m23 [(8, 63), (7, 53), (5, 50), (4, 49), (2, 33), (1, 17), (0, 1)] := by rw [hm23]; exact E22.sRo (by decide)
  have F23 : fx_E0 49 m23 [(4, 75), (3, 73), (2, 71), (1, 69), (0, 67)] := by rw [hm23]; exact F22.sR
  rw [← hm23]
  refine e_iinc (v := 5) dX8_init_102 rfl (by decide) (by decide) rfl ?_
  refine e_goto 83 dX8_init_105 rfl ?_
  refine e_weak (lv2 := [some (fx_rf Γ 0), some (.int 5)]) ⟨rfl, rfl, trivial⟩ ?_
  refine e_iload_n dX8_init_83 rfl ?_
  refine e_bipush dX8_init_84 kcb_8 ?_
  refine e_icmp_ge 108 dX8_init_86 rfl (fun h => absurd h (by decide)) (fun _ => ?_)
  refine e_aload_n dX8_init_89 rfl ?_
  refine e_getr (o2 := 49) dX8_init_90 ff_X8_28 rfl (by decide) (by decide) rfl (by rw [E23.2.2]; rfl) ?_
  refine e_iload_n dX8_init_93 rfl ?_
  refine e_new (o := 77) (ci := 5) dX8_init_94 wk_X8_26 wn_DrawerOfArmsShelf wz_DrawerOfArmsShelf fx_cl5 (by decide) rfl (by decide) (by decide) (fx_z_dv (hZ23.mono (by decide)) fx_dv5) ?_
  refine e_dup dX8_init_97 rfl ?_
  refine e_callN (μ' := mX5_init) (As := []) dX8_init_98 (List.mem_of_getElem? (i := 5) rfl) ok_X5_init (by decide) (Nat.le_of_ble_eq_true rfl) ⟨by decide, by decide⟩ (s_X5_init5 (m := m23) ((hZ23.mono (by decide)))) rfl (fun r_ m_ hpost => ?_)
  revert r_ m_
  intro r_ m24 hpost
  obtain ⟨rfl, N24⟩ := hpost
  have hZ24 : fx_Z 75 m24 := N24.z ((hZ23.mono (by decide))) (by decide)
  have D24 : fx_DN 75 m24 := D23.nb N24
  have E24 : fx_E0 0 m24 [(8, 63), (7, 53), (5, 50), (4, 49), (2, 33), (1, 17), (0, 1)] := E23.nb N24 (by decide)
  have F24 : fx_E0 49 m24 [(4, 75), (3, 73), (2, 71), (1, 69), (0, 67)] := F23.nb N24 (by decide)
  refine e_aast (j := 5) dX8_init_101 rfl (Or.inr (Or.inr ⟨rfl, rfl, rfl⟩)) (by decide) rfl (by decide) rfl (by decide) (by decide) ?_
  obtain ⟨m25, hm25⟩ : ∃ z, z = fx_sR m24 49 5 (some 77) := ⟨_, rfl⟩
  have hZ25 : fx_Z 75 m25 := by rw [hm25]; exact (((hZ24.mono (by decide))).sR (by decide))
  have D25 : fx_DN 75 m25 := by rw [hm25]; exact D24.sR (Or.inr rfl)
  have E25 : fx_E0 0 m25 [(8, 63), (7, 53), (5, 50), (4, 49), (2, 33), (1, 17), (0, 1)] := by rw [hm25]; exact E24.sRo (by decide)
  have F25 : fx_E0 49 m25 [(5, 77), (4, 75), (3, 73), (2, 71), (1, 69), (0, 67)] := by rw [hm25]; exact F24.sR
  rw [← hm25]
  refine e_iinc (v := 6) dX8_init_102 rfl (by decide) (by decide) rfl ?_
  refine e_goto 83 dX8_init_105 rfl ?_
  refine e_weak (lv2 := [some (fx_rf Γ 0), some (.int 6)]) ⟨rfl, rfl, trivial⟩ ?_
  refine e_iload_n dX8_init_83 rfl ?_
  refine e_bipush dX8_init_84 kcb_8 ?_
  refine e_icmp_ge 108 dX8_init_86 rfl (fun h => absurd h (by decide)) (fun _ => ?_)
  refine e_aload_n dX8_init_89 rfl ?_
  refine e_getr (o2 := 49) dX8_init_90 ff_X8_28 rfl (by decide) (by decide) rfl (by rw [E25.2.2]; rfl) ?_
  refine e_iload_n dX8_init_93 rfl ?_
  refine e_new (o := 79) (ci := 5) dX8_init_94 wk_X8_26 wn_DrawerOfArmsShelf wz_DrawerOfArmsShelf fx_cl5 (by decide) rfl (by decide) (by decide) (fx_z_dv (hZ25.mono (by decide)) fx_dv5) ?_
  refine e_dup dX8_init_97 rfl ?_
  refine e_callN (μ' := mX5_init) (As := []) dX8_init_98 (List.mem_of_getElem? (i := 5) rfl) ok_X5_init (by decide) (Nat.le_of_ble_eq_true rfl) ⟨by decide, by decide⟩ (s_X5_init6 (m := m25) ((hZ25.mono (by decide)))) rfl (fun r_ m_ hpost => ?_)
  revert r_ m_
  intro r_ m26 hpost
  obtain ⟨rfl, N26⟩ := hpost
  have hZ26 : fx_Z 77 m26 := N26.z ((hZ25.mono (by decide))) (by decide)
  have D26 : fx_DN 77 m26 := D25.nb N26
  have E26 : fx_E0 0 m26 [(8, 63), (7, 53), (5, 50), (4, 49), (2, 33), (1, 17), (0, 1)] := E25.nb N26 (by decide)
  have F26 : fx_E0 49 m26 [(5, 77), (4, 75), (3, 73), (2, 71), (1, 69), (0, 67)] := F25.nb N26 (by decide)
  refine e_aast (j := 6) dX8_init_101 rfl (Or.inr (Or.inr ⟨rfl, rfl, rfl⟩)) (by decide) rfl (by decide) rfl (by decide) (by decide) ?_
  obtain ⟨m27, hm27⟩ : ∃ z, z = fx_sR m26 49 6 (some 79) := ⟨_, rfl⟩
  have hZ27 : fx_Z 77 m27 := by rw [hm27]; exact (((hZ26.mono (by decide))).sR (by decide))
  have D27 : fx_DN 77 m27 := by rw [hm27]; exact D26.sR (Or.inr rfl)
  have E27 : fx_E0 0 m27 [(8, 63), (7, 53), (5, 50), (4, 49), (2, 33), (1, 17), (0, 1)] := by rw [hm27]; exact E26.sRo (by decide)
  have F27 : fx_E0 49 m27 [(6, 79), (5, 77), (4, 75), (3, 73), (2, 71), (1, 69), (0, 67)] := by rw [hm27]; exact F26.sR
  rw [← hm27]
  refine e_iinc (v := 7) dX8_init_102 rfl (by decide) (by decide) rfl ?_
  refine e_goto 83 dX8_init_105 rfl ?_
  refine e_weak (lv2 := [some (fx_rf Γ 0), some (.int 7)]) ⟨rfl, rfl, trivial⟩ ?_
  refine e_iload_n dX8_init_83 rfl ?_
  refine e_bipush dX8_init_84 kcb_8 ?_
  refine e_icmp_ge 108 dX8_init_86 rfl (fun h => absurd h (by decide)) (fun _ => ?_)
  refine e_aload_n dX8_init_89 rfl ?_
  refine e_getr (o2 := 49) dX8_init_90 ff_X8_28 rfl (by decide) (by decide) rfl (by rw [E27.2.2]; rfl) ?_
  refine e_iload_n dX8_init_93 rfl ?_
  refine e_new (o := 81) (ci := 5) dX8_init_94 wk_X8_26 wn_DrawerOfArmsShelf wz_DrawerOfArmsShelf fx_cl5 (by decide) rfl (by decide) (by decide) (fx_z_dv (hZ27.mono (by decide)) fx_dv5) ?_
  refine e_dup dX8_init_97 rfl ?_
  refine e_callN (μ' := mX5_init) (As := []) dX8_init_98 (List.mem_of_getElem? (i := 5) rfl) ok_X5_init (by decide) (Nat.le_of_ble_eq_true rfl) ⟨by decide, by decide⟩ (s_X5_init7 (m := m27) ((hZ27.mono (by decide)))) rfl (fun r_ m_ hpost => ?_)
  revert r_ m_
  intro r_ m28 hpost
  obtain ⟨rfl, N28⟩ := hpost
  have hZ28 : fx_Z 79 m28 := N28.z ((hZ27.mono (by decide))) (by decide)
  have D28 : fx_DN 79 m28 := D27.nb N28
  have E28 : fx_E0 0 m28 [(8, 63), (7, 53), (5, 50), (4, 49), (2, 33), (1, 17), (0, 1)] := E27.nb N28 (by decide)
  have F28 : fx_E0 49 m28 [(6, 79), (5, 77), (4, 75), (3, 73), (2, 71), (1, 69), (0, 67)] := F27.nb N28 (by decide)
  refine e_aast (j := 7) dX8_init_101 rfl (Or.inr (Or.inr ⟨rfl, rfl, rfl⟩)) (by decide) rfl (by decide) rfl (by decide) (by decide) ?_
  obtain ⟨m29, hm29⟩ : ∃ z, z = fx_sR m28 49 7 (some 81) := ⟨_, rfl⟩
  have hZ29 : fx_Z 79 m29 := by rw [hm29]; exact (((hZ28.mono (by decide))).sR (by decide))
  have D29 : fx_DN 79 m29 := by rw [hm29]; exact D28.sR (Or.inr rfl)
  have E29 : fx_E0 0 m29 [(8, 63), (7, 53), (5, 50), (4, 49), (2, 33), (1, 17), (0, 1)] := by rw [hm29]; exact E28.sRo (by decide)
  have F29 : fx_E0 49 m29 [(7, 81), (6, 79), (5, 77), (4, 75), (3, 73), (2, 71), (1, 69), (0, 67)] := by rw [hm29]; exact F28.sR
  rw [← hm29]
  refine e_iinc (v := 8) dX8_init_102 rfl (by decide) (by decide) rfl ?_
  refine e_goto 83 dX8_init_105 rfl ?_
  refine e_weak (lv2 := [some (fx_rf Γ 0), some (.int 8)]) ⟨rfl, rfl, trivial⟩ ?_
  refine e_iload_n dX8_init_83 rfl ?_
  refine e_bipush dX8_init_84 kcb_8 ?_
  refine e_icmp_ge 108 dX8_init_86 rfl (fun _ => ?_) (fun h => absurd (by decide) h)
  refine e_aload_n dX8_init_108 rfl ?_
  refine e_new (o := 51) (ci := 4) dX8_init_109 wk_X8_51 wn_DrawerOfArmsReader wz_DrawerOfArmsReader fx_cl4 (by decide) rfl (by decide) (by decide) (fx_z_dv (hZ29.mono (by decide)) fx_dv4) ?_
  refine e_dup dX8_init_112 rfl ?_
  refine e_aload_n dX8_init_113 rfl ?_
  refine e_getr (o2 := 33) dX8_init_114 ff_X8_19 rfl (by decide) (by decide) rfl (by rw [E29.2.2]; rfl) ?_
  refine e_aload_n dX8_init_117 rfl ?_
  refine e_getr (o2 := 49) dX8_init_118 ff_X8_28 rfl (by decide) (by decide) rfl (by rw [E29.2.2]; rfl) ?_
  refine e_iconst dX8_init_121 kci_0 ?_
  refine e_aald (j := 0) (o2 := 67) dX8_init_122 rfl (Or.inr (Or.inr rfl)) (by decide) rfl (by decide) (by decide) (by rw [F29.2.2]; rfl) ?_
  refine e_callI (μ' := mX4_init) (As := [fx_rf Γ 33, fx_rf Γ 67]) dX8_init_123 wl_X8_53 ok_X4_init (by decide) (Nat.le_of_ble_eq_true rfl) ⟨by decide, by decide⟩ (s_X4_init (m := m29) ((hZ29.mono (by decide)))) rfl (fun r_ m_ hpost => ?_)
  revert r_ m_
  intro r_ m30 hpost
  obtain ⟨rfl, N30⟩ := hpost
  have hZ30 : fx_Z 81 m30 := N30.z ((hZ29.mono (by decide))) (by decide)
  have D30 : fx_DN 81 m30 := D29.nb N30
  have E30 : fx_E0 0 m30 [(8, 63), (7, 53), (5, 50), (4, 49), (2, 33), (1, 17), (0, 1)] := E29.nb N30 (by decide)
  have F30 : fx_E0 49 m30 [(7, 81), (6, 79), (5, 77), (4, 75), (3, 73), (2, 71), (1, 69), (0, 67)] := F29.nb N30 (by decide)
  refine e_putr dX8_init_126 ff_X8_56 rfl (by decide) (by decide) rfl (Or.inr ⟨rfl, rfl⟩) (fun _ => rfl) (fun _ => rfl) ?_
  obtain ⟨m31, hm31⟩ : ∃ z, z = fx_sR m30 0 6 (some 51) := ⟨_, rfl⟩
  have hZ31 : fx_Z 81 m31 := by rw [hm31]; exact (((hZ30.mono (by decide))).sR (by decide))
  have D31 : fx_DN 81 m31 := by rw [hm31]; exact D30.sR (Or.inl rfl)
  have E31 : fx_E0 0 m31 [(6, 51), (8, 63), (7, 53), (5, 50), (4, 49), (2, 33), (1, 17), (0, 1)] := by rw [hm31]; exact E30.sR
  have F31 : fx_E0 49 m31 [(7, 81), (6, 79), (5, 77), (4, 75), (3, 73), (2, 71), (1, 69), (0, 67)] := by rw [hm31]; exact F30.sRo (by decide)
  rw [← hm31]
  refine e_aload_n dX8_init_129 rfl ?_
  refine e_new (o := 65) (ci := 2) dX8_init_130 wk_X8_60 wn_DrawerOfArmsMoves wz_DrawerOfArmsMoves fx_cl2 (by decide) rfl (by decide) (by decide) (fx_z_dv (hZ31.mono (by decide)) fx_dv2) ?_
  refine e_dup dX8_init_133 rfl ?_
  refine e_aload_n dX8_init_134 rfl ?_
  refine e_getr (o2 := 1) dX8_init_135 ff_X8_10 rfl (by decide) (by decide) rfl (by rw [E31.2.2]; rfl) ?_
  refine e_getr (o2 := 2) dX8_init_138 ff_X8_62 rfl (by decide) (by decide) rfl ((D31 1 (by decide) (by decide) (by decide)).2.2 0 2 rfl) ?_
  refine e_iconst dX8_init_141 kci_0 ?_
  refine e_aald (j := 0) (o2 := 4) dX8_init_142 rfl (Or.inl rfl) (by decide) rfl (by decide) (by decide) ((D31 2 (by decide) (by decide) (by decide)).2.2 0 4 rfl) ?_
  refine e_callI (μ' := mX2_init) (As := [fx_rf Γ 4]) dX8_init_143 wl_X8_66 ok_X2_init (by decide) (Nat.le_of_ble_eq_true rfl) ⟨by decide, by decide⟩ (s_X2_init (m := m31) ((hZ31.mono (by decide)))) rfl (fun r_ m_ hpost => ?_)
  revert r_ m_
  intro r_ m32 hpost
  obtain ⟨rfl, N32⟩ := hpost
  have hZ32 : fx_Z 83 m32 := N32.z ((hZ31.mono (by decide))) (by decide)
  have D32 : fx_DN 83 m32 := D31.nb N32
  have E32 : fx_E0 0 m32 [(6, 51), (8, 63), (7, 53), (5, 50), (4, 49), (2, 33), (1, 17), (0, 1)] := E31.nb N32 (by decide)
  have F32 : fx_E0 49 m32 [(7, 81), (6, 79), (5, 77), (4, 75), (3, 73), (2, 71), (1, 69), (0, 67)] := F31.nb N32 (by decide)
  refine e_putr dX8_init_146 ff_X8_69 rfl (by decide) (by decide) rfl (Or.inr ⟨rfl, rfl⟩) (fun _ => rfl) (fun _ => rfl) ?_
  obtain ⟨m33, hm33⟩ : ∃ z, z = fx_sR m32 0 9 (some 65) := ⟨_, rfl⟩
  have hZ33 : fx_Z 83 m33 := by rw [hm33]; exact (((hZ32.mono (by decide))).sR (by decide))
  have D33 : fx_DN 83 m33 := by rw [hm33]; exact D32.sR (Or.inl rfl)
  have E33 : fx_E0 0 m33 [(9, 65), (6, 51), (8, 63), (7, 53), (5, 50), (4, 49), (2, 33), (1, 17), (0, 1)] := by rw [hm33]; exact E32.sR
  have F33 : fx_E0 49 m33 [(7, 81), (6, 79), (5, 77), (4, 75), (3, 73), (2, 71), (1, 69), (0, 67)] := by rw [hm33]; exact F32.sRo (by decide)
  rw [← hm33]
  have nb : fx_NB 0 83 m m33 := ⟨fun o ho => by
      have z1 := hZ33 o (by omega)
      have z0 := hZ o (by omega)
      exact ⟨funext fun j => (z1.1 j).trans (z0.1 j).symm, funext fun j => (z1.2.1 j).trans (z0.2.1 j).symm, funext fun j => (z1.2.2 j).trans (z0.2.2 j).symm⟩, fun o h1 h2 => by
      by_cases c0 : o = 0
      · subst c0; exact E33.fin (L := 10) (fun _ => rfl) rfl (by decide)
      · by_cases c1 : o = 49
        · subst c1; exact F33.fin (L := 8) (fun _ => rfl) rfl (by decide)
        · exact D33 o (Nat.pos_of_ne_zero (fun e => c0 (fx_pi_inj (show fx_pi o = fx_pi 0 from e)))) h2 c1⟩
  exact e_vret dX8_init_149 rfl rfl ⟨rfl, nb⟩
