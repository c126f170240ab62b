set_option maxRecDepth 100000 in
set_option maxHeartbeats 8000000 in
theorem s_X6_init1 {Γ : fx_G} {m : fx_M} (hZ : fx_Z 1 m) : fx_Ct Γ mX6_init 2 2 17 [fx_rf Γ 1] m (fun r m' => r = none ∧ fx_NB 1 17 m m') := by
  refine fx_Ct.of (j := 1) (by decide) (by decide) (Nat.le_of_ble_eq_true rfl) ?_
  show fx_E Γ mX6_init 2 2 17 _ 2 m 0 [some (fx_rf Γ 1), none] []
  refine e_aload_n dX6_init_0 rfl ?_
  refine e_objInit dX6_init_1 wl_X6_3 wi_Objectinit_V fx_wobj (by decide) (Nat.le_of_ble_eq_true rfl) ?_
  refine e_aload_n dX6_init_4 rfl ?_
  refine e_bipush dX6_init_5 kcb_8 ?_
  refine e_newQ (o := 2) (N := 8) (t := 2) dX6_init_7 wk_X6_11 (Or.inl ⟨rfl, rfl, rfl⟩) rfl (by decide) rfl (by decide) (by decide) (by decide) (fun j _ => ((hZ.mono (by decide)) _ (Nat.le_refl _)).2.2 j) ?_
  refine e_putr dX6_init_10 ff_X6_13 rfl (by decide) (by decide) rfl (Or.inr ⟨rfl, rfl⟩) (fun _ => rfl) (fun _ => rfl) ?_
  refine e_aload_n dX6_init_13 rfl ?_
  refine e_iconst dX6_init_14 kci_5 ?_
  refine e_newQ (o := 3) (N := 5) (t := 3) dX6_init_15 wk_X6_17 (Or.inr (Or.inl ⟨rfl, rfl, rfl⟩)) rfl (by decide) rfl (by decide) (by decide) (by decide) (fun j _ => ((((hZ.mono (by decide))).sR (by decide)) _ (Nat.le_refl _)).2.2 j) ?_
  refine e_putr dX6_init_18 ff_X6_19 rfl (by decide) (by decide) rfl (Or.inr ⟨rfl, rfl⟩) (fun _ => rfl) (fun _ => rfl) ?_
  refine e_aload_n dX6_init_21 rfl ?_
  refine e_iconst dX6_init_22 kci_0 ?_
  refine e_put dX6_init_23 ff_X6_23 rfl (by decide) (by decide) rfl (Or.inl rfl) ?_
  refine e_aload_n dX6_init_26 rfl ?_
  refine e_iconst dX6_init_27 kci_0 ?_
  refine e_put dX6_init_28 ff_X6_27 rfl (by decide) (by decide) rfl (Or.inl rfl) ?_
  refine e_aload_n dX6_init_31 rfl ?_
  refine e_iconst dX6_init_32 kci_0 ?_
  refine e_put dX6_init_33 ff_X6_30 rfl (by decide) (by decide) rfl (Or.inl rfl) ?_
  refine e_aload_n dX6_init_36 rfl ?_
  refine e_iconst dX6_init_37 kci_0 ?_
  refine e_put dX6_init_38 ff_X6_33 rfl (by decide) (by decide) rfl (Or.inl rfl) ?_
  refine e_aload_n dX6_init_41 rfl ?_
  refine e_iconst dX6_init_42 kci_0 ?_
  refine e_put dX6_init_43 ff_X6_36 rfl (by decide) (by decide) rfl (Or.inl rfl) ?_
  refine e_aload_n dX6_init_46 rfl ?_
  refine e_iconst dX6_init_47 kci_1 ?_
  refine e_put dX6_init_48 ff_X6_39 rfl (by decide) (by decide) rfl (Or.inl rfl) ?_
  refine e_iconst dX6_init_51 kci_0 ?_
  refine e_istore_n dX6_init_52 (by decide) rfl ?_
  refine e_weak (lv2 := [some (fx_rf Γ 1), some (.int 0)]) ⟨rfl, rfl, trivial⟩ ?_
  refine e_iload_n dX6_init_53 rfl ?_
  refine e_bipush dX6_init_54 kcb_8 ?_
  refine e_icmp_ge 78 dX6_init_56 rfl (fun h => absurd h (by decide)) (fun _ => ?_)
  refine e_aload_n dX6_init_59 rfl ?_
  refine e_getr (o2 := 2) dX6_init_60 ff_X6_13 rfl (by decide) (by decide) rfl (by simp [fx_sI, fx_sR]) ?_
  refine e_iload_n dX6_init_63 rfl ?_
  refine e_new (o := 4) (ci := 0) dX6_init_64 wk_X6_11 wn_DrawerOfArmsArm wz_DrawerOfArmsArm fx_cl0 (by decide) rfl (by decide) (by decide) (fx_z_dv (((((((((((((((((hZ.mono (by decide))).sR (by decide))).sR (by decide))).sI (by decide))).sI (by decide))).sI (by decide))).sI (by decide))).sI (by decide))).sI (by decide)) fx_dv0) ?_
  refine e_dup dX6_init_67 rfl ?_
  refine e_callN1 (μ' := mX0_init) (As := []) dX6_init_68 (List.mem_of_getElem? (i := 0) rfl) ok_X0_init (by decide) (Nat.le_of_ble_eq_true rfl) ⟨by decide, by decide⟩ (s_X0_init (m := fx_sI (fx_sI (fx_sI (fx_sI (fx_sI (fx_sI (fx_sR (fx_sR m 1 0 (some 2)) 1 1 (some 3)) 1 2 0) 1 3 0) 1 4 0) 1 5 0) 1 6 0) 1 7 1) rfl (by decide)) rfl ?_
  refine e_aast (j := 0) dX6_init_71 rfl (Or.inl ⟨rfl, rfl, rfl⟩) (by decide) rfl (by decide) rfl (by decide) (by decide) ?_
  refine e_iinc (v := 1) dX6_init_72 rfl (by decide) (by decide) rfl ?_
  refine e_goto 53 dX6_init_75 rfl ?_
  refine e_weak (lv2 := [some (fx_rf Γ 1), some (.int 1)]) ⟨rfl, rfl, trivial⟩ ?_
  refine e_iload_n dX6_init_53 rfl ?_
  refine e_bipush dX6_init_54 kcb_8 ?_
  refine e_icmp_ge 78 dX6_init_56 rfl (fun h => absurd h (by decide)) (fun _ => ?_)
  refine e_aload_n dX6_init_59 rfl ?_
  refine e_getr (o2 := 2) dX6_init_60 ff_X6_13 rfl (by decide) (by decide) rfl (by simp [fx_sI, fx_sR]) ?_
  refine e_iload_n dX6_init_63 rfl ?_
  refine e_new (o := 5) (ci := 0) dX6_init_64 wk_X6_11 wn_DrawerOfArmsArm wz_DrawerOfArmsArm fx_cl0 (by decide) rfl (by decide) (by decide) (fx_z_dv (((((((((((((((((((((hZ.mono (by decide))).sR (by decide))).sR (by decide))).sI (by decide))).sI (by decide))).sI (by decide))).sI (by decide))).sI (by decide))).sI (by decide))).sI (by decide))).sR (by decide)) fx_dv0) ?_
  refine e_dup dX6_init_67 rfl ?_
  refine e_callN1 (μ' := mX0_init) (As := []) dX6_init_68 (List.mem_of_getElem? (i := 0) rfl) ok_X0_init (by decide) (Nat.le_of_ble_eq_true rfl) ⟨by decide, by decide⟩ (s_X0_init (m := fx_sR (fx_sI (fx_sI (fx_sI (fx_sI (fx_sI (fx_sI (fx_sI (fx_sR (fx_sR m 1 0 (some 2)) 1 1 (some 3)) 1 2 0) 1 3 0) 1 4 0) 1 5 0) 1 6 0) 1 7 1) 4 6 99) 2 0 (some 4)) rfl (by decide)) rfl ?_
  refine e_aast (j := 1) dX6_init_71 rfl (Or.inl ⟨rfl, rfl, rfl⟩) (by decide) rfl (by decide) rfl (by decide) (by decide) ?_
  refine e_iinc (v := 2) dX6_init_72 rfl (by decide) (by decide) rfl ?_
  refine e_goto 53 dX6_init_75 rfl ?_
  refine e_weak (lv2 := [some (fx_rf Γ 1), some (.int 2)]) ⟨rfl, rfl, trivial⟩ ?_
  refine e_iload_n dX6_init_53 rfl ?_
  refine e_bipush dX6_init_54 kcb_8 ?_
  refine e_icmp_ge 78 dX6_init_56 rfl (fun h => absurd h (by decide)) (fun _ => ?_)
  refine e_aload_n dX6_init_59 rfl ?_
  refine e_getr (o2 := 2) dX6_init_60 ff_X6_13 rfl (by decide) (by decide) rfl (by simp [fx_sI, fx_sR]) ?_
  refine e_iload_n dX6_init_63 rfl ?_
  refine e_new (o := 6) (ci := 0) dX6_init_64 wk_X6_11 wn_DrawerOfArmsArm wz_DrawerOfArmsArm fx_cl0 (by decide) rfl (by decide) (by decide) (fx_z_dv (((((((((((((((((((((((((hZ.mono (by decide))).sR (by decide))).sR (by decide))).sI (by decide))).sI (by decide))).sI (by decide))).sI (by decide))).sI (by decide))).sI (by decide))).sI (by decide))).sR (by decide))).sI (by decide))).sR (by decide)) fx_dv0) ?_
  refine e_dup dX6_init_67 rfl ?_
  refine e_callN1 (μ' := mX0_init) (As := []) dX6_init_68 (List.mem_of_getElem? (i := 0) rfl) ok_X0_init (by decide) (Nat.le_of_ble_eq_true rfl) ⟨by decide, by decide⟩ (s_X0_init (m := fx_sR (fx_sI (fx_sR (fx_sI (fx_sI (fx_sI (fx_sI (fx_sI (fx_sI (fx_sI (fx_sR (fx_sR m 1 0 (some 2)) 1 1 (some 3)) 1 2 0) 1 3 0) 1 4 0) 1 5 0) 1 6 0) 1 7 1) 4 6 99) 2 0 (some 4)) 5 6 99) 2 1 (some 5)) rfl (by decide)) rfl ?_
  refine e_aast (j := 2) dX6_init_71 rfl (Or.inl ⟨rfl, rfl, rfl⟩) (by decide) rfl (by decide) rfl (by decide) (by decide) ?_
  refine e_iinc (v := 3) dX6_init_72 rfl (by decide) (by decide) rfl ?_
  refine e_goto 53 dX6_init_75 rfl ?_
  refine e_weak (lv2 := [some (fx_rf Γ 1), some (.int 3)]) ⟨rfl, rfl, trivial⟩ ?_
  refine e_iload_n dX6_init_53 rfl ?_
  refine e_bipush dX6_init_54 kcb_8 ?_
  refine e_icmp_ge 78 dX6_init_56 rfl (fun h => absurd h (by decide)) (fun _ => ?_)
  refine e_aload_n dX6_init_59 rfl ?_
  refine e_getr (o2 := 2) dX6_init_60 ff_X6_13 rfl (by decide) (by decide) rfl (by simp [fx_sI, fx_sR]) ?_
  refine e_iload_n dX6_init_63 rfl ?_
  refine e_new (o := 7) (ci := 0) dX6_init_64 wk_X6_11 wn_DrawerOfArmsArm wz_DrawerOfArmsArm fx_cl0 (by decide) rfl (by decide) (by decide) (fx_z_dv (((((((((((((((((((((((((((((hZ.mono (by decide))).sR (by decide))).sR (by decide))).sI (by decide))).sI (by decide))).sI (by decide))).sI (by decide))).sI (by decide))).sI (by decide))).sI (by decide))).sR (by decide))).sI (by decide))).sR (by decide))).sI (by decide))).sR (by decide)) fx_dv0) ?_
  refine e_dup dX6_init_67 rfl ?_
  refine e_callN1 (μ' := mX0_init) (As := []) dX6_init_68 (List.mem_of_getElem? (i := 0) rfl) ok_X0_init (by decide) (Nat.le_of_ble_eq_true rfl) ⟨by decide, by decide⟩ (s_X0_init (m := fx_sR (fx_sI (fx_sR (fx_sI (fx_sR (fx_sI (fx_sI (fx_sI (fx_sI (fx_sI (fx_sI (fx_sI (fx_sR (fx_sR m 1 0 (some 2)) 1 1 (some 3)) 1 2 0) 1 3 0) 1 4 0) 1 5 0) 1 6 0) 1 7 1) 4 6 99) 2 0 (some 4)) 5 6 99) 2 1 (some 5)) 6 6 99) 2 2 (some 6)) rfl (by decide)) rfl ?_
  refine e_aast (j := 3) dX6_init_71 rfl (Or.inl ⟨rfl, rfl, rfl⟩) (by decide) rfl (by decide) rfl (by decide) (by decide) ?_
  refine e_iinc (v := 4) dX6_init_72 rfl (by decide) (by decide) rfl ?_
  refine e_goto 53 dX6_init_75 rfl ?_
  refine e_weak (lv2 := [some (fx_rf Γ 1), some (.int 4)]) ⟨rfl, rfl, trivial⟩ ?_
  refine e_iload_n dX6_init_53 rfl ?_
  refine e_bipush dX6_init_54 kcb_8 ?_
  refine e_icmp_ge 78 dX6_init_56 rfl (fun h => absurd h (by decide)) (fun _ => ?_)
  refine e_aload_n dX6_init_59 rfl ?_
  refine e_getr (o2 := 2) dX6_init_60 ff_X6_13 rfl (by decide) (by decide) rfl (by simp [fx_sI, fx_sR]) ?_
  refine e_iload_n dX6_init_63 rfl ?_
  refine e_new (o := 8) (ci := 0) dX6_init_64 wk_X6_11 wn_DrawerOfArmsArm wz_DrawerOfArmsArm fx_cl0 (by decide) rfl (by decide) (by decide) (fx_z_dv (((((((((((((((((((((((((((((((((hZ.mono (by decide))).sR (by decide))).sR (by decide))).sI (by decide))).sI (by decide))).sI (by decide))).sI (by decide))).sI (by decide))).sI (by decide))).sI (by decide))).sR (by decide))).sI (by decide))).sR (by decide))).sI (by decide))).sR (by decide))).sI (by decide))).sR (by decide)) fx_dv0) ?_
  refine e_dup dX6_init_67 rfl ?_
  refine e_callN1 (μ' := mX0_init) (As := []) dX6_init_68 (List.mem_of_getElem? (i := 0) rfl) ok_X0_init (by decide) (Nat.le_of_ble_eq_true rfl) ⟨by decide, by decide⟩ (s_X0_init (m := fx_sR (fx_sI (fx_sR (fx_sI (fx_sR (fx_sI (fx_sR (fx_sI (fx_sI (fx_sI (fx_sI (fx_sI (fx_sI (fx_sI (fx_sR (fx_sR m 1 0 (some 2)) 1 1 (some 3)) 1 2 0) 1 3 0) 1 4 0) 1 5 0) 1 6 0) 1 7 1) 4 6 99) 2 0 (some 4)) 5 6 99) 2 1 (some 5)) 6 6 99) 2 2 (some 6)) 7 6 99) 2 3 (some 7)) rfl (by decide)) rfl ?_
  refine e_aast (j := 4) dX6_init_71 rfl (Or.inl ⟨rfl, rfl, rfl⟩) (by decide) rfl (by decide) rfl (by decide) (by decide) ?_
  refine e_iinc (v := 5) dX6_init_72 rfl (by decide) (by decide) rfl ?_
  refine e_goto 53 dX6_init_75 rfl ?_
  refine e_weak (lv2 := [some (fx_rf Γ 1), some (.int 5)]) ⟨rfl, rfl, trivial⟩ ?_
  refine e_iload_n dX6_init_53 rfl ?_
  refine e_bipush dX6_init_54 kcb_8 ?_
  refine e_icmp_ge 78 dX6_init_56 rfl (fun h => absurd h (by decide)) (fun _ => ?_)
  refine e_aload_n dX6_init_59 rfl ?_
  refine e_getr (o2 := 2) dX6_init_60 ff_X6_13 rfl (by decide) (by decide) rfl (by simp [fx_sI, fx_sR]) ?_
  refine e_iload_n dX6_init_63 rfl ?_
  refine e_new (o := 9) (ci := 0) dX6_init_64 wk_X6_11 wn_DrawerOfArmsArm wz_DrawerOfArmsArm fx_cl0 (by decide) rfl (by decide) (by decide) (fx_z_dv (((((((((((((((((((((((((((((((((((((hZ.mono (by decide))).sR (by decide))).sR (by decide))).sI (by decide))).sI (by decide))).sI (by decide))).sI (by decide))).sI (by decide))).sI (by decide))).sI (by decide))).sR (by decide))).sI (by decide))).sR (by decide))).sI (by decide))).sR (by decide))).sI (by decide))).sR (by decide))).sI (by decide))).sR (by decide)) fx_dv0) ?_
  refine e_dup dX6_init_67 rfl ?_
  refine e_callN1 (μ' := mX0_init) (As := []) dX6_init_68 (List.mem_of_getElem? (i := 0) rfl) ok_X0_init (by decide) (Nat.le_of_ble_eq_true rfl) ⟨by decide, by decide⟩ (s_X0_init (m := fx_sR (fx_sI (fx_sR (fx_sI (fx_sR (fx_sI (fx_sR (fx_sI (fx_sR (fx_sI (fx_sI (fx_sI (fx_sI (fx_sI (fx_sI (fx_sI (fx_sR (fx_sR m 1 0 (some 2)) 1 1 (some 3)) 1 2 0) 1 3 0) 1 4 0) 1 5 0) 1 6 0) 1 7 1) 4 6 99) 2 0 (some 4)) 5 6 99) 2 1 (some 5)) 6 6 99) 2 2 (some 6)) 7 6 99) 2 3 (some 7)) 8 6 99) 2 4 (some 8)) rfl (by decide)) rfl ?_
  refine e_aast (j := 5) dX6_init_71 rfl (Or.inl ⟨rfl, rfl, rfl⟩) (by decide) rfl (by decide) rfl (by decide) (by decide) ?_
  refine e_iinc (v := 6) dX6_init_72 rfl (by decide) (by decide) rfl ?_
  refine e_goto 53 dX6_init_75 rfl ?_
  refine e_weak (lv2 := [some (fx_rf Γ 1), some (.int 6)]) ⟨rfl, rfl, trivial⟩ ?_
  refine e_iload_n dX6_init_53 rfl ?_
  refine e_bipush dX6_init_54 kcb_8 ?_
  refine e_icmp_ge 78 dX6_init_56 rfl (fun h => absurd h (by decide)) (fun _ => ?_)
  refine e_aload_n dX6_init_59 rfl ?_
  refine e_getr (o2 := 2) dX6_init_60 ff_X6_13 rfl (by decide) (by decide) rfl (by simp [fx_sI, fx_sR]) ?_
  refine e_iload_n dX6_init_63 rfl ?_
  refine e_new (o := 10) (ci := 0) dX6_init_64 wk_X6_11 wn_DrawerOfArmsArm wz_DrawerOfArmsArm fx_cl0 (by decide) rfl (by decide) (by decide) (fx_z_dv (((((((((((((((((((((((((((((((((((((((((hZ.mono (by decide))).sR (by decide))).sR (by decide))).sI (by decide))).sI (by decide))).sI (by decide))).sI (by decide))).sI (by decide))).sI (by decide))).sI (by decide))).sR (by decide))).sI (by decide))).sR (by decide))).sI (by decide))).sR (by decide))).sI (by decide))).sR (by decide))).sI (by decide))).sR (by decide))).sI (by decide))).sR (by decide)) fx_dv0) ?_
  refine e_dup dX6_init_67 rfl ?_
  refine e_callN1 (μ' := mX0_init) (As := []) dX6_init_68 (List.mem_of_getElem? (i := 0) rfl) ok_X0_init (by decide) (Nat.le_of_ble_eq_true rfl) ⟨by decide, by decide⟩ (s_X0_init (m := fx_sR (fx_sI (fx_sR (fx_sI (fx_sR (fx_sI (fx_sR (fx_sI (fx_sR (fx_sI (fx_sR (fx_sI (fx_sI (fx_sI (fx_sI (fx_sI (fx_sI (fx_sI (fx_sR (fx_sR m 1 0 (some 2)) 1 1 (some 3)) 1 2 0) 1 3 0) 1 4 0) 1 5 0) 1 6 0) 1 7 1) 4 6 99) 2 0 (some 4)) 5 6 99) 2 1 (some 5)) 6 6 99) 2 2 (some 6)) 7 6 99) 2 3 (some 7)) 8 6 99) 2 4 (some 8)) 9 6 99) 2 5 (some 9)) rfl (by decide)) rfl ?_
  refine e_aast (j := 6) dX6_init_71 rfl (Or.inl ⟨rfl, rfl, rfl⟩) (by decide) rfl (by decide) rfl (by decide) (by decide) ?_
  refine e_iinc (v := 7) dX6_init_72 rfl (by decide) (by decide) rfl ?_
  refine e_goto 53 dX6_init_75 rfl ?_
  refine e_weak (lv2 := [some (fx_rf Γ 1), some (.int 7)]) ⟨rfl, rfl, trivial⟩ ?_
  refine e_iload_n dX6_init_53 rfl ?_
  refine e_bipush dX6_init_54 kcb_8 ?_
  refine e_icmp_ge 78 dX6_init_56 rfl (fun h => absurd h (by decide)) (fun _ => ?_)
  refine e_aload_n dX6_init_59 rfl ?_
  refine e_getr (o2 := 2) dX6_init_60 ff_X6_13 rfl (by decide) (by decide) rfl (by simp [fx_sI, fx_sR]) ?_
  refine e_iload_n dX6_init_63 rfl ?_
  refine e_new (o := 11) (ci := 0) dX6_init_64 wk_X6_11 wn_DrawerOfArmsArm wz_DrawerOfArmsArm fx_cl0 (by decide) rfl (by decide) (by decide) (fx_z_dv (((((((((((((((((((((((((((((((((((((((((((((hZ.mono (by decide))).sR (by decide))).sR (by decide))).sI (by decide))).sI (by decide))).sI (by decide))).sI (by decide))).sI (by decide))).sI (by decide))).sI (by decide))).sR (by decide))).sI (by decide))).sR (by decide))).sI (by decide))).sR (by decide))).sI (by decide))).sR (by decide))).sI (by decide))).sR (by decide))).sI (by decide))).sR (by decide))).sI (by decide))).sR (by decide)) fx_dv0) ?_
  refine e_dup dX6_init_67 rfl ?_
  refine e_callN1 (μ' := mX0_init) (As := []) dX6_init_68 (List.mem_of_getElem? (i := 0) rfl) ok_X0_init (by decide) (Nat.le_of_ble_eq_true rfl) ⟨by decide, by decide⟩ (s_X0_init (m := fx_sR (fx_sI (fx_sR (fx_sI (fx_sR (fx_sI (fx_sR (fx_sI (fx_sR (fx_sI (fx_sR (fx_sI (fx_sR (fx_sI (fx_sI (fx_sI (fx_sI (fx_sI (fx_sI (fx_sI (fx_sR (fx_sR m 1 0 (some 2)) 1 1 (some 3)) 1 2 0) 1 3 0) 1 4 0) 1 5 0) 1 6 0) 1 7 1) 4 6 99) 2 0 (some 4)) 5 6 99) 2 1 (some 5)) 6 6 99) 2 2 (some 6)) 7 6 99) 2 3 (some 7)) 8 6 99) 2 4 (some 8)) 9 6 99) 2 5 (some 9)) 10 6 99) 2 6 (some 10)) rfl (by decide)) rfl ?_
  refine e_aast (j := 7) dX6_init_71 rfl (Or.inl ⟨rfl, rfl, rfl⟩) (by decide) rfl (by decide) rfl (by decide) (by decide) ?_
  refine e_iinc (v := 8) dX6_init_72 rfl (by decide) (by decide) rfl ?_
  refine e_goto 53 dX6_init_75 rfl ?_
  refine e_weak (lv2 := [some (fx_rf Γ 1), some (.int 8)]) ⟨rfl, rfl, trivial⟩ ?_
  refine e_iload_n dX6_init_53 rfl ?_
  refine e_bipush dX6_init_54 kcb_8 ?_
  refine e_icmp_ge 78 dX6_init_56 rfl (fun _ => ?_) (fun h => absurd (by decide) h)
  refine e_iconst dX6_init_78 kci_0 ?_
  refine e_istore_n dX6_init_79 (by decide) rfl ?_
  refine e_weak (lv2 := [some (fx_rf Γ 1), some (.int 0)]) ⟨rfl, rfl, trivial⟩ ?_
  refine e_iload_n dX6_init_80 rfl ?_
  refine e_iconst dX6_init_81 kci_5 ?_
  refine e_icmp_ge 104 dX6_init_82 rfl (fun h => absurd h (by decide)) (fun _ => ?_)
  refine e_aload_n dX6_init_85 rfl ?_
  refine e_getr (o2 := 3) dX6_init_86 ff_X6_19 rfl (by decide) (by decide) rfl (by simp [fx_sI, fx_sR]) ?_
  refine e_iload_n dX6_init_89 rfl ?_
  refine e_new (o := 12) (ci := 1) dX6_init_90 wk_X6_17 wn_DrawerOfArmsDoll wz_DrawerOfArmsDoll fx_cl1 (by decide) rfl (by decide) (by decide) (fx_z_dv (((((((((((((((((((((((((((((((((((((((((((((((((hZ.mono (by decide))).sR (by decide))).sR (by decide))).sI (by decide))).sI (by decide))).sI (by decide))).sI (by decide))).sI (by decide))).sI (by decide))).sI (by decide))).sR (by decide))).sI (by decide))).sR (by decide))).sI (by decide))).sR (by decide))).sI (by decide))).sR (by decide))).sI (by decide))).sR (by decide))).sI (by decide))).sR (by decide))).sI (by decide))).sR (by decide))).sI (by decide))).sR (by decide)) fx_dv1) ?_
  refine e_dup dX6_init_93 rfl ?_
  refine e_callN1 (μ' := mX1_init) (As := []) dX6_init_94 (List.mem_of_getElem? (i := 1) rfl) ok_X1_init (by decide) (Nat.le_of_ble_eq_true rfl) ⟨by decide, by decide⟩ (s_X1_init (m := fx_sR (fx_sI (fx_sR (fx_sI (fx_sR (fx_sI (fx_sR (fx_sI (fx_sR (fx_sI (fx_sR (fx_sI (fx_sR (fx_sI (fx_sR (fx_sI (fx_sI (fx_sI (fx_sI (fx_sI (fx_sI (fx_sI (fx_sR (fx_sR m 1 0 (some 2)) 1 1 (some 3)) 1 2 0) 1 3 0) 1 4 0) 1 5 0) 1 6 0) 1 7 1) 4 6 99) 2 0 (some 4)) 5 6 99) 2 1 (some 5)) 6 6 99) 2 2 (some 6)) 7 6 99) 2 3 (some 7)) 8 6 99) 2 4 (some 8)) 9 6 99) 2 5 (some 9)) 10 6 99) 2 6 (some 10)) 11 6 99) 2 7 (some 11)) rfl (by decide)) rfl ?_
  refine e_aast (j := 0) dX6_init_97 rfl (Or.inr (Or.inl ⟨rfl, rfl, rfl⟩)) (by decide) rfl (by decide) rfl (by decide) (by decide) ?_
  refine e_iinc (v := 1) dX6_init_98 rfl (by decide) (by decide) rfl ?_
  refine e_goto 80 dX6_init_101 rfl ?_
  refine e_weak (lv2 := [some (fx_rf Γ 1), some (.int 1)]) ⟨rfl, rfl, trivial⟩ ?_
  refine e_iload_n dX6_init_80 rfl ?_
  refine e_iconst dX6_init_81 kci_5 ?_
  refine e_icmp_ge 104 dX6_init_82 rfl (fun h => absurd h (by decide)) (fun _ => ?_)
  refine e_aload_n dX6_init_85 rfl ?_
  refine e_getr (o2 := 3) dX6_init_86 ff_X6_19 rfl (by decide) (by decide) rfl (by simp [fx_sI, fx_sR]) ?_
  refine e_iload_n dX6_init_89 rfl ?_
  refine e_new (o := 13) (ci := 1) dX6_init_90 wk_X6_17 wn_DrawerOfArmsDoll wz_DrawerOfArmsDoll fx_cl1 (by decide) rfl (by decide) (by decide) (fx_z_dv (((((((((((((((((((((((((((((((((((((((((((((((((((hZ.mono (by decide))).sR (by decide))).sR (by decide))).sI (by decide))).sI (by decide))).sI (by decide))).sI (by decide))).sI (by decide))).sI (by decide))).sI (by decide))).sR (by decide))).sI (by decide))).sR (by decide))).sI (by decide))).sR (by decide))).sI (by decide))).sR (by decide))).sI (by decide))).sR (by decide))).sI (by decide))).sR (by decide))).sI (by decide))).sR (by decide))).sI (by decide))).sR (by decide))).sR (by decide)) fx_dv1) ?_
  refine e_dup dX6_init_93 rfl ?_
  refine e_callN1 (μ' := mX1_init) (As := []) dX6_init_94 (List.mem_of_getElem? (i := 1) rfl) ok_X1_init (by decide) (Nat.le_of_ble_eq_true rfl) ⟨by decide, by decide⟩ (s_X1_init (m := fx_sR (fx_sR (fx_sI (fx_sR (fx_sI (fx_sR (fx_sI (fx_sR (fx_sI (fx_sR (fx_sI (fx_sR (fx_sI (fx_sR (fx_sI (fx_sR (fx_sI (fx_sI (fx_sI (fx_sI (fx_sI (fx_sI (fx_sI (fx_sR (fx_sR m 1 0 (some 2)) 1 1 (some 3)) 1 2 0) 1 3 0) 1 4 0) 1 5 0) 1 6 0) 1 7 1) 4 6 99) 2 0 (some 4)) 5 6 99) 2 1 (some 5)) 6 6 99) 2 2 (some 6)) 7 6 99) 2 3 (some 7)) 8 6 99) 2 4 (some 8)) 9 6 99) 2 5 (some 9)) 10 6 99) 2 6 (some 10)) 11 6 99) 2 7 (some 11)) 3 0 (some 12)) rfl (by decide)) rfl ?_
  refine e_aast (j := 1) dX6_init_97 rfl (Or.inr (Or.inl ⟨rfl, rfl, rfl⟩)) (by decide) rfl (by decide) rfl (by decide) (by decide) ?_
  refine e_iinc (v := 2) dX6_init_98 rfl (by decide) (by decide) rfl ?_
  refine e_goto 80 dX6_init_101 rfl ?_
  refine e_weak (lv2 := [some (fx_rf Γ 1), some (.int 2)]) ⟨rfl, rfl, trivial⟩ ?_
  refine e_iload_n dX6_init_80 rfl ?_
  refine e_iconst dX6_init_81 kci_5 ?_
  refine e_icmp_ge 104 dX6_init_82 rfl (fun h => absurd h (by decide)) (fun _ => ?_)
  refine e_aload_n dX6_init_85 rfl ?_
  refine e_getr (o2 := 3) dX6_init_86 ff_X6_19 rfl (by decide) (by decide) rfl (by simp [fx_sI, fx_sR]) ?_
  refine e_iload_n dX6_init_89 rfl ?_
  refine e_new (o := 14) (ci := 1) dX6_init_90 wk_X6_17 wn_DrawerOfArmsDoll wz_DrawerOfArmsDoll fx_cl1 (by decide) rfl (by decide) (by decide) (fx_z_dv (((((((((((((((((((((((((((((((((((((((((((((((((((((hZ.mono (by decide))).sR (by decide))).sR (by decide))).sI (by decide))).sI (by decide))).sI (by decide))).sI (by decide))).sI (by decide))).sI (by decide))).sI (by decide))).sR (by decide))).sI (by decide))).sR (by decide))).sI (by decide))).sR (by decide))).sI (by decide))).sR (by decide))).sI (by decide))).sR (by decide))).sI (by decide))).sR (by decide))).sI (by decide))).sR (by decide))).sI (by decide))).sR (by decide))).sR (by decide))).sR (by decide)) fx_dv1) ?_
  refine e_dup dX6_init_93 rfl ?_
  refine e_callN1 (μ' := mX1_init) (As := []) dX6_init_94 (List.mem_of_getElem? (i := 1) rfl) ok_X1_init (by decide) (Nat.le_of_ble_eq_true rfl) ⟨by decide, by decide⟩ (s_X1_init (m := fx_sR (fx_sR (fx_sR (fx_sI (fx_sR (fx_sI (fx_sR (fx_sI (fx_sR (fx_sI (fx_sR (fx_sI (fx_sR (fx_sI (fx_sR (fx_sI (fx_sR (fx_sI (fx_sI (fx_sI (fx_sI (fx_sI (fx_sI (fx_sI (fx_sR (fx_sR m 1 0 (some 2)) 1 1 (some 3)) 1 2 0) 1 3 0) 1 4 0) 1 5 0) 1 6 0) 1 7 1) 4 6 99) 2 0 (some 4)) 5 6 99) 2 1 (some 5)) 6 6 99) 2 2 (some 6)) 7 6 99) 2 3 (some 7)) 8 6 99) 2 4 (some 8)) 9 6 99) 2 5 (some 9)) 10 6 99) 2 6 (some 10)) 11 6 99) 2 7 (some 11)) 3 0 (some 12)) 3 1 (some 13)) rfl (by decide)) rfl ?_
  refine e_aast (j := 2) dX6_init_97 rfl (Or.inr (Or.inl ⟨rfl, rfl, rfl⟩)) (by decide) rfl (by decide) rfl (by decide) (by decide) ?_
  refine e_iinc (v := 3) dX6_init_98 rfl (by decide) (by decide) rfl ?_
  refine e_goto 80 dX6_init_101 rfl ?_
  refine e_weak (lv2 := [some (fx_rf Γ 1), some (.int 3)]) ⟨rfl, rfl, trivial⟩ ?_
  refine e_iload_n dX6_init_80 rfl ?_
  refine e_iconst dX6_init_81 kci_5 ?_
  refine e_icmp_ge 104 dX6_init_82 rfl (fun h => absurd h (by decide)) (fun _ => ?_)
  refine e_aload_n dX6_init_85 rfl ?_
  refine e_getr (o2 := 3) dX6_init_86 ff_X6_19 rfl (by decide) (by decide) rfl (by simp [fx_sI, fx_sR]) ?_
  refine e_iload_n dX6_init_89 rfl ?_
  refine e_new (o := 15) (ci := 1) dX6_init_90 wk_X6_17 wn_DrawerOfArmsDoll wz_DrawerOfArmsDoll fx_cl1 (by decide) rfl (by decide) (by decide) (fx_z_dv (((((((((((((((((((((((((((((((((((((((((((((((((((((((hZ.mono (by decide))).sR (by decide))).sR (by decide))).sI (by decide))).sI (by decide))).sI (by decide))).sI (by decide))).sI (by decide))).sI (by decide))).sI (by decide))).sR (by decide))).sI (by decide))).sR (by decide))).sI (by decide))).sR (by decide))).sI (by decide))).sR (by decide))).sI (by decide))).sR (by decide))).sI (by decide))).sR (by decide))).sI (by decide))).sR (by decide))).sI (by decide))).sR (by decide))).sR (by decide))).sR (by decide))).sR (by decide)) fx_dv1) ?_
  refine e_dup dX6_init_93 rfl ?_
  refine e_callN1 (μ' := mX1_init) (As := []) dX6_init_94 (List.mem_of_getElem? (i := 1) rfl) ok_X1_init (by decide) (Nat.le_of_ble_eq_true rfl) ⟨by decide, by decide⟩ (s_X1_init (m := fx_sR (fx_sR (fx_sR (fx_sR (fx_sI (fx_sR (fx_sI (fx_sR (fx_sI (fx_sR (fx_sI (fx_sR (fx_sI (fx_sR (fx_sI (fx_sR (fx_sI (fx_sR (fx_sI (fx_sI (fx_sI (fx_sI (fx_sI (fx_sI (fx_sI (fx_sR (fx_sR m 1 0 (some 2)) 1 1 (some 3)) 1 2 0) 1 3 0) 1 4 0) 1 5 0) 1 6 0) 1 7 1) 4 6 99) 2 0 (some 4)) 5 6 99) 2 1 (some 5)) 6 6 99) 2 2 (some 6)) 7 6 99) 2 3 (some 7)) 8 6 99) 2 4 (some 8)) 9 6 99) 2 5 (some 9)) 10 6 99) 2 6 (some 10)) 11 6 99) 2 7 (some 11)) 3 0 (some 12)) 3 1 (some 13)) 3 2 (some 14)) rfl (by decide)) rfl ?_
  refine e_aast (j := 3) dX6_init_97 rfl (Or.inr (Or.inl ⟨rfl, rfl, rfl⟩)) (by decide) rfl (by decide) rfl (by decide) (by decide) ?_
  refine e_iinc (v := 4) dX6_init_98 rfl (by decide) (by decide) rfl ?_
  refine e_goto 80 dX6_init_101 rfl ?_
  refine e_weak (lv2 := [some (fx_rf Γ 1), some (.int 4)]) ⟨rfl, rfl, trivial⟩ ?_
  refine e_iload_n dX6_init_80 rfl ?_
  refine e_iconst dX6_init_81 kci_5 ?_
  refine e_icmp_ge 104 dX6_init_82 rfl (fun h => absurd h (by decide)) (fun _ => ?_)
  refine e_aload_n dX6_init_85 rfl ?_
  refine e_getr (o2 := 3) dX6_init_86 ff_X6_19 rfl (by decide) (by decide) rfl (by simp [fx_sI, fx_sR]) ?_
  refine e_iload_n dX6_init_89 rfl ?_
  refine e_new (o := 16) (ci := 1) dX6_init_90 wk_X6_17 wn_DrawerOfArmsDoll wz_DrawerOfArmsDoll fx_cl1 (by decide) rfl (by decide) (by decide) (fx_z_dv (((((((((((((((((((((((((((((((((((((((((((((((((((((((((hZ.mono (by decide))).sR (by decide))).sR (by decide))).sI (by decide))).sI (by decide))).sI (by decide))).sI (by decide))).sI (by decide))).sI (by decide))).sI (by decide))).sR (by decide))).sI (by decide))).sR (by decide))).sI (by decide))).sR (by decide))).sI (by decide))).sR (by decide))).sI (by decide))).sR (by decide))).sI (by decide))).sR (by decide))).sI (by decide))).sR (by decide))).sI (by decide))).sR (by decide))).sR (by decide))).sR (by decide))).sR (by decide))).sR (by decide)) fx_dv1) ?_
  refine e_dup dX6_init_93 rfl ?_
  refine e_callN1 (μ' := mX1_init) (As := []) dX6_init_94 (List.mem_of_getElem? (i := 1) rfl) ok_X1_init (by decide) (Nat.le_of_ble_eq_true rfl) ⟨by decide, by decide⟩ (s_X1_init (m := fx_sR (fx_sR (fx_sR (fx_sR (fx_sR (fx_sI (fx_sR (fx_sI (fx_sR (fx_sI (fx_sR (fx_sI (fx_sR (fx_sI (fx_sR (fx_sI (fx_sR (fx_sI (fx_sR (fx_sI (fx_sI (fx_sI (fx_sI (fx_sI (fx_sI (fx_sI (fx_sR (fx_sR m 1 0 (some 2)) 1 1 (some 3)) 1 2 0) 1 3 0) 1 4 0) 1 5 0) 1 6 0) 1 7 1) 4 6 99) 2 0 (some 4)) 5 6 99) 2 1 (some 5)) 6 6 99) 2 2 (some 6)) 7 6 99) 2 3 (some 7)) 8 6 99) 2 4 (some 8)) 9 6 99) 2 5 (some 9)) 10 6 99) 2 6 (some 10)) 11 6 99) 2 7 (some 11)) 3 0 (some 12)) 3 1 (some 13)) 3 2 (some 14)) 3 3 (some 15)) rfl (by decide)) rfl ?_
  refine e_aast (j := 4) dX6_init_97 rfl (Or.inr (Or.inl ⟨rfl, rfl, rfl⟩)) (by decide) rfl (by decide) rfl (by decide) (by decide) ?_
  refine e_iinc (v := 5) dX6_init_98 rfl (by decide) (by decide) rfl ?_
  refine e_goto 80 dX6_init_101 rfl ?_
  refine e_weak (lv2 := [some (fx_rf Γ 1), some (.int 5)]) ⟨rfl, rfl, trivial⟩ ?_
  refine e_iload_n dX6_init_80 rfl ?_
  refine e_iconst dX6_init_81 kci_5 ?_
  refine e_icmp_ge 104 dX6_init_82 rfl (fun _ => ?_) (fun h => absurd (by decide) h)
  have nb : fx_NB 1 17 m (fx_sR (fx_sR (fx_sR (fx_sR (fx_sR (fx_sR (fx_sI (fx_sR (fx_sI (fx_sR (fx_sI (fx_sR (fx_sI (fx_sR (fx_sI (fx_sR (fx_sI (fx_sR (fx_sI (fx_sR (fx_sI (fx_sI (fx_sI (fx_sI (fx_sI (fx_sI (fx_sI (fx_sR (fx_sR m 1 0 (some 2)) 1 1 (some 3)) 1 2 0) 1 3 0) 1 4 0) 1 5 0) 1 6 0) 1 7 1) 4 6 99) 2 0 (some 4)) 5 6 99) 2 1 (some 5)) 6 6 99) 2 2 (some 6)) 7 6 99) 2 3 (some 7)) 8 6 99) 2 4 (some 8)) 9 6 99) 2 5 (some 9)) 10 6 99) 2 6 (some 10)) 11 6 99) 2 7 (some 11)) 3 0 (some 12)) 3 1 (some 13)) 3 2 (some 14)) 3 3 (some 15)) 3 4 (some 16)) := by
    refine ⟨fun o ho => ⟨?_, ?_, ?_⟩, fun o h1 h2 => ?_⟩
    · funext k; simp [fx_sI, fx_sR, show o ≠ 1 from fun e => ho (by rw [e]; decide), show o ≠ 2 from fun e => ho (by rw [e]; decide), show o ≠ 3 from fun e => ho (by rw [e]; decide), show o ≠ 4 from fun e => ho (by rw [e]; decide), show o ≠ 5 from fun e => ho (by rw [e]; decide), show o ≠ 6 from fun e => ho (by rw [e]; decide), show o ≠ 7 from fun e => ho (by rw [e]; decide), show o ≠ 8 from fun e => ho (by rw [e]; decide), show o ≠ 9 from fun e => ho (by rw [e]; decide), show o ≠ 10 from fun e => ho (by rw [e]; decide), show o ≠ 11 from fun e => ho (by rw [e]; decide), show o ≠ 12 from fun e => ho (by rw [e]; decide), show o ≠ 13 from fun e => ho (by rw [e]; decide), show o ≠ 14 from fun e => ho (by rw [e]; decide), show o ≠ 15 from fun e => ho (by rw [e]; decide), show o ≠ 16 from fun e => ho (by rw [e]; decide)]
    · rfl
    · funext k; simp [fx_sI, fx_sR, show o ≠ 1 from fun e => ho (by rw [e]; decide), show o ≠ 2 from fun e => ho (by rw [e]; decide), show o ≠ 3 from fun e => ho (by rw [e]; decide), show o ≠ 4 from fun e => ho (by rw [e]; decide), show o ≠ 5 from fun e => ho (by rw [e]; decide), show o ≠ 6 from fun e => ho (by rw [e]; decide), show o ≠ 7 from fun e => ho (by rw [e]; decide), show o ≠ 8 from fun e => ho (by rw [e]; decide), show o ≠ 9 from fun e => ho (by rw [e]; decide), show o ≠ 10 from fun e => ho (by rw [e]; decide), show o ≠ 11 from fun e => ho (by rw [e]; decide), show o ≠ 12 from fun e => ho (by rw [e]; decide), show o ≠ 13 from fun e => ho (by rw [e]; decide), show o ≠ 14 from fun e => ho (by rw [e]; decide), show o ≠ 15 from fun e => ho (by rw [e]; decide), show o ≠ 16 from fun e => ho (by rw [e]; decide)]
    · rcases (show fx_pi o = fx_pi 1 ∨ fx_pi o = fx_pi 2 ∨ fx_pi o = fx_pi 3 ∨ fx_pi o = fx_pi 4 ∨ fx_pi o = fx_pi 5 ∨ fx_pi o = fx_pi 6 ∨ fx_pi o = fx_pi 7 ∨ fx_pi o = fx_pi 8 ∨ fx_pi o = fx_pi 9 ∨ fx_pi o = fx_pi 10 ∨ fx_pi o = fx_pi 11 ∨ fx_pi o = fx_pi 12 ∨ fx_pi o = fx_pi 13 ∨ fx_pi o = fx_pi 14 ∨ fx_pi o = fx_pi 15 ∨ fx_pi o = fx_pi 16 from (show fx_pi o = 1 ∨ fx_pi o = 2 ∨ fx_pi o = 3 ∨ fx_pi o = 4 ∨ fx_pi o = 5 ∨ fx_pi o = 6 ∨ fx_pi o = 7 ∨ fx_pi o = 8 ∨ fx_pi o = 9 ∨ fx_pi o = 10 ∨ fx_pi o = 11 ∨ fx_pi o = 12 ∨ fx_pi o = 13 ∨ fx_pi o = 14 ∨ fx_pi o = 15 ∨ fx_pi o = 16 by omega)) with e | e | e | e | e | e | e | e | e | e | e | e | e | e | e | e
      · obtain rfl := fx_pi_inj e
        refine ⟨fun k => ?_, fun k => ?_, fun k v h => ?_⟩
        · simp [fx_sI, fx_sR, fx_I0, (hZ 1 (by decide)).1] <;> ((repeat' split) <;> (first | rfl | omega))
        · simp [fx_sI, fx_sR, (hZ 1 (by decide)).2.1]
        · have hk := fx_lay_lt h
          have hk : k < 2 := hk
          rcases (show k = 0 ∨ k = 1 by omega) with rfl | rfl
          · cases (h : some 2 = some v)
            simp [fx_sI, fx_sR]
          · cases (h : some 3 = some v)
            simp [fx_sI, fx_sR]
      · obtain rfl := fx_pi_inj e
        refine ⟨fun k => ?_, fun k => ?_, fun k v h => ?_⟩
        · simp [fx_sI, fx_sR, fx_I0, (hZ 2 (by decide)).1] <;> ((repeat' split) <;> (first | rfl | omega))
        · simp [fx_sI, fx_sR, (hZ 2 (by decide)).2.1]
        · have hk := fx_lay_lt h
          have hk : k < 8 := hk
          rcases (show k = 0 ∨ k = 1 ∨ k = 2 ∨ k = 3 ∨ k = 4 ∨ k = 5 ∨ k = 6 ∨ k = 7 by omega) with rfl | rfl | rfl | rfl | rfl | rfl | rfl | rfl
          · cases (h : some 4 = some v)
            simp [fx_sI, fx_sR]
          · cases (h : some 5 = some v)
            simp [fx_sI, fx_sR]
          · cases (h : some 6 = some v)
            simp [fx_sI, fx_sR]
          · cases (h : some 7 = some v)
            simp [fx_sI, fx_sR]
          · cases (h : some 8 = some v)
            simp [fx_sI, fx_sR]
          · cases (h : some 9 = some v)
            simp [fx_sI, fx_sR]
          · cases (h : some 10 = some v)
            simp [fx_sI, fx_sR]
          · cases (h : some 11 = some v)
            simp [fx_sI, fx_sR]
      · obtain rfl := fx_pi_inj e
        refine ⟨fun k => ?_, fun k => ?_, fun k v h => ?_⟩
        · simp [fx_sI, fx_sR, fx_I0, (hZ 3 (by decide)).1] <;> ((repeat' split) <;> (first | rfl | omega))
        · simp [fx_sI, fx_sR, (hZ 3 (by decide)).2.1]
        · have hk := fx_lay_lt h
          have hk : k < 5 := hk
          rcases (show k = 0 ∨ k = 1 ∨ k = 2 ∨ k = 3 ∨ k = 4 by omega) with rfl | rfl | rfl | rfl | rfl
          · cases (h : some 12 = some v)
            simp [fx_sI, fx_sR]
          · cases (h : some 13 = some v)
            simp [fx_sI, fx_sR]
          · cases (h : some 14 = some v)
            simp [fx_sI, fx_sR]
          · cases (h : some 15 = some v)
            simp [fx_sI, fx_sR]
          · cases (h : some 16 = some v)
            simp [fx_sI, fx_sR]
      · obtain rfl := fx_pi_inj e
        refine ⟨fun k => ?_, fun k => ?_, fun k v h => ?_⟩
        · simp [fx_sI, fx_sR, fx_I0, (hZ 4 (by decide)).1] <;> ((repeat' split) <;> (first | rfl | omega))
        · simp [fx_sI, fx_sR, (hZ 4 (by decide)).2.1]
        · exact (fx_nolay rfl k v h).elim
      · obtain rfl := fx_pi_inj e
        refine ⟨fun k => ?_, fun k => ?_, fun k v h => ?_⟩
        · simp [fx_sI, fx_sR, fx_I0, (hZ 5 (by decide)).1] <;> ((repeat' split) <;> (first | rfl | omega))
        · simp [fx_sI, fx_sR, (hZ 5 (by decide)).2.1]
        · exact (fx_nolay rfl k v h).elim
      · obtain rfl := fx_pi_inj e
        refine ⟨fun k => ?_, fun k => ?_, fun k v h => ?_⟩
        · simp [fx_sI, fx_sR, fx_I0, (hZ 6 (by decide)).1] <;> ((repeat' split) <;> (first | rfl | omega))
        · simp [fx_sI, fx_sR, (hZ 6 (by decide)).2.1]
        · exact (fx_nolay rfl k v h).elim
      · obtain rfl := fx_pi_inj e
        refine ⟨fun k => ?_, fun k => ?_, fun k v h => ?_⟩
        · simp [fx_sI, fx_sR, fx_I0, (hZ 7 (by decide)).1] <;> ((repeat' split) <;> (first | rfl | omega))
        · simp [fx_sI, fx_sR, (hZ 7 (by decide)).2.1]
        · exact (fx_nolay rfl k v h).elim
      · obtain rfl := fx_pi_inj e
        refine ⟨fun k => ?_, fun k => ?_, fun k v h => ?_⟩
        · simp [fx_sI, fx_sR, fx_I0, (hZ 8 (by decide)).1] <;> ((repeat' split) <;> (first | rfl | omega))
        · simp [fx_sI, fx_sR, (hZ 8 (by decide)).2.1]
        · exact (fx_nolay rfl k v h).elim
      · obtain rfl := fx_pi_inj e
        refine ⟨fun k => ?_, fun k => ?_, fun k v h => ?_⟩
        · simp [fx_sI, fx_sR, fx_I0, (hZ 9 (by decide)).1] <;> ((repeat' split) <;> (first | rfl | omega))
        · simp [fx_sI, fx_sR, (hZ 9 (by decide)).2.1]
        · exact (fx_nolay rfl k v h).elim
      · obtain rfl := fx_pi_inj e
        refine ⟨fun k => ?_, fun k => ?_, fun k v h => ?_⟩
        · simp [fx_sI, fx_sR, fx_I0, (hZ 10 (by decide)).1] <;> ((repeat' split) <;> (first | rfl | omega))
        · simp [fx_sI, fx_sR, (hZ 10 (by decide)).2.1]
        · exact (fx_nolay rfl k v h).elim
      · obtain rfl := fx_pi_inj e
        refine ⟨fun k => ?_, fun k => ?_, fun k v h => ?_⟩
        · simp [fx_sI, fx_sR, fx_I0, (hZ 11 (by decide)).1] <;> ((repeat' split) <;> (first | rfl | omega))
        · simp [fx_sI, fx_sR, (hZ 11 (by decide)).2.1]
        · exact (fx_nolay rfl k v h).elim
      · obtain rfl := fx_pi_inj e
        refine ⟨fun k => ?_, fun k => ?_, fun k v h => ?_⟩
        · simp [fx_sI, fx_sR, fx_I0, (hZ 12 (by decide)).1] <;> ((repeat' split) <;> (first | rfl | omega))
        · simp [fx_sI, fx_sR, (hZ 12 (by decide)).2.1]
        · exact (fx_nolay rfl k v h).elim
      · obtain rfl := fx_pi_inj e
        refine ⟨fun k => ?_, fun k => ?_, fun k v h => ?_⟩
        · simp [fx_sI, fx_sR, fx_I0, (hZ 13 (by decide)).1] <;> ((repeat' split) <;> (first | rfl | omega))
        · simp [fx_sI, fx_sR, (hZ 13 (by decide)).2.1]
        · exact (fx_nolay rfl k v h).elim
      · obtain rfl := fx_pi_inj e
        refine ⟨fun k => ?_, fun k => ?_, fun k v h => ?_⟩
        · simp [fx_sI, fx_sR, fx_I0, (hZ 14 (by decide)).1] <;> ((repeat' split) <;> (first | rfl | omega))
        · simp [fx_sI, fx_sR, (hZ 14 (by decide)).2.1]
        · exact (fx_nolay rfl k v h).elim
      · obtain rfl := fx_pi_inj e
        refine ⟨fun k => ?_, fun k => ?_, fun k v h => ?_⟩
        · simp [fx_sI, fx_sR, fx_I0, (hZ 15 (by decide)).1] <;> ((repeat' split) <;> (first | rfl | omega))
        · simp [fx_sI, fx_sR, (hZ 15 (by decide)).2.1]
        · exact (fx_nolay rfl k v h).elim
      · obtain rfl := fx_pi_inj e
        refine ⟨fun k => ?_, fun k => ?_, fun k v h => ?_⟩
        · simp [fx_sI, fx_sR, fx_I0, (hZ 16 (by decide)).1] <;> ((repeat' split) <;> (first | rfl | omega))
        · simp [fx_sI, fx_sR, (hZ 16 (by decide)).2.1]
        · exact (fx_nolay rfl k v h).elim
  exact e_vret dX6_init_104 rfl rfl ⟨rfl, nb⟩
set_option maxRecDepth 100000 in
set_option maxHeartbeats 8000000 in
theorem s_X6_init17 {Γ : fx_G} {m : fx_M} (hZ : fx_Z 17 m) : fx_Ct Γ mX6_init 2 18 33 [fx_rf Γ 17] m (fun r m' => r = none ∧ fx_NB 17 33 m m') := by
  refine fx_Ct.of (j := 1) (by decide) (by decide) (Nat.le_of_ble_eq_true rfl) ?_
  show fx_E Γ mX6_init 2 18 33 _ 18 m 0 [some (fx_rf Γ 17), none] []
  refine e_aload_n dX6_init_0 rfl ?_
  refine e_objInit dX6_init_1 wl_X6_3 wi_Objectinit_V fx_wobj (by decide) (Nat.le_of_ble_eq_true rfl) ?_
  refine e_aload_n dX6_init_4 rfl ?_
  refine e_bipush dX6_init_5 kcb_8 ?_
  refine e_newQ (o := 18) (N := 8) (t := 2) dX6_init_7 wk_X6_11 (Or.inl ⟨rfl, rfl, rfl⟩) rfl (by decide) rfl (by decide) (by decide) (by decide) (fun j _ => ((hZ.mono (by decide)) _ (Nat.le_refl _)).2.2 j) ?_
  refine e_putr dX6_init_10 ff_X6_13 rfl (by decide) (by decide) rfl (Or.inr ⟨rfl, rfl⟩) (fun _ => rfl) (fun _ => rfl) ?_
  refine e_aload_n dX6_init_13 rfl ?_
  refine e_iconst dX6_init_14 kci_5 ?_
  refine e_newQ (o := 19) (N := 5) (t := 3) dX6_init_15 wk_X6_17 (Or.inr (Or.inl ⟨rfl, rfl, rfl⟩)) rfl (by decide) rfl (by decide) (by decide) (by decide) (fun j _ => ((((hZ.mono (by decide))).sR (by decide)) _ (Nat.le_refl _)).2.2 j) ?_
  refine e_putr dX6_init_18 ff_X6_19 rfl (by decide) (by decide) rfl (Or.inr ⟨rfl, rfl⟩) (fun _ => rfl) (fun _ => rfl) ?_
  refine e_aload_n dX6_init_21 rfl ?_
  refine e_iconst dX6_init_22 kci_0 ?_
  refine e_put dX6_init_23 ff_X6_23 rfl (by decide) (by decide) rfl (Or.inl rfl) ?_
  refine e_aload_n dX6_init_26 rfl ?_
  refine e_iconst dX6_init_27 kci_0 ?_
  refine e_put dX6_init_28 ff_X6_27 rfl (by decide) (by decide) rfl (Or.inl rfl) ?_
  refine e_aload_n dX6_init_31 rfl ?_
  refine e_iconst dX6_init_32 kci_0 ?_
  refine e_put dX6_init_33 ff_X6_30 rfl (by decide) (by decide) rfl (Or.inl rfl) ?_
  refine e_aload_n dX6_init_36 rfl ?_
  refine e_iconst dX6_init_37 kci_0 ?_
  refine e_put dX6_init_38 ff_X6_33 rfl (by decide) (by decide) rfl (Or.inl rfl) ?_
  refine e_aload_n dX6_init_41 rfl ?_
  refine e_iconst dX6_init_42 kci_0 ?_
  refine e_put dX6_init_43 ff_X6_36 rfl (by decide) (by decide) rfl (Or.inl rfl) ?_
  refine e_aload_n dX6_init_46 rfl ?_
  refine e_iconst dX6_init_47 kci_1 ?_
  refine e_put dX6_init_48 ff_X6_39 rfl (by decide) (by decide) rfl (Or.inl rfl) ?_
  refine e_iconst dX6_init_51 kci_0 ?_
  refine e_istore_n dX6_init_52 (by decide) rfl ?_
  refine e_weak (lv2 := [some (fx_rf Γ 17), some (.int 0)]) ⟨rfl, rfl, trivial⟩ ?_
  refine e_iload_n dX6_init_53 rfl ?_
  refine e_bipush dX6_init_54 kcb_8 ?_
  refine e_icmp_ge 78 dX6_init_56 rfl (fun h => absurd h (by decide)) (fun _ => ?_)
  refine e_aload_n dX6_init_59 rfl ?_
  refine e_getr (o2 := 18) dX6_init_60 ff_X6_13 rfl (by decide) (by decide) rfl (by simp [fx_sI, fx_sR]) ?_
  refine e_iload_n dX6_init_63 rfl ?_
  refine e_new (o := 20) (ci := 0) dX6_init_64 wk_X6_11 wn_DrawerOfArmsArm wz_DrawerOfArmsArm fx_cl0 (by decide) rfl (by decide) (by decide) (fx_z_dv (((((((((((((((((hZ.mono (by decide))).sR (by decide))).sR (by decide))).sI (by decide))).sI (by decide))).sI (by decide))).sI (by decide))).sI (by decide))).sI (by decide)) fx_dv0) ?_
  refine e_dup dX6_init_67 rfl ?_
  refine e_callN1 (μ' := mX0_init) (As := []) dX6_init_68 (List.mem_of_getElem? (i := 0) rfl) ok_X0_init (by decide) (Nat.le_of_ble_eq_true rfl) ⟨by decide, by decide⟩ (s_X0_init (m := fx_sI (fx_sI (fx_sI (fx_sI (fx_sI (fx_sI (fx_sR (fx_sR m 17 0 (some 18)) 17 1 (some 19)) 17 2 0) 17 3 0) 17 4 0) 17 5 0) 17 6 0) 17 7 1) rfl (by decide)) rfl ?_
  refine e_aast (j := 0) dX6_init_71 rfl (Or.inl ⟨rfl, rfl, rfl⟩) (by decide) rfl (by decide) rfl (by decide) (by decide) ?_
  refine e_iinc (v := 1) dX6_init_72 rfl (by decide) (by decide) rfl ?_
  refine e_goto 53 dX6_init_75 rfl ?_
  refine e_weak (lv2 := [some (fx_rf Γ 17), some (.int 1)]) ⟨rfl, rfl, trivial⟩ ?_
  refine e_iload_n dX6_init_53 rfl ?_
  refine e_bipush dX6_init_54 kcb_8 ?_
  refine e_icmp_ge 78 dX6_init_56 rfl (fun h => absurd h (by decide)) (fun _ => ?_)
  refine e_aload_n dX6_init_59 rfl ?_
  refine e_getr (o2 := 18) dX6_init_60 ff_X6_13 rfl (by decide) (by decide) rfl (by simp [fx_sI, fx_sR]) ?_
  refine e_iload_n dX6_init_63 rfl ?_
  refine e_new (o := 21) (ci := 0) dX6_init_64 wk_X6_11 wn_DrawerOfArmsArm wz_DrawerOfArmsArm fx_cl0 (by decide) rfl (by decide) (by decide) (fx_z_dv (((((((((((((((((((((hZ.mono (by decide))).sR (by decide))).sR (by decide))).sI (by decide))).sI (by decide))).sI (by decide))).sI (by decide))).sI (by decide))).sI (by decide))).sI (by decide))).sR (by decide)) fx_dv0) ?_
  refine e_dup dX6_init_67 rfl ?_
  refine e_callN1 (μ' := mX0_init) (As := []) dX6_init_68 (List.mem_of_getElem? (i := 0) rfl) ok_X0_init (by decide) (Nat.le_of_ble_eq_true rfl) ⟨by decide, by decide⟩ (s_X0_init (m := fx_sR (fx_sI (fx_sI (fx_sI (fx_sI (fx_sI (fx_sI (fx_sI (fx_sR (fx_sR m 17 0 (some 18)) 17 1 (some 19)) 17 2 0) 17 3 0) 17 4 0) 17 5 0) 17 6 0) 17 7 1) 20 6 99) 18 0 (some 20)) rfl (by decide)) rfl ?_
  refine e_aast (j := 1) dX6_init_71 rfl (Or.inl ⟨rfl, rfl, rfl⟩) (by decide) rfl (by decide) rfl (by decide) (by decide) ?_
  refine e_iinc (v := 2) dX6_init_72 rfl (by decide) (by decide) rfl ?_
  refine e_goto 53 dX6_init_75 rfl ?_
  refine e_weak (lv2 := [some (fx_rf Γ 17), some (.int 2)]) ⟨rfl, rfl, trivial⟩ ?_
  refine e_iload_n dX6_init_53 rfl ?_
  refine e_bipush dX6_init_54 kcb_8 ?_
  refine e_icmp_ge 78 dX6_init_56 rfl (fun h => absurd h (by decide)) (fun _ => ?_)
  refine e_aload_n dX6_init_59 rfl ?_
  refine e_getr (o2 := 18) dX6_init_60 ff_X6_13 rfl (by decide) (by decide) rfl (by simp [fx_sI, fx_sR]) ?_
  refine e_iload_n dX6_init_63 rfl ?_
  refine e_new (o := 22) (ci := 0) dX6_init_64 wk_X6_11 wn_DrawerOfArmsArm wz_DrawerOfArmsArm fx_cl0 (by decide) rfl (by decide) (by decide) (fx_z_dv (((((((((((((((((((((((((hZ.mono (by decide))).sR (by decide))).sR (by decide))).sI (by decide))).sI (by decide))).sI (by decide))).sI (by decide))).sI (by decide))).sI (by decide))).sI (by decide))).sR (by decide))).sI (by decide))).sR (by decide)) fx_dv0) ?_
  refine e_dup dX6_init_67 rfl ?_
  refine e_callN1 (μ' := mX0_init) (As := []) dX6_init_68 (List.mem_of_getElem? (i := 0) rfl) ok_X0_init (by decide) (Nat.le_of_ble_eq_true rfl) ⟨by decide, by decide⟩ (s_X0_init (m := fx_sR (fx_sI (fx_sR (fx_sI (fx_sI (fx_sI (fx_sI (fx_sI (fx_sI (fx_sI (fx_sR (fx_sR m 17 0 (some 18)) 17 1 (some 19)) 17 2 0) 17 3 0) 17 4 0) 17 5 0) 17 6 0) 17 7 1) 20 6 99) 18 0 (some 20)) 21 6 99) 18 1 (some 21)) rfl (by decide)) rfl ?_
  refine e_aast (j := 2) dX6_init_71 rfl (Or.inl ⟨rfl, rfl, rfl⟩) (by decide) rfl (by decide) rfl (by decide) (by decide) ?_
  refine e_iinc (v := 3) dX6_init_72 rfl (by decide) (by decide) rfl ?_
  refine e_goto 53 dX6_init_75 rfl ?_
  refine e_weak (lv2 := [some (fx_rf Γ 17), some (.int 3)]) ⟨rfl, rfl, trivial⟩ ?_
  refine e_iload_n dX6_init_53 rfl ?_
  refine e_bipush dX6_init_54 kcb_8 ?_
  refine e_icmp_ge 78 dX6_init_56 rfl (fun h => absurd h (by decide)) (fun _ => ?_)
  refine e_aload_n dX6_init_59 rfl ?_
  refine e_getr (o2 := 18) dX6_init_60 ff_X6_13 rfl (by decide) (by decide) rfl (by simp [fx_sI, fx_sR]) ?_
  refine e_iload_n dX6_init_63 rfl ?_
  refine e_new (o := 23) (ci := 0) dX6_init_64 wk_X6_11 wn_DrawerOfArmsArm wz_DrawerOfArmsArm fx_cl0 (by decide) rfl (by decide) (by decide) (fx_z_dv (((((((((((((((((((((((((((((hZ.mono (by decide))).sR (by decide))).sR (by decide))).sI (by decide))).sI (by decide))).sI (by decide))).sI (by decide))).sI (by decide))).sI (by decide))).sI (by decide))).sR (by decide))).sI (by decide))).sR (by decide))).sI (by decide))).sR (by decide)) fx_dv0) ?_
  refine e_dup dX6_init_67 rfl ?_
  refine e_callN1 (μ' := mX0_init) (As := []) dX6_init_68 (List.mem_of_getElem? (i := 0) rfl) ok_X0_init (by decide) (Nat.le_of_ble_eq_true rfl) ⟨by decide, by decide⟩ (s_X0_init (m := fx_sR (fx_sI (fx_sR (fx_sI (fx_sR (fx_sI (fx_sI (fx_sI (fx_sI (fx_sI (fx_sI (fx_sI (fx_sR (fx_sR m 17 0 (some 18)) 17 1 (some 19)) 17 2 0) 17 3 0) 17 4 0) 17 5 0) 17 6 0) 17 7 1) 20 6 99) 18 0 (some 20)) 21 6 99) 18 1 (some 21)) 22 6 99) 18 2 (some 22)) rfl (by decide)) rfl ?_
  refine e_aast (j := 3) dX6_init_71 rfl (Or.inl ⟨rfl, rfl, rfl⟩) (by decide) rfl (by decide) rfl (by decide) (by decide) ?_
  refine e_iinc (v := 4) dX6_init_72 rfl (by decide) (by decide) rfl ?_
  refine e_goto 53 dX6_init_75 rfl ?_
  refine e_weak (lv2 := [some (fx_rf Γ 17), some (.int 4)]) ⟨rfl, rfl, trivial⟩ ?_
  refine e_iload_n dX6_init_53 rfl ?_
  refine e_bipush dX6_init_54 kcb_8 ?_
  refine e_icmp_ge 78 dX6_init_56 rfl (fun h => absurd h (by decide)) (fun _ => ?_)
  refine e_aload_n dX6_init_59 rfl ?_
  refine e_getr (o2 := 18) dX6_init_60 ff_X6_13 rfl (by decide) (by decide) rfl (by simp [fx_sI, fx_sR]) ?_
  refine e_iload_n dX6_init_63 rfl ?_
  refine e_new (o := 24) (ci := 0) dX6_init_64 wk_X6_11 wn_DrawerOfArmsArm wz_DrawerOfArmsArm fx_cl0 (by decide) rfl (by decide) (by decide) (fx_z_dv (((((((((((((((((((((((((((((((((hZ.mono (by decide))).sR (by decide))).sR (by decide))).sI (by decide))).sI (by decide))).sI (by decide))).sI (by decide))).sI (by decide))).sI (by decide))).sI (by decide))).sR (by decide))).sI (by decide))).sR (by decide))).sI (by decide))).sR (by decide))).sI (by decide))).sR (by decide)) fx_dv0) ?_
  refine e_dup dX6_init_67 rfl ?_
  refine e_callN1 (μ' := mX0_init) (As := []) dX6_init_68 (List.mem_of_getElem? (i := 0) rfl) ok_X0_init (by decide) (Nat.le_of_ble_eq_true rfl) ⟨by decide, by decide⟩ (s_X0_init (m := fx_sR (fx_sI (fx_sR (fx_sI (fx_sR (fx_sI (fx_sR (fx_sI (fx_sI (fx_sI (fx_sI (fx_sI (fx_sI (fx_sI (fx_sR (fx_sR m 17 0 (some 18)) 17 1 (some 19)) 17 2 0) 17 3 0) 17 4 0) 17 5 0) 17 6 0) 17 7 1) 20 6 99) 18 0 (some 20)) 21 6 99) 18 1 (some 21)) 22 6 99) 18 2 (some 22)) 23 6 99) 18 3 (some 23)) rfl (by decide)) rfl ?_
  refine e_aast (j := 4) dX6_init_71 rfl (Or.inl ⟨rfl, rfl, rfl⟩) (by decide) rfl (by decide) rfl (by decide) (by decide) ?_
  refine e_iinc (v := 5) dX6_init_72 rfl (by decide) (by decide) rfl ?_
  refine e_goto 53 dX6_init_75 rfl ?_
  refine e_weak (lv2 := [some (fx_rf Γ 17), some (.int 5)]) ⟨rfl, rfl, trivial⟩ ?_
  refine e_iload_n dX6_init_53 rfl ?_
  refine e_bipush dX6_init_54 kcb_8 ?_
  refine e_icmp_ge 78 dX6_init_56 rfl (fun h => absurd h (by decide)) (fun _ => ?_)
  refine e_aload_n dX6_init_59 rfl ?_
  refine e_getr (o2 := 18) dX6_init_60 ff_X6_13 rfl (by decide) (by decide) rfl (by simp [fx_sI, fx_sR]) ?_
  refine e_iload_n dX6_init_63 rfl ?_
  refine e_new (o := 25) (ci := 0) dX6_init_64 wk_X6_11 wn_DrawerOfArmsArm wz_DrawerOfArmsArm fx_cl0 (by decide) rfl (by decide) (by decide) (fx_z_dv (((((((((((((((((((((((((((((((((((((hZ.mono (by decide))).sR (by decide))).sR (by decide))).sI (by decide))).sI (by decide))).sI (by decide))).sI (by decide))).sI (by decide))).sI (by decide))).sI (by decide))).sR (by decide))).sI (by decide))).sR (by decide))).sI (by decide))).sR (by decide))).sI (by decide))).sR (by decide))).sI (by decide))).sR (by decide)) fx_dv0) ?_
  refine e_dup dX6_init_67 rfl ?_
  refine e_callN1 (μ' := mX0_init) (As := []) dX6_init_68 (List.mem_of_getElem? (i := 0) rfl) ok_X0_init (by decide) (Nat.le_of_ble_eq_true rfl) ⟨by decide, by decide⟩ (s_X0_init (m := fx_sR (fx_sI (fx_sR (fx_sI (fx_sR (fx_sI (fx_sR (fx_sI (fx_sR (fx_sI (fx_sI (fx_sI (fx_sI (fx_sI (fx_sI (fx_sI (fx_sR (fx_sR m 17 0 (some 18)) 17 1 (some 19)) 17 2 0) 17 3 0) 17 4 0) 17 5 0) 17 6 0) 17 7 1) 20 6 99) 18 0 (some 20)) 21 6 99) 18 1 (some 21)) 22 6 99) 18 2 (some 22)) 23 6 99) 18 3 (some 23)) 24 6 99) 18 4 (some 24)) rfl (by decide)) rfl ?_
  refine e_aast (j := 5) dX6_init_71 rfl (Or.inl ⟨rfl, rfl, rfl⟩) (by decide) rfl (by decide) rfl (by decide) (by decide) ?_
  refine e_iinc (v := 6) dX6_init_72 rfl (by decide) (by decide) rfl ?_
  refine e_goto 53 dX6_init_75 rfl ?_
  refine e_weak (lv2 := [some (fx_rf Γ 17), some (.int 6)]) ⟨rfl, rfl, trivial⟩ ?_
  refine e_iload_n dX6_init_53 rfl ?_
  refine e_bipush dX6_init_54 kcb_8 ?_
  refine e_icmp_ge 78 dX6_init_56 rfl (fun h => absurd h (by decide)) (fun _ => ?_)
  refine e_aload_n dX6_init_59 rfl ?_
  refine e_getr (o2 := 18) dX6_init_60 ff_X6_13 rfl (by decide) (by decide) rfl (by simp [fx_sI, fx_sR]) ?_
  refine e_iload_n dX6_init_63 rfl ?_
  refine e_new (o := 26) (ci := 0) dX6_init_64 wk_X6_11 wn_DrawerOfArmsArm wz_DrawerOfArmsArm fx_cl0 (by decide) rfl (by decide) (by decide) (fx_z_dv (((((((((((((((((((((((((((((((((((((((((hZ.mono (by decide))).sR (by decide))).sR (by decide))).sI (by decide))).sI (by decide))).sI (by decide))).sI (by decide))).sI (by decide))).sI (by decide))).sI (by decide))).sR (by decide))).sI (by decide))).sR (by decide))).sI (by decide))).sR (by decide))).sI (by decide))).sR (by decide))).sI (by decide))).sR (by decide))).sI (by decide))).sR (by decide)) fx_dv0) ?_
  refine e_dup dX6_init_67 rfl ?_
  refine e_callN1 (μ' := mX0_init) (As := []) dX6_init_68 (List.mem_of_getElem? (i := 0) rfl) ok_X0_init (by decide) (Nat.le_of_ble_eq_true rfl) ⟨by decide, by decide⟩ (s_X0_init (m := fx_sR (fx_sI (fx_sR (fx_sI (fx_sR (fx_sI (fx_sR (fx_sI (fx_sR (fx_sI (fx_sR (fx_sI (fx_sI (fx_sI (fx_sI (fx_sI (fx_sI (fx_sI (fx_sR (fx_sR m 17 0 (some 18)) 17 1 (some 19)) 17 2 0) 17 3 0) 17 4 0) 17 5 0) 17 6 0) 17 7 1) 20 6 99) 18 0 (some 20)) 21 6 99) 18 1 (some 21)) 22 6 99) 18 2 (some 22)) 23 6 99) 18 3 (some 23)) 24 6 99) 18 4 (some 24)) 25 6 99) 18 5 (some 25)) rfl (by decide)) rfl ?_
  refine e_aast (j := 6) dX6_init_71 rfl (Or.inl ⟨rfl, rfl, rfl⟩) (by decide) rfl (by decide) rfl (by decide) (by decide) ?_
  refine e_iinc (v := 7) dX6_init_72 rfl (by decide) (by decide) rfl ?_
  refine e_goto 53 dX6_init_75 rfl ?_
  refine e_weak (lv2 := [some (fx_rf Γ 17), some (.int 7)]) ⟨rfl, rfl, trivial⟩ ?_
  refine e_iload_n dX6_init_53 rfl ?_
  refine e_bipush dX6_init_54 kcb_8 ?_
  refine e_icmp_ge 78 dX6_init_56 rfl (fun h => absurd h (by decide)) (fun _ => ?_)
  refine e_aload_n dX6_init_59 rfl ?_
  refine e_getr (o2 := 18) dX6_init_60 ff_X6_13 rfl (by decide) (by decide) rfl (by simp [fx_sI, fx_sR]) ?_
  refine e_iload_n dX6_init_63 rfl ?_
  refine e_new (o := 27) (ci := 0) dX6_init_64 wk_X6_11 wn_DrawerOfArmsArm wz_DrawerOfArmsArm fx_cl0 (by decide) rfl (by decide) (by decide) (fx_z_dv (((((((((((((((((((((((((((((((((((((((((((((hZ.mono (by decide))).sR (by decide))).sR (by decide))).sI (by decide))).sI (by decide))).sI (by decide))).sI (by decide))).sI (by decide))).sI (by decide))).sI (by decide))).sR (by decide))).sI (by decide))).sR (by decide))).sI (by decide))).sR (by decide))).sI (by decide))).sR (by decide))).sI (by decide))).sR (by decide))).sI (by decide))).sR (by decide))).sI (by decide))).sR (by decide)) fx_dv0) ?_
  refine e_dup dX6_init_67 rfl ?_
  refine e_callN1 (μ' := mX0_init) (As := []) dX6_init_68 (List.mem_of_getElem? (i := 0) rfl) ok_X0_init (by decide) (Nat.le_of_ble_eq_true rfl) ⟨by decide, by decide⟩ (s_X0_init (m := fx_sR (fx_sI (fx_sR (fx_sI (fx_sR (fx_sI (fx_sR (fx_sI (fx_sR (fx_sI (fx_sR (fx_sI (fx_sR (fx_sI (fx_sI (fx_sI (fx_sI (fx_sI (fx_sI (fx_sI (fx_sR (fx_sR m 17 0 (some 18)) 17 1 (some 19)) 17 2 0) 17 3 0) 17 4 0) 17 5 0) 17 6 0) 17 7 1) 20 6 99) 18 0 (some 20)) 21 6 99) 18 1 (some 21)) 22 6 99) 18 2 (some 22)) 23 6 99) 18 3 (some 23)) 24 6 99) 18 4 (some 24)) 25 6 99) 18 5 (some 25)) 26 6 99) 18 6 (some 26)) rfl (by decide)) rfl ?_
  refine e_aast (j := 7) dX6_init_71 rfl (Or.inl ⟨rfl, rfl, rfl⟩) (by decide) rfl (by decide) rfl (by decide) (by decide) ?_
  refine e_iinc (v := 8) dX6_init_72 rfl (by decide) (by decide) rfl ?_
  refine e_goto 53 dX6_init_75 rfl ?_
  refine e_weak (lv2 := [some (fx_rf Γ 17), some (.int 8)]) ⟨rfl, rfl, trivial⟩ ?_
  refine e_iload_n dX6_init_53 rfl ?_
  refine e_bipush dX6_init_54 kcb_8 ?_
  refine e_icmp_ge 78 dX6_init_56 rfl (fun _ => ?_) (fun h => absurd (by decide) h)
  refine e_iconst dX6_init_78 kci_0 ?_
  refine e_istore_n dX6_init_79 (by decide) rfl ?_
  refine e_weak (lv2 := [some (fx_rf Γ 17), some (.int 0)]) ⟨rfl, rfl, trivial⟩ ?_
  refine e_iload_n dX6_init_80 rfl ?_
  refine e_iconst dX6_init_81 kci_5 ?_
  refine e_icmp_ge 104 dX6_init_82 rfl (fun h => absurd h (by decide)) (fun _ => ?_)
  refine e_aload_n dX6_init_85 rfl ?_
  refine e_getr (o2 := 19) dX6_init_86 ff_X6_19 rfl (by decide) (by decide) rfl (by simp [fx_sI, fx_sR]) ?_
  refine e_iload_n dX6_init_89 rfl ?_
  refine e_new (o := 28) (ci := 1) dX6_init_90 wk_X6_17 wn_DrawerOfArmsDoll wz_DrawerOfArmsDoll fx_cl1 (by decide) rfl (by decide) (by decide) (fx_z_dv (((((((((((((((((((((((((((((((((((((((((((((((((hZ.mono (by decide))).sR (by decide))).sR (by decide))).sI (by decide))).sI (by decide))).sI (by decide))).sI (by decide))).sI (by decide))).sI (by decide))).sI (by decide))).sR (by decide))).sI (by decide))).sR (by decide))).sI (by decide))).sR (by decide))).sI (by decide))).sR (by decide))).sI (by decide))).sR (by decide))).sI (by decide))).sR (by decide))).sI (by decide))).sR (by decide))).sI (by decide))).sR (by decide)) fx_dv1) ?_
  refine e_dup dX6_init_93 rfl ?_
  refine e_callN1 (μ' := mX1_init) (As := []) dX6_init_94 (List.mem_of_getElem? (i := 1) rfl) ok_X1_init (by decide) (Nat.le_of_ble_eq_true rfl) ⟨by decide, by decide⟩ (s_X1_init (m := fx_sR (fx_sI (fx_sR (fx_sI (fx_sR (fx_sI (fx_sR (fx_sI (fx_sR (fx_sI (fx_sR (fx_sI (fx_sR (fx_sI (fx_sR (fx_sI (fx_sI (fx_sI (fx_sI (fx_sI (fx_sI (fx_sI (fx_sR (fx_sR m 17 0 (some 18)) 17 1 (some 19)) 17 2 0) 17 3 0) 17 4 0) 17 5 0) 17 6 0) 17 7 1) 20 6 99) 18 0 (some 20)) 21 6 99) 18 1 (some 21)) 22 6 99) 18 2 (some 22)) 23 6 99) 18 3 (some 23)) 24 6 99) 18 4 (some 24)) 25 6 99) 18 5 (some 25)) 26 6 99) 18 6 (some 26)) 27 6 99) 18 7 (some 27)) rfl (by decide)) rfl ?_
  refine e_aast (j := 0) dX6_init_97 rfl (Or.inr (Or.inl ⟨rfl, rfl, rfl⟩)) (by decide) rfl (by decide) rfl (by decide) (by decide) ?_
  refine e_iinc (v := 1) dX6_init_98 rfl (by decide) (by decide) rfl ?_
  refine e_goto 80 dX6_init_101 rfl ?_
  refine e_weak (lv2 := [some (fx_rf Γ 17), some (.int 1)]) ⟨rfl, rfl, trivial⟩ ?_
  refine e_iload_n dX6_init_80 rfl ?_
  refine e_iconst dX6_init_81 kci_5 ?_
  refine e_icmp_ge 104 dX6_init_82 rfl (fun h => absurd h (by decide)) (fun _ => ?_)
  refine e_aload_n dX6_init_85 rfl ?_
  refine e_getr (o2 := 19) dX6_init_86 ff_X6_19 rfl (by decide) (by decide) rfl (by simp [fx_sI, fx_sR]) ?_
  refine e_iload_n dX6_init_89 rfl ?_
  refine e_new (o := 29) (ci := 1) dX6_init_90 wk_X6_17 wn_DrawerOfArmsDoll wz_DrawerOfArmsDoll fx_cl1 (by decide) rfl (by decide) (by decide) (fx_z_dv (((((((((((((((((((((((((((((((((((((((((((((((((((hZ.mono (by decide))).sR (by decide))).sR (by decide))).sI (by decide))).sI (by decide))).sI (by decide))).sI (by decide))).sI (by decide))).sI (by decide))).sI (by decide))).sR (by decide))).sI (by decide))).sR (by decide))).sI (by decide))).sR (by decide))).sI (by decide))).sR (by decide))).sI (by decide))).sR (by decide))).sI (by decide))).sR (by decide))).sI (by decide))).sR (by decide))).sI (by decide))).sR (by decide))).sR (by decide)) fx_dv1) ?_
  refine e_dup dX6_init_93 rfl ?_
  refine e_callN1 (μ' := mX1_init) (As := []) dX6_init_94 (List.mem_of_getElem? (i := 1) rfl) ok_X1_init (by decide) (Nat.le_of_ble_eq_true rfl) ⟨by decide, by decide⟩ (s_X1_init (m := fx_sR (fx_sR (fx_sI (fx_sR (fx_sI (fx_sR (fx_sI (fx_sR (fx_sI (fx_sR (fx_sI (fx_sR (fx_sI (fx_sR (fx_sI (fx_sR (fx_sI (fx_sI (fx_sI (fx_sI (fx_sI (fx_sI (fx_sI (fx_sR (fx_sR m 17 0 (some 18)) 17 1 (some 19)) 17 2 0) 17 3 0) 17 4 0) 17 5 0) 17 6 0) 17 7 1) 20 6 99) 18 0 (some 20)) 21 6 99) 18 1 (some 21)) 22 6 99) 18 2 (some 22)) 23 6 99) 18 3 (some 23)) 24 6 99) 18 4 (some 24)) 25 6 99) 18 5 (some 25)) 26 6 99) 18 6 (some 26)) 27 6 99) 18 7 (some 27)) 19 0 (some 28)) rfl (by decide)) rfl ?_
  refine e_aast (j := 1) dX6_init_97 rfl (Or.inr (Or.inl ⟨rfl, rfl, rfl⟩)) (by decide) rfl (by decide) rfl (by decide) (by decide) ?_
  refine e_iinc (v := 2) dX6_init_98 rfl (by decide) (by decide) rfl ?_
  refine e_goto 80 dX6_init_101 rfl ?_
  refine e_weak (lv2 := [some (fx_rf Γ 17), some (.int 2)]) ⟨rfl, rfl, trivial⟩ ?_
  refine e_iload_n dX6_init_80 rfl ?_
  refine e_iconst dX6_init_81 kci_5 ?_
  refine e_icmp_ge 104 dX6_init_82 rfl (fun h => absurd h (by decide)) (fun _ => ?_)
  refine e_aload_n dX6_init_85 rfl ?_
  refine e_getr (o2 := 19) dX6_init_86 ff_X6_19 rfl (by decide) (by decide) rfl (by simp [fx_sI, fx_sR]) ?_
  refine e_iload_n dX6_init_89 rfl ?_
  refine e_new (o := 30) (ci := 1) dX6_init_90 wk_X6_17 wn_DrawerOfArmsDoll wz_DrawerOfArmsDoll fx_cl1 (by decide) rfl (by decide) (by decide) (fx_z_dv (((((((((((((((((((((((((((((((((((((((((((((((((((((hZ.mono (by decide))).sR (by decide))).sR (by decide))).sI (by decide))).sI (by decide))).sI (by decide))).sI (by decide))).sI (by decide))).sI (by decide))).sI (by decide))).sR (by decide))).sI (by decide))).sR (by decide))).sI (by decide))).sR (by decide))).sI (by decide))).sR (by decide))).sI (by decide))).sR (by decide))).sI (by decide))).sR (by decide))).sI (by decide))).sR (by decide))).sI (by decide))).sR (by decide))).sR (by decide))).sR (by decide)) fx_dv1) ?_
  refine e_dup dX6_init_93 rfl ?_
  refine e_callN1 (μ' := mX1_init) (As := []) dX6_init_94 (List.mem_of_getElem? (i := 1) rfl) ok_X1_init (by decide) (Nat.le_of_ble_eq_true rfl) ⟨by decide, by decide⟩ (s_X1_init (m := fx_sR (fx_sR (fx_sR (fx_sI (fx_sR (fx_sI (fx_sR (fx_sI (fx_sR (fx_sI (fx_sR (fx_sI (fx_sR (fx_sI (fx_sR (fx_sI (fx_sR (fx_sI (fx_sI (fx_sI (fx_sI (fx_sI (fx_sI (fx_sI (fx_sR (fx_sR m 17 0 (some 18)) 17 1 (some 19)) 17 2 0) 17 3 0) 17 4 0) 17 5 0) 17 6 0) 17 7 1) 20 6 99) 18 0 (some 20)) 21 6 99) 18 1 (some 21)) 22 6 99) 18 2 (some 22)) 23 6 99) 18 3 (some 23)) 24 6 99) 18 4 (some 24)) 25 6 99) 18 5 (some 25)) 26 6 99) 18 6 (some 26)) 27 6 99) 18 7 (some 27)) 19 0 (some 28)) 19 1 (some 29)) rfl (by decide)) rfl ?_
  refine e_aast (j := 2) dX6_init_97 rfl (Or.inr (Or.inl ⟨rfl, rfl, rfl⟩)) (by decide) rfl (by decide) rfl (by decide) (by decide) ?_
  refine e_iinc (v := 3) dX6_init_98 rfl (by decide) (by decide) rfl ?_
  refine e_goto 80 dX6_init_101 rfl ?_
  refine e_weak (lv2 := [some (fx_rf Γ 17), some (.int 3)]) ⟨rfl, rfl, trivial⟩ ?_
  refine e_iload_n dX6_init_80 rfl ?_
  refine e_iconst dX6_init_81 kci_5 ?_
  refine e_icmp_ge 104 dX6_init_82 rfl (fun h => absurd h (by decide)) (fun _ => ?_)
  refine e_aload_n dX6_init_85 rfl ?_
  refine e_getr (o2 := 19) dX6_init_86 ff_X6_19 rfl (by decide) (by decide) rfl (by simp [fx_sI, fx_sR]) ?_
  refine e_iload_n dX6_init_89 rfl ?_
  refine e_new (o := 31) (ci := 1) dX6_init_90 wk_X6_17 wn_DrawerOfArmsDoll wz_DrawerOfArmsDoll fx_cl1 (by decide) rfl (by decide) (by decide) (fx_z_dv (((((((((((((((((((((((((((((((((((((((((((((((((((((((hZ.mono (by decide))).sR (by decide))).sR (by decide))).sI (by decide))).sI (by decide))).sI (by decide))).sI (by decide))).sI (by decide))).sI (by decide))).sI (by decide))).sR (by decide))).sI (by decide))).sR (by decide))).sI (by decide))).sR (by decide))).sI (by decide))).sR (by decide))).sI (by decide))).sR (by decide))).sI (by decide))).sR (by decide))).sI (by decide))).sR (by decide))).sI (by decide))).sR (by decide))).sR (by decide))).sR (by decide))).sR (by decide)) fx_dv1) ?_
  refine e_dup dX6_init_93 rfl ?_
  refine e_callN1 (μ' := mX1_init) (As := []) dX6_init_94 (List.mem_of_getElem? (i := 1) rfl) ok_X1_init (by decide) (Nat.le_of_ble_eq_true rfl) ⟨by decide, by decide⟩ (s_X1_init (m := fx_sR (fx_sR (fx_sR (fx_sR (fx_sI (fx_sR (fx_sI (fx_sR (fx_sI (fx_sR (fx_sI (fx_sR (fx_sI (fx_sR (fx_sI (fx_sR (fx_sI (fx_sR (fx_sI (fx_sI (fx_sI (fx_sI (fx_sI (fx_sI (fx_sI (fx_sR (fx_sR m 17 0 (some 18)) 17 1 (some 19)) 17 2 0) 17 3 0) 17 4 0) 17 5 0) 17 6 0) 17 7 1) 20 6 99) 18 0 (some 20)) 21 6 99) 18 1 (some 21)) 22 6 99) 18 2 (some 22)) 23 6 99) 18 3 (some 23)) 24 6 99) 18 4 (some 24)) 25 6 99) 18 5 (some 25)) 26 6 99) 18 6 (some 26)) 27 6 99) 18 7 (some 27)) 19 0 (some 28)) 19 1 (some 29)) 19 2 (some 30)) rfl (by decide)) rfl ?_
  refine e_aast (j := 3) dX6_init_97 rfl (Or.inr (Or.inl ⟨rfl, rfl, rfl⟩)) (by decide) rfl (by decide) rfl (by decide) (by decide) ?_
  refine e_iinc (v := 4) dX6_init_98 rfl (by decide) (by decide) rfl ?_
  refine e_goto 80 dX6_init_101 rfl ?_
  refine e_weak (lv2 := [some (fx_rf Γ 17), some (.int 4)]) ⟨rfl, rfl, trivial⟩ ?_
  refine e_iload_n dX6_init_80 rfl ?_
  refine e_iconst dX6_init_81 kci_5 ?_
  refine e_icmp_ge 104 dX6_init_82 rfl (fun h => absurd h (by decide)) (fun _ => ?_)
  refine e_aload_n dX6_init_85 rfl ?_
  refine e_getr (o2 := 19) dX6_init_86 ff_X6_19 rfl (by decide) (by decide) rfl (by simp [fx_sI, fx_sR]) ?_
  refine e_iload_n dX6_init_89 rfl ?_
  refine e_new (o := 32) (ci := 1) dX6_init_90 wk_X6_17 wn_DrawerOfArmsDoll wz_DrawerOfArmsDoll fx_cl1 (by decide) rfl (by decide) (by decide) (fx_z_dv (((((((((((((((((((((((((((((((((((((((((((((((((((((((((hZ.mono (by decide))).sR (by decide))).sR (by decide))).sI (by decide))).sI (by decide))).sI (by decide))).sI (by decide))).sI (by decide))).sI (by decide))).sI (by decide))).sR (by decide))).sI (by decide))).sR (by decide))).sI (by decide))).sR (by decide))).sI (by decide))).sR (by decide))).sI (by decide))).sR (by decide))).sI (by decide))).sR (by decide))).sI (by decide))).sR (by decide))).sI (by decide))).sR (by decide))).sR (by decide))).sR (by decide))).sR (by decide))).sR (by decide)) fx_dv1) ?_
  refine e_dup dX6_init_93 rfl ?_
  refine e_callN1 (μ' := mX1_init) (As := []) dX6_init_94 (List.mem_of_getElem? (i := 1) rfl) ok_X1_init (by decide) (Nat.le_of_ble_eq_true rfl) ⟨by decide, by decide⟩ (s_X1_init (m := fx_sR (fx_sR (fx_sR (fx_sR (fx_sR (fx_sI (fx_sR (fx_sI (fx_sR (fx_sI (fx_sR (fx_sI (fx_sR (fx_sI (fx_sR (fx_sI (fx_sR (fx_sI (fx_sR (fx_sI (fx_sI (fx_sI (fx_sI (fx_sI (fx_sI (fx_sI (fx_sR (fx_sR m 17 0 (some 18)) 17 1 (some 19)) 17 2 0) 17 3 0) 17 4 0) 17 5 0) 17 6 0) 17 7 1) 20 6 99) 18 0 (some 20)) 21 6 99) 18 1 (some 21)) 22 6 99) 18 2 (some 22)) 23 6 99) 18 3 (some 23)) 24 6 99) 18 4 (some 24)) 25 6 99) 18 5 (some 25)) 26 6 99) 18 6 (some 26)) 27 6 99) 18 7 (some 27)) 19 0 (some 28)) 19 1 (some 29)) 19 2 (some 30)) 19 3 (some 31)) rfl (by decide)) rfl ?_
  refine e_aast (j := 4) dX6_init_97 rfl (Or.inr (Or.inl ⟨rfl, rfl, rfl⟩)) (by decide) rfl (by decide) rfl (by decide) (by decide) ?_
  refine e_iinc (v := 5) dX6_init_98 rfl (by decide) (by decide) rfl ?_
  refine e_goto 80 dX6_init_101 rfl ?_
  refine e_weak (lv2 := [some (fx_rf Γ 17), some (.int 5)]) ⟨rfl, rfl, trivial⟩ ?_
  refine e_iload_n dX6_init_80 rfl ?_
  refine e_iconst dX6_init_81 kci_5 ?_
  refine e_icmp_ge 104 dX6_init_82 rfl (fun _ => ?_) (fun h => absurd (by decide) h)
  have nb : fx_NB 17 33 m (fx_sR (fx_sR (fx_sR (fx_sR (fx_sR (fx_sR (fx_sI (fx_sR (fx_sI (fx_sR (fx_sI (fx_sR (fx_sI (fx_sR (fx_sI (fx_sR (fx_sI (fx_sR (fx_sI (fx_sR (fx_sI (fx_sI (fx_sI (fx_sI (fx_sI (fx_sI (fx_sI (fx_sR (fx_sR m 17 0 (some 18)) 17 1 (some 19)) 17 2 0) 17 3 0) 17 4 0) 17 5 0) 17 6 0) 17 7 1) 20 6 99) 18 0 (some 20)) 21 6 99) 18 1 (some 21)) 22 6 99) 18 2 (some 22)) 23 6 99) 18 3 (some 23)) 24 6 99) 18 4 (some 24)) 25 6 99) 18 5 (some 25)) 26 6 99) 18 6 (some 26)) 27 6 99) 18 7 (some 27)) 19 0 (some 28)) 19 1 (some 29)) 19 2 (some 30)) 19 3 (some 31)) 19 4 (some 32)) := by
    refine ⟨fun o ho => ⟨?_, ?_, ?_⟩, fun o h1 h2 => ?_⟩
    · funext k; simp [fx_sI, fx_sR, show o ≠ 17 from fun e => ho (by rw [e]; decide), show o ≠ 18 from fun e => ho (by rw [e]; decide), show o ≠ 19 from fun e => ho (by rw [e]; decide), show o ≠ 20 from fun e => ho (by rw [e]; decide), show o ≠ 21 from fun e => ho (by rw [e]; decide), show o ≠ 22 from fun e => ho (by rw [e]; decide), show o ≠ 23 from fun e => ho (by rw [e]; decide), show o ≠ 24 from fun e => ho (by rw [e]; decide), show o ≠ 25 from fun e => ho (by rw [e]; decide), show o ≠ 26 from fun e => ho (by rw [e]; decide), show o ≠ 27 from fun e => ho (by rw [e]; decide), show o ≠ 28 from fun e => ho (by rw [e]; decide), show o ≠ 29 from fun e => ho (by rw [e]; decide), show o ≠ 30 from fun e => ho (by rw [e]; decide), show o ≠ 31 from fun e => ho (by rw [e]; decide), show o ≠ 32 from fun e => ho (by rw [e]; decide)]
    · rfl
    · funext k; simp [fx_sI, fx_sR, show o ≠ 17 from fun e => ho (by rw [e]; decide), show o ≠ 18 from fun e => ho (by rw [e]; decide), show o ≠ 19 from fun e => ho (by rw [e]; decide), show o ≠ 20 from fun e => ho (by rw [e]; decide), show o ≠ 21 from fun e => ho (by rw [e]; decide), show o ≠ 22 from fun e => ho (by rw [e]; decide), show o ≠ 23 from fun e => ho (by rw [e]; decide), show o ≠ 24 from fun e => ho (by rw [e]; decide), show o ≠ 25 from fun e => ho (by rw [e]; decide), show o ≠ 26 from fun e => ho (by rw [e]; decide), show o ≠ 27 from fun e => ho (by rw [e]; decide), show o ≠ 28 from fun e => ho (by rw [e]; decide), show o ≠ 29 from fun e => ho (by rw [e]; decide), show o ≠ 30 from fun e => ho (by rw [e]; decide), show o ≠ 31 from fun e => ho (by rw [e]; decide), show o ≠ 32 from fun e => ho (by rw [e]; decide)]
    · rcases (show fx_pi o = fx_pi 17 ∨ fx_pi o = fx_pi 18 ∨ fx_pi o = fx_pi 19 ∨ fx_pi o = fx_pi 20 ∨ fx_pi o = fx_pi 21 ∨ fx_pi o = fx_pi 22 ∨ fx_pi o = fx_pi 23 ∨ fx_pi o = fx_pi 24 ∨ fx_pi o = fx_pi 25 ∨ fx_pi o = fx_pi 26 ∨ fx_pi o = fx_pi 27 ∨ fx_pi o = fx_pi 28 ∨ fx_pi o = fx_pi 29 ∨ fx_pi o = fx_pi 30 ∨ fx_pi o = fx_pi 31 ∨ fx_pi o = fx_pi 32 from (show fx_pi o = 17 ∨ fx_pi o = 18 ∨ fx_pi o = 19 ∨ fx_pi o = 20 ∨ fx_pi o = 21 ∨ fx_pi o = 22 ∨ fx_pi o = 23 ∨ fx_pi o = 24 ∨ fx_pi o = 25 ∨ fx_pi o = 26 ∨ fx_pi o = 27 ∨ fx_pi o = 28 ∨ fx_pi o = 29 ∨ fx_pi o = 30 ∨ fx_pi o = 31 ∨ fx_pi o = 32 by omega)) with e | e | e | e | e | e | e | e | e | e | e | e | e | e | e | e
      · obtain rfl := fx_pi_inj e
        refine ⟨fun k => ?_, fun k => ?_, fun k v h => ?_⟩
        · simp [fx_sI, fx_sR, fx_I0, (hZ 17 (by decide)).1] <;> ((repeat' split) <;> (first | rfl | omega))
        · simp [fx_sI, fx_sR, (hZ 17 (by decide)).2.1]
        · have hk := fx_lay_lt h
          have hk : k < 2 := hk
          rcases (show k = 0 ∨ k = 1 by omega) with rfl | rfl
          · cases (h : some 18 = some v)
            simp [fx_sI, fx_sR]
          · cases (h : some 19 = some v)
            simp [fx_sI, fx_sR]
      · obtain rfl := fx_pi_inj e
        refine ⟨fun k => ?_, fun k => ?_, fun k v h => ?_⟩
        · simp [fx_sI, fx_sR, fx_I0, (hZ 18 (by decide)).1] <;> ((repeat' split) <;> (first | rfl | omega))
        · simp [fx_sI, fx_sR, (hZ 18 (by decide)).2.1]
        · have hk := fx_lay_lt h
          have hk : k < 8 := hk
          rcases (show k = 0 ∨ k = 1 ∨ k = 2 ∨ k = 3 ∨ k = 4 ∨ k = 5 ∨ k = 6 ∨ k = 7 by omega) with rfl | rfl | rfl | rfl | rfl | rfl | rfl | rfl
          · cases (h : some 20 = some v)
            simp [fx_sI, fx_sR]
          · cases (h : some 21 = some v)
            simp [fx_sI, fx_sR]
          · cases (h : some 22 = some v)
            simp [fx_sI, fx_sR]
          · cases (h : some 23 = some v)
            simp [fx_sI, fx_sR]
          · cases (h : some 24 = some v)
            simp [fx_sI, fx_sR]
          · cases (h : some 25 = some v)
            simp [fx_sI, fx_sR]
          · cases (h : some 26 = some v)
            simp [fx_sI, fx_sR]
          · cases (h : some 27 = some v)
            simp [fx_sI, fx_sR]
      · obtain rfl := fx_pi_inj e
        refine ⟨fun k => ?_, fun k => ?_, fun k v h => ?_⟩
        · simp [fx_sI, fx_sR, fx_I0, (hZ 19 (by decide)).1] <;> ((repeat' split) <;> (first | rfl | omega))
        · simp [fx_sI, fx_sR, (hZ 19 (by decide)).2.1]
        · have hk := fx_lay_lt h
          have hk : k < 5 := hk
          rcases (show k = 0 ∨ k = 1 ∨ k = 2 ∨ k = 3 ∨ k = 4 by omega) with rfl | rfl | rfl | rfl | rfl
          · cases (h : some 28 = some v)
            simp [fx_sI, fx_sR]
          · cases (h : some 29 = some v)
            simp [fx_sI, fx_sR]
          · cases (h : some 30 = some v)
            simp [fx_sI, fx_sR]
          · cases (h : some 31 = some v)
            simp [fx_sI, fx_sR]
          · cases (h : some 32 = some v)
            simp [fx_sI, fx_sR]
      · obtain rfl := fx_pi_inj e
        refine ⟨fun k => ?_, fun k => ?_, fun k v h => ?_⟩
        · simp [fx_sI, fx_sR, fx_I0, (hZ 20 (by decide)).1] <;> ((repeat' split) <;> (first | rfl | omega))
        · simp [fx_sI, fx_sR, (hZ 20 (by decide)).2.1]
        · exact (fx_nolay rfl k v h).elim
      · obtain rfl := fx_pi_inj e
        refine ⟨fun k => ?_, fun k => ?_, fun k v h => ?_⟩
        · simp [fx_sI, fx_sR, fx_I0, (hZ 21 (by decide)).1] <;> ((repeat' split) <;> (first | rfl | omega))
        · simp [fx_sI, fx_sR, (hZ 21 (by decide)).2.1]
        · exact (fx_nolay rfl k v h).elim
      · obtain rfl := fx_pi_inj e
        refine ⟨fun k => ?_, fun k => ?_, fun k v h => ?_⟩
        · simp [fx_sI, fx_sR, fx_I0, (hZ 22 (by decide)).1] <;> ((repeat' split) <;> (first | rfl | omega))
        · simp [fx_sI, fx_sR, (hZ 22 (by decide)).2.1]
        · exact (fx_nolay rfl k v h).elim
      · obtain rfl := fx_pi_inj e
        refine ⟨fun k => ?_, fun k => ?_, fun k v h => ?_⟩
        · simp [fx_sI, fx_sR, fx_I0, (hZ 23 (by decide)).1] <;> ((repeat' split) <;> (first | rfl | omega))
        · simp [fx_sI, fx_sR, (hZ 23 (by decide)).2.1]
        · exact (fx_nolay rfl k v h).elim
      · obtain rfl := fx_pi_inj e
        refine ⟨fun k => ?_, fun k => ?_, fun k v h => ?_⟩
        · simp [fx_sI, fx_sR, fx_I0, (hZ 24 (by decide)).1] <;> ((repeat' split) <;> (first | rfl | omega))
        · simp [fx_sI, fx_sR, (hZ 24 (by decide)).2.1]
        · exact (fx_nolay rfl k v h).elim
      · obtain rfl := fx_pi_inj e
        refine ⟨fun k => ?_, fun k => ?_, fun k v h => ?_⟩
        · simp [fx_sI, fx_sR, fx_I0, (hZ 25 (by decide)).1] <;> ((repeat' split) <;> (first | rfl | omega))
        · simp [fx_sI, fx_sR, (hZ 25 (by decide)).2.1]
        · exact (fx_nolay rfl k v h).elim
      · obtain rfl := fx_pi_inj e
        refine ⟨fun k => ?_, fun k => ?_, fun k v h => ?_⟩
        · simp [fx_sI, fx_sR, fx_I0, (hZ 26 (by decide)).1] <;> ((repeat' split) <;> (first | rfl | omega))
        · simp [fx_sI, fx_sR, (hZ 26 (by decide)).2.1]
        · exact (fx_nolay rfl k v h).elim
      · obtain rfl := fx_pi_inj e
        refine ⟨fun k => ?_, fun k => ?_, fun k v h => ?_⟩
        · simp [fx_sI, fx_sR, fx_I0, (hZ 27 (by decide)).1] <;> ((repeat' split) <;> (first | rfl | omega))
        · simp [fx_sI, fx_sR, (hZ 27 (by decide)).2.1]
        · exact (fx_nolay rfl k v h).elim
      · obtain rfl := fx_pi_inj e
        refine ⟨fun k => ?_, fun k => ?_, fun k v h => ?_⟩
        · simp [fx_sI, fx_sR, fx_I0, (hZ 28 (by decide)).1] <;> ((repeat' split) <;> (first | rfl | omega))
        · simp [fx_sI, fx_sR, (hZ 28 (by decide)).2.1]
        · exact (fx_nolay rfl k v h).elim
      · obtain rfl := fx_pi_inj e
        refine ⟨fun k => ?_, fun k => ?_, fun k v h => ?_⟩
        · simp [fx_sI, fx_sR, fx_I0, (hZ 29 (by decide)).1] <;> ((repeat' split) <;> (first | rfl | omega))
        · simp [fx_sI, fx_sR, (hZ 29 (by decide)).2.1]
        · exact (fx_nolay rfl k v h).elim
      · obtain rfl := fx_pi_inj e
        refine ⟨fun k => ?_, fun k => ?_, fun k v h => ?_⟩
        · simp [fx_sI, fx_sR, fx_I0, (hZ 30 (by decide)).1] <;> ((repeat' split) <;> (first | rfl | omega))
        · simp [fx_sI, fx_sR, (hZ 30 (by decide)).2.1]
        · exact (fx_nolay rfl k v h).elim
      · obtain rfl := fx_pi_inj e
        refine ⟨fun k => ?_, fun k => ?_, fun k v h => ?_⟩
        · simp [fx_sI, fx_sR, fx_I0, (hZ 31 (by decide)).1] <;> ((repeat' split) <;> (first | rfl | omega))
        · simp [fx_sI, fx_sR, (hZ 31 (by decide)).2.1]
        · exact (fx_nolay rfl k v h).elim
      · obtain rfl := fx_pi_inj e
        refine ⟨fun k => ?_, fun k => ?_, fun k v h => ?_⟩
        · simp [fx_sI, fx_sR, fx_I0, (hZ 32 (by decide)).1] <;> ((repeat' split) <;> (first | rfl | omega))
        · simp [fx_sI, fx_sR, (hZ 32 (by decide)).2.1]
        · exact (fx_nolay rfl k v h).elim
  exact e_vret dX6_init_104 rfl rfl ⟨rfl, nb⟩
set_option maxRecDepth 100000 in
set_option maxHeartbeats 8000000 in
theorem s_X6_init33 {Γ : fx_G} {m : fx_M} (hZ : fx_Z 33 m) : fx_Ct Γ mX6_init 2 34 49 [fx_rf Γ 33] m (fun r m' => r = none ∧ fx_NB 33 49 m m') := by
  refine fx_Ct.of (j := 1) (by decide) (by decide) (Nat.le_of_ble_eq_true rfl) ?_
  show fx_E Γ mX6_init 2 34 49 _ 34 m 0 [some (fx_rf Γ 33), none] []
  refine e_aload_n dX6_init_0 rfl ?_
  refine e_objInit dX6_init_1 wl_X6_3 wi_Objectinit_V fx_wobj (by decide) (Nat.le_of_ble_eq_true rfl) ?_
  refine e_aload_n dX6_init_4 rfl ?_
  refine e_bipush dX6_init_5 kcb_8 ?_
  refine e_newQ (o := 34) (N := 8) (t := 2) dX6_init_7 wk_X6_11 (Or.inl ⟨rfl, rfl, rfl⟩) rfl (by decide) rfl (by decide) (by decide) (by decide) (fun j _ => ((hZ.mono (by decide)) _ (Nat.le_refl _)).2.2 j) ?_
  refine e_putr dX6_init_10 ff_X6_13 rfl (by decide) (by decide) rfl (Or.inr ⟨rfl, rfl⟩) (fun _ => rfl) (fun _ => rfl) ?_
  refine e_aload_n dX6_init_13 rfl ?_
  refine e_iconst dX6_init_14 kci_5 ?_
  refine e_newQ (o := 35) (N := 5) (t := 3) dX6_init_15 wk_X6_17 (Or.inr (Or.inl ⟨rfl, rfl, rfl⟩)) rfl (by decide) rfl (by decide) (by decide) (by decide) (fun j _ => ((((hZ.mono (by decide))).sR (by decide)) _ (Nat.le_refl _)).2.2 j) ?_
  refine e_putr dX6_init_18 ff_X6_19 rfl (by decide) (by decide) rfl (Or.inr ⟨rfl, rfl⟩) (fun _ => rfl) (fun _ => rfl) ?_
  refine e_aload_n dX6_init_21 rfl ?_
  refine e_iconst dX6_init_22 kci_0 ?_
  refine e_put dX6_init_23 ff_X6_23 rfl (by decide) (by decide) rfl (Or.inl rfl) ?_
  refine e_aload_n dX6_init_26 rfl ?_
  refine e_iconst dX6_init_27 kci_0 ?_
  refine e_put dX6_init_28 ff_X6_27 rfl (by decide) (by decide) rfl (Or.inl rfl) ?_
  refine e_aload_n dX6_init_31 rfl ?_
  refine e_iconst dX6_init_32 kci_0 ?_
  refine e_put dX6_init_33 ff_X6_30 rfl (by decide) (by decide) rfl (Or.inl rfl) ?_
  refine e_aload_n dX6_init_36 rfl ?_
  refine e_iconst dX6_init_37 kci_0 ?_
  refine e_put dX6_init_38 ff_X6_33 rfl (by decide) (by decide) rfl (Or.inl rfl) ?_
  refine e_aload_n dX6_init_41 rfl ?_
  refine e_iconst dX6_init_42 kci_0 ?_
  refine e_put dX6_init_43 ff_X6_36 rfl (by decide) (by decide) rfl (Or.inl rfl) ?_
  refine e_aload_n dX6_init_46 rfl ?_
  refine e_iconst dX6_init_47 kci_1 ?_
  refine e_put dX6_init_48 ff_X6_39 rfl (by decide) (by decide) rfl (Or.inl rfl) ?_
  refine e_iconst dX6_init_51 kci_0 ?_
  refine e_istore_n dX6_init_52 (by decide) rfl ?_
  refine e_weak (lv2 := [some (fx_rf Γ 33), some (.int 0)]) ⟨rfl, rfl, trivial⟩ ?_
  refine e_iload_n dX6_init_53 rfl ?_
  refine e_bipush dX6_init_54 kcb_8 ?_
  refine e_icmp_ge 78 dX6_init_56 rfl (fun h => absurd h (by decide)) (fun _ => ?_)
  refine e_aload_n dX6_init_59 rfl ?_
  refine e_getr (o2 := 34) dX6_init_60 ff_X6_13 rfl (by decide) (by decide) rfl (by simp [fx_sI, fx_sR]) ?_
  refine e_iload_n dX6_init_63 rfl ?_
  refine e_new (o := 36) (ci := 0) dX6_init_64 wk_X6_11 wn_DrawerOfArmsArm wz_DrawerOfArmsArm fx_cl0 (by decide) rfl (by decide) (by decide) (fx_z_dv (((((((((((((((((hZ.mono (by decide))).sR (by decide))).sR (by decide))).sI (by decide))).sI (by decide))).sI (by decide))).sI (by decide))).sI (by decide))).sI (by decide)) fx_dv0) ?_
  refine e_dup dX6_init_67 rfl ?_
  refine e_callN1 (μ' := mX0_init) (As := []) dX6_init_68 (List.mem_of_getElem? (i := 0) rfl) ok_X0_init (by decide) (Nat.le_of_ble_eq_true rfl) ⟨by decide, by decide⟩ (s_X0_init (m := fx_sI (fx_sI (fx_sI (fx_sI (fx_sI (fx_sI (fx_sR (fx_sR m 33 0 (some 34)) 33 1 (some 35)) 33 2 0) 33 3 0) 33 4 0) 33 5 0) 33 6 0) 33 7 1) rfl (by decide)) rfl ?_
  refine e_aast (j := 0) dX6_init_71 rfl (Or.inl ⟨rfl, rfl, rfl⟩) (by decide) rfl (by decide) rfl (by decide) (by decide) ?_
  refine e_iinc (v := 1) dX6_init_72 rfl (by decide) (by decide) rfl ?_
  refine e_goto 53 dX6_init_75 rfl ?_
  refine e_weak (lv2 := [some (fx_rf Γ 33), some (.int 1)]) ⟨rfl, rfl, trivial⟩ ?_
  refine e_iload_n dX6_init_53 rfl ?_
  refine e_bipush dX6_init_54 kcb_8 ?_
  refine e_icmp_ge 78 dX6_init_56 rfl (fun h => absurd h (by decide)) (fun _ => ?_)
  refine e_aload_n dX6_init_59 rfl ?_
  refine e_getr (o2 := 34) dX6_init_60 ff_X6_13 rfl (by decide) (by decide) rfl (by simp [fx_sI, fx_sR]) ?_
  refine e_iload_n dX6_init_63 rfl ?_
  refine e_new (o := 37) (ci := 0) dX6_init_64 wk_X6_11 wn_DrawerOfArmsArm wz_DrawerOfArmsArm fx_cl0 (by decide) rfl (by decide) (by decide) (fx_z_dv (((((((((((((((((((((hZ.mono (by decide))).sR (by decide))).sR (by decide))).sI (by decide))).sI (by decide))).sI (by decide))).sI (by decide))).sI (by decide))).sI (by decide))).sI (by decide))).sR (by decide)) fx_dv0) ?_
  refine e_dup dX6_init_67 rfl ?_
  refine e_callN1 (μ' := mX0_init) (As := []) dX6_init_68 (List.mem_of_getElem? (i := 0) rfl) ok_X0_init (by decide) (Nat.le_of_ble_eq_true rfl) ⟨by decide, by decide⟩ (s_X0_init (m := fx_sR (fx_sI (fx_sI (fx_sI (fx_sI (fx_sI (fx_sI (fx_sI (fx_sR (fx_sR m 33 0 (some 34)) 33 1 (some 35)) 33 2 0) 33 3 0) 33 4 0) 33 5 0) 33 6 0) 33 7 1) 36 6 99) 34 0 (some 36)) rfl (by decide)) rfl ?_
  refine e_aast (j := 1) dX6_init_71 rfl (Or.inl ⟨rfl, rfl, rfl⟩) (by decide) rfl (by decide) rfl (by decide) (by decide) ?_
  refine e_iinc (v := 2) dX6_init_72 rfl (by decide) (by decide) rfl ?_
  refine e_goto 53 dX6_init_75 rfl ?_
  refine e_weak (lv2 := [some (fx_rf Γ 33), some (.int 2)]) ⟨rfl, rfl, trivial⟩ ?_
  refine e_iload_n dX6_init_53 rfl ?_
  refine e_bipush dX6_init_54 kcb_8 ?_
  refine e_icmp_ge 78 dX6_init_56 rfl (fun h => absurd h (by decide)) (fun _ => ?_)
  refine e_aload_n dX6_init_59 rfl ?_
  refine e_getr (o2 := 34) dX6_init_60 ff_X6_13 rfl (by decide) (by decide) rfl (by simp [fx_sI, fx_sR]) ?_
  refine e_iload_n dX6_init_63 rfl ?_
  refine e_new (o := 38) (ci := 0) dX6_init_64 wk_X6_11 wn_DrawerOfArmsArm wz_DrawerOfArmsArm fx_cl0 (by decide) rfl (by decide) (by decide) (fx_z_dv (((((((((((((((((((((((((hZ.mono (by decide))).sR (by decide))).sR (by decide))).sI (by decide))).sI (by decide))).sI (by decide))).sI (by decide))).sI (by decide))).sI (by decide))).sI (by decide))).sR (by decide))).sI (by decide))).sR (by decide)) fx_dv0) ?_
  refine e_dup dX6_init_67 rfl ?_
  refine e_callN1 (μ' := mX0_init) (As := []) dX6_init_68 (List.mem_of_getElem? (i := 0) rfl) ok_X0_init (by decide) (Nat.le_of_ble_eq_true rfl) ⟨by decide, by decide⟩ (s_X0_init (m := fx_sR (fx_sI (fx_sR (fx_sI (fx_sI (fx_sI (fx_sI (fx_sI (fx_sI (fx_sI (fx_sR (fx_sR m 33 0 (some 34)) 33 1 (some 35)) 33 2 0) 33 3 0) 33 4 0) 33 5 0) 33 6 0) 33 7 1) 36 6 99) 34 0 (some 36)) 37 6 99) 34 1 (some 37)) rfl (by decide)) rfl ?_
  refine e_aast (j := 2) dX6_init_71 rfl (Or.inl ⟨rfl, rfl, rfl⟩) (by decide) rfl (by decide) rfl (by decide) (by decide) ?_
  refine e_iinc (v := 3) dX6_init_72 rfl (by decide) (by decide) rfl ?_
  refine e_goto 53 dX6_init_75 rfl ?_
  refine e_weak (lv2 := [some (fx_rf Γ 33), some (.int 3)]) ⟨rfl, rfl, trivial⟩ ?_
  refine e_iload_n dX6_init_53 rfl ?_
  refine e_bipush dX6_init_54 kcb_8 ?_
  refine e_icmp_ge 78 dX6_init_56 rfl (fun h => absurd h (by decide)) (fun _ => ?_)
  refine e_aload_n dX6_init_59 rfl ?_
  refine e_getr (o2 := 34) dX6_init_60 ff_X6_13 rfl (by decide) (by decide) rfl (by simp [fx_sI, fx_sR]) ?_
  refine e_iload_n dX6_init_63 rfl ?_
  refine e_new (o := 39) (ci := 0) dX6_init_64 wk_X6_11 wn_DrawerOfArmsArm wz_DrawerOfArmsArm fx_cl0 (by decide) rfl (by decide) (by decide) (fx_z_dv (((((((((((((((((((((((((((((hZ.mono (by decide))).sR (by decide))).sR (by decide))).sI (by decide))).sI (by decide))).sI (by decide))).sI (by decide))).sI (by decide))).sI (by decide))).sI (by decide))).sR (by decide))).sI (by decide))).sR (by decide))).sI (by decide))).sR (by decide)) fx_dv0) ?_
  refine e_dup dX6_init_67 rfl ?_
  refine e_callN1 (μ' := mX0_init) (As := []) dX6_init_68 (List.mem_of_getElem? (i := 0) rfl) ok_X0_init (by decide) (Nat.le_of_ble_eq_true rfl) ⟨by decide, by decide⟩ (s_X0_init (m := fx_sR (fx_sI (fx_sR (fx_sI (fx_sR (fx_sI (fx_sI (fx_sI (fx_sI (fx_sI (fx_sI (fx_sI (fx_sR (fx_sR m 33 0 (some 34)) 33 1 (some 35)) 33 2 0) 33 3 0) 33 4 0) 33 5 0) 33 6 0) 33 7 1) 36 6 99) 34 0 (some 36)) 37 6 99) 34 1 (some 37)) 38 6 99) 34 2 (some 38)) rfl (by decide)) rfl ?_
  refine e_aast (j := 3) dX6_init_71 rfl (Or.inl ⟨rfl, rfl, rfl⟩) (by decide) rfl (by decide) rfl (by decide) (by decide) ?_
  refine e_iinc (v := 4) dX6_init_72 rfl (by decide) (by decide) rfl ?_
  refine e_goto 53 dX6_init_75 rfl ?_
  refine e_weak (lv2 := [some (fx_rf Γ 33), some (.int 4)]) ⟨rfl, rfl, trivial⟩ ?_
  refine e_iload_n dX6_init_53 rfl ?_
  refine e_bipush dX6_init_54 kcb_8 ?_
  refine e_icmp_ge 78 dX6_init_56 rfl (fun h => absurd h (by decide)) (fun _ => ?_)
  refine e_aload_n dX6_init_59 rfl ?_
  refine e_getr (o2 := 34) dX6_init_60 ff_X6_13 rfl (by decide) (by decide) rfl (by simp [fx_sI, fx_sR]) ?_
  refine e_iload_n dX6_init_63 rfl ?_
  refine e_new (o := 40) (ci := 0) dX6_init_64 wk_X6_11 wn_DrawerOfArmsArm wz_DrawerOfArmsArm fx_cl0 (by decide) rfl (by decide) (by decide) (fx_z_dv (((((((((((((((((((((((((((((((((hZ.mono (by decide))).sR (by decide))).sR (by decide))).sI (by decide))).sI (by decide))).sI (by decide))).sI (by decide))).sI (by decide))).sI (by decide))).sI (by decide))).sR (by decide))).sI (by decide))).sR (by decide))).sI (by decide))).sR (by decide))).sI (by decide))).sR (by decide)) fx_dv0) ?_
  refine e_dup dX6_init_67 rfl ?_
  refine e_callN1 (μ' := mX0_init) (As := []) dX6_init_68 (List.mem_of_getElem? (i := 0) rfl) ok_X0_init (by decide) (Nat.le_of_ble_eq_true rfl) ⟨by decide, by decide⟩ (s_X0_init (m := fx_sR (fx_sI (fx_sR (fx_sI (fx_sR (fx_sI (fx_sR (fx_sI (fx_sI (fx_sI (fx_sI (fx_sI (fx_sI (fx_sI (fx_sR (fx_sR m 33 0 (some 34)) 33 1 (some 35)) 33 2 0) 33 3 0) 33 4 0) 33 5 0) 33 6 0) 33 7 1) 36 6 99) 34 0 (some 36)) 37 6 99) 34 1 (some 37)) 38 6 99) 34 2 (some 38)) 39 6 99) 34 3 (some 39)) rfl (by decide)) rfl ?_
  refine e_aast (j := 4) dX6_init_71 rfl (Or.inl ⟨rfl, rfl, rfl⟩) (by decide) rfl (by decide) rfl (by decide) (by decide) ?_
  refine e_iinc (v := 5) dX6_init_72 rfl (by decide) (by decide) rfl ?_
  refine e_goto 53 dX6_init_75 rfl ?_
  refine e_weak (lv2 := [some (fx_rf Γ 33), some (.int 5)]) ⟨rfl, rfl, trivial⟩ ?_
  refine e_iload_n dX6_init_53 rfl ?_
  refine e_bipush dX6_init_54 kcb_8 ?_
  refine e_icmp_ge 78 dX6_init_56 rfl (fun h => absurd h (by decide)) (fun _ => ?_)
  refine e_aload_n dX6_init_59 rfl ?_
  refine e_getr (o2 := 34) dX6_init_60 ff_X6_13 rfl (by decide) (by decide) rfl (by simp [fx_sI, fx_sR]) ?_
  refine e_iload_n dX6_init_63 rfl ?_
  refine e_new (o := 41) (ci := 0) dX6_init_64 wk_X6_11 wn_DrawerOfArmsArm wz_DrawerOfArmsArm fx_cl0 (by decide) rfl (by decide) (by decide) (fx_z_dv (((((((((((((((((((((((((((((((((((((hZ.mono (by decide))).sR (by decide))).sR (by decide))).sI (by decide))).sI (by decide))).sI (by decide))).sI (by decide))).sI (by decide))).sI (by decide))).sI (by decide))).sR (by decide))).sI (by decide))).sR (by decide))).sI (by decide))).sR (by decide))).sI (by decide))).sR (by decide))).sI (by decide))).sR (by decide)) fx_dv0) ?_
  refine e_dup dX6_init_67 rfl ?_
  refine e_callN1 (μ' := mX0_init) (As := []) dX6_init_68 (List.mem_of_getElem? (i := 0) rfl) ok_X0_init (by decide) (Nat.le_of_ble_eq_true rfl) ⟨by decide, by decide⟩ (s_X0_init (m := fx_sR (fx_sI (fx_sR (fx_sI (fx_sR (fx_sI (fx_sR (fx_sI (fx_sR (fx_sI (fx_sI (fx_sI (fx_sI (fx_sI (fx_sI (fx_sI (fx_sR (fx_sR m 33 0 (some 34)) 33 1 (some 35)) 33 2 0) 33 3 0) 33 4 0) 33 5 0) 33 6 0) 33 7 1) 36 6 99) 34 0 (some 36)) 37 6 99) 34 1 (some 37)) 38 6 99) 34 2 (some 38)) 39 6 99) 34 3 (some 39)) 40 6 99) 34 4 (some 40)) rfl (by decide)) rfl ?_
  refine e_aast (j := 5) dX6_init_71 rfl (Or.inl ⟨rfl, rfl, rfl⟩) (by decide) rfl (by decide) rfl (by decide) (by decide) ?_
  refine e_iinc (v := 6) dX6_init_72 rfl (by decide) (by decide) rfl ?_
  refine e_goto 53 dX6_init_75 rfl ?_
  refine e_weak (lv2 := [some (fx_rf Γ 33), some (.int 6)]) ⟨rfl, rfl, trivial⟩ ?_
  refine e_iload_n dX6_init_53 rfl ?_
  refine e_bipush dX6_init_54 kcb_8 ?_
  refine e_icmp_ge 78 dX6_init_56 rfl (fun h => absurd h (by decide)) (fun _ => ?_)
  refine e_aload_n dX6_init_59 rfl ?_
  refine e_getr (o2 := 34) dX6_init_60 ff_X6_13 rfl (by decide) (by decide) rfl (by simp [fx_sI, fx_sR]) ?_
  refine e_iload_n dX6_init_63 rfl ?_
  refine e_new (o := 42) (ci := 0) dX6_init_64 wk_X6_11 wn_DrawerOfArmsArm wz_DrawerOfArmsArm fx_cl0 (by decide) rfl (by decide) (by decide) (fx_z_dv (((((((((((((((((((((((((((((((((((((((((hZ.mono (by decide))).sR (by decide))).sR (by decide))).sI (by decide))).sI (by decide))).sI (by decide))).sI (by decide))).sI (by decide))).sI (by decide))).sI (by decide))).sR (by decide))).sI (by decide))).sR (by decide))).sI (by decide))).sR (by decide))).sI (by decide))).sR (by decide))).sI (by decide))).sR (by decide))).sI (by decide))).sR (by decide)) fx_dv0) ?_
  refine e_dup dX6_init_67 rfl ?_
  refine e_callN1 (μ' := mX0_init) (As := []) dX6_init_68 (List.mem_of_getElem? (i := 0) rfl) ok_X0_init (by decide) (Nat.le_of_ble_eq_true rfl) ⟨by decide, by decide⟩ (s_X0_init (m := fx_sR (fx_sI (fx_sR (fx_sI (fx_sR (fx_sI (fx_sR (fx_sI (fx_sR (fx_sI (fx_sR (fx_sI (fx_sI (fx_sI (fx_sI (fx_sI (fx_sI (fx_sI (fx_sR (fx_sR m 33 0 (some 34)) 33 1 (some 35)) 33 2 0) 33 3 0) 33 4 0) 33 5 0) 33 6 0) 33 7 1) 36 6 99) 34 0 (some 36)) 37 6 99) 34 1 (some 37)) 38 6 99) 34 2 (some 38)) 39 6 99) 34 3 (some 39)) 40 6 99) 34 4 (some 40)) 41 6 99) 34 5 (some 41)) rfl (by decide)) rfl ?_
  refine e_aast (j := 6) dX6_init_71 rfl (Or.inl ⟨rfl, rfl, rfl⟩) (by decide) rfl (by decide) rfl (by decide) (by decide) ?_
  refine e_iinc (v := 7) dX6_init_72 rfl (by decide) (by decide) rfl ?_
  refine e_goto 53 dX6_init_75 rfl ?_
  refine e_weak (lv2 := [some (fx_rf Γ 33), some (.int 7)]) ⟨rfl, rfl, trivial⟩ ?_
  refine e_iload_n dX6_init_53 rfl ?_
  refine e_bipush dX6_init_54 kcb_8 ?_
  refine e_icmp_ge 78 dX6_init_56 rfl (fun h => absurd h (by decide)) (fun _ => ?_)
  refine e_aload_n dX6_init_59 rfl ?_
  refine e_getr (o2 := 34) dX6_init_60 ff_X6_13 rfl (by decide) (by decide) rfl (by simp [fx_sI, fx_sR]) ?_
  refine e_iload_n dX6_init_63 rfl ?_
  refine e_new (o := 43) (ci := 0) dX6_init_64 wk_X6_11 wn_DrawerOfArmsArm wz_DrawerOfArmsArm fx_cl0 (by decide) rfl (by decide) (by decide) (fx_z_dv (((((((((((((((((((((((((((((((((((((((((((((hZ.mono (by decide))).sR (by decide))).sR (by decide))).sI (by decide))).sI (by decide))).sI (by decide))).sI (by decide))).sI (by decide))).sI (by decide))).sI (by decide))).sR (by decide))).sI (by decide))).sR (by decide))).sI (by decide))).sR (by decide))).sI (by decide))).sR (by decide))).sI (by decide))).sR (by decide))).sI (by decide))).sR (by decide))).sI (by decide))).sR (by decide)) fx_dv0) ?_
  refine e_dup dX6_init_67 rfl ?_
  refine e_callN1 (μ' := mX0_init) (As := []) dX6_init_68 (List.mem_of_getElem? (i := 0) rfl) ok_X0_init (by decide) (Nat.le_of_ble_eq_true rfl) ⟨by decide, by decide⟩ (s_X0_init (m := fx_sR (fx_sI (fx_sR (fx_sI (fx_sR (fx_sI (fx_sR (fx_sI (fx_sR (fx_sI (fx_sR (fx_sI (fx_sR (fx_sI (fx_sI (fx_sI (fx_sI (fx_sI (fx_sI (fx_sI (fx_sR (fx_sR m 33 0 (some 34)) 33 1 (some 35)) 33 2 0) 33 3 0) 33 4 0) 33 5 0) 33 6 0) 33 7 1) 36 6 99) 34 0 (some 36)) 37 6 99) 34 1 (some 37)) 38 6 99) 34 2 (some 38)) 39 6 99) 34 3 (some 39)) 40 6 99) 34 4 (some 40)) 41 6 99) 34 5 (some 41)) 42 6 99) 34 6 (some 42)) rfl (by decide)) rfl ?_
  refine e_aast (j := 7) dX6_init_71 rfl (Or.inl ⟨rfl, rfl, rfl⟩) (by decide) rfl (by decide) rfl (by decide) (by decide) ?_
  refine e_iinc (v := 8) dX6_init_72 rfl (by decide) (by decide) rfl ?_
  refine e_goto 53 dX6_init_75 rfl ?_
  refine e_weak (lv2 := [some (fx_rf Γ 33), some (.int 8)]) ⟨rfl, rfl, trivial⟩ ?_
  refine e_iload_n dX6_init_53 rfl ?_
  refine e_bipush dX6_init_54 kcb_8 ?_
  refine e_icmp_ge 78 dX6_init_56 rfl (fun _ => ?_) (fun h => absurd (by decide) h)
  refine e_iconst dX6_init_78 kci_0 ?_
  refine e_istore_n dX6_init_79 (by decide) rfl ?_
  refine e_weak (lv2 := [some (fx_rf Γ 33), some (.int 0)]) ⟨rfl, rfl, trivial⟩ ?_
  refine e_iload_n dX6_init_80 rfl ?_
  refine e_iconst dX6_init_81 kci_5 ?_
  refine e_icmp_ge 104 dX6_init_82 rfl (fun h => absurd h (by decide)) (fun _ => ?_)
  refine e_aload_n dX6_init_85 rfl ?_
  refine e_getr (o2 := 35) dX6_init_86 ff_X6_19 rfl (by decide) (by decide) rfl (by simp [fx_sI, fx_sR]) ?_
  refine e_iload_n dX6_init_89 rfl ?_
  refine e_new (o := 44) (ci := 1) dX6_init_90 wk_X6_17 wn_DrawerOfArmsDoll wz_DrawerOfArmsDoll fx_cl1 (by decide) rfl (by decide) (by decide) (fx_z_dv (((((((((((((((((((((((((((((((((((((((((((((((((hZ.mono (by decide))).sR (by decide))).sR (by decide))).sI (by decide))).sI (by decide))).sI (by decide))).sI (by decide))).sI (by decide))).sI (by decide))).sI (by decide))).sR (by decide))).sI (by decide))).sR (by decide))).sI (by decide))).sR (by decide))).sI (by decide))).sR (by decide))).sI (by decide))).sR (by decide))).sI (by decide))).sR (by decide))).sI (by decide))).sR (by decide))).sI (by decide))).sR (by decide)) fx_dv1) ?_
  refine e_dup dX6_init_93 rfl ?_
  refine e_callN1 (μ' := mX1_init) (As := []) dX6_init_94 (List.mem_of_getElem? (i := 1) rfl) ok_X1_init (by decide) (Nat.le_of_ble_eq_true rfl) ⟨by decide, by decide⟩ (s_X1_init (m := fx_sR (fx_sI (fx_sR (fx_sI (fx_sR (fx_sI (fx_sR (fx_sI (fx_sR (fx_sI (fx_sR (fx_sI (fx_sR (fx_sI (fx_sR (fx_sI (fx_sI (fx_sI (fx_sI (fx_sI (fx_sI (fx_sI (fx_sR (fx_sR m 33 0 (some 34)) 33 1 (some 35)) 33 2 0) 33 3 0) 33 4 0) 33 5 0) 33 6 0) 33 7 1) 36 6 99) 34 0 (some 36)) 37 6 99) 34 1 (some 37)) 38 6 99) 34 2 (some 38)) 39 6 99) 34 3 (some 39)) 40 6 99) 34 4 (some 40)) 41 6 99) 34 5 (some 41)) 42 6 99) 34 6 (some 42)) 43 6 99) 34 7 (some 43)) rfl (by decide)) rfl ?_
  refine e_aast (j := 0) dX6_init_97 rfl (Or.inr (Or.inl ⟨rfl, rfl, rfl⟩)) (by decide) rfl (by decide) rfl (by decide) (by decide) ?_
  refine e_iinc (v := 1) dX6_init_98 rfl (by decide) (by decide) rfl ?_
  refine e_goto 80 dX6_init_101 rfl ?_
  refine e_weak (lv2 := [some (fx_rf Γ 33), some (.int 1)]) ⟨rfl, rfl, trivial⟩ ?_
  refine e_iload_n dX6_init_80 rfl ?_
  refine e_iconst dX6_init_81 kci_5 ?_
  refine e_icmp_ge 104 dX6_init_82 rfl (fun h => absurd h (by decide)) (fun _ => ?_)
  refine e_aload_n dX6_init_85 rfl ?_
  refine e_getr (o2 := 35) dX6_init_86 ff_X6_19 rfl (by decide) (by decide) rfl (by simp [fx_sI, fx_sR]) ?_
  refine e_iload_n dX6_init_89 rfl ?_
  refine e_new (o := 45) (ci := 1) dX6_init_90 wk_X6_17 wn_DrawerOfArmsDoll wz_DrawerOfArmsDoll fx_cl1 (by decide) rfl (by decide) (by decide) (fx_z_dv (((((((((((((((((((((((((((((((((((((((((((((((((((hZ.mono (by decide))).sR (by decide))).sR (by decide))).sI (by decide))).sI (by decide))).sI (by decide))).sI (by decide))).sI (by decide))).sI (by decide))).sI (by decide))).sR (by decide))).sI (by decide))).sR (by decide))).sI (by decide))).sR (by decide))).sI (by decide))).sR (by decide))).sI (by decide))).sR (by decide))).sI (by decide))).sR (by decide))).sI (by decide))).sR (by decide))).sI (by decide))).sR (by decide))).sR (by decide)) fx_dv1) ?_
  refine e_dup dX6_init_93 rfl ?_
  refine e_callN1 (μ' := mX1_init) (As := []) dX6_init_94 (List.mem_of_getElem? (i := 1) rfl) ok_X1_init (by decide) (Nat.le_of_ble_eq_true rfl) ⟨by decide, by decide⟩ (s_X1_init (m := fx_sR (fx_sR (fx_sI (fx_sR (fx_sI (fx_sR (fx_sI (fx_sR (fx_sI (fx_sR (fx_sI (fx_sR (fx_sI (fx_sR (fx_sI (fx_sR (fx_sI (fx_sI (fx_sI (fx_sI (fx_sI (fx_sI (fx_sI (fx_sR (fx_sR m 33 0 (some 34)) 33 1 (some 35)) 33 2 0) 33 3 0) 33 4 0) 33 5 0) 33 6 0) 33 7 1) 36 6 99) 34 0 (some 36)) 37 6 99) 34 1 (some 37)) 38 6 99) 34 2 (some 38)) 39 6 99) 34 3 (some 39)) 40 6 99) 34 4 (some 40)) 41 6 99) 34 5 (some 41)) 42 6 99) 34 6 (some 42)) 43 6 99) 34 7 (some 43)) 35 0 (some 44)) rfl (by decide)) rfl ?_
  refine e_aast (j := 1) dX6_init_97 rfl (Or.inr (Or.inl ⟨rfl, rfl, rfl⟩)) (by decide) rfl (by decide) rfl (by decide) (by decide) ?_
  refine e_iinc (v := 2) dX6_init_98 rfl (by decide) (by decide) rfl ?_
  refine e_goto 80 dX6_init_101 rfl ?_
  refine e_weak (lv2 := [some (fx_rf Γ 33), some (.int 2)]) ⟨rfl, rfl, trivial⟩ ?_
  refine e_iload_n dX6_init_80 rfl ?_
  refine e_iconst dX6_init_81 kci_5 ?_
  refine e_icmp_ge 104 dX6_init_82 rfl (fun h => absurd h (by decide)) (fun _ => ?_)
  refine e_aload_n dX6_init_85 rfl ?_
  refine e_getr (o2 := 35) dX6_init_86 ff_X6_19 rfl (by decide) (by decide) rfl (by simp [fx_sI, fx_sR]) ?_
  refine e_iload_n dX6_init_89 rfl ?_
  refine e_new (o := 46) (ci := 1) dX6_init_90 wk_X6_17 wn_DrawerOfArmsDoll wz_DrawerOfArmsDoll fx_cl1 (by decide) rfl (by decide) (by decide) (fx_z_dv (((((((((((((((((((((((((((((((((((((((((((((((((((((hZ.mono (by decide))).sR (by decide))).sR (by decide))).sI (by decide))).sI (by decide))).sI (by decide))).sI (by decide))).sI (by decide))).sI (by decide))).sI (by decide))).sR (by decide))).sI (by decide))).sR (by decide))).sI (by decide))).sR (by decide))).sI (by decide))).sR (by decide))).sI (by decide))).sR (by decide))).sI (by decide))).sR (by decide))).sI (by decide))).sR (by decide))).sI (by decide))).sR (by decide))).sR (by decide))).sR (by decide)) fx_dv1) ?_
  refine e_dup dX6_init_93 rfl ?_
  refine e_callN1 (μ' := mX1_init) (As := []) dX6_init_94 (List.mem_of_getElem? (i := 1) rfl) ok_X1_init (by decide) (Nat.le_of_ble_eq_true rfl) ⟨by decide, by decide⟩ (s_X1_init (m := fx_sR (fx_sR (fx_sR (fx_sI (fx_sR (fx_sI (fx_sR (fx_sI (fx_sR (fx_sI (fx_sR (fx_sI (fx_sR (fx_sI (fx_sR (fx_sI (fx_sR (fx_sI (fx_sI (fx_sI (fx_sI (fx_sI (fx_sI (fx_sI (fx_sR (fx_sR m 33 0 (some 34)) 33 1 (some 35)) 33 2 0) 33 3 0) 33 4 0) 33 5 0) 33 6 0) 33 7 1) 36 6 99) 34 0 (some 36)) 37 6 99) 34 1 (some 37)) 38 6 99) 34 2 (some 38)) 39 6 99) 34 3 (some 39)) 40 6 99) 34 4 (some 40)) 41 6 99) 34 5 (some 41)) 42 6 99) 34 6 (some 42)) 43 6 99) 34 7 (some 43)) 35 0 (some 44)) 35 1 (some 45)) rfl (by decide)) rfl ?_
  refine e_aast (j := 2) dX6_init_97 rfl (Or.inr (Or.inl ⟨rfl, rfl, rfl⟩)) (by decide) rfl (by decide) rfl (by decide) (by decide) ?_
  refine e_iinc (v := 3) dX6_init_98 rfl (by decide) (by decide) rfl ?_
  refine e_goto 80 dX6_init_101 rfl ?_
  refine e_weak (lv2 := [some (fx_rf Γ 33), some (.int 3)]) ⟨rfl, rfl, trivial⟩ ?_
  refine e_iload_n dX6_init_80 rfl ?_
  refine e_iconst dX6_init_81 kci_5 ?_
  refine e_icmp_ge 104 dX6_init_82 rfl (fun h => absurd h (by decide)) (fun _ => ?_)
  refine e_aload_n dX6_init_85 rfl ?_
  refine e_getr (o2 := 35) dX6_init_86 ff_X6_19 rfl (by decide) (by decide) rfl (by simp [fx_sI, fx_sR]) ?_
  refine e_iload_n dX6_init_89 rfl ?_
  refine e_new (o := 47) (ci := 1) dX6_init_90 wk_X6_17 wn_DrawerOfArmsDoll wz_DrawerOfArmsDoll fx_cl1 (by decide) rfl (by decide) (by decide) (fx_z_dv (((((((((((((((((((((((((((((((((((((((((((((((((((((((hZ.mono (by decide))).sR (by decide))).sR (by decide))).sI (by decide))).sI (by decide))).sI (by decide))).sI (by decide))).sI (by decide))).sI (by decide))).sI (by decide))).sR (by decide))).sI (by decide))).sR (by decide))).sI (by decide))).sR (by decide))).sI (by decide))).sR (by decide))).sI (by decide))).sR (by decide))).sI (by decide))).sR (by decide))).sI (by decide))).sR (by decide))).sI (by decide))).sR (by decide))).sR (by decide))).sR (by decide))).sR (by decide)) fx_dv1) ?_
  refine e_dup dX6_init_93 rfl ?_
  refine e_callN1 (μ' := mX1_init) (As := []) dX6_init_94 (List.mem_of_getElem? (i := 1) rfl) ok_X1_init (by decide) (Nat.le_of_ble_eq_true rfl) ⟨by decide, by decide⟩ (s_X1_init (m := fx_sR (fx_sR (fx_sR (fx_sR (fx_sI (fx_sR (fx_sI (fx_sR (fx_sI (fx_sR (fx_sI (fx_sR (fx_sI (fx_sR (fx_sI (fx_sR (fx_sI (fx_sR (fx_sI (fx_sI (fx_sI (fx_sI (fx_sI (fx_sI (fx_sI (fx_sR (fx_sR m 33 0 (some 34)) 33 1 (some 35)) 33 2 0) 33 3 0) 33 4 0) 33 5 0) 33 6 0) 33 7 1) 36 6 99) 34 0 (some 36)) 37 6 99) 34 1 (some 37)) 38 6 99) 34 2 (some 38)) 39 6 99) 34 3 (some 39)) 40 6 99) 34 4 (some 40)) 41 6 99) 34 5 (some 41)) 42 6 99) 34 6 (some 42)) 43 6 99) 34 7 (some 43)) 35 0 (some 44)) 35 1 (some 45)) 35 2 (some 46)) rfl (by decide)) rfl ?_
  refine e_aast (j := 3) dX6_init_97 rfl (Or.inr (Or.inl ⟨rfl, rfl, rfl⟩)) (by decide) rfl (by decide) rfl (by decide) (by decide) ?_
  refine e_iinc (v := 4) dX6_init_98 rfl (by decide) (by decide) rfl ?_
  refine e_goto 80 dX6_init_101 rfl ?_
  refine e_weak (lv2 := [some (fx_rf Γ 33), some (.int 4)]) ⟨rfl, rfl, trivial⟩ ?_
  refine e_iload_n dX6_init_80 rfl ?_
  refine e_iconst dX6_init_81 kci_5 ?_
  refine e_icmp_ge 104 dX6_init_82 rfl (fun h => absurd h (by decide)) (fun _ => ?_)
  refine e_aload_n dX6_init_85 rfl ?_
  refine e_getr (o2 := 35) dX6_init_86 ff_X6_19 rfl (by decide) (by decide) rfl (by simp [fx_sI, fx_sR]) ?_
  refine e_iload_n dX6_init_89 rfl ?_
  refine e_new (o := 48) (ci := 1) dX6_init_90 wk_X6_17 wn_DrawerOfArmsDoll wz_DrawerOfArmsDoll fx_cl1 (by decide) rfl (by decide) (by decide) (fx_z_dv (((((((((((((((((((((((((((((((((((((((((((((((((((((((((hZ.mono (by decide))).sR (by decide))).sR (by decide))).sI (by decide))).sI (by decide))).sI (by decide))).sI (by decide))).sI (by decide))).sI (by decide))).sI (by decide))).sR (by decide))).sI (by decide))).sR (by decide))).sI (by decide))).sR (by decide))).sI (by decide))).sR (by decide))).sI (by decide))).sR (by decide))).sI (by decide))).sR (by decide))).sI (by decide))).sR (by decide))).sI (by decide))).sR (by decide))).sR (by decide))).sR (by decide))).sR (by decide))).sR (by decide)) fx_dv1) ?_
  refine e_dup dX6_init_93 rfl ?_
  refine e_callN1 (μ' := mX1_init) (As := []) dX6_init_94 (List.mem_of_getElem? (i := 1) rfl) ok_X1_init (by decide) (Nat.le_of_ble_eq_true rfl) ⟨by decide, by decide⟩ (s_X1_init (m := fx_sR (fx_sR (fx_sR (fx_sR (fx_sR (fx_sI (fx_sR (fx_sI (fx_sR (fx_sI (fx_sR (fx_sI (fx_sR (fx_sI (fx_sR (fx_sI (fx_sR (fx_sI (fx_sR (fx_sI (fx_sI (fx_sI (fx_sI (fx_sI (fx_sI (fx_sI (fx_sR (fx_sR m 33 0 (some 34)) 33 1 (some 35)) 33 2 0) 33 3 0) 33 4 0) 33 5 0) 33 6 0) 33 7 1) 36 6 99) 34 0 (some 36)) 37 6 99) 34 1 (some 37)) 38 6 99) 34 2 (some 38)) 39 6 99) 34 3 (some 39)) 40 6 99) 34 4 (some 40)) 41 6 99) 34 5 (some 41)) 42 6 99) 34 6 (some 42)) 43 6 99) 34 7 (some 43)) 35 0 (some 44)) 35 1 (some 45)) 35 2 (some 46)) 35 3 (some 47)) rfl (by decide)) rfl ?_
  refine e_aast (j := 4) dX6_init_97 rfl (Or.inr (Or.inl ⟨rfl, rfl, rfl⟩)) (by decide) rfl (by decide) rfl (by decide) (by decide) ?_
  refine e_iinc (v := 5) dX6_init_98 rfl (by decide) (by decide) rfl ?_
  refine e_goto 80 dX6_init_101 rfl ?_
  refine e_weak (lv2 := [some (fx_rf Γ 33), some (.int 5)]) ⟨rfl, rfl, trivial⟩ ?_
  refine e_iload_n dX6_init_80 rfl ?_
  refine e_iconst dX6_init_81 kci_5 ?_
  refine e_icmp_ge 104 dX6_init_82 rfl (fun _ => ?_) (fun h => absurd (by decide) h)
  have nb : fx_NB 33 49 m (fx_sR (fx_sR (fx_sR (fx_sR (fx_sR (fx_sR (fx_sI (fx_sR (fx_sI (fx_sR (fx_sI (fx_sR (fx_sI (fx_sR (fx_sI (fx_sR (fx_sI (fx_sR (fx_sI (fx_sR (fx_sI (fx_sI (fx_sI (fx_sI (fx_sI (fx_sI (fx_sI (fx_sR (fx_sR m 33 0 (some 34)) 33 1 (some 35)) 33 2 0) 33 3 0) 33 4 0) 33 5 0) 33 6 0) 33 7 1) 36 6 99) 34 0 (some 36)) 37 6 99) 34 1 (some 37)) 38 6 99) 34 2 (some 38)) 39 6 99) 34 3 (some 39)) 40 6 99) 34 4 (some 40)) 41 6 99) 34 5 (some 41)) 42 6 99) 34 6 (some 42)) 43 6 99) 34 7 (some 43)) 35 0 (some 44)) 35 1 (some 45)) 35 2 (some 46)) 35 3 (some 47)) 35 4 (some 48)) := by
    refine ⟨fun o ho => ⟨?_, ?_, ?_⟩, fun o h1 h2 => ?_⟩
    · funext k; simp [fx_sI, fx_sR, show o ≠ 33 from fun e => ho (by rw [e]; decide), show o ≠ 34 from fun e => ho (by rw [e]; decide), show o ≠ 35 from fun e => ho (by rw [e]; decide), show o ≠ 36 from fun e => ho (by rw [e]; decide), show o ≠ 37 from fun e => ho (by rw [e]; decide), show o ≠ 38 from fun e => ho (by rw [e]; decide), show o ≠ 39 from fun e => ho (by rw [e]; decide), show o ≠ 40 from fun e => ho (by rw [e]; decide), show o ≠ 41 from fun e => ho (by rw [e]; decide), show o ≠ 42 from fun e => ho (by rw [e]; decide), show o ≠ 43 from fun e => ho (by rw [e]; decide), show o ≠ 44 from fun e => ho (by rw [e]; decide), show o ≠ 45 from fun e => ho (by rw [e]; decide), show o ≠ 46 from fun e => ho (by rw [e]; decide), show o ≠ 47 from fun e => ho (by rw [e]; decide), show o ≠ 48 from fun e => ho (by rw [e]; decide)]
    · rfl
    · funext k; simp [fx_sI, fx_sR, show o ≠ 33 from fun e => ho (by rw [e]; decide), show o ≠ 34 from fun e => ho (by rw [e]; decide), show o ≠ 35 from fun e => ho (by rw [e]; decide), show o ≠ 36 from fun e => ho (by rw [e]; decide), show o ≠ 37 from fun e => ho (by rw [e]; decide), show o ≠ 38 from fun e => ho (by rw [e]; decide), show o ≠ 39 from fun e => ho (by rw [e]; decide), show o ≠ 40 from fun e => ho (by rw [e]; decide), show o ≠ 41 from fun e => ho (by rw [e]; decide), show o ≠ 42 from fun e => ho (by rw [e]; decide), show o ≠ 43 from fun e => ho (by rw [e]; decide), show o ≠ 44 from fun e => ho (by rw [e]; decide), show o ≠ 45 from fun e => ho (by rw [e]; decide), show o ≠ 46 from fun e => ho (by rw [e]; decide), show o ≠ 47 from fun e => ho (by rw [e]; decide), show o ≠ 48 from fun e => ho (by rw [e]; decide)]
    · rcases (show fx_pi o = fx_pi 33 ∨ fx_pi o = fx_pi 34 ∨ fx_pi o = fx_pi 35 ∨ fx_pi o = fx_pi 36 ∨ fx_pi o = fx_pi 37 ∨ fx_pi o = fx_pi 38 ∨ fx_pi o = fx_pi 39 ∨ fx_pi o = fx_pi 40 ∨ fx_pi o = fx_pi 41 ∨ fx_pi o = fx_pi 42 ∨ fx_pi o = fx_pi 43 ∨ fx_pi o = fx_pi 44 ∨ fx_pi o = fx_pi 45 ∨ fx_pi o = fx_pi 46 ∨ fx_pi o = fx_pi 47 ∨ fx_pi o = fx_pi 48 from (show fx_pi o = 33 ∨ fx_pi o = 34 ∨ fx_pi o = 35 ∨ fx_pi o = 36 ∨ fx_pi o = 37 ∨ fx_pi o = 38 ∨ fx_pi o = 39 ∨ fx_pi o = 40 ∨ fx_pi o = 41 ∨ fx_pi o = 42 ∨ fx_pi o = 43 ∨ fx_pi o = 44 ∨ fx_pi o = 45 ∨ fx_pi o = 46 ∨ fx_pi o = 47 ∨ fx_pi o = 48 by omega)) with e | e | e | e | e | e | e | e | e | e | e | e | e | e | e | e
      · obtain rfl := fx_pi_inj e
        refine ⟨fun k => ?_, fun k => ?_, fun k v h => ?_⟩
        · simp [fx_sI, fx_sR, fx_I0, (hZ 33 (by decide)).1] <;> ((repeat' split) <;> (first | rfl | omega))
        · simp [fx_sI, fx_sR, (hZ 33 (by decide)).2.1]
        · have hk := fx_lay_lt h
          have hk : k < 2 := hk
          rcases (show k = 0 ∨ k = 1 by omega) with rfl | rfl
          · cases (h : some 34 = some v)
            simp [fx_sI, fx_sR]
          · cases (h : some 35 = some v)
            simp [fx_sI, fx_sR]
      · obtain rfl := fx_pi_inj e
        refine ⟨fun k => ?_, fun k => ?_, fun k v h => ?_⟩
        · simp [fx_sI, fx_sR, fx_I0, (hZ 34 (by decide)).1] <;> ((repeat' split) <;> (first | rfl | omega))
        · simp [fx_sI, fx_sR, (hZ 34 (by decide)).2.1]
        · have hk := fx_lay_lt h
          have hk : k < 8 := hk
          rcases (show k = 0 ∨ k = 1 ∨ k = 2 ∨ k = 3 ∨ k = 4 ∨ k = 5 ∨ k = 6 ∨ k = 7 by omega) with rfl | rfl | rfl | rfl | rfl | rfl | rfl | rfl
          · cases (h : some 36 = some v)
            simp [fx_sI, fx_sR]
          · cases (h : some 37 = some v)
            simp [fx_sI, fx_sR]
          · cases (h : some 38 = some v)
            simp [fx_sI, fx_sR]
          · cases (h : some 39 = some v)
            simp [fx_sI, fx_sR]
          · cases (h : some 40 = some v)
            simp [fx_sI, fx_sR]
          · cases (h : some 41 = some v)
            simp [fx_sI, fx_sR]
          · cases (h : some 42 = some v)
            simp [fx_sI, fx_sR]
          · cases (h : some 43 = some v)
            simp [fx_sI, fx_sR]
      · obtain rfl := fx_pi_inj e
        refine ⟨fun k => ?_, fun k => ?_, fun k v h => ?_⟩
        · simp [fx_sI, fx_sR, fx_I0, (hZ 35 (by decide)).1] <;> ((repeat' split) <;> (first | rfl | omega))
        · simp [fx_sI, fx_sR, (hZ 35 (by decide)).2.1]
        · have hk := fx_lay_lt h
          have hk : k < 5 := hk
          rcases (show k = 0 ∨ k = 1 ∨ k = 2 ∨ k = 3 ∨ k = 4 by omega) with rfl | rfl | rfl | rfl | rfl
          · cases (h : some 44 = some v)
            simp [fx_sI, fx_sR]
          · cases (h : some 45 = some v)
            simp [fx_sI, fx_sR]
          · cases (h : some 46 = some v)
            simp [fx_sI, fx_sR]
          · cases (h : some 47 = some v)
            simp [fx_sI, fx_sR]
          · cases (h : some 48 = some v)
            simp [fx_sI, fx_sR]
      · obtain rfl := fx_pi_inj e
        refine ⟨fun k => ?_, fun k => ?_, fun k v h => ?_⟩
        · simp [fx_sI, fx_sR, fx_I0, (hZ 36 (by decide)).1] <;> ((repeat' split) <;> (first | rfl | omega))
        · simp [fx_sI, fx_sR, (hZ 36 (by decide)).2.1]
        · exact (fx_nolay rfl k v h).elim
      · obtain rfl := fx_pi_inj e
        refine ⟨fun k => ?_, fun k => ?_, fun k v h => ?_⟩
        · simp [fx_sI, fx_sR, fx_I0, (hZ 37 (by decide)).1] <;> ((repeat' split) <;> (first | rfl | omega))
        · simp [fx_sI, fx_sR, (hZ 37 (by decide)).2.1]
        · exact (fx_nolay rfl k v h).elim
      · obtain rfl := fx_pi_inj e
        refine ⟨fun k => ?_, fun k => ?_, fun k v h => ?_⟩
        · simp [fx_sI, fx_sR, fx_I0, (hZ 38 (by decide)).1] <;> ((repeat' split) <;> (first | rfl | omega))
        · simp [fx_sI, fx_sR, (hZ 38 (by decide)).2.1]
        · exact (fx_nolay rfl k v h).elim
      · obtain rfl := fx_pi_inj e
        refine ⟨fun k => ?_, fun k => ?_, fun k v h => ?_⟩
        · simp [fx_sI, fx_sR, fx_I0, (hZ 39 (by decide)).1] <;> ((repeat' split) <;> (first | rfl | omega))
        · simp [fx_sI, fx_sR, (hZ 39 (by decide)).2.1]
        · exact (fx_nolay rfl k v h).elim
      · obtain rfl := fx_pi_inj e
        refine ⟨fun k => ?_, fun k => ?_, fun k v h => ?_⟩
        · simp [fx_sI, fx_sR, fx_I0, (hZ 40 (by decide)).1] <;> ((repeat' split) <;> (first | rfl | omega))
        · simp [fx_sI, fx_sR, (hZ 40 (by decide)).2.1]
        · exact (fx_nolay rfl k v h).elim
      · obtain rfl := fx_pi_inj e
        refine ⟨fun k => ?_, fun k => ?_, fun k v h => ?_⟩
        · simp [fx_sI, fx_sR, fx_I0, (hZ 41 (by decide)).1] <;> ((repeat' split) <;> (first | rfl | omega))
        · simp [fx_sI, fx_sR, (hZ 41 (by decide)).2.1]
        · exact (fx_nolay rfl k v h).elim
      · obtain rfl := fx_pi_inj e
        refine ⟨fun k => ?_, fun k => ?_, fun k v h => ?_⟩
        · simp [fx_sI, fx_sR, fx_I0, (hZ 42 (by decide)).1] <;> ((repeat' split) <;> (first | rfl | omega))
        · simp [fx_sI, fx_sR, (hZ 42 (by decide)).2.1]
        · exact (fx_nolay rfl k v h).elim
      · obtain rfl := fx_pi_inj e
        refine ⟨fun k => ?_, fun k => ?_, fun k v h => ?_⟩
        · simp [fx_sI, fx_sR, fx_I0, (hZ 43 (by decide)).1] <;> ((repeat' split) <;> (first | rfl | omega))
        · simp [fx_sI, fx_sR, (hZ 43 (by decide)).2.1]
        · exact (fx_nolay rfl k v h).elim
      · obtain rfl := fx_pi_inj e
        refine ⟨fun k => ?_, fun k => ?_, fun k v h => ?_⟩
        · simp [fx_sI, fx_sR, fx_I0, (hZ 44 (by decide)).1] <;> ((repeat' split) <;> (first | rfl | omega))
        · simp [fx_sI, fx_sR, (hZ 44 (by decide)).2.1]
        · exact (fx_nolay rfl k v h).elim
      · obtain rfl := fx_pi_inj e
        refine ⟨fun k => ?_, fun k => ?_, fun k v h => ?_⟩
        · simp [fx_sI, fx_sR, fx_I0, (hZ 45 (by decide)).1] <;> ((repeat' split) <;> (first | rfl | omega))
        · simp [fx_sI, fx_sR, (hZ 45 (by decide)).2.1]
        · exact (fx_nolay rfl k v h).elim
      · obtain rfl := fx_pi_inj e
        refine ⟨fun k => ?_, fun k => ?_, fun k v h => ?_⟩
        · simp [fx_sI, fx_sR, fx_I0, (hZ 46 (by decide)).1] <;> ((repeat' split) <;> (first | rfl | omega))
        · simp [fx_sI, fx_sR, (hZ 46 (by decide)).2.1]
        · exact (fx_nolay rfl k v h).elim
      · obtain rfl := fx_pi_inj e
        refine ⟨fun k => ?_, fun k => ?_, fun k v h => ?_⟩
        · simp [fx_sI, fx_sR, fx_I0, (hZ 47 (by decide)).1] <;> ((repeat' split) <;> (first | rfl | omega))
        · simp [fx_sI, fx_sR, (hZ 47 (by decide)).2.1]
        · exact (fx_nolay rfl k v h).elim
      · obtain rfl := fx_pi_inj e
        refine ⟨fun k => ?_, fun k => ?_, fun k v h => ?_⟩
        · simp [fx_sI, fx_sR, fx_I0, (hZ 48 (by decide)).1] <;> ((repeat' split) <;> (first | rfl | omega))
        · simp [fx_sI, fx_sR, (hZ 48 (by decide)).2.1]
        · exact (fx_nolay rfl k v h).elim
  exact e_vret dX6_init_104 rfl rfl ⟨rfl, nb⟩
