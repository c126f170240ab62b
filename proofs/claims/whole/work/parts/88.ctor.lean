/-! THE START: what the constructors make -/
def fx_I0 (o k : Nat) : Int32 :=
  if o = 1 ∨ o = 17 ∨ o = 33 then (if k = 7 then 1 else 0)
  else if (4 ≤ o ∧ o < 12) ∨ (20 ≤ o ∧ o < 28) ∨ (36 ≤ o ∧ o < 44) ∨ o = 62 then (if k = 6 then 99 else 0)
  else if 67 ≤ o ∧ o < 83 ∧ o % 2 = 1 then (if k = 1 ∨ k = 3 then -1 else 0)
  else if o = 51 then (if k = 0 then -1 else 0)
  else if o = 65 then (if k = 3 then -1 else 0)
  else if o = 83 then (if k = 5 then 1 else if k = 6 ∨ k = 44 then -1 else 0)
  else if o = 106 then p_WT k else if o = 107 then p_NT k
  else if o = 108 then (if k < 6 then fx_tab 1 k else 0) else if o = 109 then (if k < 7 then fx_tab 3 k else 0) else 0
def fx_fin (o : Nat) (m : fx_M) : Prop := (∀ k, m.1 o k = fx_I0 o k) ∧ (∀ k, m.2.1 o k = 0) ∧ ∀ k v, fx_lay o k = some v → m.2.2 o k = some v
def fx_NB (a b : Nat) (m m' : fx_M) : Prop := (∀ o, ¬ (a ≤ fx_pi o ∧ fx_pi o < b) → m'.1 o = m.1 o ∧ m'.2.1 o = m.2.1 o ∧ m'.2.2 o = m.2.2 o) ∧ ∀ o, a ≤ fx_pi o → fx_pi o < b → fx_fin o m'
theorem fx_lay_lt {o k v : Nat} (h : fx_lay o k = some v) : k < (fx_layT.getD o []).length := by
  rcases Nat.lt_or_ge k (fx_layT.getD o []).length with q | q
  · exact q
  · unfold fx_lay at h
    rw [List.getD_eq_getElem?_getD (l := fx_layT.getD o []), List.getElem?_eq_none q] at h
    cases h
theorem fx_nolay {o : Nat} (h : fx_layT.getD o [] = []) : ∀ k v, fx_lay o k = some v → False := fun k v q => by
  have := fx_lay_lt q
  rw [h] at this
  exact absurd this (Nat.not_lt_zero _)
theorem fx_fin_z {o : Nat} {m : fx_M} (h1 : ∀ k, m.1 o k = 0) (h2 : ∀ k, m.2.1 o k = 0) (hI : ∀ k, fx_I0 o k = 0) (hl : fx_layT.getD o [] = []) : fx_fin o m := ⟨fun k => by rw [h1, hI], h2, fun k v h => (fx_nolay hl k v h).elim⟩
theorem fx_Z.mono {a b : Nat} {m : fx_M} (h : fx_Z a m) (hab : a ≤ b) : fx_Z b m := fun o ho => h o (by omega)
theorem fx_Z.sI {a o k : Nat} {v : Int32} {m : fx_M} (h : fx_Z a m) (ho : fx_pi o < a) : fx_Z a (fx_sI m o k v) := fun q hq => ⟨fun j => by rw [fx_sI_n _ _ _ (fun e => by rw [e] at hq; omega)]; exact (h q hq).1 j, (h q hq).2.1, (h q hq).2.2⟩
theorem fx_Z.sR {a o k : Nat} {v : Option Nat} {m : fx_M} (h : fx_Z a m) (ho : fx_pi o < a) : fx_Z a (fx_sR m o k v) := fun q hq => ⟨(h q hq).1, (h q hq).2.1, fun j => by
  have e : ¬ q = o := fun e => by rw [e] at hq; omega
  simp [fx_sR, e, (h q hq).2.2 j]⟩
theorem fx_NB.z {a b c : Nat} {m m' : fx_M} (N : fx_NB a b m m') (hZ : fx_Z c m) (hb : b ≤ c) : fx_Z c m' := fun o ho => by
  have h := N.1 o (by omega)
  exact ⟨fun k => by rw [h.1]; exact (hZ o ho).1 k, fun k => by rw [h.2.1]; exact (hZ o ho).2.1 k, fun k => by rw [h.2.2]; exact (hZ o ho).2.2 k⟩
theorem s_X0_init {Γ : fx_G} {m : fx_M} {o n : Nat} (hs : fx_shapes[o]? = some (10 + 0, 7)) (ho : fx_pi o < n) : fx_Ct Γ mX0_init 1 n n [fx_rf Γ o] m (fx_is none (fx_sI m o 6 99)) := by
  refine fx_Ct.of (j := 0) (by decide) (Nat.le_refl _) (Nat.le_of_ble_eq_true rfl) ?_
  show fx_E Γ mX0_init 1 n n _ n m 0 [some (fx_rf Γ o)] []
  refine e_aload_n dX0_init_0 rfl ?_
  refine e_objInit dX0_init_1 wl_X0_3 wi_Objectinit_V fx_wobj (by decide) (Nat.le_of_ble_eq_true rfl) ?_
  refine e_aload_n dX0_init_4 rfl ?_
  refine e_bipush dX0_init_5 kcb_99 ?_
  refine e_put dX0_init_7 ff_X0_11 hs ho (by decide) rfl (Or.inl rfl) ?_
  exact e_vret dX0_init_10 rfl rfl ⟨rfl, rfl⟩
theorem s_X1_init {Γ : fx_G} {m : fx_M} {o n : Nat} (hs : fx_shapes[o]? = some (10 + 1, 8)) (ho : fx_pi o < n) : fx_Ct Γ mX1_init 1 n n [fx_rf Γ o] m (fx_is none m) := by
  refine fx_Ct.of (j := 0) (by decide) (Nat.le_refl _) (Nat.le_of_ble_eq_true rfl) ?_
  show fx_E Γ mX1_init 1 n n _ n m 0 [some (fx_rf Γ o)] []
  refine e_aload_n dX1_init_0 rfl ?_
  refine e_objInit dX1_init_1 wl_X1_3 wi_Objectinit_V fx_wobj (by decide) (Nat.le_of_ble_eq_true rfl) ?_
  exact e_vret dX1_init_4 rfl rfl ⟨rfl, rfl⟩
set_option maxRecDepth 100000 in
set_option maxHeartbeats 2000000 in
theorem s_X3_init {Γ : fx_G} {m : fx_M} (hZ : fx_Z 51 m) : fx_Ct Γ mX3_init 2 52 61 [fx_rf Γ 53] m (fun r m' => r = none ∧ fx_NB 51 61 m m') := by
  refine fx_Ct.of (j := 0) (by decide) (by decide) (Nat.le_of_ble_eq_true rfl) ?_
  show fx_E Γ mX3_init 2 52 61 _ 52 m 0 [some (fx_rf Γ 53)] []
  refine e_aload_n dX3_init_0 rfl ?_
  refine e_objInit dX3_init_1 wl_X3_5 wi_Objectinit_V fx_wobj (by decide) (Nat.le_of_ble_eq_true rfl) ?_
  refine e_aload_n dX3_init_4 rfl ?_
  refine e_sipush dX3_init_5 kcs_2816 ?_
  refine e_newI (o := 54) (N := 2816) dX3_init_8 wa_int rfl (by decide) rfl (by decide) (by decide) (by decide) (fun j _ => ((hZ.mono (by decide)) _ (Nat.le_refl _)).1 j) ?_
  refine e_putr dX3_init_10 ff_X3_13 rfl (by decide) (by decide) rfl (Or.inr ⟨rfl, rfl⟩) (fun _ => rfl) (fun _ => rfl) ?_
  refine e_aload_n dX3_init_13 rfl ?_
  refine e_sipush dX3_init_14 kcs_256 ?_
  refine e_newI (o := 55) (N := 256) dX3_init_17 wa_int rfl (by decide) rfl (by decide) (by decide) (by decide) (fun j _ => ((((hZ.mono (by decide))).sR (by decide)) _ (Nat.le_refl _)).1 j) ?_
  refine e_putr dX3_init_19 ff_X3_17 rfl (by decide) (by decide) rfl (Or.inr ⟨rfl, rfl⟩) (fun _ => rfl) (fun _ => rfl) ?_
  refine e_aload_n dX3_init_22 rfl ?_
  refine e_bipush dX3_init_23 kcb_10 ?_
  refine e_newI (o := 56) (N := 10) dX3_init_25 wa_int rfl (by decide) rfl (by decide) (by decide) (by decide) (fun j _ => ((((((hZ.mono (by decide))).sR (by decide))).sR (by decide)) _ (Nat.le_refl _)).1 j) ?_
  refine e_putr dX3_init_27 ff_X3_20 rfl (by decide) (by decide) rfl (Or.inr ⟨rfl, rfl⟩) (fun _ => rfl) (fun _ => rfl) ?_
  refine e_aload_n dX3_init_30 rfl ?_
  refine e_bipush dX3_init_31 kcb_8 ?_
  refine e_newI (o := 57) (N := 8) dX3_init_33 wa_int rfl (by decide) rfl (by decide) (by decide) (by decide) (fun j _ => ((((((((hZ.mono (by decide))).sR (by decide))).sR (by decide))).sR (by decide)) _ (Nat.le_refl _)).1 j) ?_
  refine e_putr dX3_init_35 ff_X3_23 rfl (by decide) (by decide) rfl (Or.inr ⟨rfl, rfl⟩) (fun _ => rfl) (fun _ => rfl) ?_
  refine e_aload_n dX3_init_38 rfl ?_
  refine e_bipush dX3_init_39 kcb_10 ?_
  refine e_newI (o := 58) (N := 10) dX3_init_41 wa_int rfl (by decide) rfl (by decide) (by decide) (by decide) (fun j _ => ((((((((((hZ.mono (by decide))).sR (by decide))).sR (by decide))).sR (by decide))).sR (by decide)) _ (Nat.le_refl _)).1 j) ?_
  refine e_putr dX3_init_43 ff_X3_26 rfl (by decide) (by decide) rfl (Or.inr ⟨rfl, rfl⟩) (fun _ => rfl) (fun _ => rfl) ?_
  refine e_aload_n dX3_init_46 rfl ?_
  refine e_bipush dX3_init_47 kcb_10 ?_
  refine e_newI (o := 59) (N := 10) dX3_init_49 wa_int rfl (by decide) rfl (by decide) (by decide) (by decide) (fun j _ => ((((((((((((hZ.mono (by decide))).sR (by decide))).sR (by decide))).sR (by decide))).sR (by decide))).sR (by decide)) _ (Nat.le_refl _)).1 j) ?_
  refine e_putr dX3_init_51 ff_X3_29 rfl (by decide) (by decide) rfl (Or.inr ⟨rfl, rfl⟩) (fun _ => rfl) (fun _ => rfl) ?_
  refine e_aload_n dX3_init_54 rfl ?_
  refine e_bipush dX3_init_55 kcb_10 ?_
  refine e_newI (o := 60) (N := 10) dX3_init_57 wa_int rfl (by decide) rfl (by decide) (by decide) (by decide) (fun j _ => ((((((((((((((hZ.mono (by decide))).sR (by decide))).sR (by decide))).sR (by decide))).sR (by decide))).sR (by decide))).sR (by decide)) _ (Nat.le_refl _)).1 j) ?_
  refine e_putr dX3_init_59 ff_X3_32 rfl (by decide) (by decide) rfl (Or.inr ⟨rfl, rfl⟩) (fun _ => rfl) (fun _ => rfl) ?_
  refine e_aload_n dX3_init_62 rfl ?_
  refine e_bipush dX3_init_63 kcb_80 ?_
  refine e_newI (o := 61) (N := 80) dX3_init_65 wa_int rfl (by decide) rfl (by decide) (by decide) (by decide) (fun j _ => ((((((((((((((((hZ.mono (by decide))).sR (by decide))).sR (by decide))).sR (by decide))).sR (by decide))).sR (by decide))).sR (by decide))).sR (by decide)) _ (Nat.le_refl _)).1 j) ?_
  refine e_putr dX3_init_67 ff_X3_35 rfl (by decide) (by decide) rfl (Or.inr ⟨rfl, rfl⟩) (fun _ => rfl) (fun _ => rfl) ?_
  refine e_aload_n dX3_init_70 rfl ?_
  refine e_new (o := 62) (ci := 0) dX3_init_71 wk_X3_38 wn_DrawerOfArmsArm wz_DrawerOfArmsArm fx_cl0 (by decide) rfl (by decide) (by decide) (fx_z_dv (((((((((((((((((hZ.mono (by decide))).sR (by decide))).sR (by decide))).sR (by decide))).sR (by decide))).sR (by decide))).sR (by decide))).sR (by decide))).sR (by decide)) fx_dv0) ?_
  refine e_dup dX3_init_74 rfl ?_
  refine e_callN1 (μ' := mX0_init) (As := []) dX3_init_75 (List.mem_of_getElem? (i := 3) rfl) ok_X0_init (by decide) (Nat.le_of_ble_eq_true rfl) ⟨by decide, by decide⟩ (s_X0_init (m := fx_sR (fx_sR (fx_sR (fx_sR (fx_sR (fx_sR (fx_sR (fx_sR m 53 0 (some 54)) 53 1 (some 55)) 53 2 (some 56)) 53 3 (some 57)) 53 4 (some 58)) 53 5 (some 59)) 53 6 (some 60)) 53 7 (some 61)) rfl (by decide)) rfl ?_
  refine e_putr dX3_init_78 ff_X3_41 rfl (by decide) (by decide) rfl (Or.inr ⟨rfl, rfl⟩) (fun _ => rfl) (fun _ => rfl) ?_
  refine e_aload_n dX3_init_81 rfl ?_
  refine e_iconst dX3_init_82 kci_0 ?_
  refine e_put dX3_init_83 ff_X3_45 rfl (by decide) (by decide) rfl (Or.inl rfl) ?_
  refine e_aload_n dX3_init_86 rfl ?_
  refine e_iconst dX3_init_87 kci_0 ?_
  refine e_put dX3_init_88 ff_X3_49 rfl (by decide) (by decide) rfl (Or.inl rfl) ?_
  refine e_aload_n dX3_init_91 rfl ?_
  refine e_iconst dX3_init_92 kci_0 ?_
  refine e_putz dX3_init_93 ff_X3_52 rfl (by decide) (by decide) rfl (Or.inl rfl) (Or.inl rfl) ?_
  have nb : fx_NB 51 61 m (fx_sI (fx_sI (fx_sI (fx_sR (fx_sI (fx_sR (fx_sR (fx_sR (fx_sR (fx_sR (fx_sR (fx_sR (fx_sR m 53 0 (some 54)) 53 1 (some 55)) 53 2 (some 56)) 53 3 (some 57)) 53 4 (some 58)) 53 5 (some 59)) 53 6 (some 60)) 53 7 (some 61)) 62 6 99) 53 8 (some 62)) 53 9 0) 53 10 0) 53 11 0) := by
    refine ⟨fun o ho => ⟨?_, ?_, ?_⟩, fun o h1 h2 => ?_⟩
    · funext k; simp [fx_sI, fx_sR, show o ≠ 53 from fun e => ho (by rw [e]; decide), show o ≠ 54 from fun e => ho (by rw [e]; decide), show o ≠ 55 from fun e => ho (by rw [e]; decide), show o ≠ 56 from fun e => ho (by rw [e]; decide), show o ≠ 57 from fun e => ho (by rw [e]; decide), show o ≠ 58 from fun e => ho (by rw [e]; decide), show o ≠ 59 from fun e => ho (by rw [e]; decide), show o ≠ 60 from fun e => ho (by rw [e]; decide), show o ≠ 61 from fun e => ho (by rw [e]; decide), show o ≠ 62 from fun e => ho (by rw [e]; decide)]
    · rfl
    · funext k; simp [fx_sI, fx_sR, show o ≠ 53 from fun e => ho (by rw [e]; decide), show o ≠ 54 from fun e => ho (by rw [e]; decide), show o ≠ 55 from fun e => ho (by rw [e]; decide), show o ≠ 56 from fun e => ho (by rw [e]; decide), show o ≠ 57 from fun e => ho (by rw [e]; decide), show o ≠ 58 from fun e => ho (by rw [e]; decide), show o ≠ 59 from fun e => ho (by rw [e]; decide), show o ≠ 60 from fun e => ho (by rw [e]; decide), show o ≠ 61 from fun e => ho (by rw [e]; decide), show o ≠ 62 from fun e => ho (by rw [e]; decide)]
    · rcases (show fx_pi o = fx_pi 53 ∨ fx_pi o = fx_pi 54 ∨ fx_pi o = fx_pi 55 ∨ fx_pi o = fx_pi 56 ∨ fx_pi o = fx_pi 57 ∨ fx_pi o = fx_pi 58 ∨ fx_pi o = fx_pi 59 ∨ fx_pi o = fx_pi 60 ∨ fx_pi o = fx_pi 61 ∨ fx_pi o = fx_pi 62 from (show fx_pi o = 51 ∨ fx_pi o = 52 ∨ fx_pi o = 53 ∨ fx_pi o = 54 ∨ fx_pi o = 55 ∨ fx_pi o = 56 ∨ fx_pi o = 57 ∨ fx_pi o = 58 ∨ fx_pi o = 59 ∨ fx_pi o = 60 by omega)) with e | e | e | e | e | e | e | e | e | e
      · obtain rfl := fx_pi_inj e
        refine ⟨fun k => ?_, fun k => ?_, fun k v h => ?_⟩
        · simp [fx_sI, fx_sR, fx_I0, (hZ 53 (by decide)).1] <;> ((repeat' split) <;> (first | rfl | omega))
        · simp [fx_sI, fx_sR, (hZ 53 (by decide)).2.1]
        · have hk := fx_lay_lt h
          have hk : k < 9 := hk
          rcases (show k = 0 ∨ k = 1 ∨ k = 2 ∨ k = 3 ∨ k = 4 ∨ k = 5 ∨ k = 6 ∨ k = 7 ∨ k = 8 by omega) with rfl | rfl | rfl | rfl | rfl | rfl | rfl | rfl | rfl
          · cases (h : some 54 = some v)
            simp [fx_sI, fx_sR]
          · cases (h : some 55 = some v)
            simp [fx_sI, fx_sR]
          · cases (h : some 56 = some v)
            simp [fx_sI, fx_sR]
          · cases (h : some 57 = some v)
            simp [fx_sI, fx_sR]
          · cases (h : some 58 = some v)
            simp [fx_sI, fx_sR]
          · cases (h : some 59 = some v)
            simp [fx_sI, fx_sR]
          · cases (h : some 60 = some v)
            simp [fx_sI, fx_sR]
          · cases (h : some 61 = some v)
            simp [fx_sI, fx_sR]
          · cases (h : some 62 = some v)
            simp [fx_sI, fx_sR]
      · obtain rfl := fx_pi_inj e
        refine ⟨fun k => ?_, fun k => ?_, fun k v h => ?_⟩
        · simp [fx_sI, fx_sR, fx_I0, (hZ 54 (by decide)).1] <;> ((repeat' split) <;> (first | rfl | omega))
        · simp [fx_sI, fx_sR, (hZ 54 (by decide)).2.1]
        · exact (fx_nolay rfl k v h).elim
      · obtain rfl := fx_pi_inj e
        refine ⟨fun k => ?_, fun k => ?_, fun k v h => ?_⟩
        · simp [fx_sI, fx_sR, fx_I0, (hZ 55 (by decide)).1] <;> ((repeat' split) <;> (first | rfl | omega))
        · simp [fx_sI, fx_sR, (hZ 55 (by decide)).2.1]
        · exact (fx_nolay rfl k v h).elim
      · obtain rfl := fx_pi_inj e
        refine ⟨fun k => ?_, fun k => ?_, fun k v h => ?_⟩
        · simp [fx_sI, fx_sR, fx_I0, (hZ 56 (by decide)).1] <;> ((repeat' split) <;> (first | rfl | omega))
        · simp [fx_sI, fx_sR, (hZ 56 (by decide)).2.1]
        · exact (fx_nolay rfl k v h).elim
      · obtain rfl := fx_pi_inj e
        refine ⟨fun k => ?_, fun k => ?_, fun k v h => ?_⟩
        · simp [fx_sI, fx_sR, fx_I0, (hZ 57 (by decide)).1] <;> ((repeat' split) <;> (first | rfl | omega))
        · simp [fx_sI, fx_sR, (hZ 57 (by decide)).2.1]
        · exact (fx_nolay rfl k v h).elim
      · obtain rfl := fx_pi_inj e
        refine ⟨fun k => ?_, fun k => ?_, fun k v h => ?_⟩
        · simp [fx_sI, fx_sR, fx_I0, (hZ 58 (by decide)).1] <;> ((repeat' split) <;> (first | rfl | omega))
        · simp [fx_sI, fx_sR, (hZ 58 (by decide)).2.1]
        · exact (fx_nolay rfl k v h).elim
      · obtain rfl := fx_pi_inj e
        refine ⟨fun k => ?_, fun k => ?_, fun k v h => ?_⟩
        · simp [fx_sI, fx_sR, fx_I0, (hZ 59 (by decide)).1] <;> ((repeat' split) <;> (first | rfl | omega))
        · simp [fx_sI, fx_sR, (hZ 59 (by decide)).2.1]
        · exact (fx_nolay rfl k v h).elim
      · obtain rfl := fx_pi_inj e
        refine ⟨fun k => ?_, fun k => ?_, fun k v h => ?_⟩
        · simp [fx_sI, fx_sR, fx_I0, (hZ 60 (by decide)).1] <;> ((repeat' split) <;> (first | rfl | omega))
        · simp [fx_sI, fx_sR, (hZ 60 (by decide)).2.1]
        · exact (fx_nolay rfl k v h).elim
      · obtain rfl := fx_pi_inj e
        refine ⟨fun k => ?_, fun k => ?_, fun k v h => ?_⟩
        · simp [fx_sI, fx_sR, fx_I0, (hZ 61 (by decide)).1] <;> ((repeat' split) <;> (first | rfl | omega))
        · simp [fx_sI, fx_sR, (hZ 61 (by decide)).2.1]
        · exact (fx_nolay rfl k v h).elim
      · obtain rfl := fx_pi_inj e
        refine ⟨fun k => ?_, fun k => ?_, fun k v h => ?_⟩
        · simp [fx_sI, fx_sR, fx_I0, (hZ 62 (by decide)).1] <;> ((repeat' split) <;> (first | rfl | omega))
        · simp [fx_sI, fx_sR, (hZ 62 (by decide)).2.1]
        · exact (fx_nolay rfl k v h).elim
  exact e_vret dX3_init_96 rfl rfl ⟨rfl, nb⟩
set_option maxRecDepth 100000 in
set_option maxHeartbeats 2000000 in
theorem s_X7_init {Γ : fx_G} {m : fx_M} (hZ : fx_Z 61 m) : fx_Ct Γ mX7_init 1 62 63 [fx_rf Γ 63] m (fun r m' => r = none ∧ fx_NB 61 63 m m') := by
  refine fx_Ct.of (j := 0) (by decide) (by decide) (Nat.le_of_ble_eq_true rfl) ?_
  show fx_E Γ mX7_init 1 62 63 _ 62 m 0 [some (fx_rf Γ 63)] []
  refine e_aload_n dX7_init_0 rfl ?_
  refine e_objInit dX7_init_1 wl_X7_5 wi_Objectinit_V fx_wobj (by decide) (Nat.le_of_ble_eq_true rfl) ?_
  refine e_aload_n dX7_init_4 rfl ?_
  refine e_bipush dX7_init_5 kcb_32 ?_
  refine e_newI (o := 64) (N := 32) dX7_init_7 wa_int rfl (by decide) rfl (by decide) (by decide) (by decide) (fun j _ => ((hZ.mono (by decide)) _ (Nat.le_refl _)).1 j) ?_
  refine e_putr dX7_init_9 ff_X7_13 rfl (by decide) (by decide) rfl (Or.inr ⟨rfl, rfl⟩) (fun _ => rfl) (fun _ => rfl) ?_
  have nb : fx_NB 61 63 m (fx_sR m 63 0 (some 64)) := by
    refine ⟨fun o ho => ⟨?_, ?_, ?_⟩, fun o h1 h2 => ?_⟩
    · funext k; simp [fx_sI, fx_sR, show o ≠ 63 from fun e => ho (by rw [e]; decide), show o ≠ 64 from fun e => ho (by rw [e]; decide)]
    · rfl
    · funext k; simp [fx_sI, fx_sR, show o ≠ 63 from fun e => ho (by rw [e]; decide), show o ≠ 64 from fun e => ho (by rw [e]; decide)]
    · rcases (show fx_pi o = fx_pi 63 ∨ fx_pi o = fx_pi 64 from (show fx_pi o = 61 ∨ fx_pi o = 62 by omega)) with e | e
      · obtain rfl := fx_pi_inj e
        refine ⟨fun k => ?_, fun k => ?_, fun k v h => ?_⟩
        · simp [fx_sI, fx_sR, fx_I0, (hZ 63 (by decide)).1] <;> ((repeat' split) <;> (first | rfl | omega))
        · simp [fx_sI, fx_sR, (hZ 63 (by decide)).2.1]
        · have hk := fx_lay_lt h
          have hk : k < 1 := hk
          obtain rfl : k = 0 := by omega
          cases (h : some 64 = some v)
          simp [fx_sI, fx_sR]
      · obtain rfl := fx_pi_inj e
        refine ⟨fun k => ?_, fun k => ?_, fun k v h => ?_⟩
        · simp [fx_sI, fx_sR, fx_I0, (hZ 64 (by decide)).1] <;> ((repeat' split) <;> (first | rfl | omega))
        · simp [fx_sI, fx_sR, (hZ 64 (by decide)).2.1]
        · exact (fx_nolay rfl k v h).elim
  exact e_vret dX7_init_12 rfl rfl ⟨rfl, nb⟩
set_option maxRecDepth 100000 in
set_option maxHeartbeats 2000000 in
theorem s_X5_init0 {Γ : fx_G} {m : fx_M} (hZ : fx_Z 63 m) : fx_Ct Γ mX5_init 1 64 65 [fx_rf Γ 67] m (fun r m' => r = none ∧ fx_NB 63 65 m m') := by
  refine fx_Ct.of (j := 0) (by decide) (by decide) (Nat.le_of_ble_eq_true rfl) ?_
  show fx_E Γ mX5_init 1 64 65 _ 64 m 0 [some (fx_rf Γ 67)] []
  refine e_aload_n dX5_init_0 rfl ?_
  refine e_objInit dX5_init_1 wl_X5_3 wi_Objectinit_V fx_wobj (by decide) (Nat.le_of_ble_eq_true rfl) ?_
  refine e_aload_n dX5_init_4 rfl ?_
  refine e_sipush dX5_init_5 kcs_160 ?_
  refine e_newJ (o := 68) (N := 160) dX5_init_8 wa_long rfl (by decide) rfl (by decide) (by decide) (by decide) (fun j _ => ((hZ.mono (by decide)) _ (Nat.le_refl _)).2.1 j) ?_
  refine e_putr dX5_init_10 ff_X5_11 rfl (by decide) (by decide) rfl (Or.inr ⟨rfl, rfl⟩) (fun _ => rfl) (fun _ => rfl) ?_
  refine e_aload_n dX5_init_13 rfl ?_
  refine e_iconst dX5_init_14 kci_m1 ?_
  refine e_put dX5_init_15 ff_X5_15 rfl (by decide) (by decide) rfl (Or.inl rfl) ?_
  refine e_aload_n dX5_init_18 rfl ?_
  refine e_iconst dX5_init_19 kci_0 ?_
  refine e_put dX5_init_20 ff_X5_19 rfl (by decide) (by decide) rfl (Or.inl rfl) ?_
  refine e_aload_n dX5_init_23 rfl ?_
  refine e_iconst dX5_init_24 kci_m1 ?_
  refine e_put dX5_init_25 ff_X5_22 rfl (by decide) (by decide) rfl (Or.inl rfl) ?_
  have nb : fx_NB 63 65 m (fx_sI (fx_sI (fx_sI (fx_sR m 67 0 (some 68)) 67 1 (-1)) 67 2 0) 67 3 (-1)) := by
    refine ⟨fun o ho => ⟨?_, ?_, ?_⟩, fun o h1 h2 => ?_⟩
    · funext k; simp [fx_sI, fx_sR, show o ≠ 67 from fun e => ho (by rw [e]; decide), show o ≠ 68 from fun e => ho (by rw [e]; decide)]
    · rfl
    · funext k; simp [fx_sI, fx_sR, show o ≠ 67 from fun e => ho (by rw [e]; decide), show o ≠ 68 from fun e => ho (by rw [e]; decide)]
    · rcases (show fx_pi o = fx_pi 67 ∨ fx_pi o = fx_pi 68 from (show fx_pi o = 63 ∨ fx_pi o = 64 by omega)) with e | e
      · obtain rfl := fx_pi_inj e
        refine ⟨fun k => ?_, fun k => ?_, fun k v h => ?_⟩
        · simp [fx_sI, fx_sR, fx_I0, (hZ 67 (by decide)).1] <;> ((repeat' split) <;> (first | rfl | omega))
        · simp [fx_sI, fx_sR, (hZ 67 (by decide)).2.1]
        · have hk := fx_lay_lt h
          have hk : k < 1 := hk
          obtain rfl : k = 0 := by omega
          cases (h : some 68 = some v)
          simp [fx_sI, fx_sR]
      · obtain rfl := fx_pi_inj e
        refine ⟨fun k => ?_, fun k => ?_, fun k v h => ?_⟩
        · simp [fx_sI, fx_sR, fx_I0, (hZ 68 (by decide)).1] <;> ((repeat' split) <;> (first | rfl | omega))
        · simp [fx_sI, fx_sR, (hZ 68 (by decide)).2.1]
        · exact (fx_nolay rfl k v h).elim
  exact e_vret dX5_init_28 rfl rfl ⟨rfl, nb⟩
set_option maxRecDepth 100000 in
set_option maxHeartbeats 2000000 in
theorem s_X5_init1 {Γ : fx_G} {m : fx_M} (hZ : fx_Z 65 m) : fx_Ct Γ mX5_init 1 66 67 [fx_rf Γ 69] m (fun r m' => r = none ∧ fx_NB 65 67 m m') := by
  refine fx_Ct.of (j := 0) (by decide) (by decide) (Nat.le_of_ble_eq_true rfl) ?_
  show fx_E Γ mX5_init 1 66 67 _ 66 m 0 [some (fx_rf Γ 69)] []
  refine e_aload_n dX5_init_0 rfl ?_
  refine e_objInit dX5_init_1 wl_X5_3 wi_Objectinit_V fx_wobj (by decide) (Nat.le_of_ble_eq_true rfl) ?_
  refine e_aload_n dX5_init_4 rfl ?_
  refine e_sipush dX5_init_5 kcs_160 ?_
  refine e_newJ (o := 70) (N := 160) dX5_init_8 wa_long rfl (by decide) rfl (by decide) (by decide) (by decide) (fun j _ => ((hZ.mono (by decide)) _ (Nat.le_refl _)).2.1 j) ?_
  refine e_putr dX5_init_10 ff_X5_11 rfl (by decide) (by decide) rfl (Or.inr ⟨rfl, rfl⟩) (fun _ => rfl) (fun _ => rfl) ?_
  refine e_aload_n dX5_init_13 rfl ?_
  refine e_iconst dX5_init_14 kci_m1 ?_
  refine e_put dX5_init_15 ff_X5_15 rfl (by decide) (by decide) rfl (Or.inl rfl) ?_
  refine e_aload_n dX5_init_18 rfl ?_
  refine e_iconst dX5_init_19 kci_0 ?_
  refine e_put dX5_init_20 ff_X5_19 rfl (by decide) (by decide) rfl (Or.inl rfl) ?_
  refine e_aload_n dX5_init_23 rfl ?_
  refine e_iconst dX5_init_24 kci_m1 ?_
  refine e_put dX5_init_25 ff_X5_22 rfl (by decide) (by decide) rfl (Or.inl rfl) ?_
  have nb : fx_NB 65 67 m (fx_sI (fx_sI (fx_sI (fx_sR m 69 0 (some 70)) 69 1 (-1)) 69 2 0) 69 3 (-1)) := by
    refine ⟨fun o ho => ⟨?_, ?_, ?_⟩, fun o h1 h2 => ?_⟩
    · funext k; simp [fx_sI, fx_sR, show o ≠ 69 from fun e => ho (by rw [e]; decide), show o ≠ 70 from fun e => ho (by rw [e]; decide)]
    · rfl
    · funext k; simp [fx_sI, fx_sR, show o ≠ 69 from fun e => ho (by rw [e]; decide), show o ≠ 70 from fun e => ho (by rw [e]; decide)]
    · rcases (show fx_pi o = fx_pi 69 ∨ fx_pi o = fx_pi 70 from (show fx_pi o = 65 ∨ fx_pi o = 66 by omega)) with e | e
      · obtain rfl := fx_pi_inj e
        refine ⟨fun k => ?_, fun k => ?_, fun k v h => ?_⟩
        · simp [fx_sI, fx_sR, fx_I0, (hZ 69 (by decide)).1] <;> ((repeat' split) <;> (first | rfl | omega))
        · simp [fx_sI, fx_sR, (hZ 69 (by decide)).2.1]
        · have hk := fx_lay_lt h
          have hk : k < 1 := hk
          obtain rfl : k = 0 := by omega
          cases (h : some 70 = some v)
          simp [fx_sI, fx_sR]
      · obtain rfl := fx_pi_inj e
        refine ⟨fun k => ?_, fun k => ?_, fun k v h => ?_⟩
        · simp [fx_sI, fx_sR, fx_I0, (hZ 70 (by decide)).1] <;> ((repeat' split) <;> (first | rfl | omega))
        · simp [fx_sI, fx_sR, (hZ 70 (by decide)).2.1]
        · exact (fx_nolay rfl k v h).elim
  exact e_vret dX5_init_28 rfl rfl ⟨rfl, nb⟩
set_option maxRecDepth 100000 in
set_option maxHeartbeats 2000000 in
theorem s_X5_init2 {Γ : fx_G} {m : fx_M} (hZ : fx_Z 67 m) : fx_Ct Γ mX5_init 1 68 69 [fx_rf Γ 71] m (fun r m' => r = none ∧ fx_NB 67 69 m m') := by
  refine fx_Ct.of (j := 0) (by decide) (by decide) (Nat.le_of_ble_eq_true rfl) ?_
  show fx_E Γ mX5_init 1 68 69 _ 68 m 0 [some (fx_rf Γ 71)] []
  refine e_aload_n dX5_init_0 rfl ?_
  refine e_objInit dX5_init_1 wl_X5_3 wi_Objectinit_V fx_wobj (by decide) (Nat.le_of_ble_eq_true rfl) ?_
  refine e_aload_n dX5_init_4 rfl ?_
  refine e_sipush dX5_init_5 kcs_160 ?_
  refine e_newJ (o := 72) (N := 160) dX5_init_8 wa_long rfl (by decide) rfl (by decide) (by decide) (by decide) (fun j _ => ((hZ.mono (by decide)) _ (Nat.le_refl _)).2.1 j) ?_
  refine e_putr dX5_init_10 ff_X5_11 rfl (by decide) (by decide) rfl (Or.inr ⟨rfl, rfl⟩) (fun _ => rfl) (fun _ => rfl) ?_
  refine e_aload_n dX5_init_13 rfl ?_
  refine e_iconst dX5_init_14 kci_m1 ?_
  refine e_put dX5_init_15 ff_X5_15 rfl (by decide) (by decide) rfl (Or.inl rfl) ?_
  refine e_aload_n dX5_init_18 rfl ?_
  refine e_iconst dX5_init_19 kci_0 ?_
  refine e_put dX5_init_20 ff_X5_19 rfl (by decide) (by decide) rfl (Or.inl rfl) ?_
  refine e_aload_n dX5_init_23 rfl ?_
  refine e_iconst dX5_init_24 kci_m1 ?_
  refine e_put dX5_init_25 ff_X5_22 rfl (by decide) (by decide) rfl (Or.inl rfl) ?_
  have nb : fx_NB 67 69 m (fx_sI (fx_sI (fx_sI (fx_sR m 71 0 (some 72)) 71 1 (-1)) 71 2 0) 71 3 (-1)) := by
    refine ⟨fun o ho => ⟨?_, ?_, ?_⟩, fun o h1 h2 => ?_⟩
    · funext k; simp [fx_sI, fx_sR, show o ≠ 71 from fun e => ho (by rw [e]; decide), show o ≠ 72 from fun e => ho (by rw [e]; decide)]
    · rfl
    · funext k; simp [fx_sI, fx_sR, show o ≠ 71 from fun e => ho (by rw [e]; decide), show o ≠ 72 from fun e => ho (by rw [e]; decide)]
    · rcases (show fx_pi o = fx_pi 71 ∨ fx_pi o = fx_pi 72 from (show fx_pi o = 67 ∨ fx_pi o = 68 by omega)) with e | e
      · obtain rfl := fx_pi_inj e
        refine ⟨fun k => ?_, fun k => ?_, fun k v h => ?_⟩
        · simp [fx_sI, fx_sR, fx_I0, (hZ 71 (by decide)).1] <;> ((repeat' split) <;> (first | rfl | omega))
        · simp [fx_sI, fx_sR, (hZ 71 (by decide)).2.1]
        · have hk := fx_lay_lt h
          have hk : k < 1 := hk
          obtain rfl : k = 0 := by omega
          cases (h : some 72 = some v)
          simp [fx_sI, fx_sR]
      · obtain rfl := fx_pi_inj e
        refine ⟨fun k => ?_, fun k => ?_, fun k v h => ?_⟩
        · simp [fx_sI, fx_sR, fx_I0, (hZ 72 (by decide)).1] <;> ((repeat' split) <;> (first | rfl | omega))
        · simp [fx_sI, fx_sR, (hZ 72 (by decide)).2.1]
        · exact (fx_nolay rfl k v h).elim
  exact e_vret dX5_init_28 rfl rfl ⟨rfl, nb⟩
set_option maxRecDepth 100000 in
set_option maxHeartbeats 2000000 in
theorem s_X5_init3 {Γ : fx_G} {m : fx_M} (hZ : fx_Z 69 m) : fx_Ct Γ mX5_init 1 70 71 [fx_rf Γ 73] m (fun r m' => r = none ∧ fx_NB 69 71 m m') := by
  refine fx_Ct.of (j := 0) (by decide) (by decide) (Nat.le_of_ble_eq_true rfl) ?_
  show fx_E Γ mX5_init 1 70 71 _ 70 m 0 [some (fx_rf Γ 73)] []
  refine e_aload_n dX5_init_0 rfl ?_
  refine e_objInit dX5_init_1 wl_X5_3 wi_Objectinit_V fx_wobj (by decide) (Nat.le_of_ble_eq_true rfl) ?_
  refine e_aload_n dX5_init_4 rfl ?_
  refine e_sipush dX5_init_5 kcs_160 ?_
  refine e_newJ (o := 74) (N := 160) dX5_init_8 wa_long rfl (by decide) rfl (by decide) (by decide) (by decide) (fun j _ => ((hZ.mono (by decide)) _ (Nat.le_refl _)).2.1 j) ?_
  refine e_putr dX5_init_10 ff_X5_11 rfl (by decide) (by decide) rfl (Or.inr ⟨rfl, rfl⟩) (fun _ => rfl) (fun _ => rfl) ?_
  refine e_aload_n dX5_init_13 rfl ?_
  refine e_iconst dX5_init_14 kci_m1 ?_
  refine e_put dX5_init_15 ff_X5_15 rfl (by decide) (by decide) rfl (Or.inl rfl) ?_
  refine e_aload_n dX5_init_18 rfl ?_
  refine e_iconst dX5_init_19 kci_0 ?_
  refine e_put dX5_init_20 ff_X5_19 rfl (by decide) (by decide) rfl (Or.inl rfl) ?_
  refine e_aload_n dX5_init_23 rfl ?_
  refine e_iconst dX5_init_24 kci_m1 ?_
  refine e_put dX5_init_25 ff_X5_22 rfl (by decide) (by decide) rfl (Or.inl rfl) ?_
  have nb : fx_NB 69 71 m (fx_sI (fx_sI (fx_sI (fx_sR m 73 0 (some 74)) 73 1 (-1)) 73 2 0) 73 3 (-1)) := by
    refine ⟨fun o ho => ⟨?_, ?_, ?_⟩, fun o h1 h2 => ?_⟩
    · funext k; simp [fx_sI, fx_sR, show o ≠ 73 from fun e => ho (by rw [e]; decide), show o ≠ 74 from fun e => ho (by rw [e]; decide)]
    · rfl
    · funext k; simp [fx_sI, fx_sR, show o ≠ 73 from fun e => ho (by rw [e]; decide), show o ≠ 74 from fun e => ho (by rw [e]; decide)]
    · rcases (show fx_pi o = fx_pi 73 ∨ fx_pi o = fx_pi 74 from (show fx_pi o = 69 ∨ fx_pi o = 70 by omega)) with e | e
      · obtain rfl := fx_pi_inj e
        refine ⟨fun k => ?_, fun k => ?_, fun k v h => ?_⟩
        · simp [fx_sI, fx_sR, fx_I0, (hZ 73 (by decide)).1] <;> ((repeat' split) <;> (first | rfl | omega))
        · simp [fx_sI, fx_sR, (hZ 73 (by decide)).2.1]
        · have hk := fx_lay_lt h
          have hk : k < 1 := hk
          obtain rfl : k = 0 := by omega
          cases (h : some 74 = some v)
          simp [fx_sI, fx_sR]
      · obtain rfl := fx_pi_inj e
        refine ⟨fun k => ?_, fun k => ?_, fun k v h => ?_⟩
        · simp [fx_sI, fx_sR, fx_I0, (hZ 74 (by decide)).1] <;> ((repeat' split) <;> (first | rfl | omega))
        · simp [fx_sI, fx_sR, (hZ 74 (by decide)).2.1]
        · exact (fx_nolay rfl k v h).elim
  exact e_vret dX5_init_28 rfl rfl ⟨rfl, nb⟩
set_option maxRecDepth 100000 in
set_option maxHeartbeats 2000000 in
theorem s_X5_init4 {Γ : fx_G} {m : fx_M} (hZ : fx_Z 71 m) : fx_Ct Γ mX5_init 1 72 73 [fx_rf Γ 75] m (fun r m' => r = none ∧ fx_NB 71 73 m m') := by
  refine fx_Ct.of (j := 0) (by decide) (by decide) (Nat.le_of_ble_eq_true rfl) ?_
  show fx_E Γ mX5_init 1 72 73 _ 72 m 0 [some (fx_rf Γ 75)] []
  refine e_aload_n dX5_init_0 rfl ?_
  refine e_objInit dX5_init_1 wl_X5_3 wi_Objectinit_V fx_wobj (by decide) (Nat.le_of_ble_eq_true rfl) ?_
  refine e_aload_n dX5_init_4 rfl ?_
  refine e_sipush dX5_init_5 kcs_160 ?_
  refine e_newJ (o := 76) (N := 160) dX5_init_8 wa_long rfl (by decide) rfl (by decide) (by decide) (by decide) (fun j _ => ((hZ.mono (by decide)) _ (Nat.le_refl _)).2.1 j) ?_
  refine e_putr dX5_init_10 ff_X5_11 rfl (by decide) (by decide) rfl (Or.inr ⟨rfl, rfl⟩) (fun _ => rfl) (fun _ => rfl) ?_
  refine e_aload_n dX5_init_13 rfl ?_
  refine e_iconst dX5_init_14 kci_m1 ?_
  refine e_put dX5_init_15 ff_X5_15 rfl (by decide) (by decide) rfl (Or.inl rfl) ?_
  refine e_aload_n dX5_init_18 rfl ?_
  refine e_iconst dX5_init_19 kci_0 ?_
  refine e_put dX5_init_20 ff_X5_19 rfl (by decide) (by decide) rfl (Or.inl rfl) ?_
  refine e_aload_n dX5_init_23 rfl ?_
  refine e_iconst dX5_init_24 kci_m1 ?_
  refine e_put dX5_init_25 ff_X5_22 rfl (by decide) (by decide) rfl (Or.inl rfl) ?_
  have nb : fx_NB 71 73 m (fx_sI (fx_sI (fx_sI (fx_sR m 75 0 (some 76)) 75 1 (-1)) 75 2 0) 75 3 (-1)) := by
    refine ⟨fun o ho => ⟨?_, ?_, ?_⟩, fun o h1 h2 => ?_⟩
    · funext k; simp [fx_sI, fx_sR, show o ≠ 75 from fun e => ho (by rw [e]; decide), show o ≠ 76 from fun e => ho (by rw [e]; decide)]
    · rfl
    · funext k; simp [fx_sI, fx_sR, show o ≠ 75 from fun e => ho (by rw [e]; decide), show o ≠ 76 from fun e => ho (by rw [e]; decide)]
    · rcases (show fx_pi o = fx_pi 75 ∨ fx_pi o = fx_pi 76 from (show fx_pi o = 71 ∨ fx_pi o = 72 by omega)) with e | e
      · obtain rfl := fx_pi_inj e
        refine ⟨fun k => ?_, fun k => ?_, fun k v h => ?_⟩
        · simp [fx_sI, fx_sR, fx_I0, (hZ 75 (by decide)).1] <;> ((repeat' split) <;> (first | rfl | omega))
        · simp [fx_sI, fx_sR, (hZ 75 (by decide)).2.1]
        · have hk := fx_lay_lt h
          have hk : k < 1 := hk
          obtain rfl : k = 0 := by omega
          cases (h : some 76 = some v)
          simp [fx_sI, fx_sR]
      · obtain rfl := fx_pi_inj e
        refine ⟨fun k => ?_, fun k => ?_, fun k v h => ?_⟩
        · simp [fx_sI, fx_sR, fx_I0, (hZ 76 (by decide)).1] <;> ((repeat' split) <;> (first | rfl | omega))
        · simp [fx_sI, fx_sR, (hZ 76 (by decide)).2.1]
        · exact (fx_nolay rfl k v h).elim
  exact e_vret dX5_init_28 rfl rfl ⟨rfl, nb⟩
set_option maxRecDepth 100000 in
set_option maxHeartbeats 2000000 in
theorem s_X5_init5 {Γ : fx_G} {m : fx_M} (hZ : fx_Z 73 m) : fx_Ct Γ mX5_init 1 74 75 [fx_rf Γ 77] m (fun r m' => r = none ∧ fx_NB 73 75 m m') := by
  refine fx_Ct.of (j := 0) (by decide) (by decide) (Nat.le_of_ble_eq_true rfl) ?_
  show fx_E Γ mX5_init 1 74 75 _ 74 m 0 [some (fx_rf Γ 77)] []
  refine e_aload_n dX5_init_0 rfl ?_
  refine e_objInit dX5_init_1 wl_X5_3 wi_Objectinit_V fx_wobj (by decide) (Nat.le_of_ble_eq_true rfl) ?_
  refine e_aload_n dX5_init_4 rfl ?_
  refine e_sipush dX5_init_5 kcs_160 ?_
  refine e_newJ (o := 78) (N := 160) dX5_init_8 wa_long rfl (by decide) rfl (by decide) (by decide) (by decide) (fun j _ => ((hZ.mono (by decide)) _ (Nat.le_refl _)).2.1 j) ?_
  refine e_putr dX5_init_10 ff_X5_11 rfl (by decide) (by decide) rfl (Or.inr ⟨rfl, rfl⟩) (fun _ => rfl) (fun _ => rfl) ?_
  refine e_aload_n dX5_init_13 rfl ?_
  refine e_iconst dX5_init_14 kci_m1 ?_
  refine e_put dX5_init_15 ff_X5_15 rfl (by decide) (by decide) rfl (Or.inl rfl) ?_
  refine e_aload_n dX5_init_18 rfl ?_
  refine e_iconst dX5_init_19 kci_0 ?_
  refine e_put dX5_init_20 ff_X5_19 rfl (by decide) (by decide) rfl (Or.inl rfl) ?_
  refine e_aload_n dX5_init_23 rfl ?_
  refine e_iconst dX5_init_24 kci_m1 ?_
  refine e_put dX5_init_25 ff_X5_22 rfl (by decide) (by decide) rfl (Or.inl rfl) ?_
  have nb : fx_NB 73 75 m (fx_sI (fx_sI (fx_sI (fx_sR m 77 0 (some 78)) 77 1 (-1)) 77 2 0) 77 3 (-1)) := by
    refine ⟨fun o ho => ⟨?_, ?_, ?_⟩, fun o h1 h2 => ?_⟩
    · funext k; simp [fx_sI, fx_sR, show o ≠ 77 from fun e => ho (by rw [e]; decide), show o ≠ 78 from fun e => ho (by rw [e]; decide)]
    · rfl
    · funext k; simp [fx_sI, fx_sR, show o ≠ 77 from fun e => ho (by rw [e]; decide), show o ≠ 78 from fun e => ho (by rw [e]; decide)]
    · rcases (show fx_pi o = fx_pi 77 ∨ fx_pi o = fx_pi 78 from (show fx_pi o = 73 ∨ fx_pi o = 74 by omega)) with e | e
      · obtain rfl := fx_pi_inj e
        refine ⟨fun k => ?_, fun k => ?_, fun k v h => ?_⟩
        · simp [fx_sI, fx_sR, fx_I0, (hZ 77 (by decide)).1] <;> ((repeat' split) <;> (first | rfl | omega))
        · simp [fx_sI, fx_sR, (hZ 77 (by decide)).2.1]
        · have hk := fx_lay_lt h
          have hk : k < 1 := hk
          obtain rfl : k = 0 := by omega
          cases (h : some 78 = some v)
          simp [fx_sI, fx_sR]
      · obtain rfl := fx_pi_inj e
        refine ⟨fun k => ?_, fun k => ?_, fun k v h => ?_⟩
        · simp [fx_sI, fx_sR, fx_I0, (hZ 78 (by decide)).1] <;> ((repeat' split) <;> (first | rfl | omega))
        · simp [fx_sI, fx_sR, (hZ 78 (by decide)).2.1]
        · exact (fx_nolay rfl k v h).elim
  exact e_vret dX5_init_28 rfl rfl ⟨rfl, nb⟩
set_option maxRecDepth 100000 in
set_option maxHeartbeats 2000000 in
theorem s_X5_init6 {Γ : fx_G} {m : fx_M} (hZ : fx_Z 75 m) : fx_Ct Γ mX5_init 1 76 77 [fx_rf Γ 79] m (fun r m' => r = none ∧ fx_NB 75 77 m m') := by
  refine fx_Ct.of (j := 0) (by decide) (by decide) (Nat.le_of_ble_eq_true rfl) ?_
  show fx_E Γ mX5_init 1 76 77 _ 76 m 0 [some (fx_rf Γ 79)] []
  refine e_aload_n dX5_init_0 rfl ?_
  refine e_objInit dX5_init_1 wl_X5_3 wi_Objectinit_V fx_wobj (by decide) (Nat.le_of_ble_eq_true rfl) ?_
  refine e_aload_n dX5_init_4 rfl ?_
  refine e_sipush dX5_init_5 kcs_160 ?_
  refine e_newJ (o := 80) (N := 160) dX5_init_8 wa_long rfl (by decide) rfl (by decide) (by decide) (by decide) (fun j _ => ((hZ.mono (by decide)) _ (Nat.le_refl _)).2.1 j) ?_
  refine e_putr dX5_init_10 ff_X5_11 rfl (by decide) (by decide) rfl (Or.inr ⟨rfl, rfl⟩) (fun _ => rfl) (fun _ => rfl) ?_
  refine e_aload_n dX5_init_13 rfl ?_
  refine e_iconst dX5_init_14 kci_m1 ?_
  refine e_put dX5_init_15 ff_X5_15 rfl (by decide) (by decide) rfl (Or.inl rfl) ?_
  refine e_aload_n dX5_init_18 rfl ?_
  refine e_iconst dX5_init_19 kci_0 ?_
  refine e_put dX5_init_20 ff_X5_19 rfl (by decide) (by decide) rfl (Or.inl rfl) ?_
  refine e_aload_n dX5_init_23 rfl ?_
  refine e_iconst dX5_init_24 kci_m1 ?_
  refine e_put dX5_init_25 ff_X5_22 rfl (by decide) (by decide) rfl (Or.inl rfl) ?_
  have nb : fx_NB 75 77 m (fx_sI (fx_sI (fx_sI (fx_sR m 79 0 (some 80)) 79 1 (-1)) 79 2 0) 79 3 (-1)) := by
    refine ⟨fun o ho => ⟨?_, ?_, ?_⟩, fun o h1 h2 => ?_⟩
    · funext k; simp [fx_sI, fx_sR, show o ≠ 79 from fun e => ho (by rw [e]; decide), show o ≠ 80 from fun e => ho (by rw [e]; decide)]
    · rfl
    · funext k; simp [fx_sI, fx_sR, show o ≠ 79 from fun e => ho (by rw [e]; decide), show o ≠ 80 from fun e => ho (by rw [e]; decide)]
    · rcases (show fx_pi o = fx_pi 79 ∨ fx_pi o = fx_pi 80 from (show fx_pi o = 75 ∨ fx_pi o = 76 by omega)) with e | e
      · obtain rfl := fx_pi_inj e
        refine ⟨fun k => ?_, fun k => ?_, fun k v h => ?_⟩
        · simp [fx_sI, fx_sR, fx_I0, (hZ 79 (by decide)).1] <;> ((repeat' split) <;> (first | rfl | omega))
        · simp [fx_sI, fx_sR, (hZ 79 (by decide)).2.1]
        · have hk := fx_lay_lt h
          have hk : k < 1 := hk
          obtain rfl : k = 0 := by omega
          cases (h : some 80 = some v)
          simp [fx_sI, fx_sR]
      · obtain rfl := fx_pi_inj e
        refine ⟨fun k => ?_, fun k => ?_, fun k v h => ?_⟩
        · simp [fx_sI, fx_sR, fx_I0, (hZ 80 (by decide)).1] <;> ((repeat' split) <;> (first | rfl | omega))
        · simp [fx_sI, fx_sR, (hZ 80 (by decide)).2.1]
        · exact (fx_nolay rfl k v h).elim
  exact e_vret dX5_init_28 rfl rfl ⟨rfl, nb⟩
set_option maxRecDepth 100000 in
set_option maxHeartbeats 2000000 in
theorem s_X5_init7 {Γ : fx_G} {m : fx_M} (hZ : fx_Z 77 m) : fx_Ct Γ mX5_init 1 78 79 [fx_rf Γ 81] m (fun r m' => r = none ∧ fx_NB 77 79 m m') := by
  refine fx_Ct.of (j := 0) (by decide) (by decide) (Nat.le_of_ble_eq_true rfl) ?_
  show fx_E Γ mX5_init 1 78 79 _ 78 m 0 [some (fx_rf Γ 81)] []
  refine e_aload_n dX5_init_0 rfl ?_
  refine e_objInit dX5_init_1 wl_X5_3 wi_Objectinit_V fx_wobj (by decide) (Nat.le_of_ble_eq_true rfl) ?_
  refine e_aload_n dX5_init_4 rfl ?_
  refine e_sipush dX5_init_5 kcs_160 ?_
  refine e_newJ (o := 82) (N := 160) dX5_init_8 wa_long rfl (by decide) rfl (by decide) (by decide) (by decide) (fun j _ => ((hZ.mono (by decide)) _ (Nat.le_refl _)).2.1 j) ?_
  refine e_putr dX5_init_10 ff_X5_11 rfl (by decide) (by decide) rfl (Or.inr ⟨rfl, rfl⟩) (fun _ => rfl) (fun _ => rfl) ?_
  refine e_aload_n dX5_init_13 rfl ?_
  refine e_iconst dX5_init_14 kci_m1 ?_
  refine e_put dX5_init_15 ff_X5_15 rfl (by decide) (by decide) rfl (Or.inl rfl) ?_
  refine e_aload_n dX5_init_18 rfl ?_
  refine e_iconst dX5_init_19 kci_0 ?_
  refine e_put dX5_init_20 ff_X5_19 rfl (by decide) (by decide) rfl (Or.inl rfl) ?_
  refine e_aload_n dX5_init_23 rfl ?_
  refine e_iconst dX5_init_24 kci_m1 ?_
  refine e_put dX5_init_25 ff_X5_22 rfl (by decide) (by decide) rfl (Or.inl rfl) ?_
  have nb : fx_NB 77 79 m (fx_sI (fx_sI (fx_sI (fx_sR m 81 0 (some 82)) 81 1 (-1)) 81 2 0) 81 3 (-1)) := by
    refine ⟨fun o ho => ⟨?_, ?_, ?_⟩, fun o h1 h2 => ?_⟩
    · funext k; simp [fx_sI, fx_sR, show o ≠ 81 from fun e => ho (by rw [e]; decide), show o ≠ 82 from fun e => ho (by rw [e]; decide)]
    · rfl
    · funext k; simp [fx_sI, fx_sR, show o ≠ 81 from fun e => ho (by rw [e]; decide), show o ≠ 82 from fun e => ho (by rw [e]; decide)]
    · rcases (show fx_pi o = fx_pi 81 ∨ fx_pi o = fx_pi 82 from (show fx_pi o = 77 ∨ fx_pi o = 78 by omega)) with e | e
      · obtain rfl := fx_pi_inj e
        refine ⟨fun k => ?_, fun k => ?_, fun k v h => ?_⟩
        · simp [fx_sI, fx_sR, fx_I0, (hZ 81 (by decide)).1] <;> ((repeat' split) <;> (first | rfl | omega))
        · simp [fx_sI, fx_sR, (hZ 81 (by decide)).2.1]
        · have hk := fx_lay_lt h
          have hk : k < 1 := hk
          obtain rfl : k = 0 := by omega
          cases (h : some 82 = some v)
          simp [fx_sI, fx_sR]
      · obtain rfl := fx_pi_inj e
        refine ⟨fun k => ?_, fun k => ?_, fun k v h => ?_⟩
        · simp [fx_sI, fx_sR, fx_I0, (hZ 82 (by decide)).1] <;> ((repeat' split) <;> (first | rfl | omega))
        · simp [fx_sI, fx_sR, (hZ 82 (by decide)).2.1]
        · exact (fx_nolay rfl k v h).elim
  exact e_vret dX5_init_28 rfl rfl ⟨rfl, nb⟩
set_option maxRecDepth 100000 in
set_option maxHeartbeats 2000000 in
theorem s_X4_init {Γ : fx_G} {m : fx_M} (hZ : fx_Z 79 m) : fx_Ct Γ mX4_init 1 80 81 [fx_rf Γ 51, fx_rf Γ 33, fx_rf Γ 67] m (fun r m' => r = none ∧ fx_NB 79 81 m m') := by
  refine fx_Ct.of (j := 0) (by decide) (by decide) (Nat.le_of_ble_eq_true rfl) ?_
  show fx_E Γ mX4_init 1 80 81 _ 80 m 0 [some (fx_rf Γ 51), some (fx_rf Γ 33), some (fx_rf Γ 67)] []
  refine e_aload_n dX4_init_0 rfl ?_
  refine e_objInit dX4_init_1 wl_X4_3 wi_Objectinit_V fx_wobj (by decide) (Nat.le_of_ble_eq_true rfl) ?_
  refine e_aload_n dX4_init_4 rfl ?_
  refine e_iconst dX4_init_5 kci_m1 ?_
  refine e_put dX4_init_6 ff_X4_9 rfl (by decide) (by decide) rfl (Or.inl rfl) ?_
  refine e_aload_n dX4_init_9 rfl ?_
  refine e_iconst dX4_init_10 kci_0 ?_
  refine e_put dX4_init_11 ff_X4_15 rfl (by decide) (by decide) rfl (Or.inl rfl) ?_
  refine e_aload_n dX4_init_14 rfl ?_
  refine e_iconst dX4_init_15 kci_0 ?_
  refine e_put dX4_init_16 ff_X4_18 rfl (by decide) (by decide) rfl (Or.inl rfl) ?_
  refine e_aload_n dX4_init_19 rfl ?_
  refine e_iconst dX4_init_20 kci_0 ?_
  refine e_put dX4_init_21 ff_X4_21 rfl (by decide) (by decide) rfl (Or.inl rfl) ?_
  refine e_aload_n dX4_init_24 rfl ?_
  refine e_bipush dX4_init_25 kcb_7 ?_
  refine e_newI (o := 52) (N := 7) dX4_init_27 wa_int rfl (by decide) rfl (by decide) (by decide) (by decide) (fun j _ => ((((((((((hZ.mono (by decide))).sI (by decide))).sI (by decide))).sI (by decide))).sI (by decide)) _ (Nat.le_refl _)).1 j) ?_
  refine e_putr dX4_init_29 ff_X4_24 rfl (by decide) (by decide) rfl (Or.inr ⟨rfl, rfl⟩) (fun _ => rfl) (fun _ => rfl) ?_
  refine e_aload_n dX4_init_32 rfl ?_
  refine e_aload_n dX4_init_33 rfl ?_
  refine e_putr dX4_init_34 ff_X4_28 rfl (by decide) (by decide) rfl (Or.inr ⟨rfl, rfl⟩) (fun _ => rfl) (fun _ => rfl) ?_
  refine e_aload_n dX4_init_37 rfl ?_
  refine e_aload_n dX4_init_38 rfl ?_
  refine e_putr dX4_init_39 ff_X4_32 rfl (by decide) (by decide) rfl (Or.inl rfl) (fun _ => rfl) (fun _ => rfl) ?_
  have nb : fx_NB 79 81 m (fx_sR (fx_sR (fx_sR (fx_sI (fx_sI (fx_sI (fx_sI m 51 0 (-1)) 51 3 0) 51 4 0) 51 5 0) 51 6 (some 52)) 51 1 (some 33)) 51 2 (some 67)) := by
    refine ⟨fun o ho => ⟨?_, ?_, ?_⟩, fun o h1 h2 => ?_⟩
    · funext k; simp [fx_sI, fx_sR, show o ≠ 51 from fun e => ho (by rw [e]; decide), show o ≠ 52 from fun e => ho (by rw [e]; decide)]
    · rfl
    · funext k; simp [fx_sI, fx_sR, show o ≠ 51 from fun e => ho (by rw [e]; decide), show o ≠ 52 from fun e => ho (by rw [e]; decide)]
    · rcases (show fx_pi o = fx_pi 51 ∨ fx_pi o = fx_pi 52 from (show fx_pi o = 79 ∨ fx_pi o = 80 by omega)) with e | e
      · obtain rfl := fx_pi_inj e
        refine ⟨fun k => ?_, fun k => ?_, fun k v h => ?_⟩
        · simp [fx_sI, fx_sR, fx_I0, (hZ 51 (by decide)).1] <;> ((repeat' split) <;> (first | rfl | omega))
        · simp [fx_sI, fx_sR, (hZ 51 (by decide)).2.1]
        · have hk := fx_lay_lt h
          have hk : k < 7 := hk
          rcases (show k = 0 ∨ k = 1 ∨ k = 2 ∨ k = 3 ∨ k = 4 ∨ k = 5 ∨ k = 6 by omega) with rfl | rfl | rfl | rfl | rfl | rfl | rfl
          · cases (h : none = some v)
          · cases (h : some 33 = some v)
            simp [fx_sI, fx_sR]
          · cases (h : none = some v)
          · cases (h : none = some v)
          · cases (h : none = some v)
          · cases (h : none = some v)
          · cases (h : some 52 = some v)
            simp [fx_sI, fx_sR]
      · obtain rfl := fx_pi_inj e
        refine ⟨fun k => ?_, fun k => ?_, fun k v h => ?_⟩
        · simp [fx_sI, fx_sR, fx_I0, (hZ 52 (by decide)).1] <;> ((repeat' split) <;> (first | rfl | omega))
        · simp [fx_sI, fx_sR, (hZ 52 (by decide)).2.1]
        · exact (fx_nolay rfl k v h).elim
  exact e_vret dX4_init_42 rfl rfl ⟨rfl, nb⟩
set_option maxRecDepth 100000 in
set_option maxHeartbeats 2000000 in
theorem s_X2_init {Γ : fx_G} {m : fx_M} (hZ : fx_Z 81 m) : fx_Ct Γ mX2_init 1 82 83 [fx_rf Γ 65, fx_rf Γ 4] m (fun r m' => r = none ∧ fx_NB 81 83 m m') := by
  refine fx_Ct.of (j := 0) (by decide) (by decide) (Nat.le_of_ble_eq_true rfl) ?_
  show fx_E Γ mX2_init 1 82 83 _ 82 m 0 [some (fx_rf Γ 65), some (fx_rf Γ 4)] []
  refine e_aload_n dX2_init_0 rfl ?_
  refine e_objInit dX2_init_1 wl_X2_3 wi_Objectinit_V fx_wobj (by decide) (Nat.le_of_ble_eq_true rfl) ?_
  refine e_aload_n dX2_init_4 rfl ?_
  refine e_iconst dX2_init_5 kci_0 ?_
  refine e_put dX2_init_6 ff_X2_9 rfl (by decide) (by decide) rfl (Or.inl rfl) ?_
  refine e_aload_n dX2_init_9 rfl ?_
  refine e_bipush dX2_init_10 kcb_20 ?_
  refine e_newI (o := 66) (N := 20) dX2_init_12 wa_int rfl (by decide) rfl (by decide) (by decide) (by decide) (fun j _ => ((((hZ.mono (by decide))).sI (by decide)) _ (Nat.le_refl _)).1 j) ?_
  refine e_putr dX2_init_14 ff_X2_15 rfl (by decide) (by decide) rfl (Or.inr ⟨rfl, rfl⟩) (fun _ => rfl) (fun _ => rfl) ?_
  refine e_aload_n dX2_init_17 rfl ?_
  refine e_iconst dX2_init_18 kci_m1 ?_
  refine e_put dX2_init_19 ff_X2_19 rfl (by decide) (by decide) rfl (Or.inl rfl) ?_
  refine e_aload_n dX2_init_22 rfl ?_
  refine e_aload_n dX2_init_23 rfl ?_
  refine e_putr dX2_init_24 ff_X2_22 rfl (by decide) (by decide) rfl (Or.inl rfl) (fun _ => rfl) (fun _ => rfl) ?_
  have nb : fx_NB 81 83 m (fx_sR (fx_sI (fx_sR (fx_sI m 65 0 0) 65 1 (some 66)) 65 3 (-1)) 65 2 (some 4)) := by
    refine ⟨fun o ho => ⟨?_, ?_, ?_⟩, fun o h1 h2 => ?_⟩
    · funext k; simp [fx_sI, fx_sR, show o ≠ 65 from fun e => ho (by rw [e]; decide), show o ≠ 66 from fun e => ho (by rw [e]; decide)]
    · rfl
    · funext k; simp [fx_sI, fx_sR, show o ≠ 65 from fun e => ho (by rw [e]; decide), show o ≠ 66 from fun e => ho (by rw [e]; decide)]
    · rcases (show fx_pi o = fx_pi 65 ∨ fx_pi o = fx_pi 66 from (show fx_pi o = 81 ∨ fx_pi o = 82 by omega)) with e | e
      · obtain rfl := fx_pi_inj e
        refine ⟨fun k => ?_, fun k => ?_, fun k v h => ?_⟩
        · simp [fx_sI, fx_sR, fx_I0, (hZ 65 (by decide)).1] <;> ((repeat' split) <;> (first | rfl | omega))
        · simp [fx_sI, fx_sR, (hZ 65 (by decide)).2.1]
        · have hk := fx_lay_lt h
          have hk : k < 2 := hk
          rcases (show k = 0 ∨ k = 1 by omega) with rfl | rfl
          · cases (h : none = some v)
          · cases (h : some 66 = some v)
            simp [fx_sI, fx_sR]
      · obtain rfl := fx_pi_inj e
        refine ⟨fun k => ?_, fun k => ?_, fun k v h => ?_⟩
        · simp [fx_sI, fx_sR, fx_I0, (hZ 66 (by decide)).1] <;> ((repeat' split) <;> (first | rfl | omega))
        · simp [fx_sI, fx_sR, (hZ 66 (by decide)).2.1]
        · exact (fx_nolay rfl k v h).elim
  exact e_vret dX2_init_27 rfl rfl ⟨rfl, nb⟩
