def fx_KF (m m' : fx_M) : Prop := m'.2 = m.2 ∧ (∀ o, (o < 83 ∨ o = 84 ∨ (100 ≤ o ∧ o ≤ 103) ∨ (106 ≤ o ∧ o ≤ 109) ∨ o = 112 ∨ o = 118) → m'.1 o = m.1 o) ∧ ∀ j, (j = 6 ∨ j = 44 ∨ j = 49 ∨ j = 50) → m'.1 83 j = m.1 83 j
theorem fx_KF.refl (m : fx_M) : fx_KF m m := ⟨rfl, fun _ _ => rfl, fun _ _ => rfl⟩
theorem fx_KF.trans {a b c : fx_M} (h : fx_KF a b) (g : fx_KF b c) : fx_KF a c := ⟨g.1.trans h.1, fun o ho => (g.2.1 o ho).trans (h.2.1 o ho), fun j hj => (g.2.2 j hj).trans (h.2.2 j hj)⟩
theorem fx_KF.sI {m m' : fx_M} {o k : Nat} {v : Int32} (h : fx_KF m m') (ho : (85 ≤ o ∧ o ≤ 99) ∨ o = 110 ∨ o = 111 ∨ (113 ≤ o ∧ o ≤ 117) ∨ (o = 83 ∧ k ≠ 6 ∧ k ≠ 44 ∧ k ≠ 49 ∧ k ≠ 50)) : fx_KF m (fx_sI m' o k v) :=
  ⟨h.1, fun a ha => by rw [fx_sI_n _ _ _ (by omega)]; exact h.2.1 a ha, fun j hj => by
    by_cases c : o = 83
    · subst c
      rw [fx_rd2 (by omega)]; exact h.2.2 j hj
    · rw [fx_sI_n _ _ _ (fun e => c e.symm)]; exact h.2.2 j hj⟩
theorem fx_KF.lay {m m' : fx_M} (h : fx_KF m m') (hL : fx_Lay m) : fx_Lay m' := fun o k v hv => by rw [h.1]; exact hL o k v hv
theorem fx_j7 {P : Nat → Prop} (h0 : P 0) (h1 : P 1) (h2 : P 2) (h3 : P 3) (h4 : P 4) (h5 : P 5) (h6 : P 6) : ∀ j, j < 7 → P j := fun j hj => p_7 h0 h1 h2 h3 h4 h5 h6 hj
/-- cells that are neither the stock's nor its counters -/
theorem fx_MS.cg {m m' : fx_M} {na nd : Nat} {t : p_Sg} (H : fx_MS m na nd t) (h : ∀ o, (85 ≤ o ∧ o ≤ 99) → m'.1 o = m.1 o) (h2 : ∀ j, j < 6 → m'.1 83 j = m.1 83 j) : fx_MS m' na nd t := by
  obtain ⟨r1, r2, r3, r4, r5, r6, r7, r8, r9⟩ := H
  exact ⟨(h2 0 (by decide)).trans r1, (h2 1 (by decide)).trans r2, fun j hj => (h2 _ (by omega)).trans (r3 j hj), fun x hx j hj => by rw [h _ (by omega)]; exact r4 x hx j hj, fun d hd j hj => by rw [h _ (by omega)]; exact r5 d hd j hj, r6, r7, r8, r9⟩
theorem fx_MS.sO {m : fx_M} {na nd o k : Nat} {t : p_Sg} {v : Int32} (H : fx_MS m na nd t) (ho : ¬ (85 ≤ o ∧ o ≤ 99)) (h83 : o = 83 → 6 ≤ k) : fx_MS (fx_sI m o k v) na nd t :=
  H.cg (fun a ha => fx_sI_n _ _ _ (fun e => ho (e ▸ ha))) (fun j hj => by
    by_cases c : o = 83
    · subst c; exact fx_rd2 (by have := h83 rfl; omega)
    · exact congrFun (fx_sI_n _ _ _ (fun e => c e.symm)) j)
theorem fx_MS.sA {m : fx_M} {na nd x j : Nat} {t : p_Sg} {v : Int32} (H : fx_MS m na nd t) (hx : x < na) (hj : j < 7) (hg : p_gA (p_u (t.1 x) j v)) : fx_MS (fx_sI m (85 + j) x v) na nd (p_ua t.1 x (p_u (t.1 x) j v), t.2.1, t.2.2) := by
  obtain ⟨r1, r2, r3, r4, r5, r6, r7, r8, r9⟩ := H
  refine ⟨by rw [fx_sI_n _ _ _ (by omega)]; exact r1, by rw [fx_sI_n _ _ _ (by omega)]; exact r2, fun i hi => by rw [fx_sI_n _ _ _ (by omega)]; exact r3 i hi, fun y hy i hi => ?_, fun d hd i hi => by rw [fx_sI_n _ _ _ (by omega)]; exact r5 d hd i hi, r6, r7, fun y hy => ?_, r9⟩
  · show _ = (p_ua t.1 x _) y i
    by_cases c : y = x
    · subst c
      rw [p_ua, if_pos rfl, p_u]
      by_cases e : i = j
      · subst e; rw [fx_rd0, if_pos rfl]
      · rw [fx_sI_n _ _ _ (by omega), if_neg e]; exact r4 y hy i hi
    · rw [p_ua, if_neg c]
      by_cases e : i = j
      · subst e; rw [fx_rd2 (Ne.symm c)]; exact r4 y hy i hi
      · rw [fx_sI_n _ _ _ (by omega)]; exact r4 y hy i hi
  · show p_gA (p_ua t.1 x _ y)
    by_cases c : y = x
    · subst c; rw [p_ua, if_pos rfl]; exact hg
    · rw [p_ua, if_neg c]; exact r8 y hy
theorem fx_MS.sD {m : fx_M} {na nd x j : Nat} {t : p_Sg} {v : Int32} (H : fx_MS m na nd t) (hx : x < nd) (hj : j < 8) (hg : p_gD (p_u (t.2.1 x) j v)) : fx_MS (fx_sI m (92 + j) x v) na nd (t.1, p_ua t.2.1 x (p_u (t.2.1 x) j v), t.2.2) := by
  obtain ⟨r1, r2, r3, r4, r5, r6, r7, r8, r9⟩ := H
  refine ⟨by rw [fx_sI_n _ _ _ (by omega)]; exact r1, by rw [fx_sI_n _ _ _ (by omega)]; exact r2, fun i hi => by rw [fx_sI_n _ _ _ (by omega)]; exact r3 i hi, fun d hd i hi => by rw [fx_sI_n _ _ _ (by omega)]; exact r4 d hd i hi, fun y hy i hi => ?_, r6, r7, r8, fun y hy => ?_⟩
  · show _ = (p_ua t.2.1 x _) y i
    by_cases c : y = x
    · subst c
      rw [p_ua, if_pos rfl, p_u]
      by_cases e : i = j
      · subst e; rw [fx_rd0, if_pos rfl]
      · rw [fx_sI_n _ _ _ (by omega), if_neg e]; exact r5 y hy i hi
    · rw [p_ua, if_neg c]
      by_cases e : i = j
      · subst e; rw [fx_rd2 (Ne.symm c)]; exact r5 y hy i hi
      · rw [fx_sI_n _ _ _ (by omega)]; exact r5 y hy i hi
  · show p_gD (p_ua t.2.1 x _ y)
    by_cases c : y = x
    · subst c; rw [p_ua, if_pos rfl]; exact hg
    · rw [p_ua, if_neg c]; exact r9 y hy
theorem fx_MS.sC {m : fx_M} {na nd j : Nat} {t : p_Sg} {v : Int32} (H : fx_MS m na nd t) (i : Nat) (hi : i = 2 + j) (hj : j < 4) : fx_MS (fx_sI m 83 i v) na nd (t.1, t.2.1, p_u t.2.2 j v) := by
  subst hi
  obtain ⟨r1, r2, r3, r4, r5, r6, r7, r8, r9⟩ := H
  refine ⟨by rw [fx_rd2 (by omega)]; exact r1, by rw [fx_rd2 (by omega)]; exact r2, fun i hi => ?_, fun x hx i hi => by rw [fx_sI_n _ _ _ (by omega)]; exact r4 x hx i hi, fun d hd i hi => by rw [fx_sI_n _ _ _ (by omega)]; exact r5 d hd i hi, r6, r7, r8, r9⟩
  show _ = p_u t.2.2 j v i
  rw [p_u]
  by_cases e : i = j
  · subst e; rw [fx_rd0, if_pos rfl]
  · rw [fx_rd2 (by omega), if_neg e]; exact r3 i hi
theorem p_gA6 {A : Nat → Int32} {v : Int32} (h : p_gA A) : p_gA (p_u A 6 v) := h
theorem p_gA.mono {A : Nat → Int32} {j : Nat} {v : Int32} (h : p_gA A) (hj : j = 4 ∨ j = 5) (hv : p_in v 0 9) : p_gA (p_u A j v) := by
  rcases hj with rfl | rfl
  · exact ⟨h.1, h.2.1, h.2.2.1, h.2.2.2.1, hv, h.2.2.2.2.2⟩
  · exact ⟨h.1, h.2.1, h.2.2.1, h.2.2.2.1, h.2.2.2.2.1, hv⟩
def fx_aA (m : fx_M) (na : Nat) (k a s z h w : Int32) : fx_M := fx_sI (fx_sI (fx_sI (fx_sI (fx_sI (fx_sI (fx_sI (fx_sI m 85 na k) 86 na a) 87 na s) 88 na z) 89 na h) 90 na w) 91 na 99) 83 0 (nI (na + 1))
def fx_aD (m : fx_M) (nd : Nat) (z h w v n t b : Int32) : fx_M := fx_sI (fx_sI (fx_sI (fx_sI (fx_sI (fx_sI (fx_sI (fx_sI (fx_sI m 92 nd z) 93 nd h) 94 nd w) 95 nd v) 96 nd n) 97 nd t) 98 nd b) 99 nd 0) 83 1 (nI (nd + 1))
theorem fx_MS.arm {m : fx_M} {na nd : Nat} {t : p_Sg} (H : fx_MS m na nd t) (h9 : na < 9) (V : Nat → Int32) (hg : p_gA (p_recA V)) : fx_MS (fx_aA m na (V 0) (V 1) (V 2) (V 3) (V 4) (V 5)) (na + 1) nd (p_ua t.1 na (p_recA V), t.2.1, t.2.2) ∧ fx_KF m (fx_aA m na (V 0) (V 1) (V 2) (V 3) (V 4) (V 5)) := by
  obtain ⟨r1, r2, r3, r4, r5, r6, r7, r8, r9⟩ := H
  refine ⟨⟨fx_rd0, ?_, fun i hi => ?_, fun y hy i hi => ?_, fun d hd i hi => ?_, h9, r7, fun y hy => ?_, r9⟩, (((((((((fx_KF.refl m).sI (by omega)).sI (by omega)).sI (by omega)).sI (by omega)).sI (by omega)).sI (by omega)).sI (by omega)).sI (by omega))⟩
  · unfold fx_aA; rw [fx_rd2 (by decide)]; simp only [fx_sI]; exact r2
  · unfold fx_aA; rw [fx_rd2 (by omega)]; simp only [fx_sI]; exact r3 i hi
  · show _ = (p_ua t.1 na _) y i
    unfold fx_aA
    rw [fx_sI_n _ _ _ (by omega)]
    by_cases c : y = na
    · subst c
      rw [p_ua, if_pos rfl]
      revert i
      exact fx_j7 (by simp [fx_sI, p_recA]) (by simp [fx_sI, p_recA]) (by simp [fx_sI, p_recA]) (by simp [fx_sI, p_recA]) (by simp [fx_sI, p_recA]) (by simp [fx_sI, p_recA]) (by simp [fx_sI, p_recA])
    · rw [p_ua, if_neg c, ← r4 y (by omega) i hi]
      simp only [fx_sI, c, if_false, ite_self]
  · unfold fx_aA
    rw [fx_sI_n _ _ _ (by omega), fx_sI_n _ _ _ (by omega), fx_sI_n _ _ _ (by omega), fx_sI_n _ _ _ (by omega), fx_sI_n _ _ _ (by omega), fx_sI_n _ _ _ (by omega), fx_sI_n _ _ _ (by omega), fx_sI_n _ _ _ (by omega)]
    exact r5 d hd i hi
  · show p_gA (p_ua t.1 na _ y)
    by_cases c : y = na
    · subst c; rw [p_ua, if_pos rfl]; exact hg
    · rw [p_ua, if_neg c]; exact r8 y (by omega)
theorem fx_MS.doll {m : fx_M} {na nd : Nat} {t : p_Sg} (H : fx_MS m na nd t) (h5 : nd < 5) (V : Nat → Int32) (hg : p_gD (p_recD V)) : fx_MS (fx_aD m nd (V 0) (V 1) (V 2) (V 3) (V 4) (V 5) (V 6)) na (nd + 1) (t.1, p_ua t.2.1 nd (p_recD V), t.2.2) ∧ fx_KF m (fx_aD m nd (V 0) (V 1) (V 2) (V 3) (V 4) (V 5) (V 6)) := by
  obtain ⟨r1, r2, r3, r4, r5, r6, r7, r8, r9⟩ := H
  refine ⟨⟨?_, fx_rd0, fun i hi => ?_, fun d hd i hi => ?_, fun y hy i hi => ?_, r6, h5, r8, fun y hy => ?_⟩, ((((((((((fx_KF.refl m).sI (by omega)).sI (by omega)).sI (by omega)).sI (by omega)).sI (by omega)).sI (by omega)).sI (by omega)).sI (by omega)).sI (by omega))⟩
  · unfold fx_aD; rw [fx_rd2 (by decide)]; simp only [fx_sI]; exact r1
  · unfold fx_aD; rw [fx_rd2 (by omega)]; simp only [fx_sI]; exact r3 i hi
  · unfold fx_aD
    rw [fx_sI_n _ _ _ (by omega), fx_sI_n _ _ _ (by omega), fx_sI_n _ _ _ (by omega), fx_sI_n _ _ _ (by omega), fx_sI_n _ _ _ (by omega), fx_sI_n _ _ _ (by omega), fx_sI_n _ _ _ (by omega), fx_sI_n _ _ _ (by omega), fx_sI_n _ _ _ (by omega)]
    exact r4 d hd i hi
  · show _ = (p_ua t.2.1 nd _) y i
    unfold fx_aD
    rw [fx_sI_n _ _ _ (by omega)]
    by_cases c : y = nd
    · subst c
      rw [p_ua, if_pos rfl]
      have : i = 0 ∨ i = 1 ∨ i = 2 ∨ i = 3 ∨ i = 4 ∨ i = 5 ∨ i = 6 ∨ i = 7 := by omega
      rcases this with rfl | rfl | rfl | rfl | rfl | rfl | rfl | rfl <;> simp [fx_sI, p_recD]
    · rw [p_ua, if_neg c, ← r5 y (by omega) i hi]
      simp only [fx_sI, c, if_false, ite_self]
  · show p_gD (p_ua t.2.1 nd _ y)
    by_cases c : y = nd
    · subst c; rw [p_ua, if_pos rfl]; exact hg
    · rw [p_ua, if_neg c]; exact r9 y (by omega)
set_option maxRecDepth 100000 in
set_option maxHeartbeats 600000 in
theorem s_X9_addsArm {Γ : fx_G} {m : fx_M} (hL : fx_Lay m) {na nd : Nat} {t : p_Sg} (H : fx_MS m na nd t) (h9b : na < 9) (k a s z h w : Int32) : fx_Ct Γ mX9_addsArm 0 119 119 [fx_rf Γ 83, .int k, .int a, .int s, .int z, .int h, .int w] m (fx_is (some (.int (nI na))) (fx_aA m na k a s z h w)) := by
  refine fx_Ct.of (j := 0) (by decide) (Nat.le_of_ble_eq_true rfl) (Nat.le_of_ble_eq_true rfl) ?_
  show fx_E Γ mX9_addsArm 0 119 119 _ 119 m 0 [some (fx_rf Γ 83), some (.int k), some (.int a), some (.int s), some (.int z), some (.int h), some (.int w)] []
  refine e_aload_n dX9_addsArm_0 rfl ?_
  refine e_getr (o2 := 85) dX9_addsArm_1 ff_X9_20 rfl (fx_pi_lt (by decide)) (by decide) rfl (hL _ _ _ rfl) ?_
  refine e_aload_n dX9_addsArm_4 rfl ?_
  refine e_getv (v := nI na) dX9_addsArm_5 ff_X9_126 rfl (fx_pi_lt (by decide)) (by decide) rfl (by (try simp only [fx_sI]); exact H.1) ?_
  refine e_iload_n dX9_addsArm_8 rfl ?_
  refine e_iast (j := na) dX9_addsArm_9 rfl (fx_pi_lt (by decide)) rfl (by omega) (by decide) ?_
  refine e_aload_n dX9_addsArm_10 rfl ?_
  refine e_getr (o2 := 86) dX9_addsArm_11 ff_X9_23 rfl (fx_pi_lt (by decide)) (by decide) rfl (hL _ _ _ rfl) ?_
  refine e_aload_n dX9_addsArm_14 rfl ?_
  refine e_getv (v := nI na) dX9_addsArm_15 ff_X9_126 rfl (fx_pi_lt (by decide)) (by decide) rfl (by (try simp only [fx_sI]); exact H.1) ?_
  refine e_iload_n dX9_addsArm_18 rfl ?_
  refine e_iast (j := na) dX9_addsArm_19 rfl (fx_pi_lt (by decide)) rfl (by omega) (by decide) ?_
  refine e_aload_n dX9_addsArm_20 rfl ?_
  refine e_getr (o2 := 87) dX9_addsArm_21 ff_X9_26 rfl (fx_pi_lt (by decide)) (by decide) rfl (hL _ _ _ rfl) ?_
  refine e_aload_n dX9_addsArm_24 rfl ?_
  refine e_getv (v := nI na) dX9_addsArm_25 ff_X9_126 rfl (fx_pi_lt (by decide)) (by decide) rfl (by (try simp only [fx_sI]); exact H.1) ?_
  refine e_iload_n dX9_addsArm_28 rfl ?_
  refine e_iast (j := na) dX9_addsArm_29 rfl (fx_pi_lt (by decide)) rfl (by omega) (by decide) ?_
  refine e_aload_n dX9_addsArm_30 rfl ?_
  refine e_getr (o2 := 88) dX9_addsArm_31 ff_X9_29 rfl (fx_pi_lt (by decide)) (by decide) rfl (hL _ _ _ rfl) ?_
  refine e_aload_n dX9_addsArm_34 rfl ?_
  refine e_getv (v := nI na) dX9_addsArm_35 ff_X9_126 rfl (fx_pi_lt (by decide)) (by decide) rfl (by (try simp only [fx_sI]); exact H.1) ?_
  refine e_iload dX9_addsArm_38 rfl ?_
  refine e_iast (j := na) dX9_addsArm_40 rfl (fx_pi_lt (by decide)) rfl (by omega) (by decide) ?_
  refine e_aload_n dX9_addsArm_41 rfl ?_
  refine e_getr (o2 := 89) dX9_addsArm_42 ff_X9_32 rfl (fx_pi_lt (by decide)) (by decide) rfl (hL _ _ _ rfl) ?_
  refine e_aload_n dX9_addsArm_45 rfl ?_
  refine e_getv (v := nI na) dX9_addsArm_46 ff_X9_126 rfl (fx_pi_lt (by decide)) (by decide) rfl (by (try simp only [fx_sI]); exact H.1) ?_
  refine e_iload dX9_addsArm_49 rfl ?_
  refine e_iast (j := na) dX9_addsArm_51 rfl (fx_pi_lt (by decide)) rfl (by omega) (by decide) ?_
  refine e_aload_n dX9_addsArm_52 rfl ?_
  refine e_getr (o2 := 90) dX9_addsArm_53 ff_X9_35 rfl (fx_pi_lt (by decide)) (by decide) rfl (hL _ _ _ rfl) ?_
  refine e_aload_n dX9_addsArm_56 rfl ?_
  refine e_getv (v := nI na) dX9_addsArm_57 ff_X9_126 rfl (fx_pi_lt (by decide)) (by decide) rfl (by (try simp only [fx_sI]); exact H.1) ?_
  refine e_iload dX9_addsArm_60 rfl ?_
  refine e_iast (j := na) dX9_addsArm_62 rfl (fx_pi_lt (by decide)) rfl (by omega) (by decide) ?_
  refine e_aload_n dX9_addsArm_63 rfl ?_
  refine e_getr (o2 := 91) dX9_addsArm_64 ff_X9_38 rfl (fx_pi_lt (by decide)) (by decide) rfl (hL _ _ _ rfl) ?_
  refine e_aload_n dX9_addsArm_67 rfl ?_
  refine e_getv (v := nI na) dX9_addsArm_68 ff_X9_126 rfl (fx_pi_lt (by decide)) (by decide) rfl (by (try simp only [fx_sI]); exact H.1) ?_
  refine e_bipush dX9_addsArm_71 kcb_99 ?_
  refine e_iast (j := na) dX9_addsArm_73 rfl (fx_pi_lt (by decide)) rfl (by omega) (by decide) ?_
  refine e_aload_n dX9_addsArm_74 rfl ?_
  refine e_dup dX9_addsArm_75 rfl ?_
  refine e_getv (v := nI na) dX9_addsArm_76 ff_X9_126 rfl (fx_pi_lt (by decide)) (by decide) rfl (by (try simp only [fx_sI]); exact H.1) ?_
  refine e_dup_x1 dX9_addsArm_79 rfl rfl ?_
  refine e_iconst dX9_addsArm_80 kci_1 ?_
  refine e_iadd dX9_addsArm_81 ?_
  rw [nI_1]
  refine e_put dX9_addsArm_82 ff_X9_126 rfl (fx_pi_lt (by decide)) (by decide) rfl (Or.inl rfl) ?_
  exact e_iret dX9_addsArm_85 rfl rfl rfl ⟨rfl, rfl⟩
set_option maxRecDepth 100000 in
set_option maxHeartbeats 600000 in
theorem s_X9_addsDoll {Γ : fx_G} {m : fx_M} (hL : fx_Lay m) {na nd : Nat} {t : p_Sg} (H : fx_MS m na nd t) (h5b : nd < 5) (z h w v n t2 b : Int32) : fx_Ct Γ mX9_addsDoll 0 119 119 [fx_rf Γ 83, .int z, .int h, .int w, .int v, .int n, .int t2, .int b] m (fx_is (some (.int (nI nd))) (fx_aD m nd z h w v n t2 b)) := by
  refine fx_Ct.of (j := 0) (by decide) (Nat.le_of_ble_eq_true rfl) (Nat.le_of_ble_eq_true rfl) ?_
  show fx_E Γ mX9_addsDoll 0 119 119 _ 119 m 0 [some (fx_rf Γ 83), some (.int z), some (.int h), some (.int w), some (.int v), some (.int n), some (.int t2), some (.int b)] []
  refine e_aload_n dX9_addsDoll_0 rfl ?_
  refine e_getr (o2 := 92) dX9_addsDoll_1 ff_X9_41 rfl (fx_pi_lt (by decide)) (by decide) rfl (hL _ _ _ rfl) ?_
  refine e_aload_n dX9_addsDoll_4 rfl ?_
  refine e_getv (v := nI nd) dX9_addsDoll_5 ff_X9_129 rfl (fx_pi_lt (by decide)) (by decide) rfl (by (try simp only [fx_sI]); exact H.2.1) ?_
  refine e_iload_n dX9_addsDoll_8 rfl ?_
  refine e_iast (j := nd) dX9_addsDoll_9 rfl (fx_pi_lt (by decide)) rfl (by omega) (by decide) ?_
  refine e_aload_n dX9_addsDoll_10 rfl ?_
  refine e_getr (o2 := 93) dX9_addsDoll_11 ff_X9_44 rfl (fx_pi_lt (by decide)) (by decide) rfl (hL _ _ _ rfl) ?_
  refine e_aload_n dX9_addsDoll_14 rfl ?_
  refine e_getv (v := nI nd) dX9_addsDoll_15 ff_X9_129 rfl (fx_pi_lt (by decide)) (by decide) rfl (by (try simp only [fx_sI]); exact H.2.1) ?_
  refine e_iload_n dX9_addsDoll_18 rfl ?_
  refine e_iast (j := nd) dX9_addsDoll_19 rfl (fx_pi_lt (by decide)) rfl (by omega) (by decide) ?_
  refine e_aload_n dX9_addsDoll_20 rfl ?_
  refine e_getr (o2 := 94) dX9_addsDoll_21 ff_X9_47 rfl (fx_pi_lt (by decide)) (by decide) rfl (hL _ _ _ rfl) ?_
  refine e_aload_n dX9_addsDoll_24 rfl ?_
  refine e_getv (v := nI nd) dX9_addsDoll_25 ff_X9_129 rfl (fx_pi_lt (by decide)) (by decide) rfl (by (try simp only [fx_sI]); exact H.2.1) ?_
  refine e_iload_n dX9_addsDoll_28 rfl ?_
  refine e_iast (j := nd) dX9_addsDoll_29 rfl (fx_pi_lt (by decide)) rfl (by omega) (by decide) ?_
  refine e_aload_n dX9_addsDoll_30 rfl ?_
  refine e_getr (o2 := 95) dX9_addsDoll_31 ff_X9_50 rfl (fx_pi_lt (by decide)) (by decide) rfl (hL _ _ _ rfl) ?_
  refine e_aload_n dX9_addsDoll_34 rfl ?_
  refine e_getv (v := nI nd) dX9_addsDoll_35 ff_X9_129 rfl (fx_pi_lt (by decide)) (by decide) rfl (by (try simp only [fx_sI]); exact H.2.1) ?_
  refine e_iload dX9_addsDoll_38 rfl ?_
  refine e_iast (j := nd) dX9_addsDoll_40 rfl (fx_pi_lt (by decide)) rfl (by omega) (by decide) ?_
  refine e_aload_n dX9_addsDoll_41 rfl ?_
  refine e_getr (o2 := 96) dX9_addsDoll_42 ff_X9_53 rfl (fx_pi_lt (by decide)) (by decide) rfl (hL _ _ _ rfl) ?_
  refine e_aload_n dX9_addsDoll_45 rfl ?_
  refine e_getv (v := nI nd) dX9_addsDoll_46 ff_X9_129 rfl (fx_pi_lt (by decide)) (by decide) rfl (by (try simp only [fx_sI]); exact H.2.1) ?_
  refine e_iload dX9_addsDoll_49 rfl ?_
  refine e_iast (j := nd) dX9_addsDoll_51 rfl (fx_pi_lt (by decide)) rfl (by omega) (by decide) ?_
  refine e_aload_n dX9_addsDoll_52 rfl ?_
  refine e_getr (o2 := 97) dX9_addsDoll_53 ff_X9_56 rfl (fx_pi_lt (by decide)) (by decide) rfl (hL _ _ _ rfl) ?_
  refine e_aload_n dX9_addsDoll_56 rfl ?_
  refine e_getv (v := nI nd) dX9_addsDoll_57 ff_X9_129 rfl (fx_pi_lt (by decide)) (by decide) rfl (by (try simp only [fx_sI]); exact H.2.1) ?_
  refine e_iload dX9_addsDoll_60 rfl ?_
  refine e_iast (j := nd) dX9_addsDoll_62 rfl (fx_pi_lt (by decide)) rfl (by omega) (by decide) ?_
  refine e_aload_n dX9_addsDoll_63 rfl ?_
  refine e_getr (o2 := 98) dX9_addsDoll_64 ff_X9_59 rfl (fx_pi_lt (by decide)) (by decide) rfl (hL _ _ _ rfl) ?_
  refine e_aload_n dX9_addsDoll_67 rfl ?_
  refine e_getv (v := nI nd) dX9_addsDoll_68 ff_X9_129 rfl (fx_pi_lt (by decide)) (by decide) rfl (by (try simp only [fx_sI]); exact H.2.1) ?_
  refine e_iload dX9_addsDoll_71 rfl ?_
  refine e_iast (j := nd) dX9_addsDoll_73 rfl (fx_pi_lt (by decide)) rfl (by omega) (by decide) ?_
  refine e_aload_n dX9_addsDoll_74 rfl ?_
  refine e_getr (o2 := 99) dX9_addsDoll_75 ff_X9_62 rfl (fx_pi_lt (by decide)) (by decide) rfl (hL _ _ _ rfl) ?_
  refine e_aload_n dX9_addsDoll_78 rfl ?_
  refine e_getv (v := nI nd) dX9_addsDoll_79 ff_X9_129 rfl (fx_pi_lt (by decide)) (by decide) rfl (by (try simp only [fx_sI]); exact H.2.1) ?_
  refine e_iconst dX9_addsDoll_82 kci_0 ?_
  refine e_iast (j := nd) dX9_addsDoll_83 rfl (fx_pi_lt (by decide)) rfl (by omega) (by decide) ?_
  refine e_aload_n dX9_addsDoll_84 rfl ?_
  refine e_dup dX9_addsDoll_85 rfl ?_
  refine e_getv (v := nI nd) dX9_addsDoll_86 ff_X9_129 rfl (fx_pi_lt (by decide)) (by decide) rfl (by (try simp only [fx_sI]); exact H.2.1) ?_
  refine e_dup_x1 dX9_addsDoll_89 rfl rfl ?_
  refine e_iconst dX9_addsDoll_90 kci_1 ?_
  refine e_iadd dX9_addsDoll_91 ?_
  rw [nI_1]
  refine e_put dX9_addsDoll_92 ff_X9_129 rfl (fx_pi_lt (by decide)) (by decide) rfl (Or.inl rfl) ?_
  exact e_iret dX9_addsDoll_95 rfl rfl rfl ⟨rfl, rfl⟩
