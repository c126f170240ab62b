/-! the reader's items: (the fault, the place behind, arms, dolls, the stock) -/
abbrev p_IR : Type := Option Nat × Nat × Nat × Nat × p_Sg
def fx_RF (m m' : fx_M) : Prop := m'.2 = m.2 ∧ ∀ o, (o < 33 ∨ 49 ≤ o) → o ≠ 51 → o ≠ 52 → m'.1 o = m.1 o
theorem fx_RF.refl (m : fx_M) : fx_RF m m := ⟨rfl, fun _ _ _ _ => rfl⟩
theorem fx_RF.trans {a b c : fx_M} (h : fx_RF a b) (g : fx_RF b c) : fx_RF a c := ⟨g.1.trans h.1, fun o h1 h2 h3 => (g.2 o h1 h2 h3).trans (h.2 o h1 h2 h3)⟩
theorem fx_RF.on {m m' : fx_M} (h : fx_oP (fun o => o = 51 ∨ o = 52) m m') : fx_RF m m' := ⟨h.1, fun o _ h1 h2 => h.2 o (by omega)⟩
theorem fx_RF.sI {m m' : fx_M} {o k : Nat} {v : Int32} (h : fx_RF m m') (ho : (33 ≤ o ∧ o < 49) ∨ o = 51 ∨ o = 52) : fx_RF m (fx_sI m' o k v) := ⟨h.1, fun a h1 h2 h3 => by rw [fx_sI_n _ _ _ (by omega)]; exact h.2 a h1 h2 h3⟩
def fx_PR (k n : Nat) (tx : Nat → Int32) (m : fx_M) (res : p_IR) (r : Option Value) (m' : fx_M) : Prop :=
  r = some (.int (if res.1 = none then 1 else 0)) ∧ fx_RF m m' ∧ fx_J 33 m' ∧ (∀ f, res.1 = some f → m'.1 51 0 = nI f) ∧ (res.1 = none → fx_RS k n tx m' res.2.2.1 res.2.2.2.1 res.2.2.2.2 res.2.1 ∧ m'.1 51 0 = m.1 51 0)
theorem fx_J51 {m : fx_M} {o j : Nat} {v : Int32} (h : fx_J 33 m) (ho : o = 51 ∨ o = 52) : fx_J 33 (fx_sI m o j v) := fun a b hab => by rw [fx_sI_n _ _ _ (by omega)]; exact h a b hab
theorem fx_Jon {m m' : fx_M} (h : fx_J 33 m) (o : fx_oP (fun o => o = 51 ∨ o = 52) m m') : fx_J 33 m' := fun a b hab => by rw [o.2 a (by omega)]; exact h a b hab
theorem p_el_n {x a : Nat} (hx : x < 2 ^ 31) (ha : a < 2 ^ 31) : p_el (nI x) (nI a) ↔ x < a := ⟨fun h => (nI_ltI hx ha).mp h.2, fun h => ⟨nI_pos' hx, nI_lt h ha⟩⟩
def p_recA (V : Nat → Int32) : Nat → Int32 := fun k => if k < 6 then V k else if k = 6 then 99 else 0
def p_recD (V : Nat → Int32) : Nat → Int32 := fun k => if k < 7 then V k else 0
theorem fx_mArm_n {m : fx_M} {S na o : Nat} {k a s z h w : Int32} (h1 : o ≠ S) (h2 : o ≠ S + 3 + na) : (fx_mArm m S na k a s z h w).1 o = m.1 o := by
  unfold fx_mArm
  rw [fx_sI_n _ _ _ h1, fx_sI_n _ _ _ h2, fx_sI_n _ _ _ h2, fx_sI_n _ _ _ h2, fx_sI_n _ _ _ h2, fx_sI_n _ _ _ h2, fx_sI_n _ _ _ h2, fx_sI_n _ _ _ h2]
theorem fx_mArm_a {m : fx_M} {S na j : Nat} {V : Nat → Int32} (hJ : 7 ≤ j → m.1 (S + 3 + na) j = 0) : (fx_mArm m S na (V 0) (V 1) (V 2) (V 3) (V 4) (V 5)).1 (S + 3 + na) j = p_recA V j := by
  unfold fx_mArm p_recA
  rw [fx_sI_n _ _ _ (by omega)]
  by_cases c : 7 ≤ j
  · rw [if_neg (by omega), if_neg (by omega)]
    have e := hJ c
    rw [fx_rd2 (by omega), fx_rd2 (by omega), fx_rd2 (by omega), fx_rd2 (by omega), fx_rd2 (by omega), fx_rd2 (by omega), fx_rd2 (by omega)]
    exact e
  · have : j = 0 ∨ j = 1 ∨ j = 2 ∨ j = 3 ∨ j = 4 ∨ j = 5 ∨ j = 6 := by omega
    rcases this with rfl | rfl | rfl | rfl | rfl | rfl | rfl <;> simp [fx_sI]
theorem fx_mArm_s {m : fx_M} {S na j : Nat} {k a s z h w : Int32} : (fx_mArm m S na k a s z h w).1 S j = if j = 2 then nI (na + 1) else m.1 S j := by
  unfold fx_mArm
  by_cases c : j = 2
  · subst c; rw [fx_rd0, if_pos rfl]
  · rw [fx_rd2 (Ne.symm c), if_neg c]
    rw [fx_sI_n _ _ _ (by omega), fx_sI_n _ _ _ (by omega), fx_sI_n _ _ _ (by omega), fx_sI_n _ _ _ (by omega), fx_sI_n _ _ _ (by omega), fx_sI_n _ _ _ (by omega), fx_sI_n _ _ _ (by omega)]
theorem fx_HS.arm {m : fx_M} {S na nd : Nat} {A D : Nat → Nat → Int32} {c : Nat → Int32} (H : fx_HS m S na nd A D c) (hJ : fx_J S m) (h8 : na < 8) (V : Nat → Int32) : fx_HS (fx_mArm m S na (V 0) (V 1) (V 2) (V 3) (V 4) (V 5)) S (na + 1) nd (p_ua A na (p_recA V)) D c ∧ fx_J S (fx_mArm m S na (V 0) (V 1) (V 2) (V 3) (V 4) (V 5)) := by
  refine ⟨⟨by rw [fx_mArm_s, if_pos rfl], by rw [fx_mArm_s, if_neg (by decide)]; exact H.2.1, fun x hx => ?_, fun d hd => ?_, fun j hj => ?_⟩, fun o j h => ?_⟩
  · by_cases e : x = na
    · subst e
      funext j
      rw [fx_mArm_a (fun q => hJ _ _ (Or.inl ⟨by omega, by omega, q⟩)), p_ua, if_pos rfl]
    · rw [fx_mArm_n (by omega) (by omega), p_ua, if_neg e]
      exact H.2.2.1 x (by omega)
  · rw [fx_mArm_n (by omega) (by omega)]
    exact H.2.2.2.1 d hd
  · rw [fx_mArm_s, if_neg (by omega)]
    exact H.2.2.2.2 j hj
  · by_cases e : o = S + 3 + na
    · subst e
      rw [fx_mArm_a (fun q => hJ _ _ (Or.inl ⟨by omega, by omega, q⟩)), p_recA, if_neg (by omega), if_neg (by omega)]
    · rw [fx_mArm_n (by omega) e]
      exact hJ o j h
theorem fx_mDoll_n {m : fx_M} {S nd o : Nat} {z h w v n t b : Int32} (h1 : o ≠ S) (h2 : o ≠ S + 11 + nd) : (fx_mDoll m S nd z h w v n t b).1 o = m.1 o := by
  unfold fx_mDoll
  rw [fx_sI_n _ _ _ h1, fx_sI_n _ _ _ h2, fx_sI_n _ _ _ h2, fx_sI_n _ _ _ h2, fx_sI_n _ _ _ h2, fx_sI_n _ _ _ h2, fx_sI_n _ _ _ h2, fx_sI_n _ _ _ h2, fx_sI_n _ _ _ h2]
theorem fx_mDoll_a {m : fx_M} {S nd j : Nat} {V : Nat → Int32} (hJ : 8 ≤ j → m.1 (S + 11 + nd) j = 0) : (fx_mDoll m S nd (V 0) (V 1) (V 2) (V 3) (V 4) (V 5) (V 6)).1 (S + 11 + nd) j = p_recD V j := by
  unfold fx_mDoll p_recD
  rw [fx_sI_n _ _ _ (by omega)]
  by_cases c : 8 ≤ j
  · rw [if_neg (by omega)]
    have e := hJ c
    rw [fx_rd2 (by omega), fx_rd2 (by omega), fx_rd2 (by omega), fx_rd2 (by omega), fx_rd2 (by omega), fx_rd2 (by omega), fx_rd2 (by omega), fx_rd2 (by omega)]
    exact e
  · have : j = 0 ∨ j = 1 ∨ j = 2 ∨ j = 3 ∨ j = 4 ∨ j = 5 ∨ j = 6 ∨ j = 7 := by omega
    rcases this with rfl | rfl | rfl | rfl | rfl | rfl | rfl | rfl <;> simp [fx_sI]
theorem fx_mDoll_s {m : fx_M} {S nd j : Nat} {z h w v n t b : Int32} : (fx_mDoll m S nd z h w v n t b).1 S j = if j = 3 then nI (nd + 1) else m.1 S j := by
  unfold fx_mDoll
  by_cases c : j = 3
  · subst c; rw [fx_rd0, if_pos rfl]
  · rw [fx_rd2 (Ne.symm c), if_neg c]
    rw [fx_sI_n _ _ _ (by omega), fx_sI_n _ _ _ (by omega), fx_sI_n _ _ _ (by omega), fx_sI_n _ _ _ (by omega), fx_sI_n _ _ _ (by omega), fx_sI_n _ _ _ (by omega), fx_sI_n _ _ _ (by omega), fx_sI_n _ _ _ (by omega)]
theorem fx_HS.doll {m : fx_M} {S na nd : Nat} {A D : Nat → Nat → Int32} {c : Nat → Int32} (H : fx_HS m S na nd A D c) (hJ : fx_J S m) (h8 : na ≤ 8) (h5 : nd < 5) (V : Nat → Int32) : fx_HS (fx_mDoll m S nd (V 0) (V 1) (V 2) (V 3) (V 4) (V 5) (V 6)) S na (nd + 1) A (p_ua D nd (p_recD V)) c ∧ fx_J S (fx_mDoll m S nd (V 0) (V 1) (V 2) (V 3) (V 4) (V 5) (V 6)) := by
  refine ⟨⟨by rw [fx_mDoll_s, if_neg (by decide)]; exact H.1, by rw [fx_mDoll_s, if_pos rfl], fun x hx => ?_, fun d hd => ?_, fun j hj => ?_⟩, fun o j h => ?_⟩
  · rw [fx_mDoll_n (by omega) (by omega)]
    exact H.2.2.1 x hx
  · by_cases e : d = nd
    · subst e
      funext j
      rw [fx_mDoll_a (fun q => hJ _ _ (Or.inr ⟨by omega, by omega, q⟩)), p_ua, if_pos rfl]
    · rw [fx_mDoll_n (by omega) (by omega), p_ua, if_neg e]
      exact H.2.2.2.1 d (by omega)
  · rw [fx_mDoll_s, if_neg (by omega)]
    exact H.2.2.2.2 j hj
  · by_cases e : o = S + 11 + nd
    · subst e
      rcases h with h | h
      · omega
      · rw [fx_mDoll_a (fun q => hJ _ _ (Or.inr ⟨by omega, by omega, q⟩)), p_recD, if_neg (by omega)]
    · rw [fx_mDoll_n (by omega) e]
      exact hJ o j h
theorem fx_RS.to {k n : Nat} {tx : Nat → Int32} {m m' : fx_M} {na nd na' nd' : Nat} {t t' : p_Sg} {p : Nat} (R : fx_RS k n tx m na nd t p) (F : fx_RF m m') (h51 : m'.1 51 3 = m.1 51 3) (H : fx_HT m' 33 na' nd' t') (hJ : fx_J 33 m') (h8 : na' ≤ 8) (h5 : nd' ≤ 5) : fx_RS k n tx m' na' nd' t' p := by
  obtain ⟨r1, r2, r3, r4, r5, r6, r7, r8, r9, r10, r11, r12, r13⟩ := R
  exact ⟨by rw [F.1]; exact r1, by rw [F.1]; exact r2, h51.trans r3, H, fun o j v h => by rw [F.1]; exact r5 o j v h, by rw [F.2 _ (by omega) (by omega) (by omega)]; exact r6, fun j hj => by rw [F.1]; exact r7 j hj, hJ, h8, h5, r11, r12, r13⟩
def p_armI (tx : Nat → Int32) (n w p na nd : Nat) (t : p_Sg) : p_IR := if ¬ na < 8 then (some w, p, na, nd, t) else match p_nmsF tx n (fun i => fx_tab 2 i) (fun i => fx_tab 1 i) p 6 0 with
  | some f => (some f, p, na, nd, t)
  | none => (none, p_pls tx n p 6, na + 1, nd, (p_ua t.1 na (p_recA (fun i => nI (p_nmV tx n (p_pls tx n p i)))), t.2.1, t.2.2))
def p_dollI (tx : Nat → Int32) (n w p na nd : Nat) (t : p_Sg) : p_IR := if ¬ nd < 5 then (some w, p, na, nd, t) else match p_nmsF tx n (fun i => fx_tab 4 i) (fun i => fx_tab 3 i) p 7 0 with
  | some f => (some f, p, na, nd, t)
  | none => (none, p_pls tx n p 7, na, nd + 1, (t.1, p_ua t.2.1 nd (p_recD (fun i => nI (p_nmV tx n (p_pls tx n p i)))), t.2.2))
set_option maxRecDepth 100000 in
set_option maxHeartbeats 600000 in
theorem s_X4_readArm {Γ : fx_G} {m : fx_M} {k n : Nat} {tx : Nat → Int32} {na nd : Nat} {t : p_Sg} {p : Nat} (R : fx_RS k n tx m na nd t p) {w : Nat} (hw : m.1 51 4 = nI w) : fx_Ct Γ mX4_readArm 3 119 119 [fx_rf Γ 51] m (fx_PR k n tx m (p_armI tx n w p na nd t)) := by
  refine fx_Ct.of (j := 0) (by decide) (Nat.le_of_ble_eq_true rfl) (Nat.le_of_ble_eq_true rfl) ?_
  show fx_E Γ mX4_readArm 3 119 119 _ 119 m 0 [some (fx_rf Γ 51)] []
  have hk : k < 8 := R.2.2.2.2.2.2.2.2.2.2.1
  have hn : n ≤ 160 := R.2.2.2.2.2.2.2.2.2.2.2.1
  have hp : p ≤ n := R.2.2.2.2.2.2.2.2.2.2.2.2
  refine e_aload_n dX4_readArm_0 rfl ?_
  refine e_getr (o2 := 33) dX4_readArm_1 ff_X4_28 rfl (fx_pi_lt (by decide)) (by decide) rfl R.2.1 ?_
  refine e_callV1 (μ' := mX6_hasRoomForArm) (ci := 6) (As := []) dX4_readArm_4 wl_X4_94 ok_X6_hasRoomForArm rfl rfl (fx_pi_lt (by decide)) (by decide) (Nat.le_of_ble_eq_true rfl) fx_n1 (s_X6_hasRoomForArm (m := m) 33 fx_s33 R.2.2.2.1.1 R.2.2.2.2.2.2.2.2.1) rfl ?_
  refine e_if_neB 19 dX4_readArm_7 rfl (fun c_r => ?_) (fun c_r => ?_)
  · refine e_aload_n dX4_readArm_19 rfl ?_
    refine e_gets (j := 2) dX4_readArm_20 rfl wf_X4_99 ?_
    refine e_gets (j := 1) dX4_readArm_23 rfl wf_X4_102 ?_
    refine e_callV (μ' := mX4_readNumbers) (ci := 4) (As := [.ref (Γ.2.2.2 2), .ref (Γ.2.2.2 1)]) dX4_readArm_26 wl_X4_105 ok_X4_readNumbers rfl rfl (fx_pi_lt (by decide)) (by decide) (Nat.le_of_ble_eq_true rfl) fx_n1 (s_X4_readNumbersArm (m := m) R) rfl (fun r_ m_ hpost => ?_)
    revert r_ m_
    intro r_ m1 hpost
    obtain ⟨rfl, o1, f1, g1⟩ := hpost
    refine e_if_neB 34 dX4_readArm_29 rfl (fun c_n => ?_) (fun c_n => ?_)
    · have R1 : fx_RS k n tx m1 na nd t (p_pls tx n p 6) := R.on o1 (g1 c_n).1 (g1 c_n).2.1
      refine e_aload_n dX4_readArm_34 rfl ?_
      refine e_getr (o2 := 33) dX4_readArm_35 ff_X4_28 rfl (fx_pi_lt (by decide)) (by decide) rfl R1.2.1 ?_
      refine e_aload_n dX4_readArm_38 rfl ?_
      refine e_getr (o2 := 52) dX4_readArm_39 ff_X4_24 rfl (fx_pi_lt (by decide)) (by decide) rfl (R1.2.2.2.2.1 _ _ _ rfl) ?_
      refine e_iconst dX4_readArm_42 kci_0 ?_
      refine e_ialdv (j := 0) (v := nI (p_nmV tx n (p_pls tx n p 0))) dX4_readArm_43 rfl (fx_pi_lt (by decide)) rfl (by decide) (by decide) ((g1 c_n).2.2.1 0 (by decide)) ?_
      refine e_aload_n dX4_readArm_44 rfl ?_
      refine e_getr (o2 := 52) dX4_readArm_45 ff_X4_24 rfl (fx_pi_lt (by decide)) (by decide) rfl (R1.2.2.2.2.1 _ _ _ rfl) ?_
      refine e_iconst dX4_readArm_48 kci_1 ?_
      refine e_ialdv (j := 1) (v := nI (p_nmV tx n (p_pls tx n p 1))) dX4_readArm_49 rfl (fx_pi_lt (by decide)) rfl (by decide) (by decide) ((g1 c_n).2.2.1 1 (by decide)) ?_
      refine e_aload_n dX4_readArm_50 rfl ?_
      refine e_getr (o2 := 52) dX4_readArm_51 ff_X4_24 rfl (fx_pi_lt (by decide)) (by decide) rfl (R1.2.2.2.2.1 _ _ _ rfl) ?_
      refine e_iconst dX4_readArm_54 kci_2 ?_
      refine e_ialdv (j := 2) (v := nI (p_nmV tx n (p_pls tx n p 2))) dX4_readArm_55 rfl (fx_pi_lt (by decide)) rfl (by decide) (by decide) ((g1 c_n).2.2.1 2 (by decide)) ?_
      refine e_aload_n dX4_readArm_56 rfl ?_
      refine e_getr (o2 := 52) dX4_readArm_57 ff_X4_24 rfl (fx_pi_lt (by decide)) (by decide) rfl (R1.2.2.2.2.1 _ _ _ rfl) ?_
      refine e_iconst dX4_readArm_60 kci_3 ?_
      refine e_ialdv (j := 3) (v := nI (p_nmV tx n (p_pls tx n p 3))) dX4_readArm_61 rfl (fx_pi_lt (by decide)) rfl (by decide) (by decide) ((g1 c_n).2.2.1 3 (by decide)) ?_
      refine e_aload_n dX4_readArm_62 rfl ?_
      refine e_getr (o2 := 52) dX4_readArm_63 ff_X4_24 rfl (fx_pi_lt (by decide)) (by decide) rfl (R1.2.2.2.2.1 _ _ _ rfl) ?_
      refine e_iconst dX4_readArm_66 kci_4 ?_
      refine e_ialdv (j := 4) (v := nI (p_nmV tx n (p_pls tx n p 4))) dX4_readArm_67 rfl (fx_pi_lt (by decide)) rfl (by decide) (by decide) ((g1 c_n).2.2.1 4 (by decide)) ?_
      refine e_aload_n dX4_readArm_68 rfl ?_
      refine e_getr (o2 := 52) dX4_readArm_69 ff_X4_24 rfl (fx_pi_lt (by decide)) (by decide) rfl (R1.2.2.2.2.1 _ _ _ rfl) ?_
      refine e_iconst dX4_readArm_72 kci_5 ?_
      refine e_ialdv (j := 5) (v := nI (p_nmV tx n (p_pls tx n p 5))) dX4_readArm_73 rfl (fx_pi_lt (by decide)) rfl (by decide) (by decide) ((g1 c_n).2.2.1 5 (by decide)) ?_
      refine e_callV1 (μ' := mX6_addArm) (ci := 6) (As := [.int (nI (p_nmV tx n (p_pls tx n p 0))), .int (nI (p_nmV tx n (p_pls tx n p 1))), .int (nI (p_nmV tx n (p_pls tx n p 2))), .int (nI (p_nmV tx n (p_pls tx n p 3))), .int (nI (p_nmV tx n (p_pls tx n p 4))), .int (nI (p_nmV tx n (p_pls tx n p 5)))]) dX4_readArm_74 wl_X4_109 ok_X6_addArm rfl rfl (fx_pi_lt (by decide)) (by decide) (Nat.le_of_ble_eq_true rfl) fx_n1 (s_X6_addArm (m := m1) 33 fx_s33 R1.2.2.2.2.1 R1.2.2.2.1.1 c_r (nI (p_nmV tx n (p_pls tx n p 0))) (nI (p_nmV tx n (p_pls tx n p 1))) (nI (p_nmV tx n (p_pls tx n p 2))) (nI (p_nmV tx n (p_pls tx n p 3))) (nI (p_nmV tx n (p_pls tx n p 4))) (nI (p_nmV tx n (p_pls tx n p 5)))) rfl ?_
      refine e_pop dX4_readArm_77 rfl ?_
      refine e_iconst dX4_readArm_78 kci_1 ?_
      have HA := R1.2.2.2.1.arm R1.2.2.2.2.2.2.2.1 c_r (fun i => nI (p_nmV tx n (p_pls tx n p i)))
      have h8 := R.2.2.2.2.2.2.2.2.1
      have h5 := R.2.2.2.2.2.2.2.2.2.1
      have F2 : fx_RF m1 (fx_mArm m1 33 na (nI (p_nmV tx n (p_pls tx n p 0))) (nI (p_nmV tx n (p_pls tx n p 1))) (nI (p_nmV tx n (p_pls tx n p 2))) (nI (p_nmV tx n (p_pls tx n p 3))) (nI (p_nmV tx n (p_pls tx n p 4))) (nI (p_nmV tx n (p_pls tx n p 5)))) := ((((((((fx_RF.refl m1).sI (Or.inl ⟨by omega, by omega⟩)).sI (Or.inl ⟨by omega, by omega⟩)).sI (Or.inl ⟨by omega, by omega⟩)).sI (Or.inl ⟨by omega, by omega⟩)).sI (Or.inl ⟨by omega, by omega⟩)).sI (Or.inl ⟨by omega, by omega⟩)).sI (Or.inl ⟨by omega, by omega⟩)).sI (Or.inl ⟨by omega, by omega⟩)
      have hE : p_armI tx n w p na nd t = (none, p_pls tx n p 6, na + 1, nd, (p_ua t.1 na (p_recA (fun i => nI (p_nmV tx n (p_pls tx n p i)))), t.2.1, t.2.2)) := by rw [p_armI, if_neg (Decidable.not_not.mpr c_r), c_n]
      have h3 : (fx_mArm m1 33 na (nI (p_nmV tx n (p_pls tx n p 0))) (nI (p_nmV tx n (p_pls tx n p 1))) (nI (p_nmV tx n (p_pls tx n p 2))) (nI (p_nmV tx n (p_pls tx n p 3))) (nI (p_nmV tx n (p_pls tx n p 4))) (nI (p_nmV tx n (p_pls tx n p 5)))).1 51 3 = m1.1 51 3 := congrFun (fx_mArm_n (by decide) (by omega)) 3
      have h0 : (fx_mArm m1 33 na (nI (p_nmV tx n (p_pls tx n p 0))) (nI (p_nmV tx n (p_pls tx n p 1))) (nI (p_nmV tx n (p_pls tx n p 2))) (nI (p_nmV tx n (p_pls tx n p 3))) (nI (p_nmV tx n (p_pls tx n p 4))) (nI (p_nmV tx n (p_pls tx n p 5)))).1 51 0 = m1.1 51 0 := congrFun (fx_mArm_n (by decide) (by omega)) 0
      have R2 := R1.to (na' := na + 1) (nd' := nd) (t' := (p_ua t.1 na (p_recA (fun i => nI (p_nmV tx n (p_pls tx n p i)))), t.2.1, t.2.2)) F2 h3 HA.1 HA.2 (by omega) (by omega)
      exact e_iret dX4_readArm_79 rfl rfl rfl ⟨by rw [hE]; rfl, (fx_RF.on o1).trans F2, HA.2, fun f hf => (by rw [hE] at hf; cases hf), fun _ => by rw [hE]; exact ⟨R2, h0.trans (g1 c_n).2.2.2.1⟩⟩
    · refine e_iconst dX4_readArm_32 kci_0 ?_
      obtain ⟨f0, hf0⟩ := Option.ne_none_iff_exists'.mp c_n
      have hE : p_armI tx n w p na nd t = (some f0, p, na, nd, t) := by rw [p_armI, if_neg (Decidable.not_not.mpr c_r), hf0]
      exact e_iret dX4_readArm_33 rfl rfl rfl ⟨by rw [hE]; rfl, fx_RF.on o1, fx_Jon R.2.2.2.2.2.2.2.1 o1, fun f hf => (by rw [hE] at hf; cases hf; exact f1 _ hf0), fun h => (by rw [hE] at h; cases h)⟩
  · refine e_aload_n dX4_readArm_10 rfl ?_
    refine e_aload_n dX4_readArm_11 rfl ?_
    refine e_getv (v := nI w) dX4_readArm_12 ff_X4_18 rfl (fx_pi_lt (by decide)) (by decide) rfl hw ?_
    refine e_callV1 (μ' := mX4_stopAt) (ci := 4) (As := [.int (nI w)]) dX4_readArm_15 wl_X4_80 ok_X4_stopAt rfl rfl (fx_pi_lt (by decide)) (by decide) (Nat.le_of_ble_eq_true rfl) fx_n1 (s_X4_stopAt (m := m) (nI w)) rfl ?_
    have hE : p_armI tx n w p na nd t = (some w, p, na, nd, t) := if_pos c_r
    exact e_iret dX4_readArm_18 rfl rfl rfl ⟨by rw [hE]; rfl, (fx_RF.refl m).sI (Or.inr (Or.inl rfl)), fx_J51 R.2.2.2.2.2.2.2.1 (Or.inl rfl), fun f hf => (by rw [hE] at hf; cases hf; exact fx_rd0), fun h => (by rw [hE] at h; cases h)⟩
set_option maxRecDepth 100000 in
set_option maxHeartbeats 600000 in
theorem s_X4_readDoll {Γ : fx_G} {m : fx_M} {k n : Nat} {tx : Nat → Int32} {na nd : Nat} {t : p_Sg} {p : Nat} (R : fx_RS k n tx m na nd t p) {w : Nat} (hw : m.1 51 4 = nI w) : fx_Ct Γ mX4_readDoll 3 119 119 [fx_rf Γ 51] m (fx_PR k n tx m (p_dollI tx n w p na nd t)) := by
  refine fx_Ct.of (j := 0) (by decide) (Nat.le_of_ble_eq_true rfl) (Nat.le_of_ble_eq_true rfl) ?_
  show fx_E Γ mX4_readDoll 3 119 119 _ 119 m 0 [some (fx_rf Γ 51)] []
  have hk : k < 8 := R.2.2.2.2.2.2.2.2.2.2.1
  have hn : n ≤ 160 := R.2.2.2.2.2.2.2.2.2.2.2.1
  have hp : p ≤ n := R.2.2.2.2.2.2.2.2.2.2.2.2
  refine e_aload_n dX4_readDoll_0 rfl ?_
  refine e_getr (o2 := 33) dX4_readDoll_1 ff_X4_28 rfl (fx_pi_lt (by decide)) (by decide) rfl R.2.1 ?_
  refine e_callV1 (μ' := mX6_hasRoomForDoll) (ci := 6) (As := []) dX4_readDoll_4 wl_X4_113 ok_X6_hasRoomForDoll rfl rfl (fx_pi_lt (by decide)) (by decide) (Nat.le_of_ble_eq_true rfl) fx_n1 (s_X6_hasRoomForDoll (m := m) 33 fx_s33 R.2.2.2.1.2.1 R.2.2.2.2.2.2.2.2.2.1) rfl ?_
  refine e_if_neB 19 dX4_readDoll_7 rfl (fun c_r => ?_) (fun c_r => ?_)
  · refine e_aload_n dX4_readDoll_19 rfl ?_
    refine e_gets (j := 4) dX4_readDoll_20 rfl wf_X4_116 ?_
    refine e_gets (j := 3) dX4_readDoll_23 rfl wf_X4_119 ?_
    refine e_callV (μ' := mX4_readNumbers) (ci := 4) (As := [.ref (Γ.2.2.2 4), .ref (Γ.2.2.2 3)]) dX4_readDoll_26 wl_X4_105 ok_X4_readNumbers rfl rfl (fx_pi_lt (by decide)) (by decide) (Nat.le_of_ble_eq_true rfl) fx_n1 (s_X4_readNumbersDoll (m := m) R) rfl (fun r_ m_ hpost => ?_)
    revert r_ m_
    intro r_ m1 hpost
    obtain ⟨rfl, o1, f1, g1⟩ := hpost
    refine e_if_neB 34 dX4_readDoll_29 rfl (fun c_n => ?_) (fun c_n => ?_)
    · have R1 : fx_RS k n tx m1 na nd t (p_pls tx n p 7) := R.on o1 (g1 c_n).1 (g1 c_n).2.1
      refine e_aload_n dX4_readDoll_34 rfl ?_
      refine e_getr (o2 := 33) dX4_readDoll_35 ff_X4_28 rfl (fx_pi_lt (by decide)) (by decide) rfl R1.2.1 ?_
      refine e_aload_n dX4_readDoll_38 rfl ?_
      refine e_getr (o2 := 52) dX4_readDoll_39 ff_X4_24 rfl (fx_pi_lt (by decide)) (by decide) rfl (R1.2.2.2.2.1 _ _ _ rfl) ?_
      refine e_iconst dX4_readDoll_42 kci_0 ?_
      refine e_ialdv (j := 0) (v := nI (p_nmV tx n (p_pls tx n p 0))) dX4_readDoll_43 rfl (fx_pi_lt (by decide)) rfl (by decide) (by decide) ((g1 c_n).2.2.1 0 (by decide)) ?_
      refine e_aload_n dX4_readDoll_44 rfl ?_
      refine e_getr (o2 := 52) dX4_readDoll_45 ff_X4_24 rfl (fx_pi_lt (by decide)) (by decide) rfl (R1.2.2.2.2.1 _ _ _ rfl) ?_
      refine e_iconst dX4_readDoll_48 kci_1 ?_
      refine e_ialdv (j := 1) (v := nI (p_nmV tx n (p_pls tx n p 1))) dX4_readDoll_49 rfl (fx_pi_lt (by decide)) rfl (by decide) (by decide) ((g1 c_n).2.2.1 1 (by decide)) ?_
      refine e_aload_n dX4_readDoll_50 rfl ?_
      refine e_getr (o2 := 52) dX4_readDoll_51 ff_X4_24 rfl (fx_pi_lt (by decide)) (by decide) rfl (R1.2.2.2.2.1 _ _ _ rfl) ?_
      refine e_iconst dX4_readDoll_54 kci_2 ?_
      refine e_ialdv (j := 2) (v := nI (p_nmV tx n (p_pls tx n p 2))) dX4_readDoll_55 rfl (fx_pi_lt (by decide)) rfl (by decide) (by decide) ((g1 c_n).2.2.1 2 (by decide)) ?_
      refine e_aload_n dX4_readDoll_56 rfl ?_
      refine e_getr (o2 := 52) dX4_readDoll_57 ff_X4_24 rfl (fx_pi_lt (by decide)) (by decide) rfl (R1.2.2.2.2.1 _ _ _ rfl) ?_
      refine e_iconst dX4_readDoll_60 kci_3 ?_
      refine e_ialdv (j := 3) (v := nI (p_nmV tx n (p_pls tx n p 3))) dX4_readDoll_61 rfl (fx_pi_lt (by decide)) rfl (by decide) (by decide) ((g1 c_n).2.2.1 3 (by decide)) ?_
      refine e_aload_n dX4_readDoll_62 rfl ?_
      refine e_getr (o2 := 52) dX4_readDoll_63 ff_X4_24 rfl (fx_pi_lt (by decide)) (by decide) rfl (R1.2.2.2.2.1 _ _ _ rfl) ?_
      refine e_iconst dX4_readDoll_66 kci_4 ?_
      refine e_ialdv (j := 4) (v := nI (p_nmV tx n (p_pls tx n p 4))) dX4_readDoll_67 rfl (fx_pi_lt (by decide)) rfl (by decide) (by decide) ((g1 c_n).2.2.1 4 (by decide)) ?_
      refine e_aload_n dX4_readDoll_68 rfl ?_
      refine e_getr (o2 := 52) dX4_readDoll_69 ff_X4_24 rfl (fx_pi_lt (by decide)) (by decide) rfl (R1.2.2.2.2.1 _ _ _ rfl) ?_
      refine e_iconst dX4_readDoll_72 kci_5 ?_
      refine e_ialdv (j := 5) (v := nI (p_nmV tx n (p_pls tx n p 5))) dX4_readDoll_73 rfl (fx_pi_lt (by decide)) rfl (by decide) (by decide) ((g1 c_n).2.2.1 5 (by decide)) ?_
      refine e_aload_n dX4_readDoll_74 rfl ?_
      refine e_getr (o2 := 52) dX4_readDoll_75 ff_X4_24 rfl (fx_pi_lt (by decide)) (by decide) rfl (R1.2.2.2.2.1 _ _ _ rfl) ?_
      refine e_bipush dX4_readDoll_78 kcb_6 ?_
      refine e_ialdv (j := 6) (v := nI (p_nmV tx n (p_pls tx n p 6))) dX4_readDoll_80 rfl (fx_pi_lt (by decide)) rfl (by decide) (by decide) ((g1 c_n).2.2.1 6 (by decide)) ?_
      refine e_callV1 (μ' := mX6_addDoll) (ci := 6) (As := [.int (nI (p_nmV tx n (p_pls tx n p 0))), .int (nI (p_nmV tx n (p_pls tx n p 1))), .int (nI (p_nmV tx n (p_pls tx n p 2))), .int (nI (p_nmV tx n (p_pls tx n p 3))), .int (nI (p_nmV tx n (p_pls tx n p 4))), .int (nI (p_nmV tx n (p_pls tx n p 5))), .int (nI (p_nmV tx n (p_pls tx n p 6)))]) dX4_readDoll_81 wl_X4_122 ok_X6_addDoll rfl rfl (fx_pi_lt (by decide)) (by decide) (Nat.le_of_ble_eq_true rfl) fx_n1 (s_X6_addDoll (m := m1) 33 fx_s33 R1.2.2.2.2.1 R1.2.2.2.1.2.1 c_r (nI (p_nmV tx n (p_pls tx n p 0))) (nI (p_nmV tx n (p_pls tx n p 1))) (nI (p_nmV tx n (p_pls tx n p 2))) (nI (p_nmV tx n (p_pls tx n p 3))) (nI (p_nmV tx n (p_pls tx n p 4))) (nI (p_nmV tx n (p_pls tx n p 5))) (nI (p_nmV tx n (p_pls tx n p 6)))) rfl ?_
      refine e_pop dX4_readDoll_84 rfl ?_
      refine e_iconst dX4_readDoll_85 kci_1 ?_
      have HA := R1.2.2.2.1.doll R1.2.2.2.2.2.2.2.1 R1.2.2.2.2.2.2.2.2.1 c_r (fun i => nI (p_nmV tx n (p_pls tx n p i)))
      have h8 := R.2.2.2.2.2.2.2.2.1
      have h5 := R.2.2.2.2.2.2.2.2.2.1
      have F2 : fx_RF m1 (fx_mDoll m1 33 nd (nI (p_nmV tx n (p_pls tx n p 0))) (nI (p_nmV tx n (p_pls tx n p 1))) (nI (p_nmV tx n (p_pls tx n p 2))) (nI (p_nmV tx n (p_pls tx n p 3))) (nI (p_nmV tx n (p_pls tx n p 4))) (nI (p_nmV tx n (p_pls tx n p 5))) (nI (p_nmV tx n (p_pls tx n p 6)))) := (((((((((fx_RF.refl m1).sI (Or.inl ⟨by omega, by omega⟩)).sI (Or.inl ⟨by omega, by omega⟩)).sI (Or.inl ⟨by omega, by omega⟩)).sI (Or.inl ⟨by omega, by omega⟩)).sI (Or.inl ⟨by omega, by omega⟩)).sI (Or.inl ⟨by omega, by omega⟩)).sI (Or.inl ⟨by omega, by omega⟩)).sI (Or.inl ⟨by omega, by omega⟩)).sI (Or.inl ⟨by omega, by omega⟩)
      have hE : p_dollI tx n w p na nd t = (none, p_pls tx n p 7, na, nd + 1, (t.1, p_ua t.2.1 nd (p_recD (fun i => nI (p_nmV tx n (p_pls tx n p i)))), t.2.2)) := by rw [p_dollI, if_neg (Decidable.not_not.mpr c_r), c_n]
      have h3 : (fx_mDoll m1 33 nd (nI (p_nmV tx n (p_pls tx n p 0))) (nI (p_nmV tx n (p_pls tx n p 1))) (nI (p_nmV tx n (p_pls tx n p 2))) (nI (p_nmV tx n (p_pls tx n p 3))) (nI (p_nmV tx n (p_pls tx n p 4))) (nI (p_nmV tx n (p_pls tx n p 5))) (nI (p_nmV tx n (p_pls tx n p 6)))).1 51 3 = m1.1 51 3 := congrFun (fx_mDoll_n (by decide) (by omega)) 3
      have h0 : (fx_mDoll m1 33 nd (nI (p_nmV tx n (p_pls tx n p 0))) (nI (p_nmV tx n (p_pls tx n p 1))) (nI (p_nmV tx n (p_pls tx n p 2))) (nI (p_nmV tx n (p_pls tx n p 3))) (nI (p_nmV tx n (p_pls tx n p 4))) (nI (p_nmV tx n (p_pls tx n p 5))) (nI (p_nmV tx n (p_pls tx n p 6)))).1 51 0 = m1.1 51 0 := congrFun (fx_mDoll_n (by decide) (by omega)) 0
      have R2 := R1.to (na' := na) (nd' := nd + 1) (t' := (t.1, p_ua t.2.1 nd (p_recD (fun i => nI (p_nmV tx n (p_pls tx n p i)))), t.2.2)) F2 h3 HA.1 HA.2 (by omega) (by omega)
      exact e_iret dX4_readDoll_86 rfl rfl rfl ⟨by rw [hE]; rfl, (fx_RF.on o1).trans F2, HA.2, fun f hf => (by rw [hE] at hf; cases hf), fun _ => by rw [hE]; exact ⟨R2, h0.trans (g1 c_n).2.2.2.1⟩⟩
    · refine e_iconst dX4_readDoll_32 kci_0 ?_
      obtain ⟨f0, hf0⟩ := Option.ne_none_iff_exists'.mp c_n
      have hE : p_dollI tx n w p na nd t = (some f0, p, na, nd, t) := by rw [p_dollI, if_neg (Decidable.not_not.mpr c_r), hf0]
      exact e_iret dX4_readDoll_33 rfl rfl rfl ⟨by rw [hE]; rfl, fx_RF.on o1, fx_Jon R.2.2.2.2.2.2.2.1 o1, fun f hf => (by rw [hE] at hf; cases hf; exact f1 _ hf0), fun h => (by rw [hE] at h; cases h)⟩
  · refine e_aload_n dX4_readDoll_10 rfl ?_
    refine e_aload_n dX4_readDoll_11 rfl ?_
    refine e_getv (v := nI w) dX4_readDoll_12 ff_X4_18 rfl (fx_pi_lt (by decide)) (by decide) rfl hw ?_
    refine e_callV1 (μ' := mX4_stopAt) (ci := 4) (As := [.int (nI w)]) dX4_readDoll_15 wl_X4_80 ok_X4_stopAt rfl rfl (fx_pi_lt (by decide)) (by decide) (Nat.le_of_ble_eq_true rfl) fx_n1 (s_X4_stopAt (m := m) (nI w)) rfl ?_
    have hE : p_dollI tx n w p na nd t = (some w, p, na, nd, t) := if_pos c_r
    exact e_iret dX4_readDoll_18 rfl rfl rfl ⟨by rw [hE]; rfl, (fx_RF.refl m).sI (Or.inr (Or.inl rfl)), fx_J51 R.2.2.2.2.2.2.2.1 (Or.inl rfl), fun f hf => (by rw [hE] at hf; cases hf; exact fx_rd0), fun h => (by rw [hE] at h; cases h)⟩
