def fx_trM (m : fx_M) (l : List Nat) : Prop := m.1 83 49 = nI l.length ∧ ∀ i v, l[i]? = some v → m.1 118 i = nI v
def fx_TF (m m' : fx_M) : Prop := m'.2 = m.2 ∧ (∀ o, o ≠ 83 → o ≠ 118 → m'.1 o = m.1 o) ∧ ∀ j, j ≠ 49 → m'.1 83 j = m.1 83 j
theorem fx_TF.refl (m : fx_M) : fx_TF m m := ⟨rfl, fun _ _ _ => rfl, fun _ _ => rfl⟩
theorem fx_TF.trans {a b c : fx_M} (h : fx_TF a b) (g : fx_TF b c) : fx_TF a c := ⟨g.1.trans h.1, fun o h1 h2 => (g.2.1 o h1 h2).trans (h.2.1 o h1 h2), fun j hj => (g.2.2 j hj).trans (h.2.2 j hj)⟩
theorem fx_TF.lay {m m' : fx_M} (h : fx_TF m m') (hL : fx_Lay m) : fx_Lay m' := fun o k v hv => by rw [h.1]; exact hL o k v hv
theorem fx_TF.ms {m m' : fx_M} {na nd : Nat} {t : p_Sg} (h : fx_TF m m') (H : fx_MS m na nd t) : fx_MS m' na nd t := H.cg (fun o ho => h.2.1 o (by omega) (by omega)) (fun j hj => h.2.2 j (by omega))
theorem fx_trM.note {m : fx_M} {l : List Nat} (h : fx_trM m l) (b : Nat) : fx_trM (fx_sI (fx_sI m 118 l.length (nI b)) 83 49 (nI (l.length + 1))) (l ++ [b]) := by
  refine ⟨by rw [fx_rd0, List.length_append]; rfl, fun i v hi => ?_⟩
  rw [fx_sI_n _ _ _ (by decide)]
  by_cases c : i < l.length
  · rw [List.getElem?_append_left c] at hi
    rw [fx_rd2 (by omega)]
    exact h.2 i v hi
  · rw [List.getElem?_append_right (by omega)] at hi
    by_cases d : i = l.length
    · subst d
      simp at hi
      subst hi
      exact fx_rd0
    · rw [List.getElem?_eq_none (by simp; omega)] at hi
      cases hi
set_option maxRecDepth 100000 in
set_option maxHeartbeats 600000 in
theorem s_X9_body {Γ : fx_G} {m : fx_M} (hL : fx_Lay m) {l : List Nat} (ht : fx_trM m l) (hl : l.length < 20) (b : Nat) : fx_Ct Γ mX9_body 0 119 119 [fx_rf Γ 83, .int (nI b)] m (fun r m' => r = none ∧ fx_TF m m' ∧ fx_trM m' (l ++ [b])) := by
  refine fx_Ct.of (j := 0) (by decide) (Nat.le_of_ble_eq_true rfl) (Nat.le_of_ble_eq_true rfl) ?_
  show fx_E Γ mX9_body 0 119 119 _ 119 m 0 [some (fx_rf Γ 83), some (.int (nI b))] []
  refine e_aload_n dX9_body_0 rfl ?_
  refine e_getv (v := nI l.length) dX9_body_1 ff_X9_309 rfl (fx_pi_lt (by decide)) (by decide) rfl ht.1 ?_
  refine e_bipush dX9_body_4 kcb_20 ?_
  refine e_icmp_ge 19 dX9_body_6 rfl (fun h => absurd h (nI_ge (by omega) (by decide))) (fun _ => ?_)
  refine e_aload_n dX9_body_9 rfl ?_
  refine e_getr (o2 := 118) dX9_body_10 ff_X9_123 rfl (fx_pi_lt (by decide)) (by decide) rfl (hL _ _ _ rfl) ?_
  refine e_aload_n dX9_body_13 rfl ?_
  refine e_getv (v := nI l.length) dX9_body_14 ff_X9_309 rfl (fx_pi_lt (by decide)) (by decide) rfl ht.1 ?_
  refine e_iload_n dX9_body_17 rfl ?_
  refine e_iast (j := l.length) dX9_body_18 rfl (fx_pi_lt (by decide)) rfl (by omega) (by decide) ?_
  refine e_aload_n dX9_body_19 rfl ?_
  refine e_dup dX9_body_20 rfl ?_
  refine e_getv (v := nI l.length) dX9_body_21 ff_X9_309 rfl (fx_pi_lt (by decide)) (by decide) rfl (by rw [fx_sI_n _ _ _ (by decide)]; exact ht.1) ?_
  refine e_iconst dX9_body_24 kci_1 ?_
  refine e_iadd dX9_body_25 ?_
  rw [nI_1]
  refine e_put dX9_body_26 ff_X9_309 rfl (fx_pi_lt (by decide)) (by decide) rfl (Or.inl rfl) ?_
  exact e_vret dX9_body_29 rfl rfl ⟨rfl, ⟨rfl, fun o h1 h2 => by rw [fx_sI_n _ _ _ h1, fx_sI_n _ _ _ h2], fun k hk => by rw [fx_rd2 (Ne.symm hk), fx_sI_n _ _ _ (by decide)]⟩, ht.note b⟩
set_option maxRecDepth 100000 in
set_option maxHeartbeats 600000 in
theorem s_X9_bending0 {Γ : fx_G} {m : fx_M} (hL : fx_Lay m) {na nd : Nat} {t : p_Sg} (H : fx_MS m na nd t) {p : Nat} (hp : p < na) (hK : t.1 p 0 = 0) {l : List Nat} (ht : fx_trM m l) (hl : l.length + 1 ≤ 20) (x : Int32) : fx_Ct Γ mX9_bending 1 119 119 [fx_rf Γ 83, .int (nI p), .int x] m (fun r m' => r = some (.int (p_be 0 (nI p) (t.1 p 1) x)) ∧ fx_TF m m' ∧ fx_trM m' (l ++ p_beT 0)) := by
  refine fx_Ct.of (j := 5) (by decide) (Nat.le_of_ble_eq_true rfl) (Nat.le_of_ble_eq_true rfl) ?_
  show fx_E Γ mX9_bending 1 119 119 _ 119 m 0 [some (fx_rf Γ 83), some (.int (nI p)), some (.int x), none, none, none, none, none] []
  have h9 := H.2.2.2.2.2.1
  have h5 := H.2.2.2.2.2.2.1
  refine e_aload_n dX9_bending_0 rfl ?_
  refine e_getr (o2 := 85) dX9_bending_1 ff_X9_20 rfl (fx_pi_lt (by decide)) (by decide) rfl (hL _ _ _ rfl) ?_
  refine e_iload_n dX9_bending_4 rfl ?_
  refine e_ialdv (j := p) (v := 0) dX9_bending_5 rfl (fx_pi_lt (by decide)) rfl (by omega) (by decide) (by have q := H.2.2.2.1 p (by omega) 0 (by decide); rw [hK] at q; exact q) ?_
  refine e_istore_n dX9_bending_6 (by decide) rfl ?_
  refine e_iload_n dX9_bending_7 rfl ?_
  refine e_istore dX9_bending_8 (by decide) rfl ?_
  refine e_aload_n dX9_bending_10 rfl ?_
  refine e_iload_n dX9_bending_11 rfl ?_
  refine e_iconst dX9_bending_12 kci_3 ?_
  refine e_callV (μ' := mX9_isUnder) (ci := 9) (As := [.int 0, .int 3]) dX9_bending_13 wl_X9_143 ok_X9_isUnder rfl rfl (fx_pi_lt (by decide)) (by decide) (Nat.le_of_ble_eq_true rfl) fx_n1 (s_X9_isUnder (m := m) hL 0 3) rfl (fun r_ m_ hpost => ?_)
  obtain ⟨rfl, e2⟩ := hpost
  have e2 := e2.symm
  subst e2
  rw [if_neg (show ¬ p_isU 0 3 by decide)]
  refine e_istore dX9_bending_16 (by decide) rfl ?_
  refine e_aload_n dX9_bending_18 rfl ?_
  refine e_iload_n dX9_bending_19 rfl ?_
  refine e_iconst dX9_bending_20 kci_1 ?_
  refine e_callV (μ' := mX9_isUnder) (ci := 9) (As := [.int 0, .int 1]) dX9_bending_21 wl_X9_143 ok_X9_isUnder rfl rfl (fx_pi_lt (by decide)) (by decide) (Nat.le_of_ble_eq_true rfl) fx_n1 (s_X9_isUnder (m := m) hL 0 1) rfl (fun r_ m_ hpost => ?_)
  obtain ⟨rfl, e2⟩ := hpost
  have e2 := e2.symm
  subst e2
  rw [if_neg (show ¬ p_isU 0 1 by decide)]
  refine e_istore dX9_bending_24 (by decide) rfl ?_
  refine e_iload_n dX9_bending_26 rfl ?_
  refine e_bipush dX9_bending_27 kcb_6 ?_
  refine e_icmp_ne 38 dX9_bending_29 rfl (fun _ => ?_) (fun h => absurd h (by decide))
  refine e_iload dX9_bending_38 rfl ?_
  refine e_if_eq 54 dX9_bending_40 rfl (fun _ => ?_) (fun h => absurd (by decide) h)
  refine e_iload dX9_bending_54 rfl ?_
  refine e_if_eq 65 dX9_bending_56 rfl (fun _ => ?_) (fun h => absurd (by decide) h)
  refine e_iload_n dX9_bending_65 rfl ?_
  refine e_iconst dX9_bending_66 kci_4 ?_
  refine e_icmp_ne 76 dX9_bending_67 rfl (fun _ => ?_) (fun h => absurd h (by decide))
  refine e_aload_n dX9_bending_76 rfl ?_
  refine e_bipush dX9_bending_77 kcb_10 ?_
  refine e_callV (μ' := mX9_body) (ci := 9) (As := [.int 10]) dX9_bending_79 wl_X9_312 ok_X9_body rfl rfl (fx_pi_lt (by decide)) (by decide) (Nat.le_of_ble_eq_true rfl) fx_n1 (s_X9_body (m := m) hL ht (by (try simp only [show p_beT 0 = [10] from rfl, show p_waT 0 0 = [11, 10] from rfl, List.length_append, List.length_cons, List.length_nil, List.nil_append]); omega) 10) rfl (fun r_ m_ hpost => ?_)
  revert m_
  intro m1 hpost
  obtain ⟨rfl, g1, t1⟩ := hpost
  have G1 := g1
  have hL1 := G1.lay hL
  have H1 := G1.ms H
  refine e_iload dX9_bending_82 rfl ?_
  refine e_iload_n dX9_bending_84 rfl ?_
  refine e_iadd dX9_bending_85 ?_
  refine e_istore dX9_bending_86 (by decide) rfl ?_
  refine e_iload dX9_bending_88 rfl ?_
  refine e_if_eq 104 dX9_bending_90 rfl (fun _ => ?_) (fun h => absurd (by decide) h)
  refine e_iload_n dX9_bending_104 rfl ?_
  refine e_iconst dX9_bending_105 kci_4 ?_
  refine e_icmp_ne 115 dX9_bending_106 rfl (fun _ => ?_) (fun h => absurd h (by decide))
  refine e_iload_n dX9_bending_115 rfl ?_
  refine e_bipush dX9_bending_116 kcb_6 ?_
  refine e_icmp_ne 128 dX9_bending_118 rfl (fun _ => ?_) (fun h => absurd h (by decide))
  refine e_iload dX9_bending_128 rfl ?_
  exact e_iret dX9_bending_130 rfl rfl rfl ⟨by first | rfl | (simp [p_be, p_wa, p_do, p_do0]; done), G1, by rw [show p_beT 0 = [10] from rfl]; have q := t1; (try simp only [List.append_assoc, List.cons_append, List.nil_append, show p_beT 0 = [10] from rfl, show p_waT 0 0 = [11, 10] from rfl] at q); exact q⟩
set_option maxRecDepth 100000 in
set_option maxHeartbeats 600000 in
theorem s_X9_waving0 {Γ : fx_G} {m : fx_M} (hL : fx_Lay m) {na nd : Nat} {t : p_Sg} (H : fx_MS m na nd t) {p : Nat} (hp : p < na) (hK : t.1 p 0 = 0) {l : List Nat} (ht : fx_trM m l) (hl : l.length + 2 ≤ 20) (x : Int32) : fx_Ct Γ mX9_waving 2 119 119 [fx_rf Γ 83, .int (nI p), .int x] m (fun r m' => r = some (.int (p_wa 0 0 (nI p) (t.1 p 1) x)) ∧ fx_TF m m' ∧ fx_trM m' (l ++ p_waT 0 0)) := by
  refine fx_Ct.of (j := 4) (by decide) (Nat.le_of_ble_eq_true rfl) (Nat.le_of_ble_eq_true rfl) ?_
  show fx_E Γ mX9_waving 2 119 119 _ 119 m 0 [some (fx_rf Γ 83), some (.int (nI p)), some (.int x), none, none, none, none] []
  have h9 := H.2.2.2.2.2.1
  have h5 := H.2.2.2.2.2.2.1
  refine e_aload_n dX9_waving_0 rfl ?_
  refine e_getr (o2 := 85) dX9_waving_1 ff_X9_20 rfl (fx_pi_lt (by decide)) (by decide) rfl (hL _ _ _ rfl) ?_
  refine e_iload_n dX9_waving_4 rfl ?_
  refine e_ialdv (j := p) (v := 0) dX9_waving_5 rfl (fx_pi_lt (by decide)) rfl (by omega) (by decide) (by have q := H.2.2.2.1 p (by omega) 0 (by decide); rw [hK] at q; exact q) ?_
  refine e_istore_n dX9_waving_6 (by decide) rfl ?_
  refine e_iload_n dX9_waving_7 rfl ?_
  refine e_istore dX9_waving_8 (by decide) rfl ?_
  refine e_iload_n dX9_waving_10 rfl ?_
  refine e_bipush dX9_waving_11 kcb_6 ?_
  refine e_icmp_ne 32 dX9_waving_13 rfl (fun _ => ?_) (fun h => absurd h (by decide))
  refine e_aload_n dX9_waving_32 rfl ?_
  refine e_iload_n dX9_waving_33 rfl ?_
  refine e_iconst dX9_waving_34 kci_2 ?_
  refine e_callV (μ' := mX9_isUnder) (ci := 9) (As := [.int 0, .int 2]) dX9_waving_35 wl_X9_143 ok_X9_isUnder rfl rfl (fx_pi_lt (by decide)) (by decide) (Nat.le_of_ble_eq_true rfl) fx_n1 (s_X9_isUnder (m := m) hL 0 2) rfl (fun r_ m_ hpost => ?_)
  obtain ⟨rfl, e2⟩ := hpost
  have e2 := e2.symm
  subst e2
  rw [if_neg (show ¬ p_isU 0 2 by decide)]
  refine e_istore dX9_waving_38 (by decide) rfl ?_
  refine e_iload dX9_waving_40 rfl ?_
  refine e_if_eq 51 dX9_waving_42 rfl (fun _ => ?_) (fun h => absurd (by decide) h)
  refine e_aload_n dX9_waving_51 rfl ?_
  refine e_bipush dX9_waving_52 kcb_11 ?_
  refine e_callV (μ' := mX9_body) (ci := 9) (As := [.int 11]) dX9_waving_54 wl_X9_312 ok_X9_body rfl rfl (fx_pi_lt (by decide)) (by decide) (Nat.le_of_ble_eq_true rfl) fx_n1 (s_X9_body (m := m) hL ht (by (try simp only [show p_beT 0 = [10] from rfl, show p_waT 0 0 = [11, 10] from rfl, List.length_append, List.length_cons, List.length_nil, List.nil_append]); omega) 11) rfl (fun r_ m_ hpost => ?_)
  revert m_
  intro m1 hpost
  obtain ⟨rfl, g1, t1⟩ := hpost
  have G1 := g1
  have hL1 := G1.lay hL
  have H1 := G1.ms H
  refine e_aload_n dX9_waving_57 rfl ?_
  refine e_iload_n dX9_waving_58 rfl ?_
  refine e_iload dX9_waving_59 rfl ?_
  refine e_callV (μ' := mX9_bending) (ci := 9) (As := [.int (nI p), .int x]) dX9_waving_61 wl_X9_316 ok_X9_bending rfl rfl (fx_pi_lt (by decide)) (by decide) (Nat.le_of_ble_eq_true rfl) fx_n1 (s_X9_bending0 (m := m1) hL1 H1 hp hK t1 (by (try simp only [show p_beT 0 = [10] from rfl, show p_waT 0 0 = [11, 10] from rfl, List.length_append, List.length_cons, List.length_nil, List.nil_append]); omega) x) rfl (fun r_ m_ hpost => ?_)
  revert r_ m_
  intro r_ m2 hpost
  obtain ⟨rfl, g2, t2⟩ := hpost
  have G2 := G1.trans g2
  have hL2 := G2.lay hL
  have H2 := G2.ms H
  refine e_iconst dX9_waving_64 kci_2 ?_
  refine e_imul dX9_waving_65 ?_
  refine e_istore dX9_waving_66 (by decide) rfl ?_
  refine e_iload dX9_waving_68 rfl ?_
  refine e_if_eq 80 dX9_waving_70 rfl (fun _ => ?_) (fun h => absurd (by decide) h)
  refine e_iload dX9_waving_80 rfl ?_
  exact e_iret dX9_waving_82 rfl rfl rfl ⟨by first | rfl | (simp [p_be, p_wa, p_do, p_do0]; done), G2, by rw [show p_waT 0 0 = [11, 10] from rfl]; have q := t2; (try simp only [List.append_assoc, List.cons_append, List.nil_append, show p_beT 0 = [10] from rfl, show p_waT 0 0 = [11, 10] from rfl] at q); exact q⟩
set_option maxRecDepth 100000 in
set_option maxHeartbeats 600000 in
theorem s_X9_dropping0 {Γ : fx_G} {m : fx_M} (hL : fx_Lay m) {na nd : Nat} {t : p_Sg} (H : fx_MS m na nd t) {p : Nat} (hp : p < na) (hK : t.1 p 0 = 0) {l : List Nat} (ht : fx_trM m l) (hl : l.length + 4 ≤ 20) (x : Int32) : fx_Ct Γ mX9_dropping 3 119 119 [fx_rf Γ 83, .int (nI p), .int x] m (fun r m' => r = some (.int (p_do 0 0 (nI p) (t.1 p 1) x)) ∧ fx_TF m m' ∧ fx_trM m' (l ++ p_doT 0 0)) := by
  refine fx_Ct.of (j := 2) (by decide) (Nat.le_of_ble_eq_true rfl) (Nat.le_of_ble_eq_true rfl) ?_
  show fx_E Γ mX9_dropping 3 119 119 _ 119 m 0 [some (fx_rf Γ 83), some (.int (nI p)), some (.int x), none, none] []
  have h9 := H.2.2.2.2.2.1
  have h5 := H.2.2.2.2.2.2.1
  refine e_aload_n dX9_dropping_0 rfl ?_
  refine e_getr (o2 := 85) dX9_dropping_1 ff_X9_20 rfl (fx_pi_lt (by decide)) (by decide) rfl (hL _ _ _ rfl) ?_
  refine e_iload_n dX9_dropping_4 rfl ?_
  refine e_ialdv (j := p) (v := 0) dX9_dropping_5 rfl (fx_pi_lt (by decide)) rfl (by omega) (by decide) (by have q := H.2.2.2.1 p (by omega) 0 (by decide); rw [hK] at q; exact q) ?_
  refine e_istore_n dX9_dropping_6 (by decide) rfl ?_
  refine e_iload_n dX9_dropping_7 rfl ?_
  refine e_iconst dX9_dropping_8 kci_5 ?_
  refine e_icmp_ne 18 dX9_dropping_9 rfl (fun _ => ?_) (fun h => absurd h (by decide))
  refine e_iload_n dX9_dropping_18 rfl ?_
  refine e_iconst dX9_dropping_19 kci_4 ?_
  refine e_icmp_ne 29 dX9_dropping_20 rfl (fun _ => ?_) (fun h => absurd h (by decide))
  refine e_aload_n dX9_dropping_29 rfl ?_
  refine e_bipush dX9_dropping_30 kcb_12 ?_
  refine e_callV (μ' := mX9_body) (ci := 9) (As := [.int 12]) dX9_dropping_32 wl_X9_312 ok_X9_body rfl rfl (fx_pi_lt (by decide)) (by decide) (Nat.le_of_ble_eq_true rfl) fx_n1 (s_X9_body (m := m) hL ht (by (try simp only [show p_beT 0 = [10] from rfl, show p_waT 0 0 = [11, 10] from rfl, List.length_append, List.length_cons, List.length_nil, List.nil_append]); omega) 12) rfl (fun r_ m_ hpost => ?_)
  revert m_
  intro m1 hpost
  obtain ⟨rfl, g1, t1⟩ := hpost
  have G1 := g1
  have hL1 := G1.lay hL
  have H1 := G1.ms H
  refine e_aload_n dX9_dropping_35 rfl ?_
  refine e_iload_n dX9_dropping_36 rfl ?_
  refine e_iload_n dX9_dropping_37 rfl ?_
  refine e_callV (μ' := mX9_waving) (ci := 9) (As := [.int (nI p), .int x]) dX9_dropping_38 wl_X9_319 ok_X9_waving rfl rfl (fx_pi_lt (by decide)) (by decide) (Nat.le_of_ble_eq_true rfl) fx_n1 (s_X9_waving0 (m := m1) hL1 H1 hp hK t1 (by (try simp only [show p_beT 0 = [10] from rfl, show p_waT 0 0 = [11, 10] from rfl, List.length_append, List.length_cons, List.length_nil, List.nil_append]); omega) x) rfl (fun r_ m_ hpost => ?_)
  revert r_ m_
  intro r_ m2 hpost
  obtain ⟨rfl, g2, t2⟩ := hpost
  have G2 := G1.trans g2
  have hL2 := G2.lay hL
  have H2 := G2.ms H
  refine e_istore dX9_dropping_41 (by decide) rfl ?_
  refine e_iload dX9_dropping_43 rfl ?_
  refine e_aload_n dX9_dropping_45 rfl ?_
  refine e_iload_n dX9_dropping_46 rfl ?_
  refine e_iload_n dX9_dropping_47 rfl ?_
  refine e_aload_n dX9_dropping_48 rfl ?_
  refine e_getr (o2 := 86) dX9_dropping_49 ff_X9_23 rfl (fx_pi_lt (by decide)) (by decide) rfl (hL2 _ _ _ rfl) ?_
  refine e_iload_n dX9_dropping_52 rfl ?_
  refine e_ialdv (j := p) (v := t.1 p 1) dX9_dropping_53 rfl (fx_pi_lt (by decide)) rfl (by omega) (by decide) (H2.2.2.2.1 p (by omega) 1 (by decide)) ?_
  refine e_isub dX9_dropping_54 ?_
  refine e_callV (μ' := mX9_bending) (ci := 9) (As := [.int (nI p), .int (x - (t.1 p 1))]) dX9_dropping_55 wl_X9_316 ok_X9_bending rfl rfl (fx_pi_lt (by decide)) (by decide) (Nat.le_of_ble_eq_true rfl) fx_n1 (s_X9_bending0 (m := m2) hL2 H2 hp hK t2 (by (try simp only [show p_beT 0 = [10] from rfl, show p_waT 0 0 = [11, 10] from rfl, List.length_append, List.length_cons, List.length_nil, List.nil_append]); omega) (x - (t.1 p 1))) rfl (fun r_ m_ hpost => ?_)
  revert r_ m_
  intro r_ m3 hpost
  obtain ⟨rfl, g3, t3⟩ := hpost
  have G3 := G2.trans g3
  have hL3 := G3.lay hL
  have H3 := G3.ms H
  refine e_ixor dX9_dropping_58 ?_
  refine e_istore dX9_dropping_59 (by decide) rfl ?_
  refine e_iload_n dX9_dropping_61 rfl ?_
  refine e_iconst dX9_dropping_62 kci_4 ?_
  refine e_icmp_ne 72 dX9_dropping_63 rfl (fun _ => ?_) (fun h => absurd h (by decide))
  refine e_iload_n dX9_dropping_72 rfl ?_
  refine e_iconst dX9_dropping_73 kci_5 ?_
  refine e_icmp_ne 84 dX9_dropping_74 rfl (fun _ => ?_) (fun h => absurd h (by decide))
  refine e_iload dX9_dropping_84 rfl ?_
  exact e_iret dX9_dropping_86 rfl rfl rfl ⟨by first | rfl | (simp [p_be, p_wa, p_do, p_do0]; done), G3, by rw [show p_doT 0 0 = [12, 11, 10, 10] from rfl]; have q := t3; (try simp only [List.append_assoc, List.cons_append, List.nil_append, show p_beT 0 = [10] from rfl, show p_waT 0 0 = [11, 10] from rfl] at q); exact q⟩
set_option maxRecDepth 100000 in
set_option maxHeartbeats 600000 in
theorem s_X9_bending1 {Γ : fx_G} {m : fx_M} (hL : fx_Lay m) {na nd : Nat} {t : p_Sg} (H : fx_MS m na nd t) {p : Nat} (hp : p < na) (hK : t.1 p 0 = 1) {l : List Nat} (ht : fx_trM m l) (hl : l.length + 2 ≤ 20) (x : Int32) : fx_Ct Γ mX9_bending 1 119 119 [fx_rf Γ 83, .int (nI p), .int x] m (fun r m' => r = some (.int (p_be 1 (nI p) (t.1 p 1) x)) ∧ fx_TF m m' ∧ fx_trM m' (l ++ p_beT 1)) := by
  refine fx_Ct.of (j := 5) (by decide) (Nat.le_of_ble_eq_true rfl) (Nat.le_of_ble_eq_true rfl) ?_
  show fx_E Γ mX9_bending 1 119 119 _ 119 m 0 [some (fx_rf Γ 83), some (.int (nI p)), some (.int x), none, none, none, none, none] []
  have h9 := H.2.2.2.2.2.1
  have h5 := H.2.2.2.2.2.2.1
  refine e_aload_n dX9_bending_0 rfl ?_
  refine e_getr (o2 := 85) dX9_bending_1 ff_X9_20 rfl (fx_pi_lt (by decide)) (by decide) rfl (hL _ _ _ rfl) ?_
  refine e_iload_n dX9_bending_4 rfl ?_
  refine e_ialdv (j := p) (v := 1) dX9_bending_5 rfl (fx_pi_lt (by decide)) rfl (by omega) (by decide) (by have q := H.2.2.2.1 p (by omega) 0 (by decide); rw [hK] at q; exact q) ?_
  refine e_istore_n dX9_bending_6 (by decide) rfl ?_
  refine e_iload_n dX9_bending_7 rfl ?_
  refine e_istore dX9_bending_8 (by decide) rfl ?_
  refine e_aload_n dX9_bending_10 rfl ?_
  refine e_iload_n dX9_bending_11 rfl ?_
  refine e_iconst dX9_bending_12 kci_3 ?_
  refine e_callV (μ' := mX9_isUnder) (ci := 9) (As := [.int 1, .int 3]) dX9_bending_13 wl_X9_143 ok_X9_isUnder rfl rfl (fx_pi_lt (by decide)) (by decide) (Nat.le_of_ble_eq_true rfl) fx_n1 (s_X9_isUnder (m := m) hL 1 3) rfl (fun r_ m_ hpost => ?_)
  obtain ⟨rfl, e2⟩ := hpost
  have e2 := e2.symm
  subst e2
  rw [if_neg (show ¬ p_isU 1 3 by decide)]
  refine e_istore dX9_bending_16 (by decide) rfl ?_
  refine e_aload_n dX9_bending_18 rfl ?_
  refine e_iload_n dX9_bending_19 rfl ?_
  refine e_iconst dX9_bending_20 kci_1 ?_
  refine e_callV (μ' := mX9_isUnder) (ci := 9) (As := [.int 1, .int 1]) dX9_bending_21 wl_X9_143 ok_X9_isUnder rfl rfl (fx_pi_lt (by decide)) (by decide) (Nat.le_of_ble_eq_true rfl) fx_n1 (s_X9_isUnder (m := m) hL 1 1) rfl (fun r_ m_ hpost => ?_)
  obtain ⟨rfl, e2⟩ := hpost
  have e2 := e2.symm
  subst e2
  rw [if_pos (show p_isU 1 1 by decide)]
  refine e_istore dX9_bending_24 (by decide) rfl ?_
  refine e_iload_n dX9_bending_26 rfl ?_
  refine e_bipush dX9_bending_27 kcb_6 ?_
  refine e_icmp_ne 38 dX9_bending_29 rfl (fun _ => ?_) (fun h => absurd h (by decide))
  refine e_iload dX9_bending_38 rfl ?_
  refine e_if_eq 54 dX9_bending_40 rfl (fun _ => ?_) (fun h => absurd (by decide) h)
  refine e_iload dX9_bending_54 rfl ?_
  refine e_if_eq 65 dX9_bending_56 rfl (fun h => absurd h (by decide)) (fun _ => ?_)
  refine e_aload_n dX9_bending_59 rfl ?_
  refine e_bipush dX9_bending_60 kcb_20 ?_
  refine e_callV (μ' := mX9_body) (ci := 9) (As := [.int 20]) dX9_bending_62 wl_X9_312 ok_X9_body rfl rfl (fx_pi_lt (by decide)) (by decide) (Nat.le_of_ble_eq_true rfl) fx_n1 (s_X9_body (m := m) hL ht (by (try simp only [show p_beT 1 = [20, 10] from rfl, show p_waT 1 1 = [11, 20, 10] from rfl, List.length_append, List.length_cons, List.length_nil, List.nil_append]); omega) 20) rfl (fun r_ m_ hpost => ?_)
  revert m_
  intro m1 hpost
  obtain ⟨rfl, g1, t1⟩ := hpost
  have G1 := g1
  have hL1 := G1.lay hL
  have H1 := G1.ms H
  refine e_iload_n dX9_bending_65 rfl ?_
  refine e_iconst dX9_bending_66 kci_4 ?_
  refine e_icmp_ne 76 dX9_bending_67 rfl (fun _ => ?_) (fun h => absurd h (by decide))
  refine e_aload_n dX9_bending_76 rfl ?_
  refine e_bipush dX9_bending_77 kcb_10 ?_
  refine e_callV (μ' := mX9_body) (ci := 9) (As := [.int 10]) dX9_bending_79 wl_X9_312 ok_X9_body rfl rfl (fx_pi_lt (by decide)) (by decide) (Nat.le_of_ble_eq_true rfl) fx_n1 (s_X9_body (m := m1) hL1 t1 (by (try simp only [show p_beT 1 = [20, 10] from rfl, show p_waT 1 1 = [11, 20, 10] from rfl, List.length_append, List.length_cons, List.length_nil, List.nil_append]); omega) 10) rfl (fun r_ m_ hpost => ?_)
  revert m_
  intro m2 hpost
  obtain ⟨rfl, g2, t2⟩ := hpost
  have G2 := G1.trans g2
  have hL2 := G2.lay hL
  have H2 := G2.ms H
  refine e_iload dX9_bending_82 rfl ?_
  refine e_iload_n dX9_bending_84 rfl ?_
  refine e_iadd dX9_bending_85 ?_
  refine e_istore dX9_bending_86 (by decide) rfl ?_
  refine e_iload dX9_bending_88 rfl ?_
  refine e_if_eq 104 dX9_bending_90 rfl (fun h => absurd h (by decide)) (fun _ => ?_)
  refine e_iload dX9_bending_93 rfl ?_
  refine e_aload_n dX9_bending_95 rfl ?_
  refine e_getr (o2 := 86) dX9_bending_96 ff_X9_23 rfl (fx_pi_lt (by decide)) (by decide) rfl (hL2 _ _ _ rfl) ?_
  refine e_iload_n dX9_bending_99 rfl ?_
  refine e_ialdv (j := p) (v := t.1 p 1) dX9_bending_100 rfl (fx_pi_lt (by decide)) rfl (by omega) (by decide) (H2.2.2.2.1 p (by omega) 1 (by decide)) ?_
  refine e_iadd dX9_bending_101 ?_
  refine e_istore dX9_bending_102 (by decide) rfl ?_
  refine e_iload_n dX9_bending_104 rfl ?_
  refine e_iconst dX9_bending_105 kci_4 ?_
  refine e_icmp_ne 115 dX9_bending_106 rfl (fun _ => ?_) (fun h => absurd h (by decide))
  refine e_iload_n dX9_bending_115 rfl ?_
  refine e_bipush dX9_bending_116 kcb_6 ?_
  refine e_icmp_ne 128 dX9_bending_118 rfl (fun _ => ?_) (fun h => absurd h (by decide))
  refine e_iload dX9_bending_128 rfl ?_
  exact e_iret dX9_bending_130 rfl rfl rfl ⟨by first | rfl | (simp [p_be, p_wa, p_do, p_do0]; done), G2, by rw [show p_beT 1 = [20, 10] from rfl]; have q := t2; (try simp only [List.append_assoc, List.cons_append, List.nil_append, show p_beT 1 = [20, 10] from rfl, show p_waT 1 1 = [11, 20, 10] from rfl] at q); exact q⟩
set_option maxRecDepth 100000 in
set_option maxHeartbeats 600000 in
theorem s_X9_waving1 {Γ : fx_G} {m : fx_M} (hL : fx_Lay m) {na nd : Nat} {t : p_Sg} (H : fx_MS m na nd t) {p : Nat} (hp : p < na) (hK : t.1 p 0 = 1) {l : List Nat} (ht : fx_trM m l) (hl : l.length + 3 ≤ 20) (x : Int32) : fx_Ct Γ mX9_waving 2 119 119 [fx_rf Γ 83, .int (nI p), .int x] m (fun r m' => r = some (.int (p_wa 1 1 (nI p) (t.1 p 1) x)) ∧ fx_TF m m' ∧ fx_trM m' (l ++ p_waT 1 1)) := by
  refine fx_Ct.of (j := 4) (by decide) (Nat.le_of_ble_eq_true rfl) (Nat.le_of_ble_eq_true rfl) ?_
  show fx_E Γ mX9_waving 2 119 119 _ 119 m 0 [some (fx_rf Γ 83), some (.int (nI p)), some (.int x), none, none, none, none] []
  have h9 := H.2.2.2.2.2.1
  have h5 := H.2.2.2.2.2.2.1
  refine e_aload_n dX9_waving_0 rfl ?_
  refine e_getr (o2 := 85) dX9_waving_1 ff_X9_20 rfl (fx_pi_lt (by decide)) (by decide) rfl (hL _ _ _ rfl) ?_
  refine e_iload_n dX9_waving_4 rfl ?_
  refine e_ialdv (j := p) (v := 1) dX9_waving_5 rfl (fx_pi_lt (by decide)) rfl (by omega) (by decide) (by have q := H.2.2.2.1 p (by omega) 0 (by decide); rw [hK] at q; exact q) ?_
  refine e_istore_n dX9_waving_6 (by decide) rfl ?_
  refine e_iload_n dX9_waving_7 rfl ?_
  refine e_istore dX9_waving_8 (by decide) rfl ?_
  refine e_iload_n dX9_waving_10 rfl ?_
  refine e_bipush dX9_waving_11 kcb_6 ?_
  refine e_icmp_ne 32 dX9_waving_13 rfl (fun _ => ?_) (fun h => absurd h (by decide))
  refine e_aload_n dX9_waving_32 rfl ?_
  refine e_iload_n dX9_waving_33 rfl ?_
  refine e_iconst dX9_waving_34 kci_2 ?_
  refine e_callV (μ' := mX9_isUnder) (ci := 9) (As := [.int 1, .int 2]) dX9_waving_35 wl_X9_143 ok_X9_isUnder rfl rfl (fx_pi_lt (by decide)) (by decide) (Nat.le_of_ble_eq_true rfl) fx_n1 (s_X9_isUnder (m := m) hL 1 2) rfl (fun r_ m_ hpost => ?_)
  obtain ⟨rfl, e2⟩ := hpost
  have e2 := e2.symm
  subst e2
  rw [if_neg (show ¬ p_isU 1 2 by decide)]
  refine e_istore dX9_waving_38 (by decide) rfl ?_
  refine e_iload dX9_waving_40 rfl ?_
  refine e_if_eq 51 dX9_waving_42 rfl (fun _ => ?_) (fun h => absurd (by decide) h)
  refine e_aload_n dX9_waving_51 rfl ?_
  refine e_bipush dX9_waving_52 kcb_11 ?_
  refine e_callV (μ' := mX9_body) (ci := 9) (As := [.int 11]) dX9_waving_54 wl_X9_312 ok_X9_body rfl rfl (fx_pi_lt (by decide)) (by decide) (Nat.le_of_ble_eq_true rfl) fx_n1 (s_X9_body (m := m) hL ht (by (try simp only [show p_beT 1 = [20, 10] from rfl, show p_waT 1 1 = [11, 20, 10] from rfl, List.length_append, List.length_cons, List.length_nil, List.nil_append]); omega) 11) rfl (fun r_ m_ hpost => ?_)
  revert m_
  intro m1 hpost
  obtain ⟨rfl, g1, t1⟩ := hpost
  have G1 := g1
  have hL1 := G1.lay hL
  have H1 := G1.ms H
  refine e_aload_n dX9_waving_57 rfl ?_
  refine e_iload_n dX9_waving_58 rfl ?_
  refine e_iload dX9_waving_59 rfl ?_
  refine e_callV (μ' := mX9_bending) (ci := 9) (As := [.int (nI p), .int x]) dX9_waving_61 wl_X9_316 ok_X9_bending rfl rfl (fx_pi_lt (by decide)) (by decide) (Nat.le_of_ble_eq_true rfl) fx_n1 (s_X9_bending1 (m := m1) hL1 H1 hp hK t1 (by (try simp only [show p_beT 1 = [20, 10] from rfl, show p_waT 1 1 = [11, 20, 10] from rfl, List.length_append, List.length_cons, List.length_nil, List.nil_append]); omega) x) rfl (fun r_ m_ hpost => ?_)
  revert r_ m_
  intro r_ m2 hpost
  obtain ⟨rfl, g2, t2⟩ := hpost
  have G2 := G1.trans g2
  have hL2 := G2.lay hL
  have H2 := G2.ms H
  refine e_iconst dX9_waving_64 kci_2 ?_
  refine e_imul dX9_waving_65 ?_
  refine e_istore dX9_waving_66 (by decide) rfl ?_
  refine e_iload dX9_waving_68 rfl ?_
  refine e_if_eq 80 dX9_waving_70 rfl (fun _ => ?_) (fun h => absurd (by decide) h)
  refine e_iload dX9_waving_80 rfl ?_
  exact e_iret dX9_waving_82 rfl rfl rfl ⟨by first | rfl | (simp [p_be, p_wa, p_do, p_do0]; done), G2, by rw [show p_waT 1 1 = [11, 20, 10] from rfl]; have q := t2; (try simp only [List.append_assoc, List.cons_append, List.nil_append, show p_beT 1 = [20, 10] from rfl, show p_waT 1 1 = [11, 20, 10] from rfl] at q); exact q⟩
set_option maxRecDepth 100000 in
set_option maxHeartbeats 600000 in
theorem s_X9_dropping1 {Γ : fx_G} {m : fx_M} (hL : fx_Lay m) {na nd : Nat} {t : p_Sg} (H : fx_MS m na nd t) {p : Nat} (hp : p < na) (hK : t.1 p 0 = 1) {l : List Nat} (ht : fx_trM m l) (hl : l.length + 6 ≤ 20) (x : Int32) : fx_Ct Γ mX9_dropping 3 119 119 [fx_rf Γ 83, .int (nI p), .int x] m (fun r m' => r = some (.int (p_do 1 1 (nI p) (t.1 p 1) x)) ∧ fx_TF m m' ∧ fx_trM m' (l ++ p_doT 1 1)) := by
  refine fx_Ct.of (j := 2) (by decide) (Nat.le_of_ble_eq_true rfl) (Nat.le_of_ble_eq_true rfl) ?_
  show fx_E Γ mX9_dropping 3 119 119 _ 119 m 0 [some (fx_rf Γ 83), some (.int (nI p)), some (.int x), none, none] []
  have h9 := H.2.2.2.2.2.1
  have h5 := H.2.2.2.2.2.2.1
  refine e_aload_n dX9_dropping_0 rfl ?_
  refine e_getr (o2 := 85) dX9_dropping_1 ff_X9_20 rfl (fx_pi_lt (by decide)) (by decide) rfl (hL _ _ _ rfl) ?_
  refine e_iload_n dX9_dropping_4 rfl ?_
  refine e_ialdv (j := p) (v := 1) dX9_dropping_5 rfl (fx_pi_lt (by decide)) rfl (by omega) (by decide) (by have q := H.2.2.2.1 p (by omega) 0 (by decide); rw [hK] at q; exact q) ?_
  refine e_istore_n dX9_dropping_6 (by decide) rfl ?_
  refine e_iload_n dX9_dropping_7 rfl ?_
  refine e_iconst dX9_dropping_8 kci_5 ?_
  refine e_icmp_ne 18 dX9_dropping_9 rfl (fun _ => ?_) (fun h => absurd h (by decide))
  refine e_iload_n dX9_dropping_18 rfl ?_
  refine e_iconst dX9_dropping_19 kci_4 ?_
  refine e_icmp_ne 29 dX9_dropping_20 rfl (fun _ => ?_) (fun h => absurd h (by decide))
  refine e_aload_n dX9_dropping_29 rfl ?_
  refine e_bipush dX9_dropping_30 kcb_12 ?_
  refine e_callV (μ' := mX9_body) (ci := 9) (As := [.int 12]) dX9_dropping_32 wl_X9_312 ok_X9_body rfl rfl (fx_pi_lt (by decide)) (by decide) (Nat.le_of_ble_eq_true rfl) fx_n1 (s_X9_body (m := m) hL ht (by (try simp only [show p_beT 1 = [20, 10] from rfl, show p_waT 1 1 = [11, 20, 10] from rfl, List.length_append, List.length_cons, List.length_nil, List.nil_append]); omega) 12) rfl (fun r_ m_ hpost => ?_)
  revert m_
  intro m1 hpost
  obtain ⟨rfl, g1, t1⟩ := hpost
  have G1 := g1
  have hL1 := G1.lay hL
  have H1 := G1.ms H
  refine e_aload_n dX9_dropping_35 rfl ?_
  refine e_iload_n dX9_dropping_36 rfl ?_
  refine e_iload_n dX9_dropping_37 rfl ?_
  refine e_callV (μ' := mX9_waving) (ci := 9) (As := [.int (nI p), .int x]) dX9_dropping_38 wl_X9_319 ok_X9_waving rfl rfl (fx_pi_lt (by decide)) (by decide) (Nat.le_of_ble_eq_true rfl) fx_n1 (s_X9_waving1 (m := m1) hL1 H1 hp hK t1 (by (try simp only [show p_beT 1 = [20, 10] from rfl, show p_waT 1 1 = [11, 20, 10] from rfl, List.length_append, List.length_cons, List.length_nil, List.nil_append]); omega) x) rfl (fun r_ m_ hpost => ?_)
  revert r_ m_
  intro r_ m2 hpost
  obtain ⟨rfl, g2, t2⟩ := hpost
  have G2 := G1.trans g2
  have hL2 := G2.lay hL
  have H2 := G2.ms H
  refine e_istore dX9_dropping_41 (by decide) rfl ?_
  refine e_iload dX9_dropping_43 rfl ?_
  refine e_aload_n dX9_dropping_45 rfl ?_
  refine e_iload_n dX9_dropping_46 rfl ?_
  refine e_iload_n dX9_dropping_47 rfl ?_
  refine e_aload_n dX9_dropping_48 rfl ?_
  refine e_getr (o2 := 86) dX9_dropping_49 ff_X9_23 rfl (fx_pi_lt (by decide)) (by decide) rfl (hL2 _ _ _ rfl) ?_
  refine e_iload_n dX9_dropping_52 rfl ?_
  refine e_ialdv (j := p) (v := t.1 p 1) dX9_dropping_53 rfl (fx_pi_lt (by decide)) rfl (by omega) (by decide) (H2.2.2.2.1 p (by omega) 1 (by decide)) ?_
  refine e_isub dX9_dropping_54 ?_
  refine e_callV (μ' := mX9_bending) (ci := 9) (As := [.int (nI p), .int (x - (t.1 p 1))]) dX9_dropping_55 wl_X9_316 ok_X9_bending rfl rfl (fx_pi_lt (by decide)) (by decide) (Nat.le_of_ble_eq_true rfl) fx_n1 (s_X9_bending1 (m := m2) hL2 H2 hp hK t2 (by (try simp only [show p_beT 1 = [20, 10] from rfl, show p_waT 1 1 = [11, 20, 10] from rfl, List.length_append, List.length_cons, List.length_nil, List.nil_append]); omega) (x - (t.1 p 1))) rfl (fun r_ m_ hpost => ?_)
  revert r_ m_
  intro r_ m3 hpost
  obtain ⟨rfl, g3, t3⟩ := hpost
  have G3 := G2.trans g3
  have hL3 := G3.lay hL
  have H3 := G3.ms H
  refine e_ixor dX9_dropping_58 ?_
  refine e_istore dX9_dropping_59 (by decide) rfl ?_
  refine e_iload_n dX9_dropping_61 rfl ?_
  refine e_iconst dX9_dropping_62 kci_4 ?_
  refine e_icmp_ne 72 dX9_dropping_63 rfl (fun _ => ?_) (fun h => absurd h (by decide))
  refine e_iload_n dX9_dropping_72 rfl ?_
  refine e_iconst dX9_dropping_73 kci_5 ?_
  refine e_icmp_ne 84 dX9_dropping_74 rfl (fun _ => ?_) (fun h => absurd h (by decide))
  refine e_iload dX9_dropping_84 rfl ?_
  exact e_iret dX9_dropping_86 rfl rfl rfl ⟨by first | rfl | (simp [p_be, p_wa, p_do, p_do0]; done), G3, by rw [show p_doT 1 1 = [12, 11, 20, 10, 20, 10] from rfl]; have q := t3; (try simp only [List.append_assoc, List.cons_append, List.nil_append, show p_beT 1 = [20, 10] from rfl, show p_waT 1 1 = [11, 20, 10] from rfl] at q); exact q⟩
set_option maxRecDepth 100000 in
set_option maxHeartbeats 600000 in
theorem s_X9_bending2 {Γ : fx_G} {m : fx_M} (hL : fx_Lay m) {na nd : Nat} {t : p_Sg} (H : fx_MS m na nd t) {p : Nat} (hp : p < na) (hK : t.1 p 0 = 2) {l : List Nat} (ht : fx_trM m l) (hl : l.length + 1 ≤ 20) (x : Int32) : fx_Ct Γ mX9_bending 1 119 119 [fx_rf Γ 83, .int (nI p), .int x] m (fun r m' => r = some (.int (p_be 2 (nI p) (t.1 p 1) x)) ∧ fx_TF m m' ∧ fx_trM m' (l ++ p_beT 2)) := by
  refine fx_Ct.of (j := 5) (by decide) (Nat.le_of_ble_eq_true rfl) (Nat.le_of_ble_eq_true rfl) ?_
  show fx_E Γ mX9_bending 1 119 119 _ 119 m 0 [some (fx_rf Γ 83), some (.int (nI p)), some (.int x), none, none, none, none, none] []
  have h9 := H.2.2.2.2.2.1
  have h5 := H.2.2.2.2.2.2.1
  refine e_aload_n dX9_bending_0 rfl ?_
  refine e_getr (o2 := 85) dX9_bending_1 ff_X9_20 rfl (fx_pi_lt (by decide)) (by decide) rfl (hL _ _ _ rfl) ?_
  refine e_iload_n dX9_bending_4 rfl ?_
  refine e_ialdv (j := p) (v := 2) dX9_bending_5 rfl (fx_pi_lt (by decide)) rfl (by omega) (by decide) (by have q := H.2.2.2.1 p (by omega) 0 (by decide); rw [hK] at q; exact q) ?_
  refine e_istore_n dX9_bending_6 (by decide) rfl ?_
  refine e_iload_n dX9_bending_7 rfl ?_
  refine e_istore dX9_bending_8 (by decide) rfl ?_
  refine e_aload_n dX9_bending_10 rfl ?_
  refine e_iload_n dX9_bending_11 rfl ?_
  refine e_iconst dX9_bending_12 kci_3 ?_
  refine e_callV (μ' := mX9_isUnder) (ci := 9) (As := [.int 2, .int 3]) dX9_bending_13 wl_X9_143 ok_X9_isUnder rfl rfl (fx_pi_lt (by decide)) (by decide) (Nat.le_of_ble_eq_true rfl) fx_n1 (s_X9_isUnder (m := m) hL 2 3) rfl (fun r_ m_ hpost => ?_)
  obtain ⟨rfl, e2⟩ := hpost
  have e2 := e2.symm
  subst e2
  rw [if_neg (show ¬ p_isU 2 3 by decide)]
  refine e_istore dX9_bending_16 (by decide) rfl ?_
  refine e_aload_n dX9_bending_18 rfl ?_
  refine e_iload_n dX9_bending_19 rfl ?_
  refine e_iconst dX9_bending_20 kci_1 ?_
  refine e_callV (μ' := mX9_isUnder) (ci := 9) (As := [.int 2, .int 1]) dX9_bending_21 wl_X9_143 ok_X9_isUnder rfl rfl (fx_pi_lt (by decide)) (by decide) (Nat.le_of_ble_eq_true rfl) fx_n1 (s_X9_isUnder (m := m) hL 2 1) rfl (fun r_ m_ hpost => ?_)
  obtain ⟨rfl, e2⟩ := hpost
  have e2 := e2.symm
  subst e2
  rw [if_neg (show ¬ p_isU 2 1 by decide)]
  refine e_istore dX9_bending_24 (by decide) rfl ?_
  refine e_iload_n dX9_bending_26 rfl ?_
  refine e_bipush dX9_bending_27 kcb_6 ?_
  refine e_icmp_ne 38 dX9_bending_29 rfl (fun _ => ?_) (fun h => absurd h (by decide))
  refine e_iload dX9_bending_38 rfl ?_
  refine e_if_eq 54 dX9_bending_40 rfl (fun _ => ?_) (fun h => absurd (by decide) h)
  refine e_iload dX9_bending_54 rfl ?_
  refine e_if_eq 65 dX9_bending_56 rfl (fun _ => ?_) (fun h => absurd (by decide) h)
  refine e_iload_n dX9_bending_65 rfl ?_
  refine e_iconst dX9_bending_66 kci_4 ?_
  refine e_icmp_ne 76 dX9_bending_67 rfl (fun _ => ?_) (fun h => absurd h (by decide))
  refine e_aload_n dX9_bending_76 rfl ?_
  refine e_bipush dX9_bending_77 kcb_10 ?_
  refine e_callV (μ' := mX9_body) (ci := 9) (As := [.int 10]) dX9_bending_79 wl_X9_312 ok_X9_body rfl rfl (fx_pi_lt (by decide)) (by decide) (Nat.le_of_ble_eq_true rfl) fx_n1 (s_X9_body (m := m) hL ht (by (try simp only [show p_beT 2 = [10] from rfl, show p_waT 2 2 = [30, 11, 10] from rfl, List.length_append, List.length_cons, List.length_nil, List.nil_append]); omega) 10) rfl (fun r_ m_ hpost => ?_)
  revert m_
  intro m1 hpost
  obtain ⟨rfl, g1, t1⟩ := hpost
  have G1 := g1
  have hL1 := G1.lay hL
  have H1 := G1.ms H
  refine e_iload dX9_bending_82 rfl ?_
  refine e_iload_n dX9_bending_84 rfl ?_
  refine e_iadd dX9_bending_85 ?_
  refine e_istore dX9_bending_86 (by decide) rfl ?_
  refine e_iload dX9_bending_88 rfl ?_
  refine e_if_eq 104 dX9_bending_90 rfl (fun _ => ?_) (fun h => absurd (by decide) h)
  refine e_iload_n dX9_bending_104 rfl ?_
  refine e_iconst dX9_bending_105 kci_4 ?_
  refine e_icmp_ne 115 dX9_bending_106 rfl (fun _ => ?_) (fun h => absurd h (by decide))
  refine e_iload_n dX9_bending_115 rfl ?_
  refine e_bipush dX9_bending_116 kcb_6 ?_
  refine e_icmp_ne 128 dX9_bending_118 rfl (fun _ => ?_) (fun h => absurd h (by decide))
  refine e_iload dX9_bending_128 rfl ?_
  exact e_iret dX9_bending_130 rfl rfl rfl ⟨by first | rfl | (simp [p_be, p_wa, p_do, p_do0]; done), G1, by rw [show p_beT 2 = [10] from rfl]; have q := t1; (try simp only [List.append_assoc, List.cons_append, List.nil_append, show p_beT 2 = [10] from rfl, show p_waT 2 2 = [30, 11, 10] from rfl] at q); exact q⟩
set_option maxRecDepth 100000 in
set_option maxHeartbeats 600000 in
theorem s_X9_waving2 {Γ : fx_G} {m : fx_M} (hL : fx_Lay m) {na nd : Nat} {t : p_Sg} (H : fx_MS m na nd t) {p : Nat} (hp : p < na) (hK : t.1 p 0 = 2) {l : List Nat} (ht : fx_trM m l) (hl : l.length + 3 ≤ 20) (x : Int32) : fx_Ct Γ mX9_waving 2 119 119 [fx_rf Γ 83, .int (nI p), .int x] m (fun r m' => r = some (.int (p_wa 2 2 (nI p) (t.1 p 1) x)) ∧ fx_TF m m' ∧ fx_trM m' (l ++ p_waT 2 2)) := by
  refine fx_Ct.of (j := 4) (by decide) (Nat.le_of_ble_eq_true rfl) (Nat.le_of_ble_eq_true rfl) ?_
  show fx_E Γ mX9_waving 2 119 119 _ 119 m 0 [some (fx_rf Γ 83), some (.int (nI p)), some (.int x), none, none, none, none] []
  have h9 := H.2.2.2.2.2.1
  have h5 := H.2.2.2.2.2.2.1
  refine e_aload_n dX9_waving_0 rfl ?_
  refine e_getr (o2 := 85) dX9_waving_1 ff_X9_20 rfl (fx_pi_lt (by decide)) (by decide) rfl (hL _ _ _ rfl) ?_
  refine e_iload_n dX9_waving_4 rfl ?_
  refine e_ialdv (j := p) (v := 2) dX9_waving_5 rfl (fx_pi_lt (by decide)) rfl (by omega) (by decide) (by have q := H.2.2.2.1 p (by omega) 0 (by decide); rw [hK] at q; exact q) ?_
  refine e_istore_n dX9_waving_6 (by decide) rfl ?_
  refine e_iload_n dX9_waving_7 rfl ?_
  refine e_istore dX9_waving_8 (by decide) rfl ?_
  refine e_iload_n dX9_waving_10 rfl ?_
  refine e_bipush dX9_waving_11 kcb_6 ?_
  refine e_icmp_ne 32 dX9_waving_13 rfl (fun _ => ?_) (fun h => absurd h (by decide))
  refine e_aload_n dX9_waving_32 rfl ?_
  refine e_iload_n dX9_waving_33 rfl ?_
  refine e_iconst dX9_waving_34 kci_2 ?_
  refine e_callV (μ' := mX9_isUnder) (ci := 9) (As := [.int 2, .int 2]) dX9_waving_35 wl_X9_143 ok_X9_isUnder rfl rfl (fx_pi_lt (by decide)) (by decide) (Nat.le_of_ble_eq_true rfl) fx_n1 (s_X9_isUnder (m := m) hL 2 2) rfl (fun r_ m_ hpost => ?_)
  obtain ⟨rfl, e2⟩ := hpost
  have e2 := e2.symm
  subst e2
  rw [if_pos (show p_isU 2 2 by decide)]
  refine e_istore dX9_waving_38 (by decide) rfl ?_
  refine e_iload dX9_waving_40 rfl ?_
  refine e_if_eq 51 dX9_waving_42 rfl (fun h => absurd h (by decide)) (fun _ => ?_)
  refine e_aload_n dX9_waving_45 rfl ?_
  refine e_bipush dX9_waving_46 kcb_30 ?_
  refine e_callV (μ' := mX9_body) (ci := 9) (As := [.int 30]) dX9_waving_48 wl_X9_312 ok_X9_body rfl rfl (fx_pi_lt (by decide)) (by decide) (Nat.le_of_ble_eq_true rfl) fx_n1 (s_X9_body (m := m) hL ht (by (try simp only [show p_beT 2 = [10] from rfl, show p_waT 2 2 = [30, 11, 10] from rfl, List.length_append, List.length_cons, List.length_nil, List.nil_append]); omega) 30) rfl (fun r_ m_ hpost => ?_)
  revert m_
  intro m1 hpost
  obtain ⟨rfl, g1, t1⟩ := hpost
  have G1 := g1
  have hL1 := G1.lay hL
  have H1 := G1.ms H
  refine e_aload_n dX9_waving_51 rfl ?_
  refine e_bipush dX9_waving_52 kcb_11 ?_
  refine e_callV (μ' := mX9_body) (ci := 9) (As := [.int 11]) dX9_waving_54 wl_X9_312 ok_X9_body rfl rfl (fx_pi_lt (by decide)) (by decide) (Nat.le_of_ble_eq_true rfl) fx_n1 (s_X9_body (m := m1) hL1 t1 (by (try simp only [show p_beT 2 = [10] from rfl, show p_waT 2 2 = [30, 11, 10] from rfl, List.length_append, List.length_cons, List.length_nil, List.nil_append]); omega) 11) rfl (fun r_ m_ hpost => ?_)
  revert m_
  intro m2 hpost
  obtain ⟨rfl, g2, t2⟩ := hpost
  have G2 := G1.trans g2
  have hL2 := G2.lay hL
  have H2 := G2.ms H
  refine e_aload_n dX9_waving_57 rfl ?_
  refine e_iload_n dX9_waving_58 rfl ?_
  refine e_iload dX9_waving_59 rfl ?_
  refine e_callV (μ' := mX9_bending) (ci := 9) (As := [.int (nI p), .int x]) dX9_waving_61 wl_X9_316 ok_X9_bending rfl rfl (fx_pi_lt (by decide)) (by decide) (Nat.le_of_ble_eq_true rfl) fx_n1 (s_X9_bending2 (m := m2) hL2 H2 hp hK t2 (by (try simp only [show p_beT 2 = [10] from rfl, show p_waT 2 2 = [30, 11, 10] from rfl, List.length_append, List.length_cons, List.length_nil, List.nil_append]); omega) x) rfl (fun r_ m_ hpost => ?_)
  revert r_ m_
  intro r_ m3 hpost
  obtain ⟨rfl, g3, t3⟩ := hpost
  have G3 := G2.trans g3
  have hL3 := G3.lay hL
  have H3 := G3.ms H
  refine e_iconst dX9_waving_64 kci_2 ?_
  refine e_imul dX9_waving_65 ?_
  refine e_istore dX9_waving_66 (by decide) rfl ?_
  refine e_iload dX9_waving_68 rfl ?_
  refine e_if_eq 80 dX9_waving_70 rfl (fun h => absurd h (by decide)) (fun _ => ?_)
  refine e_iload dX9_waving_73 rfl ?_
  refine e_iconst dX9_waving_75 kci_3 ?_
  refine e_imul dX9_waving_76 ?_
  refine e_goto 82 dX9_waving_77 rfl ?_
  exact e_iret dX9_waving_82 rfl rfl rfl ⟨by first | rfl | (simp [p_be, p_wa, p_do, p_do0]; done), G3, by rw [show p_waT 2 2 = [30, 11, 10] from rfl]; have q := t3; (try simp only [List.append_assoc, List.cons_append, List.nil_append, show p_beT 2 = [10] from rfl, show p_waT 2 2 = [30, 11, 10] from rfl] at q); exact q⟩
set_option maxRecDepth 100000 in
set_option maxHeartbeats 600000 in
theorem s_X9_dropping2 {Γ : fx_G} {m : fx_M} (hL : fx_Lay m) {na nd : Nat} {t : p_Sg} (H : fx_MS m na nd t) {p : Nat} (hp : p < na) (hK : t.1 p 0 = 2) {l : List Nat} (ht : fx_trM m l) (hl : l.length + 5 ≤ 20) (x : Int32) : fx_Ct Γ mX9_dropping 3 119 119 [fx_rf Γ 83, .int (nI p), .int x] m (fun r m' => r = some (.int (p_do 2 2 (nI p) (t.1 p 1) x)) ∧ fx_TF m m' ∧ fx_trM m' (l ++ p_doT 2 2)) := by
  refine fx_Ct.of (j := 2) (by decide) (Nat.le_of_ble_eq_true rfl) (Nat.le_of_ble_eq_true rfl) ?_
  show fx_E Γ mX9_dropping 3 119 119 _ 119 m 0 [some (fx_rf Γ 83), some (.int (nI p)), some (.int x), none, none] []
  have h9 := H.2.2.2.2.2.1
  have h5 := H.2.2.2.2.2.2.1
  refine e_aload_n dX9_dropping_0 rfl ?_
  refine e_getr (o2 := 85) dX9_dropping_1 ff_X9_20 rfl (fx_pi_lt (by decide)) (by decide) rfl (hL _ _ _ rfl) ?_
  refine e_iload_n dX9_dropping_4 rfl ?_
  refine e_ialdv (j := p) (v := 2) dX9_dropping_5 rfl (fx_pi_lt (by decide)) rfl (by omega) (by decide) (by have q := H.2.2.2.1 p (by omega) 0 (by decide); rw [hK] at q; exact q) ?_
  refine e_istore_n dX9_dropping_6 (by decide) rfl ?_
  refine e_iload_n dX9_dropping_7 rfl ?_
  refine e_iconst dX9_dropping_8 kci_5 ?_
  refine e_icmp_ne 18 dX9_dropping_9 rfl (fun _ => ?_) (fun h => absurd h (by decide))
  refine e_iload_n dX9_dropping_18 rfl ?_
  refine e_iconst dX9_dropping_19 kci_4 ?_
  refine e_icmp_ne 29 dX9_dropping_20 rfl (fun _ => ?_) (fun h => absurd h (by decide))
  refine e_aload_n dX9_dropping_29 rfl ?_
  refine e_bipush dX9_dropping_30 kcb_12 ?_
  refine e_callV (μ' := mX9_body) (ci := 9) (As := [.int 12]) dX9_dropping_32 wl_X9_312 ok_X9_body rfl rfl (fx_pi_lt (by decide)) (by decide) (Nat.le_of_ble_eq_true rfl) fx_n1 (s_X9_body (m := m) hL ht (by (try simp only [show p_beT 2 = [10] from rfl, show p_waT 2 2 = [30, 11, 10] from rfl, List.length_append, List.length_cons, List.length_nil, List.nil_append]); omega) 12) rfl (fun r_ m_ hpost => ?_)
  revert m_
  intro m1 hpost
  obtain ⟨rfl, g1, t1⟩ := hpost
  have G1 := g1
  have hL1 := G1.lay hL
  have H1 := G1.ms H
  refine e_aload_n dX9_dropping_35 rfl ?_
  refine e_iload_n dX9_dropping_36 rfl ?_
  refine e_iload_n dX9_dropping_37 rfl ?_
  refine e_callV (μ' := mX9_waving) (ci := 9) (As := [.int (nI p), .int x]) dX9_dropping_38 wl_X9_319 ok_X9_waving rfl rfl (fx_pi_lt (by decide)) (by decide) (Nat.le_of_ble_eq_true rfl) fx_n1 (s_X9_waving2 (m := m1) hL1 H1 hp hK t1 (by (try simp only [show p_beT 2 = [10] from rfl, show p_waT 2 2 = [30, 11, 10] from rfl, List.length_append, List.length_cons, List.length_nil, List.nil_append]); omega) x) rfl (fun r_ m_ hpost => ?_)
  revert r_ m_
  intro r_ m2 hpost
  obtain ⟨rfl, g2, t2⟩ := hpost
  have G2 := G1.trans g2
  have hL2 := G2.lay hL
  have H2 := G2.ms H
  refine e_istore dX9_dropping_41 (by decide) rfl ?_
  refine e_iload dX9_dropping_43 rfl ?_
  refine e_aload_n dX9_dropping_45 rfl ?_
  refine e_iload_n dX9_dropping_46 rfl ?_
  refine e_iload_n dX9_dropping_47 rfl ?_
  refine e_aload_n dX9_dropping_48 rfl ?_
  refine e_getr (o2 := 86) dX9_dropping_49 ff_X9_23 rfl (fx_pi_lt (by decide)) (by decide) rfl (hL2 _ _ _ rfl) ?_
  refine e_iload_n dX9_dropping_52 rfl ?_
  refine e_ialdv (j := p) (v := t.1 p 1) dX9_dropping_53 rfl (fx_pi_lt (by decide)) rfl (by omega) (by decide) (H2.2.2.2.1 p (by omega) 1 (by decide)) ?_
  refine e_isub dX9_dropping_54 ?_
  refine e_callV (μ' := mX9_bending) (ci := 9) (As := [.int (nI p), .int (x - (t.1 p 1))]) dX9_dropping_55 wl_X9_316 ok_X9_bending rfl rfl (fx_pi_lt (by decide)) (by decide) (Nat.le_of_ble_eq_true rfl) fx_n1 (s_X9_bending2 (m := m2) hL2 H2 hp hK t2 (by (try simp only [show p_beT 2 = [10] from rfl, show p_waT 2 2 = [30, 11, 10] from rfl, List.length_append, List.length_cons, List.length_nil, List.nil_append]); omega) (x - (t.1 p 1))) rfl (fun r_ m_ hpost => ?_)
  revert r_ m_
  intro r_ m3 hpost
  obtain ⟨rfl, g3, t3⟩ := hpost
  have G3 := G2.trans g3
  have hL3 := G3.lay hL
  have H3 := G3.ms H
  refine e_ixor dX9_dropping_58 ?_
  refine e_istore dX9_dropping_59 (by decide) rfl ?_
  refine e_iload_n dX9_dropping_61 rfl ?_
  refine e_iconst dX9_dropping_62 kci_4 ?_
  refine e_icmp_ne 72 dX9_dropping_63 rfl (fun _ => ?_) (fun h => absurd h (by decide))
  refine e_iload_n dX9_dropping_72 rfl ?_
  refine e_iconst dX9_dropping_73 kci_5 ?_
  refine e_icmp_ne 84 dX9_dropping_74 rfl (fun _ => ?_) (fun h => absurd h (by decide))
  refine e_iload dX9_dropping_84 rfl ?_
  exact e_iret dX9_dropping_86 rfl rfl rfl ⟨by first | rfl | (simp [p_be, p_wa, p_do, p_do0]; done), G3, by rw [show p_doT 2 2 = [12, 30, 11, 10, 10] from rfl]; have q := t3; (try simp only [List.append_assoc, List.cons_append, List.nil_append, show p_beT 2 = [10] from rfl, show p_waT 2 2 = [30, 11, 10] from rfl] at q); exact q⟩
set_option maxRecDepth 100000 in
set_option maxHeartbeats 600000 in
theorem s_X9_bending3 {Γ : fx_G} {m : fx_M} (hL : fx_Lay m) {na nd : Nat} {t : p_Sg} (H : fx_MS m na nd t) {p : Nat} (hp : p < na) (hK : t.1 p 0 = 3) {l : List Nat} (ht : fx_trM m l) (hl : l.length + 3 ≤ 20) (x : Int32) : fx_Ct Γ mX9_bending 1 119 119 [fx_rf Γ 83, .int (nI p), .int x] m (fun r m' => r = some (.int (p_be 3 (nI p) (t.1 p 1) x)) ∧ fx_TF m m' ∧ fx_trM m' (l ++ p_beT 3)) := by
  refine fx_Ct.of (j := 5) (by decide) (Nat.le_of_ble_eq_true rfl) (Nat.le_of_ble_eq_true rfl) ?_
  show fx_E Γ mX9_bending 1 119 119 _ 119 m 0 [some (fx_rf Γ 83), some (.int (nI p)), some (.int x), none, none, none, none, none] []
  have h9 := H.2.2.2.2.2.1
  have h5 := H.2.2.2.2.2.2.1
  refine e_aload_n dX9_bending_0 rfl ?_
  refine e_getr (o2 := 85) dX9_bending_1 ff_X9_20 rfl (fx_pi_lt (by decide)) (by decide) rfl (hL _ _ _ rfl) ?_
  refine e_iload_n dX9_bending_4 rfl ?_
  refine e_ialdv (j := p) (v := 3) dX9_bending_5 rfl (fx_pi_lt (by decide)) rfl (by omega) (by decide) (by have q := H.2.2.2.1 p (by omega) 0 (by decide); rw [hK] at q; exact q) ?_
  refine e_istore_n dX9_bending_6 (by decide) rfl ?_
  refine e_iload_n dX9_bending_7 rfl ?_
  refine e_istore dX9_bending_8 (by decide) rfl ?_
  refine e_aload_n dX9_bending_10 rfl ?_
  refine e_iload_n dX9_bending_11 rfl ?_
  refine e_iconst dX9_bending_12 kci_3 ?_
  refine e_callV (μ' := mX9_isUnder) (ci := 9) (As := [.int 3, .int 3]) dX9_bending_13 wl_X9_143 ok_X9_isUnder rfl rfl (fx_pi_lt (by decide)) (by decide) (Nat.le_of_ble_eq_true rfl) fx_n1 (s_X9_isUnder (m := m) hL 3 3) rfl (fun r_ m_ hpost => ?_)
  obtain ⟨rfl, e2⟩ := hpost
  have e2 := e2.symm
  subst e2
  rw [if_pos (show p_isU 3 3 by decide)]
  refine e_istore dX9_bending_16 (by decide) rfl ?_
  refine e_aload_n dX9_bending_18 rfl ?_
  refine e_iload_n dX9_bending_19 rfl ?_
  refine e_iconst dX9_bending_20 kci_1 ?_
  refine e_callV (μ' := mX9_isUnder) (ci := 9) (As := [.int 3, .int 1]) dX9_bending_21 wl_X9_143 ok_X9_isUnder rfl rfl (fx_pi_lt (by decide)) (by decide) (Nat.le_of_ble_eq_true rfl) fx_n1 (s_X9_isUnder (m := m) hL 3 1) rfl (fun r_ m_ hpost => ?_)
  obtain ⟨rfl, e2⟩ := hpost
  have e2 := e2.symm
  subst e2
  rw [if_pos (show p_isU 3 1 by decide)]
  refine e_istore dX9_bending_24 (by decide) rfl ?_
  refine e_iload_n dX9_bending_26 rfl ?_
  refine e_bipush dX9_bending_27 kcb_6 ?_
  refine e_icmp_ne 38 dX9_bending_29 rfl (fun _ => ?_) (fun h => absurd h (by decide))
  refine e_iload dX9_bending_38 rfl ?_
  refine e_if_eq 54 dX9_bending_40 rfl (fun h => absurd h (by decide)) (fun _ => ?_)
  refine e_aload_n dX9_bending_43 rfl ?_
  refine e_bipush dX9_bending_44 kcb_40 ?_
  refine e_callV (μ' := mX9_body) (ci := 9) (As := [.int 40]) dX9_bending_46 wl_X9_312 ok_X9_body rfl rfl (fx_pi_lt (by decide)) (by decide) (Nat.le_of_ble_eq_true rfl) fx_n1 (s_X9_body (m := m) hL ht (by (try simp only [show p_beT 3 = [40, 20, 10] from rfl, show p_waT 3 3 = [11, 40, 20, 10] from rfl, List.length_append, List.length_cons, List.length_nil, List.nil_append]); omega) 40) rfl (fun r_ m_ hpost => ?_)
  revert m_
  intro m1 hpost
  obtain ⟨rfl, g1, t1⟩ := hpost
  have G1 := g1
  have hL1 := G1.lay hL
  have H1 := G1.ms H
  refine e_iload_n dX9_bending_49 rfl ?_
  refine e_iconst dX9_bending_50 kci_1 ?_
  refine e_iadd dX9_bending_51 ?_
  refine e_istore dX9_bending_52 (by decide) rfl ?_
  refine e_iload dX9_bending_54 rfl ?_
  refine e_if_eq 65 dX9_bending_56 rfl (fun h => absurd h (by decide)) (fun _ => ?_)
  refine e_aload_n dX9_bending_59 rfl ?_
  refine e_bipush dX9_bending_60 kcb_20 ?_
  refine e_callV (μ' := mX9_body) (ci := 9) (As := [.int 20]) dX9_bending_62 wl_X9_312 ok_X9_body rfl rfl (fx_pi_lt (by decide)) (by decide) (Nat.le_of_ble_eq_true rfl) fx_n1 (s_X9_body (m := m1) hL1 t1 (by (try simp only [show p_beT 3 = [40, 20, 10] from rfl, show p_waT 3 3 = [11, 40, 20, 10] from rfl, List.length_append, List.length_cons, List.length_nil, List.nil_append]); omega) 20) rfl (fun r_ m_ hpost => ?_)
  revert m_
  intro m2 hpost
  obtain ⟨rfl, g2, t2⟩ := hpost
  have G2 := G1.trans g2
  have hL2 := G2.lay hL
  have H2 := G2.ms H
  refine e_iload_n dX9_bending_65 rfl ?_
  refine e_iconst dX9_bending_66 kci_4 ?_
  refine e_icmp_ne 76 dX9_bending_67 rfl (fun _ => ?_) (fun h => absurd h (by decide))
  refine e_aload_n dX9_bending_76 rfl ?_
  refine e_bipush dX9_bending_77 kcb_10 ?_
  refine e_callV (μ' := mX9_body) (ci := 9) (As := [.int 10]) dX9_bending_79 wl_X9_312 ok_X9_body rfl rfl (fx_pi_lt (by decide)) (by decide) (Nat.le_of_ble_eq_true rfl) fx_n1 (s_X9_body (m := m2) hL2 t2 (by (try simp only [show p_beT 3 = [40, 20, 10] from rfl, show p_waT 3 3 = [11, 40, 20, 10] from rfl, List.length_append, List.length_cons, List.length_nil, List.nil_append]); omega) 10) rfl (fun r_ m_ hpost => ?_)
  revert m_
  intro m3 hpost
  obtain ⟨rfl, g3, t3⟩ := hpost
  have G3 := G2.trans g3
  have hL3 := G3.lay hL
  have H3 := G3.ms H
  refine e_iload dX9_bending_82 rfl ?_
  refine e_iload_n dX9_bending_84 rfl ?_
  refine e_iadd dX9_bending_85 ?_
  refine e_istore dX9_bending_86 (by decide) rfl ?_
  refine e_iload dX9_bending_88 rfl ?_
  refine e_if_eq 104 dX9_bending_90 rfl (fun h => absurd h (by decide)) (fun _ => ?_)
  refine e_iload dX9_bending_93 rfl ?_
  refine e_aload_n dX9_bending_95 rfl ?_
  refine e_getr (o2 := 86) dX9_bending_96 ff_X9_23 rfl (fx_pi_lt (by decide)) (by decide) rfl (hL3 _ _ _ rfl) ?_
  refine e_iload_n dX9_bending_99 rfl ?_
  refine e_ialdv (j := p) (v := t.1 p 1) dX9_bending_100 rfl (fx_pi_lt (by decide)) rfl (by omega) (by decide) (H3.2.2.2.1 p (by omega) 1 (by decide)) ?_
  refine e_iadd dX9_bending_101 ?_
  refine e_istore dX9_bending_102 (by decide) rfl ?_
  refine e_iload_n dX9_bending_104 rfl ?_
  refine e_iconst dX9_bending_105 kci_4 ?_
  refine e_icmp_ne 115 dX9_bending_106 rfl (fun _ => ?_) (fun h => absurd h (by decide))
  refine e_iload_n dX9_bending_115 rfl ?_
  refine e_bipush dX9_bending_116 kcb_6 ?_
  refine e_icmp_ne 128 dX9_bending_118 rfl (fun _ => ?_) (fun h => absurd h (by decide))
  refine e_iload dX9_bending_128 rfl ?_
  exact e_iret dX9_bending_130 rfl rfl rfl ⟨by first | rfl | (simp [p_be, p_wa, p_do, p_do0]; done), G3, by rw [show p_beT 3 = [40, 20, 10] from rfl]; have q := t3; (try simp only [List.append_assoc, List.cons_append, List.nil_append, show p_beT 3 = [40, 20, 10] from rfl, show p_waT 3 3 = [11, 40, 20, 10] from rfl] at q); exact q⟩
set_option maxRecDepth 100000 in
set_option maxHeartbeats 600000 in
theorem s_X9_waving3 {Γ : fx_G} {m : fx_M} (hL : fx_Lay m) {na nd : Nat} {t : p_Sg} (H : fx_MS m na nd t) {p : Nat} (hp : p < na) (hK : t.1 p 0 = 3) {l : List Nat} (ht : fx_trM m l) (hl : l.length + 4 ≤ 20) (x : Int32) : fx_Ct Γ mX9_waving 2 119 119 [fx_rf Γ 83, .int (nI p), .int x] m (fun r m' => r = some (.int (p_wa 3 3 (nI p) (t.1 p 1) x)) ∧ fx_TF m m' ∧ fx_trM m' (l ++ p_waT 3 3)) := by
  refine fx_Ct.of (j := 4) (by decide) (Nat.le_of_ble_eq_true rfl) (Nat.le_of_ble_eq_true rfl) ?_
  show fx_E Γ mX9_waving 2 119 119 _ 119 m 0 [some (fx_rf Γ 83), some (.int (nI p)), some (.int x), none, none, none, none] []
  have h9 := H.2.2.2.2.2.1
  have h5 := H.2.2.2.2.2.2.1
  refine e_aload_n dX9_waving_0 rfl ?_
  refine e_getr (o2 := 85) dX9_waving_1 ff_X9_20 rfl (fx_pi_lt (by decide)) (by decide) rfl (hL _ _ _ rfl) ?_
  refine e_iload_n dX9_waving_4 rfl ?_
  refine e_ialdv (j := p) (v := 3) dX9_waving_5 rfl (fx_pi_lt (by decide)) rfl (by omega) (by decide) (by have q := H.2.2.2.1 p (by omega) 0 (by decide); rw [hK] at q; exact q) ?_
  refine e_istore_n dX9_waving_6 (by decide) rfl ?_
  refine e_iload_n dX9_waving_7 rfl ?_
  refine e_istore dX9_waving_8 (by decide) rfl ?_
  refine e_iload_n dX9_waving_10 rfl ?_
  refine e_bipush dX9_waving_11 kcb_6 ?_
  refine e_icmp_ne 32 dX9_waving_13 rfl (fun _ => ?_) (fun h => absurd h (by decide))
  refine e_aload_n dX9_waving_32 rfl ?_
  refine e_iload_n dX9_waving_33 rfl ?_
  refine e_iconst dX9_waving_34 kci_2 ?_
  refine e_callV (μ' := mX9_isUnder) (ci := 9) (As := [.int 3, .int 2]) dX9_waving_35 wl_X9_143 ok_X9_isUnder rfl rfl (fx_pi_lt (by decide)) (by decide) (Nat.le_of_ble_eq_true rfl) fx_n1 (s_X9_isUnder (m := m) hL 3 2) rfl (fun r_ m_ hpost => ?_)
  obtain ⟨rfl, e2⟩ := hpost
  have e2 := e2.symm
  subst e2
  rw [if_neg (show ¬ p_isU 3 2 by decide)]
  refine e_istore dX9_waving_38 (by decide) rfl ?_
  refine e_iload dX9_waving_40 rfl ?_
  refine e_if_eq 51 dX9_waving_42 rfl (fun _ => ?_) (fun h => absurd (by decide) h)
  refine e_aload_n dX9_waving_51 rfl ?_
  refine e_bipush dX9_waving_52 kcb_11 ?_
  refine e_callV (μ' := mX9_body) (ci := 9) (As := [.int 11]) dX9_waving_54 wl_X9_312 ok_X9_body rfl rfl (fx_pi_lt (by decide)) (by decide) (Nat.le_of_ble_eq_true rfl) fx_n1 (s_X9_body (m := m) hL ht (by (try simp only [show p_beT 3 = [40, 20, 10] from rfl, show p_waT 3 3 = [11, 40, 20, 10] from rfl, List.length_append, List.length_cons, List.length_nil, List.nil_append]); omega) 11) rfl (fun r_ m_ hpost => ?_)
  revert m_
  intro m1 hpost
  obtain ⟨rfl, g1, t1⟩ := hpost
  have G1 := g1
  have hL1 := G1.lay hL
  have H1 := G1.ms H
  refine e_aload_n dX9_waving_57 rfl ?_
  refine e_iload_n dX9_waving_58 rfl ?_
  refine e_iload dX9_waving_59 rfl ?_
  refine e_callV (μ' := mX9_bending) (ci := 9) (As := [.int (nI p), .int x]) dX9_waving_61 wl_X9_316 ok_X9_bending rfl rfl (fx_pi_lt (by decide)) (by decide) (Nat.le_of_ble_eq_true rfl) fx_n1 (s_X9_bending3 (m := m1) hL1 H1 hp hK t1 (by (try simp only [show p_beT 3 = [40, 20, 10] from rfl, show p_waT 3 3 = [11, 40, 20, 10] from rfl, List.length_append, List.length_cons, List.length_nil, List.nil_append]); omega) x) rfl (fun r_ m_ hpost => ?_)
  revert r_ m_
  intro r_ m2 hpost
  obtain ⟨rfl, g2, t2⟩ := hpost
  have G2 := G1.trans g2
  have hL2 := G2.lay hL
  have H2 := G2.ms H
  refine e_iconst dX9_waving_64 kci_2 ?_
  refine e_imul dX9_waving_65 ?_
  refine e_istore dX9_waving_66 (by decide) rfl ?_
  refine e_iload dX9_waving_68 rfl ?_
  refine e_if_eq 80 dX9_waving_70 rfl (fun _ => ?_) (fun h => absurd (by decide) h)
  refine e_iload dX9_waving_80 rfl ?_
  exact e_iret dX9_waving_82 rfl rfl rfl ⟨by first | rfl | (simp [p_be, p_wa, p_do, p_do0]; done), G2, by rw [show p_waT 3 3 = [11, 40, 20, 10] from rfl]; have q := t2; (try simp only [List.append_assoc, List.cons_append, List.nil_append, show p_beT 3 = [40, 20, 10] from rfl, show p_waT 3 3 = [11, 40, 20, 10] from rfl] at q); exact q⟩
set_option maxRecDepth 100000 in
set_option maxHeartbeats 600000 in
theorem s_X9_dropping3 {Γ : fx_G} {m : fx_M} (hL : fx_Lay m) {na nd : Nat} {t : p_Sg} (H : fx_MS m na nd t) {p : Nat} (hp : p < na) (hK : t.1 p 0 = 3) {l : List Nat} (ht : fx_trM m l) (hl : l.length + 8 ≤ 20) (x : Int32) : fx_Ct Γ mX9_dropping 3 119 119 [fx_rf Γ 83, .int (nI p), .int x] m (fun r m' => r = some (.int (p_do 3 3 (nI p) (t.1 p 1) x)) ∧ fx_TF m m' ∧ fx_trM m' (l ++ p_doT 3 3)) := by
  refine fx_Ct.of (j := 2) (by decide) (Nat.le_of_ble_eq_true rfl) (Nat.le_of_ble_eq_true rfl) ?_
  show fx_E Γ mX9_dropping 3 119 119 _ 119 m 0 [some (fx_rf Γ 83), some (.int (nI p)), some (.int x), none, none] []
  have h9 := H.2.2.2.2.2.1
  have h5 := H.2.2.2.2.2.2.1
  refine e_aload_n dX9_dropping_0 rfl ?_
  refine e_getr (o2 := 85) dX9_dropping_1 ff_X9_20 rfl (fx_pi_lt (by decide)) (by decide) rfl (hL _ _ _ rfl) ?_
  refine e_iload_n dX9_dropping_4 rfl ?_
  refine e_ialdv (j := p) (v := 3) dX9_dropping_5 rfl (fx_pi_lt (by decide)) rfl (by omega) (by decide) (by have q := H.2.2.2.1 p (by omega) 0 (by decide); rw [hK] at q; exact q) ?_
  refine e_istore_n dX9_dropping_6 (by decide) rfl ?_
  refine e_iload_n dX9_dropping_7 rfl ?_
  refine e_iconst dX9_dropping_8 kci_5 ?_
  refine e_icmp_ne 18 dX9_dropping_9 rfl (fun _ => ?_) (fun h => absurd h (by decide))
  refine e_iload_n dX9_dropping_18 rfl ?_
  refine e_iconst dX9_dropping_19 kci_4 ?_
  refine e_icmp_ne 29 dX9_dropping_20 rfl (fun _ => ?_) (fun h => absurd h (by decide))
  refine e_aload_n dX9_dropping_29 rfl ?_
  refine e_bipush dX9_dropping_30 kcb_12 ?_
  refine e_callV (μ' := mX9_body) (ci := 9) (As := [.int 12]) dX9_dropping_32 wl_X9_312 ok_X9_body rfl rfl (fx_pi_lt (by decide)) (by decide) (Nat.le_of_ble_eq_true rfl) fx_n1 (s_X9_body (m := m) hL ht (by (try simp only [show p_beT 3 = [40, 20, 10] from rfl, show p_waT 3 3 = [11, 40, 20, 10] from rfl, List.length_append, List.length_cons, List.length_nil, List.nil_append]); omega) 12) rfl (fun r_ m_ hpost => ?_)
  revert m_
  intro m1 hpost
  obtain ⟨rfl, g1, t1⟩ := hpost
  have G1 := g1
  have hL1 := G1.lay hL
  have H1 := G1.ms H
  refine e_aload_n dX9_dropping_35 rfl ?_
  refine e_iload_n dX9_dropping_36 rfl ?_
  refine e_iload_n dX9_dropping_37 rfl ?_
  refine e_callV (μ' := mX9_waving) (ci := 9) (As := [.int (nI p), .int x]) dX9_dropping_38 wl_X9_319 ok_X9_waving rfl rfl (fx_pi_lt (by decide)) (by decide) (Nat.le_of_ble_eq_true rfl) fx_n1 (s_X9_waving3 (m := m1) hL1 H1 hp hK t1 (by (try simp only [show p_beT 3 = [40, 20, 10] from rfl, show p_waT 3 3 = [11, 40, 20, 10] from rfl, List.length_append, List.length_cons, List.length_nil, List.nil_append]); omega) x) rfl (fun r_ m_ hpost => ?_)
  revert r_ m_
  intro r_ m2 hpost
  obtain ⟨rfl, g2, t2⟩ := hpost
  have G2 := G1.trans g2
  have hL2 := G2.lay hL
  have H2 := G2.ms H
  refine e_istore dX9_dropping_41 (by decide) rfl ?_
  refine e_iload dX9_dropping_43 rfl ?_
  refine e_aload_n dX9_dropping_45 rfl ?_
  refine e_iload_n dX9_dropping_46 rfl ?_
  refine e_iload_n dX9_dropping_47 rfl ?_
  refine e_aload_n dX9_dropping_48 rfl ?_
  refine e_getr (o2 := 86) dX9_dropping_49 ff_X9_23 rfl (fx_pi_lt (by decide)) (by decide) rfl (hL2 _ _ _ rfl) ?_
  refine e_iload_n dX9_dropping_52 rfl ?_
  refine e_ialdv (j := p) (v := t.1 p 1) dX9_dropping_53 rfl (fx_pi_lt (by decide)) rfl (by omega) (by decide) (H2.2.2.2.1 p (by omega) 1 (by decide)) ?_
  refine e_isub dX9_dropping_54 ?_
  refine e_callV (μ' := mX9_bending) (ci := 9) (As := [.int (nI p), .int (x - (t.1 p 1))]) dX9_dropping_55 wl_X9_316 ok_X9_bending rfl rfl (fx_pi_lt (by decide)) (by decide) (Nat.le_of_ble_eq_true rfl) fx_n1 (s_X9_bending3 (m := m2) hL2 H2 hp hK t2 (by (try simp only [show p_beT 3 = [40, 20, 10] from rfl, show p_waT 3 3 = [11, 40, 20, 10] from rfl, List.length_append, List.length_cons, List.length_nil, List.nil_append]); omega) (x - (t.1 p 1))) rfl (fun r_ m_ hpost => ?_)
  revert r_ m_
  intro r_ m3 hpost
  obtain ⟨rfl, g3, t3⟩ := hpost
  have G3 := G2.trans g3
  have hL3 := G3.lay hL
  have H3 := G3.ms H
  refine e_ixor dX9_dropping_58 ?_
  refine e_istore dX9_dropping_59 (by decide) rfl ?_
  refine e_iload_n dX9_dropping_61 rfl ?_
  refine e_iconst dX9_dropping_62 kci_4 ?_
  refine e_icmp_ne 72 dX9_dropping_63 rfl (fun _ => ?_) (fun h => absurd h (by decide))
  refine e_iload_n dX9_dropping_72 rfl ?_
  refine e_iconst dX9_dropping_73 kci_5 ?_
  refine e_icmp_ne 84 dX9_dropping_74 rfl (fun _ => ?_) (fun h => absurd h (by decide))
  refine e_iload dX9_dropping_84 rfl ?_
  exact e_iret dX9_dropping_86 rfl rfl rfl ⟨by first | rfl | (simp [p_be, p_wa, p_do, p_do0]; done), G3, by rw [show p_doT 3 3 = [12, 11, 40, 20, 10, 40, 20, 10] from rfl]; have q := t3; (try simp only [List.append_assoc, List.cons_append, List.nil_append, show p_beT 3 = [40, 20, 10] from rfl, show p_waT 3 3 = [11, 40, 20, 10] from rfl] at q); exact q⟩
set_option maxRecDepth 100000 in
set_option maxHeartbeats 600000 in
theorem s_X9_bending4 {Γ : fx_G} {m : fx_M} (hL : fx_Lay m) {na nd : Nat} {t : p_Sg} (H : fx_MS m na nd t) {p : Nat} (hp : p < na) (hK : t.1 p 0 = 4) {l : List Nat} (ht : fx_trM m l) (hl : l.length + 2 ≤ 20) (x : Int32) : fx_Ct Γ mX9_bending 1 119 119 [fx_rf Γ 83, .int (nI p), .int x] m (fun r m' => r = some (.int (p_be 4 (nI p) (t.1 p 1) x)) ∧ fx_TF m m' ∧ fx_trM m' (l ++ p_beT 4)) := by
  refine fx_Ct.of (j := 5) (by decide) (Nat.le_of_ble_eq_true rfl) (Nat.le_of_ble_eq_true rfl) ?_
  show fx_E Γ mX9_bending 1 119 119 _ 119 m 0 [some (fx_rf Γ 83), some (.int (nI p)), some (.int x), none, none, none, none, none] []
  have h9 := H.2.2.2.2.2.1
  have h5 := H.2.2.2.2.2.2.1
  refine e_aload_n dX9_bending_0 rfl ?_
  refine e_getr (o2 := 85) dX9_bending_1 ff_X9_20 rfl (fx_pi_lt (by decide)) (by decide) rfl (hL _ _ _ rfl) ?_
  refine e_iload_n dX9_bending_4 rfl ?_
  refine e_ialdv (j := p) (v := 4) dX9_bending_5 rfl (fx_pi_lt (by decide)) rfl (by omega) (by decide) (by have q := H.2.2.2.1 p (by omega) 0 (by decide); rw [hK] at q; exact q) ?_
  refine e_istore_n dX9_bending_6 (by decide) rfl ?_
  refine e_iload_n dX9_bending_7 rfl ?_
  refine e_istore dX9_bending_8 (by decide) rfl ?_
  refine e_aload_n dX9_bending_10 rfl ?_
  refine e_iload_n dX9_bending_11 rfl ?_
  refine e_iconst dX9_bending_12 kci_3 ?_
  refine e_callV (μ' := mX9_isUnder) (ci := 9) (As := [.int 4, .int 3]) dX9_bending_13 wl_X9_143 ok_X9_isUnder rfl rfl (fx_pi_lt (by decide)) (by decide) (Nat.le_of_ble_eq_true rfl) fx_n1 (s_X9_isUnder (m := m) hL 4 3) rfl (fun r_ m_ hpost => ?_)
  obtain ⟨rfl, e2⟩ := hpost
  have e2 := e2.symm
  subst e2
  rw [if_neg (show ¬ p_isU 4 3 by decide)]
  refine e_istore dX9_bending_16 (by decide) rfl ?_
  refine e_aload_n dX9_bending_18 rfl ?_
  refine e_iload_n dX9_bending_19 rfl ?_
  refine e_iconst dX9_bending_20 kci_1 ?_
  refine e_callV (μ' := mX9_isUnder) (ci := 9) (As := [.int 4, .int 1]) dX9_bending_21 wl_X9_143 ok_X9_isUnder rfl rfl (fx_pi_lt (by decide)) (by decide) (Nat.le_of_ble_eq_true rfl) fx_n1 (s_X9_isUnder (m := m) hL 4 1) rfl (fun r_ m_ hpost => ?_)
  obtain ⟨rfl, e2⟩ := hpost
  have e2 := e2.symm
  subst e2
  rw [if_neg (show ¬ p_isU 4 1 by decide)]
  refine e_istore dX9_bending_24 (by decide) rfl ?_
  refine e_iload_n dX9_bending_26 rfl ?_
  refine e_bipush dX9_bending_27 kcb_6 ?_
  refine e_icmp_ne 38 dX9_bending_29 rfl (fun _ => ?_) (fun h => absurd h (by decide))
  refine e_iload dX9_bending_38 rfl ?_
  refine e_if_eq 54 dX9_bending_40 rfl (fun _ => ?_) (fun h => absurd (by decide) h)
  refine e_iload dX9_bending_54 rfl ?_
  refine e_if_eq 65 dX9_bending_56 rfl (fun _ => ?_) (fun h => absurd (by decide) h)
  refine e_iload_n dX9_bending_65 rfl ?_
  refine e_iconst dX9_bending_66 kci_4 ?_
  refine e_icmp_ne 76 dX9_bending_67 rfl (fun h => absurd h (by decide)) (fun _ => ?_)
  refine e_aload_n dX9_bending_70 rfl ?_
  refine e_bipush dX9_bending_71 kcb_51 ?_
  refine e_callV (μ' := mX9_body) (ci := 9) (As := [.int 51]) dX9_bending_73 wl_X9_312 ok_X9_body rfl rfl (fx_pi_lt (by decide)) (by decide) (Nat.le_of_ble_eq_true rfl) fx_n1 (s_X9_body (m := m) hL ht (by (try simp only [show p_beT 4 = [51, 10] from rfl, show p_waT 4 4 = [11, 51, 10] from rfl, List.length_append, List.length_cons, List.length_nil, List.nil_append]); omega) 51) rfl (fun r_ m_ hpost => ?_)
  revert m_
  intro m1 hpost
  obtain ⟨rfl, g1, t1⟩ := hpost
  have G1 := g1
  have hL1 := G1.lay hL
  have H1 := G1.ms H
  refine e_aload_n dX9_bending_76 rfl ?_
  refine e_bipush dX9_bending_77 kcb_10 ?_
  refine e_callV (μ' := mX9_body) (ci := 9) (As := [.int 10]) dX9_bending_79 wl_X9_312 ok_X9_body rfl rfl (fx_pi_lt (by decide)) (by decide) (Nat.le_of_ble_eq_true rfl) fx_n1 (s_X9_body (m := m1) hL1 t1 (by (try simp only [show p_beT 4 = [51, 10] from rfl, show p_waT 4 4 = [11, 51, 10] from rfl, List.length_append, List.length_cons, List.length_nil, List.nil_append]); omega) 10) rfl (fun r_ m_ hpost => ?_)
  revert m_
  intro m2 hpost
  obtain ⟨rfl, g2, t2⟩ := hpost
  have G2 := G1.trans g2
  have hL2 := G2.lay hL
  have H2 := G2.ms H
  refine e_iload dX9_bending_82 rfl ?_
  refine e_iload_n dX9_bending_84 rfl ?_
  refine e_iadd dX9_bending_85 ?_
  refine e_istore dX9_bending_86 (by decide) rfl ?_
  refine e_iload dX9_bending_88 rfl ?_
  refine e_if_eq 104 dX9_bending_90 rfl (fun _ => ?_) (fun h => absurd (by decide) h)
  refine e_iload_n dX9_bending_104 rfl ?_
  refine e_iconst dX9_bending_105 kci_4 ?_
  refine e_icmp_ne 115 dX9_bending_106 rfl (fun h => absurd h (by decide)) (fun _ => ?_)
  refine e_iload dX9_bending_109 rfl ?_
  refine e_iload_n dX9_bending_111 rfl ?_
  refine e_isub dX9_bending_112 ?_
  refine e_istore dX9_bending_113 (by decide) rfl ?_
  refine e_iload_n dX9_bending_115 rfl ?_
  refine e_bipush dX9_bending_116 kcb_6 ?_
  refine e_icmp_ne 128 dX9_bending_118 rfl (fun _ => ?_) (fun h => absurd h (by decide))
  refine e_iload dX9_bending_128 rfl ?_
  exact e_iret dX9_bending_130 rfl rfl rfl ⟨by first | rfl | (simp [p_be, p_wa, p_do, p_do0]; done), G2, by rw [show p_beT 4 = [51, 10] from rfl]; have q := t2; (try simp only [List.append_assoc, List.cons_append, List.nil_append, show p_beT 4 = [51, 10] from rfl, show p_waT 4 4 = [11, 51, 10] from rfl] at q); exact q⟩
set_option maxRecDepth 100000 in
set_option maxHeartbeats 600000 in
theorem s_X9_waving4 {Γ : fx_G} {m : fx_M} (hL : fx_Lay m) {na nd : Nat} {t : p_Sg} (H : fx_MS m na nd t) {p : Nat} (hp : p < na) (hK : t.1 p 0 = 4) {l : List Nat} (ht : fx_trM m l) (hl : l.length + 3 ≤ 20) (x : Int32) : fx_Ct Γ mX9_waving 2 119 119 [fx_rf Γ 83, .int (nI p), .int x] m (fun r m' => r = some (.int (p_wa 4 4 (nI p) (t.1 p 1) x)) ∧ fx_TF m m' ∧ fx_trM m' (l ++ p_waT 4 4)) := by
  refine fx_Ct.of (j := 4) (by decide) (Nat.le_of_ble_eq_true rfl) (Nat.le_of_ble_eq_true rfl) ?_
  show fx_E Γ mX9_waving 2 119 119 _ 119 m 0 [some (fx_rf Γ 83), some (.int (nI p)), some (.int x), none, none, none, none] []
  have h9 := H.2.2.2.2.2.1
  have h5 := H.2.2.2.2.2.2.1
  refine e_aload_n dX9_waving_0 rfl ?_
  refine e_getr (o2 := 85) dX9_waving_1 ff_X9_20 rfl (fx_pi_lt (by decide)) (by decide) rfl (hL _ _ _ rfl) ?_
  refine e_iload_n dX9_waving_4 rfl ?_
  refine e_ialdv (j := p) (v := 4) dX9_waving_5 rfl (fx_pi_lt (by decide)) rfl (by omega) (by decide) (by have q := H.2.2.2.1 p (by omega) 0 (by decide); rw [hK] at q; exact q) ?_
  refine e_istore_n dX9_waving_6 (by decide) rfl ?_
  refine e_iload_n dX9_waving_7 rfl ?_
  refine e_istore dX9_waving_8 (by decide) rfl ?_
  refine e_iload_n dX9_waving_10 rfl ?_
  refine e_bipush dX9_waving_11 kcb_6 ?_
  refine e_icmp_ne 32 dX9_waving_13 rfl (fun _ => ?_) (fun h => absurd h (by decide))
  refine e_aload_n dX9_waving_32 rfl ?_
  refine e_iload_n dX9_waving_33 rfl ?_
  refine e_iconst dX9_waving_34 kci_2 ?_
  refine e_callV (μ' := mX9_isUnder) (ci := 9) (As := [.int 4, .int 2]) dX9_waving_35 wl_X9_143 ok_X9_isUnder rfl rfl (fx_pi_lt (by decide)) (by decide) (Nat.le_of_ble_eq_true rfl) fx_n1 (s_X9_isUnder (m := m) hL 4 2) rfl (fun r_ m_ hpost => ?_)
  obtain ⟨rfl, e2⟩ := hpost
  have e2 := e2.symm
  subst e2
  rw [if_neg (show ¬ p_isU 4 2 by decide)]
  refine e_istore dX9_waving_38 (by decide) rfl ?_
  refine e_iload dX9_waving_40 rfl ?_
  refine e_if_eq 51 dX9_waving_42 rfl (fun _ => ?_) (fun h => absurd (by decide) h)
  refine e_aload_n dX9_waving_51 rfl ?_
  refine e_bipush dX9_waving_52 kcb_11 ?_
  refine e_callV (μ' := mX9_body) (ci := 9) (As := [.int 11]) dX9_waving_54 wl_X9_312 ok_X9_body rfl rfl (fx_pi_lt (by decide)) (by decide) (Nat.le_of_ble_eq_true rfl) fx_n1 (s_X9_body (m := m) hL ht (by (try simp only [show p_beT 4 = [51, 10] from rfl, show p_waT 4 4 = [11, 51, 10] from rfl, List.length_append, List.length_cons, List.length_nil, List.nil_append]); omega) 11) rfl (fun r_ m_ hpost => ?_)
  revert m_
  intro m1 hpost
  obtain ⟨rfl, g1, t1⟩ := hpost
  have G1 := g1
  have hL1 := G1.lay hL
  have H1 := G1.ms H
  refine e_aload_n dX9_waving_57 rfl ?_
  refine e_iload_n dX9_waving_58 rfl ?_
  refine e_iload dX9_waving_59 rfl ?_
  refine e_callV (μ' := mX9_bending) (ci := 9) (As := [.int (nI p), .int x]) dX9_waving_61 wl_X9_316 ok_X9_bending rfl rfl (fx_pi_lt (by decide)) (by decide) (Nat.le_of_ble_eq_true rfl) fx_n1 (s_X9_bending4 (m := m1) hL1 H1 hp hK t1 (by (try simp only [show p_beT 4 = [51, 10] from rfl, show p_waT 4 4 = [11, 51, 10] from rfl, List.length_append, List.length_cons, List.length_nil, List.nil_append]); omega) x) rfl (fun r_ m_ hpost => ?_)
  revert r_ m_
  intro r_ m2 hpost
  obtain ⟨rfl, g2, t2⟩ := hpost
  have G2 := G1.trans g2
  have hL2 := G2.lay hL
  have H2 := G2.ms H
  refine e_iconst dX9_waving_64 kci_2 ?_
  refine e_imul dX9_waving_65 ?_
  refine e_istore dX9_waving_66 (by decide) rfl ?_
  refine e_iload dX9_waving_68 rfl ?_
  refine e_if_eq 80 dX9_waving_70 rfl (fun _ => ?_) (fun h => absurd (by decide) h)
  refine e_iload dX9_waving_80 rfl ?_
  exact e_iret dX9_waving_82 rfl rfl rfl ⟨by first | rfl | (simp [p_be, p_wa, p_do, p_do0]; done), G2, by rw [show p_waT 4 4 = [11, 51, 10] from rfl]; have q := t2; (try simp only [List.append_assoc, List.cons_append, List.nil_append, show p_beT 4 = [51, 10] from rfl, show p_waT 4 4 = [11, 51, 10] from rfl] at q); exact q⟩
set_option maxRecDepth 100000 in
set_option maxHeartbeats 600000 in
theorem s_X9_dropping4 {Γ : fx_G} {m : fx_M} (hL : fx_Lay m) {na nd : Nat} {t : p_Sg} (H : fx_MS m na nd t) {p : Nat} (hp : p < na) (hK : t.1 p 0 = 4) {l : List Nat} (ht : fx_trM m l) (hl : l.length + 7 ≤ 20) (x : Int32) : fx_Ct Γ mX9_dropping 3 119 119 [fx_rf Γ 83, .int (nI p), .int x] m (fun r m' => r = some (.int (p_do 4 4 (nI p) (t.1 p 1) x)) ∧ fx_TF m m' ∧ fx_trM m' (l ++ p_doT 4 4)) := by
  refine fx_Ct.of (j := 2) (by decide) (Nat.le_of_ble_eq_true rfl) (Nat.le_of_ble_eq_true rfl) ?_
  show fx_E Γ mX9_dropping 3 119 119 _ 119 m 0 [some (fx_rf Γ 83), some (.int (nI p)), some (.int x), none, none] []
  have h9 := H.2.2.2.2.2.1
  have h5 := H.2.2.2.2.2.2.1
  refine e_aload_n dX9_dropping_0 rfl ?_
  refine e_getr (o2 := 85) dX9_dropping_1 ff_X9_20 rfl (fx_pi_lt (by decide)) (by decide) rfl (hL _ _ _ rfl) ?_
  refine e_iload_n dX9_dropping_4 rfl ?_
  refine e_ialdv (j := p) (v := 4) dX9_dropping_5 rfl (fx_pi_lt (by decide)) rfl (by omega) (by decide) (by have q := H.2.2.2.1 p (by omega) 0 (by decide); rw [hK] at q; exact q) ?_
  refine e_istore_n dX9_dropping_6 (by decide) rfl ?_
  refine e_iload_n dX9_dropping_7 rfl ?_
  refine e_iconst dX9_dropping_8 kci_5 ?_
  refine e_icmp_ne 18 dX9_dropping_9 rfl (fun _ => ?_) (fun h => absurd h (by decide))
  refine e_iload_n dX9_dropping_18 rfl ?_
  refine e_iconst dX9_dropping_19 kci_4 ?_
  refine e_icmp_ne 29 dX9_dropping_20 rfl (fun h => absurd h (by decide)) (fun _ => ?_)
  refine e_aload_n dX9_dropping_23 rfl ?_
  refine e_bipush dX9_dropping_24 kcb_50 ?_
  refine e_callV (μ' := mX9_body) (ci := 9) (As := [.int 50]) dX9_dropping_26 wl_X9_312 ok_X9_body rfl rfl (fx_pi_lt (by decide)) (by decide) (Nat.le_of_ble_eq_true rfl) fx_n1 (s_X9_body (m := m) hL ht (by (try simp only [show p_beT 4 = [51, 10] from rfl, show p_waT 4 4 = [11, 51, 10] from rfl, List.length_append, List.length_cons, List.length_nil, List.nil_append]); omega) 50) rfl (fun r_ m_ hpost => ?_)
  revert m_
  intro m1 hpost
  obtain ⟨rfl, g1, t1⟩ := hpost
  have G1 := g1
  have hL1 := G1.lay hL
  have H1 := G1.ms H
  refine e_aload_n dX9_dropping_29 rfl ?_
  refine e_bipush dX9_dropping_30 kcb_12 ?_
  refine e_callV (μ' := mX9_body) (ci := 9) (As := [.int 12]) dX9_dropping_32 wl_X9_312 ok_X9_body rfl rfl (fx_pi_lt (by decide)) (by decide) (Nat.le_of_ble_eq_true rfl) fx_n1 (s_X9_body (m := m1) hL1 t1 (by (try simp only [show p_beT 4 = [51, 10] from rfl, show p_waT 4 4 = [11, 51, 10] from rfl, List.length_append, List.length_cons, List.length_nil, List.nil_append]); omega) 12) rfl (fun r_ m_ hpost => ?_)
  revert m_
  intro m2 hpost
  obtain ⟨rfl, g2, t2⟩ := hpost
  have G2 := G1.trans g2
  have hL2 := G2.lay hL
  have H2 := G2.ms H
  refine e_aload_n dX9_dropping_35 rfl ?_
  refine e_iload_n dX9_dropping_36 rfl ?_
  refine e_iload_n dX9_dropping_37 rfl ?_
  refine e_callV (μ' := mX9_waving) (ci := 9) (As := [.int (nI p), .int x]) dX9_dropping_38 wl_X9_319 ok_X9_waving rfl rfl (fx_pi_lt (by decide)) (by decide) (Nat.le_of_ble_eq_true rfl) fx_n1 (s_X9_waving4 (m := m2) hL2 H2 hp hK t2 (by (try simp only [show p_beT 4 = [51, 10] from rfl, show p_waT 4 4 = [11, 51, 10] from rfl, List.length_append, List.length_cons, List.length_nil, List.nil_append]); omega) x) rfl (fun r_ m_ hpost => ?_)
  revert r_ m_
  intro r_ m3 hpost
  obtain ⟨rfl, g3, t3⟩ := hpost
  have G3 := G2.trans g3
  have hL3 := G3.lay hL
  have H3 := G3.ms H
  refine e_istore dX9_dropping_41 (by decide) rfl ?_
  refine e_iload dX9_dropping_43 rfl ?_
  refine e_aload_n dX9_dropping_45 rfl ?_
  refine e_iload_n dX9_dropping_46 rfl ?_
  refine e_iload_n dX9_dropping_47 rfl ?_
  refine e_aload_n dX9_dropping_48 rfl ?_
  refine e_getr (o2 := 86) dX9_dropping_49 ff_X9_23 rfl (fx_pi_lt (by decide)) (by decide) rfl (hL3 _ _ _ rfl) ?_
  refine e_iload_n dX9_dropping_52 rfl ?_
  refine e_ialdv (j := p) (v := t.1 p 1) dX9_dropping_53 rfl (fx_pi_lt (by decide)) rfl (by omega) (by decide) (H3.2.2.2.1 p (by omega) 1 (by decide)) ?_
  refine e_isub dX9_dropping_54 ?_
  refine e_callV (μ' := mX9_bending) (ci := 9) (As := [.int (nI p), .int (x - (t.1 p 1))]) dX9_dropping_55 wl_X9_316 ok_X9_bending rfl rfl (fx_pi_lt (by decide)) (by decide) (Nat.le_of_ble_eq_true rfl) fx_n1 (s_X9_bending4 (m := m3) hL3 H3 hp hK t3 (by (try simp only [show p_beT 4 = [51, 10] from rfl, show p_waT 4 4 = [11, 51, 10] from rfl, List.length_append, List.length_cons, List.length_nil, List.nil_append]); omega) (x - (t.1 p 1))) rfl (fun r_ m_ hpost => ?_)
  revert r_ m_
  intro r_ m4 hpost
  obtain ⟨rfl, g4, t4⟩ := hpost
  have G4 := G3.trans g4
  have hL4 := G4.lay hL
  have H4 := G4.ms H
  refine e_ixor dX9_dropping_58 ?_
  refine e_istore dX9_dropping_59 (by decide) rfl ?_
  refine e_iload_n dX9_dropping_61 rfl ?_
  refine e_iconst dX9_dropping_62 kci_4 ?_
  refine e_icmp_ne 72 dX9_dropping_63 rfl (fun h => absurd h (by decide)) (fun _ => ?_)
  refine e_iload dX9_dropping_66 rfl ?_
  refine e_ineg dX9_dropping_68 ?_
  refine e_goto 86 dX9_dropping_69 rfl ?_
  exact e_iret dX9_dropping_86 rfl rfl rfl ⟨by first | rfl | (simp [p_be, p_wa, p_do, p_do0]; done), G4, by rw [show p_doT 4 4 = [50, 12, 11, 51, 10, 51, 10] from rfl]; have q := t4; (try simp only [List.append_assoc, List.cons_append, List.nil_append, show p_beT 4 = [51, 10] from rfl, show p_waT 4 4 = [11, 51, 10] from rfl] at q); exact q⟩
set_option maxRecDepth 100000 in
set_option maxHeartbeats 600000 in
theorem s_X9_bending5 {Γ : fx_G} {m : fx_M} (hL : fx_Lay m) {na nd : Nat} {t : p_Sg} (H : fx_MS m na nd t) {p : Nat} (hp : p < na) (hK : t.1 p 0 = 5) {l : List Nat} (ht : fx_trM m l) (hl : l.length + 1 ≤ 20) (x : Int32) : fx_Ct Γ mX9_bending 1 119 119 [fx_rf Γ 83, .int (nI p), .int x] m (fun r m' => r = some (.int (p_be 5 (nI p) (t.1 p 1) x)) ∧ fx_TF m m' ∧ fx_trM m' (l ++ p_beT 5)) := by
  refine fx_Ct.of (j := 5) (by decide) (Nat.le_of_ble_eq_true rfl) (Nat.le_of_ble_eq_true rfl) ?_
  show fx_E Γ mX9_bending 1 119 119 _ 119 m 0 [some (fx_rf Γ 83), some (.int (nI p)), some (.int x), none, none, none, none, none] []
  have h9 := H.2.2.2.2.2.1
  have h5 := H.2.2.2.2.2.2.1
  refine e_aload_n dX9_bending_0 rfl ?_
  refine e_getr (o2 := 85) dX9_bending_1 ff_X9_20 rfl (fx_pi_lt (by decide)) (by decide) rfl (hL _ _ _ rfl) ?_
  refine e_iload_n dX9_bending_4 rfl ?_
  refine e_ialdv (j := p) (v := 5) dX9_bending_5 rfl (fx_pi_lt (by decide)) rfl (by omega) (by decide) (by have q := H.2.2.2.1 p (by omega) 0 (by decide); rw [hK] at q; exact q) ?_
  refine e_istore_n dX9_bending_6 (by decide) rfl ?_
  refine e_iload_n dX9_bending_7 rfl ?_
  refine e_istore dX9_bending_8 (by decide) rfl ?_
  refine e_aload_n dX9_bending_10 rfl ?_
  refine e_iload_n dX9_bending_11 rfl ?_
  refine e_iconst dX9_bending_12 kci_3 ?_
  refine e_callV (μ' := mX9_isUnder) (ci := 9) (As := [.int 5, .int 3]) dX9_bending_13 wl_X9_143 ok_X9_isUnder rfl rfl (fx_pi_lt (by decide)) (by decide) (Nat.le_of_ble_eq_true rfl) fx_n1 (s_X9_isUnder (m := m) hL 5 3) rfl (fun r_ m_ hpost => ?_)
  obtain ⟨rfl, e2⟩ := hpost
  have e2 := e2.symm
  subst e2
  rw [if_neg (show ¬ p_isU 5 3 by decide)]
  refine e_istore dX9_bending_16 (by decide) rfl ?_
  refine e_aload_n dX9_bending_18 rfl ?_
  refine e_iload_n dX9_bending_19 rfl ?_
  refine e_iconst dX9_bending_20 kci_1 ?_
  refine e_callV (μ' := mX9_isUnder) (ci := 9) (As := [.int 5, .int 1]) dX9_bending_21 wl_X9_143 ok_X9_isUnder rfl rfl (fx_pi_lt (by decide)) (by decide) (Nat.le_of_ble_eq_true rfl) fx_n1 (s_X9_isUnder (m := m) hL 5 1) rfl (fun r_ m_ hpost => ?_)
  obtain ⟨rfl, e2⟩ := hpost
  have e2 := e2.symm
  subst e2
  rw [if_neg (show ¬ p_isU 5 1 by decide)]
  refine e_istore dX9_bending_24 (by decide) rfl ?_
  refine e_iload_n dX9_bending_26 rfl ?_
  refine e_bipush dX9_bending_27 kcb_6 ?_
  refine e_icmp_ne 38 dX9_bending_29 rfl (fun _ => ?_) (fun h => absurd h (by decide))
  refine e_iload dX9_bending_38 rfl ?_
  refine e_if_eq 54 dX9_bending_40 rfl (fun _ => ?_) (fun h => absurd (by decide) h)
  refine e_iload dX9_bending_54 rfl ?_
  refine e_if_eq 65 dX9_bending_56 rfl (fun _ => ?_) (fun h => absurd (by decide) h)
  refine e_iload_n dX9_bending_65 rfl ?_
  refine e_iconst dX9_bending_66 kci_4 ?_
  refine e_icmp_ne 76 dX9_bending_67 rfl (fun _ => ?_) (fun h => absurd h (by decide))
  refine e_aload_n dX9_bending_76 rfl ?_
  refine e_bipush dX9_bending_77 kcb_10 ?_
  refine e_callV (μ' := mX9_body) (ci := 9) (As := [.int 10]) dX9_bending_79 wl_X9_312 ok_X9_body rfl rfl (fx_pi_lt (by decide)) (by decide) (Nat.le_of_ble_eq_true rfl) fx_n1 (s_X9_body (m := m) hL ht (by (try simp only [show p_beT 5 = [10] from rfl, show p_waT 5 5 = [30, 11, 10] from rfl, List.length_append, List.length_cons, List.length_nil, List.nil_append]); omega) 10) rfl (fun r_ m_ hpost => ?_)
  revert m_
  intro m1 hpost
  obtain ⟨rfl, g1, t1⟩ := hpost
  have G1 := g1
  have hL1 := G1.lay hL
  have H1 := G1.ms H
  refine e_iload dX9_bending_82 rfl ?_
  refine e_iload_n dX9_bending_84 rfl ?_
  refine e_iadd dX9_bending_85 ?_
  refine e_istore dX9_bending_86 (by decide) rfl ?_
  refine e_iload dX9_bending_88 rfl ?_
  refine e_if_eq 104 dX9_bending_90 rfl (fun _ => ?_) (fun h => absurd (by decide) h)
  refine e_iload_n dX9_bending_104 rfl ?_
  refine e_iconst dX9_bending_105 kci_4 ?_
  refine e_icmp_ne 115 dX9_bending_106 rfl (fun _ => ?_) (fun h => absurd h (by decide))
  refine e_iload_n dX9_bending_115 rfl ?_
  refine e_bipush dX9_bending_116 kcb_6 ?_
  refine e_icmp_ne 128 dX9_bending_118 rfl (fun _ => ?_) (fun h => absurd h (by decide))
  refine e_iload dX9_bending_128 rfl ?_
  exact e_iret dX9_bending_130 rfl rfl rfl ⟨by first | rfl | (simp [p_be, p_wa, p_do, p_do0]; done), G1, by rw [show p_beT 5 = [10] from rfl]; have q := t1; (try simp only [List.append_assoc, List.cons_append, List.nil_append, show p_beT 5 = [10] from rfl, show p_waT 5 5 = [30, 11, 10] from rfl] at q); exact q⟩
set_option maxRecDepth 100000 in
set_option maxHeartbeats 600000 in
theorem s_X9_waving5 {Γ : fx_G} {m : fx_M} (hL : fx_Lay m) {na nd : Nat} {t : p_Sg} (H : fx_MS m na nd t) {p : Nat} (hp : p < na) (hK : t.1 p 0 = 5) {l : List Nat} (ht : fx_trM m l) (hl : l.length + 3 ≤ 20) (x : Int32) : fx_Ct Γ mX9_waving 2 119 119 [fx_rf Γ 83, .int (nI p), .int x] m (fun r m' => r = some (.int (p_wa 5 5 (nI p) (t.1 p 1) x)) ∧ fx_TF m m' ∧ fx_trM m' (l ++ p_waT 5 5)) := by
  refine fx_Ct.of (j := 4) (by decide) (Nat.le_of_ble_eq_true rfl) (Nat.le_of_ble_eq_true rfl) ?_
  show fx_E Γ mX9_waving 2 119 119 _ 119 m 0 [some (fx_rf Γ 83), some (.int (nI p)), some (.int x), none, none, none, none] []
  have h9 := H.2.2.2.2.2.1
  have h5 := H.2.2.2.2.2.2.1
  refine e_aload_n dX9_waving_0 rfl ?_
  refine e_getr (o2 := 85) dX9_waving_1 ff_X9_20 rfl (fx_pi_lt (by decide)) (by decide) rfl (hL _ _ _ rfl) ?_
  refine e_iload_n dX9_waving_4 rfl ?_
  refine e_ialdv (j := p) (v := 5) dX9_waving_5 rfl (fx_pi_lt (by decide)) rfl (by omega) (by decide) (by have q := H.2.2.2.1 p (by omega) 0 (by decide); rw [hK] at q; exact q) ?_
  refine e_istore_n dX9_waving_6 (by decide) rfl ?_
  refine e_iload_n dX9_waving_7 rfl ?_
  refine e_istore dX9_waving_8 (by decide) rfl ?_
  refine e_iload_n dX9_waving_10 rfl ?_
  refine e_bipush dX9_waving_11 kcb_6 ?_
  refine e_icmp_ne 32 dX9_waving_13 rfl (fun _ => ?_) (fun h => absurd h (by decide))
  refine e_aload_n dX9_waving_32 rfl ?_
  refine e_iload_n dX9_waving_33 rfl ?_
  refine e_iconst dX9_waving_34 kci_2 ?_
  refine e_callV (μ' := mX9_isUnder) (ci := 9) (As := [.int 5, .int 2]) dX9_waving_35 wl_X9_143 ok_X9_isUnder rfl rfl (fx_pi_lt (by decide)) (by decide) (Nat.le_of_ble_eq_true rfl) fx_n1 (s_X9_isUnder (m := m) hL 5 2) rfl (fun r_ m_ hpost => ?_)
  obtain ⟨rfl, e2⟩ := hpost
  have e2 := e2.symm
  subst e2
  rw [if_pos (show p_isU 5 2 by decide)]
  refine e_istore dX9_waving_38 (by decide) rfl ?_
  refine e_iload dX9_waving_40 rfl ?_
  refine e_if_eq 51 dX9_waving_42 rfl (fun h => absurd h (by decide)) (fun _ => ?_)
  refine e_aload_n dX9_waving_45 rfl ?_
  refine e_bipush dX9_waving_46 kcb_30 ?_
  refine e_callV (μ' := mX9_body) (ci := 9) (As := [.int 30]) dX9_waving_48 wl_X9_312 ok_X9_body rfl rfl (fx_pi_lt (by decide)) (by decide) (Nat.le_of_ble_eq_true rfl) fx_n1 (s_X9_body (m := m) hL ht (by (try simp only [show p_beT 5 = [10] from rfl, show p_waT 5 5 = [30, 11, 10] from rfl, List.length_append, List.length_cons, List.length_nil, List.nil_append]); omega) 30) rfl (fun r_ m_ hpost => ?_)
  revert m_
  intro m1 hpost
  obtain ⟨rfl, g1, t1⟩ := hpost
  have G1 := g1
  have hL1 := G1.lay hL
  have H1 := G1.ms H
  refine e_aload_n dX9_waving_51 rfl ?_
  refine e_bipush dX9_waving_52 kcb_11 ?_
  refine e_callV (μ' := mX9_body) (ci := 9) (As := [.int 11]) dX9_waving_54 wl_X9_312 ok_X9_body rfl rfl (fx_pi_lt (by decide)) (by decide) (Nat.le_of_ble_eq_true rfl) fx_n1 (s_X9_body (m := m1) hL1 t1 (by (try simp only [show p_beT 5 = [10] from rfl, show p_waT 5 5 = [30, 11, 10] from rfl, List.length_append, List.length_cons, List.length_nil, List.nil_append]); omega) 11) rfl (fun r_ m_ hpost => ?_)
  revert m_
  intro m2 hpost
  obtain ⟨rfl, g2, t2⟩ := hpost
  have G2 := G1.trans g2
  have hL2 := G2.lay hL
  have H2 := G2.ms H
  refine e_aload_n dX9_waving_57 rfl ?_
  refine e_iload_n dX9_waving_58 rfl ?_
  refine e_iload dX9_waving_59 rfl ?_
  refine e_callV (μ' := mX9_bending) (ci := 9) (As := [.int (nI p), .int x]) dX9_waving_61 wl_X9_316 ok_X9_bending rfl rfl (fx_pi_lt (by decide)) (by decide) (Nat.le_of_ble_eq_true rfl) fx_n1 (s_X9_bending5 (m := m2) hL2 H2 hp hK t2 (by (try simp only [show p_beT 5 = [10] from rfl, show p_waT 5 5 = [30, 11, 10] from rfl, List.length_append, List.length_cons, List.length_nil, List.nil_append]); omega) x) rfl (fun r_ m_ hpost => ?_)
  revert r_ m_
  intro r_ m3 hpost
  obtain ⟨rfl, g3, t3⟩ := hpost
  have G3 := G2.trans g3
  have hL3 := G3.lay hL
  have H3 := G3.ms H
  refine e_iconst dX9_waving_64 kci_2 ?_
  refine e_imul dX9_waving_65 ?_
  refine e_istore dX9_waving_66 (by decide) rfl ?_
  refine e_iload dX9_waving_68 rfl ?_
  refine e_if_eq 80 dX9_waving_70 rfl (fun h => absurd h (by decide)) (fun _ => ?_)
  refine e_iload dX9_waving_73 rfl ?_
  refine e_iconst dX9_waving_75 kci_3 ?_
  refine e_imul dX9_waving_76 ?_
  refine e_goto 82 dX9_waving_77 rfl ?_
  exact e_iret dX9_waving_82 rfl rfl rfl ⟨by first | rfl | (simp [p_be, p_wa, p_do, p_do0]; done), G3, by rw [show p_waT 5 5 = [30, 11, 10] from rfl]; have q := t3; (try simp only [List.append_assoc, List.cons_append, List.nil_append, show p_beT 5 = [10] from rfl, show p_waT 5 5 = [30, 11, 10] from rfl] at q); exact q⟩
set_option maxRecDepth 100000 in
set_option maxHeartbeats 600000 in
theorem s_X9_dropping5 {Γ : fx_G} {m : fx_M} (hL : fx_Lay m) {na nd : Nat} {t : p_Sg} (H : fx_MS m na nd t) {p : Nat} (hp : p < na) (hK : t.1 p 0 = 5) {l : List Nat} (ht : fx_trM m l) (hl : l.length + 6 ≤ 20) (x : Int32) : fx_Ct Γ mX9_dropping 3 119 119 [fx_rf Γ 83, .int (nI p), .int x] m (fun r m' => r = some (.int (p_do 5 5 (nI p) (t.1 p 1) x)) ∧ fx_TF m m' ∧ fx_trM m' (l ++ p_doT 5 5)) := by
  refine fx_Ct.of (j := 2) (by decide) (Nat.le_of_ble_eq_true rfl) (Nat.le_of_ble_eq_true rfl) ?_
  show fx_E Γ mX9_dropping 3 119 119 _ 119 m 0 [some (fx_rf Γ 83), some (.int (nI p)), some (.int x), none, none] []
  have h9 := H.2.2.2.2.2.1
  have h5 := H.2.2.2.2.2.2.1
  refine e_aload_n dX9_dropping_0 rfl ?_
  refine e_getr (o2 := 85) dX9_dropping_1 ff_X9_20 rfl (fx_pi_lt (by decide)) (by decide) rfl (hL _ _ _ rfl) ?_
  refine e_iload_n dX9_dropping_4 rfl ?_
  refine e_ialdv (j := p) (v := 5) dX9_dropping_5 rfl (fx_pi_lt (by decide)) rfl (by omega) (by decide) (by have q := H.2.2.2.1 p (by omega) 0 (by decide); rw [hK] at q; exact q) ?_
  refine e_istore_n dX9_dropping_6 (by decide) rfl ?_
  refine e_iload_n dX9_dropping_7 rfl ?_
  refine e_iconst dX9_dropping_8 kci_5 ?_
  refine e_icmp_ne 18 dX9_dropping_9 rfl (fun h => absurd h (by decide)) (fun _ => ?_)
  refine e_aload_n dX9_dropping_12 rfl ?_
  refine e_bipush dX9_dropping_13 kcb_60 ?_
  refine e_callV (μ' := mX9_body) (ci := 9) (As := [.int 60]) dX9_dropping_15 wl_X9_312 ok_X9_body rfl rfl (fx_pi_lt (by decide)) (by decide) (Nat.le_of_ble_eq_true rfl) fx_n1 (s_X9_body (m := m) hL ht (by (try simp only [show p_beT 5 = [10] from rfl, show p_waT 5 5 = [30, 11, 10] from rfl, List.length_append, List.length_cons, List.length_nil, List.nil_append]); omega) 60) rfl (fun r_ m_ hpost => ?_)
  revert m_
  intro m1 hpost
  obtain ⟨rfl, g1, t1⟩ := hpost
  have G1 := g1
  have hL1 := G1.lay hL
  have H1 := G1.ms H
  refine e_iload_n dX9_dropping_18 rfl ?_
  refine e_iconst dX9_dropping_19 kci_4 ?_
  refine e_icmp_ne 29 dX9_dropping_20 rfl (fun _ => ?_) (fun h => absurd h (by decide))
  refine e_aload_n dX9_dropping_29 rfl ?_
  refine e_bipush dX9_dropping_30 kcb_12 ?_
  refine e_callV (μ' := mX9_body) (ci := 9) (As := [.int 12]) dX9_dropping_32 wl_X9_312 ok_X9_body rfl rfl (fx_pi_lt (by decide)) (by decide) (Nat.le_of_ble_eq_true rfl) fx_n1 (s_X9_body (m := m1) hL1 t1 (by (try simp only [show p_beT 5 = [10] from rfl, show p_waT 5 5 = [30, 11, 10] from rfl, List.length_append, List.length_cons, List.length_nil, List.nil_append]); omega) 12) rfl (fun r_ m_ hpost => ?_)
  revert m_
  intro m2 hpost
  obtain ⟨rfl, g2, t2⟩ := hpost
  have G2 := G1.trans g2
  have hL2 := G2.lay hL
  have H2 := G2.ms H
  refine e_aload_n dX9_dropping_35 rfl ?_
  refine e_iload_n dX9_dropping_36 rfl ?_
  refine e_iload_n dX9_dropping_37 rfl ?_
  refine e_callV (μ' := mX9_waving) (ci := 9) (As := [.int (nI p), .int x]) dX9_dropping_38 wl_X9_319 ok_X9_waving rfl rfl (fx_pi_lt (by decide)) (by decide) (Nat.le_of_ble_eq_true rfl) fx_n1 (s_X9_waving5 (m := m2) hL2 H2 hp hK t2 (by (try simp only [show p_beT 5 = [10] from rfl, show p_waT 5 5 = [30, 11, 10] from rfl, List.length_append, List.length_cons, List.length_nil, List.nil_append]); omega) x) rfl (fun r_ m_ hpost => ?_)
  revert r_ m_
  intro r_ m3 hpost
  obtain ⟨rfl, g3, t3⟩ := hpost
  have G3 := G2.trans g3
  have hL3 := G3.lay hL
  have H3 := G3.ms H
  refine e_istore dX9_dropping_41 (by decide) rfl ?_
  refine e_iload dX9_dropping_43 rfl ?_
  refine e_aload_n dX9_dropping_45 rfl ?_
  refine e_iload_n dX9_dropping_46 rfl ?_
  refine e_iload_n dX9_dropping_47 rfl ?_
  refine e_aload_n dX9_dropping_48 rfl ?_
  refine e_getr (o2 := 86) dX9_dropping_49 ff_X9_23 rfl (fx_pi_lt (by decide)) (by decide) rfl (hL3 _ _ _ rfl) ?_
  refine e_iload_n dX9_dropping_52 rfl ?_
  refine e_ialdv (j := p) (v := t.1 p 1) dX9_dropping_53 rfl (fx_pi_lt (by decide)) rfl (by omega) (by decide) (H3.2.2.2.1 p (by omega) 1 (by decide)) ?_
  refine e_isub dX9_dropping_54 ?_
  refine e_callV (μ' := mX9_bending) (ci := 9) (As := [.int (nI p), .int (x - (t.1 p 1))]) dX9_dropping_55 wl_X9_316 ok_X9_bending rfl rfl (fx_pi_lt (by decide)) (by decide) (Nat.le_of_ble_eq_true rfl) fx_n1 (s_X9_bending5 (m := m3) hL3 H3 hp hK t3 (by (try simp only [show p_beT 5 = [10] from rfl, show p_waT 5 5 = [30, 11, 10] from rfl, List.length_append, List.length_cons, List.length_nil, List.nil_append]); omega) (x - (t.1 p 1))) rfl (fun r_ m_ hpost => ?_)
  revert r_ m_
  intro r_ m4 hpost
  obtain ⟨rfl, g4, t4⟩ := hpost
  have G4 := G3.trans g4
  have hL4 := G4.lay hL
  have H4 := G4.ms H
  refine e_ixor dX9_dropping_58 ?_
  refine e_istore dX9_dropping_59 (by decide) rfl ?_
  refine e_iload_n dX9_dropping_61 rfl ?_
  refine e_iconst dX9_dropping_62 kci_4 ?_
  refine e_icmp_ne 72 dX9_dropping_63 rfl (fun _ => ?_) (fun h => absurd h (by decide))
  refine e_iload_n dX9_dropping_72 rfl ?_
  refine e_iconst dX9_dropping_73 kci_5 ?_
  refine e_icmp_ne 84 dX9_dropping_74 rfl (fun h => absurd h (by decide)) (fun _ => ?_)
  refine e_iload dX9_dropping_77 rfl ?_
  refine e_iconst dX9_dropping_79 kci_5 ?_
  refine e_ixor dX9_dropping_80 ?_
  refine e_goto 86 dX9_dropping_81 rfl ?_
  exact e_iret dX9_dropping_86 rfl rfl rfl ⟨by first | rfl | (simp [p_be, p_wa, p_do, p_do0]; done), G4, by rw [show p_doT 5 5 = [60, 12, 30, 11, 10, 10] from rfl]; have q := t4; (try simp only [List.append_assoc, List.cons_append, List.nil_append, show p_beT 5 = [10] from rfl, show p_waT 5 5 = [30, 11, 10] from rfl] at q); exact q⟩
set_option maxRecDepth 100000 in
set_option maxHeartbeats 600000 in
theorem s_X9_bending6 {Γ : fx_G} {m : fx_M} (hL : fx_Lay m) {na nd : Nat} {t : p_Sg} (H : fx_MS m na nd t) {p : Nat} (hp : p < na) (hK : t.1 p 0 = 6) {l : List Nat} (ht : fx_trM m l) (hl : l.length + 4 ≤ 20) (x : Int32) : fx_Ct Γ mX9_bending 1 119 119 [fx_rf Γ 83, .int (nI p), .int x] m (fun r m' => r = some (.int (p_be 6 (nI p) (t.1 p 1) x)) ∧ fx_TF m m' ∧ fx_trM m' (l ++ p_beT 6)) := by
  refine fx_Ct.of (j := 5) (by decide) (Nat.le_of_ble_eq_true rfl) (Nat.le_of_ble_eq_true rfl) ?_
  show fx_E Γ mX9_bending 1 119 119 _ 119 m 0 [some (fx_rf Γ 83), some (.int (nI p)), some (.int x), none, none, none, none, none] []
  have h9 := H.2.2.2.2.2.1
  have h5 := H.2.2.2.2.2.2.1
  refine e_aload_n dX9_bending_0 rfl ?_
  refine e_getr (o2 := 85) dX9_bending_1 ff_X9_20 rfl (fx_pi_lt (by decide)) (by decide) rfl (hL _ _ _ rfl) ?_
  refine e_iload_n dX9_bending_4 rfl ?_
  refine e_ialdv (j := p) (v := 6) dX9_bending_5 rfl (fx_pi_lt (by decide)) rfl (by omega) (by decide) (by have q := H.2.2.2.1 p (by omega) 0 (by decide); rw [hK] at q; exact q) ?_
  refine e_istore_n dX9_bending_6 (by decide) rfl ?_
  refine e_iload_n dX9_bending_7 rfl ?_
  refine e_istore dX9_bending_8 (by decide) rfl ?_
  refine e_aload_n dX9_bending_10 rfl ?_
  refine e_iload_n dX9_bending_11 rfl ?_
  refine e_iconst dX9_bending_12 kci_3 ?_
  refine e_callV (μ' := mX9_isUnder) (ci := 9) (As := [.int 6, .int 3]) dX9_bending_13 wl_X9_143 ok_X9_isUnder rfl rfl (fx_pi_lt (by decide)) (by decide) (Nat.le_of_ble_eq_true rfl) fx_n1 (s_X9_isUnder (m := m) hL 6 3) rfl (fun r_ m_ hpost => ?_)
  obtain ⟨rfl, e2⟩ := hpost
  have e2 := e2.symm
  subst e2
  rw [if_pos (show p_isU 6 3 by decide)]
  refine e_istore dX9_bending_16 (by decide) rfl ?_
  refine e_aload_n dX9_bending_18 rfl ?_
  refine e_iload_n dX9_bending_19 rfl ?_
  refine e_iconst dX9_bending_20 kci_1 ?_
  refine e_callV (μ' := mX9_isUnder) (ci := 9) (As := [.int 6, .int 1]) dX9_bending_21 wl_X9_143 ok_X9_isUnder rfl rfl (fx_pi_lt (by decide)) (by decide) (Nat.le_of_ble_eq_true rfl) fx_n1 (s_X9_isUnder (m := m) hL 6 1) rfl (fun r_ m_ hpost => ?_)
  obtain ⟨rfl, e2⟩ := hpost
  have e2 := e2.symm
  subst e2
  rw [if_pos (show p_isU 6 1 by decide)]
  refine e_istore dX9_bending_24 (by decide) rfl ?_
  refine e_iload_n dX9_bending_26 rfl ?_
  refine e_bipush dX9_bending_27 kcb_6 ?_
  refine e_icmp_ne 38 dX9_bending_29 rfl (fun h => absurd h (by decide)) (fun _ => ?_)
  refine e_aload_n dX9_bending_32 rfl ?_
  refine e_bipush dX9_bending_33 kcb_70 ?_
  refine e_callV (μ' := mX9_body) (ci := 9) (As := [.int 70]) dX9_bending_35 wl_X9_312 ok_X9_body rfl rfl (fx_pi_lt (by decide)) (by decide) (Nat.le_of_ble_eq_true rfl) fx_n1 (s_X9_body (m := m) hL ht (by (try simp only [show p_beT 6 = [70, 40, 20, 10] from rfl, show p_waT 6 6 = [71, 11, 70, 40, 20, 10] from rfl, List.length_append, List.length_cons, List.length_nil, List.nil_append]); omega) 70) rfl (fun r_ m_ hpost => ?_)
  revert m_
  intro m1 hpost
  obtain ⟨rfl, g1, t1⟩ := hpost
  have G1 := g1
  have hL1 := G1.lay hL
  have H1 := G1.ms H
  refine e_iload dX9_bending_38 rfl ?_
  refine e_if_eq 54 dX9_bending_40 rfl (fun h => absurd h (by decide)) (fun _ => ?_)
  refine e_aload_n dX9_bending_43 rfl ?_
  refine e_bipush dX9_bending_44 kcb_40 ?_
  refine e_callV (μ' := mX9_body) (ci := 9) (As := [.int 40]) dX9_bending_46 wl_X9_312 ok_X9_body rfl rfl (fx_pi_lt (by decide)) (by decide) (Nat.le_of_ble_eq_true rfl) fx_n1 (s_X9_body (m := m1) hL1 t1 (by (try simp only [show p_beT 6 = [70, 40, 20, 10] from rfl, show p_waT 6 6 = [71, 11, 70, 40, 20, 10] from rfl, List.length_append, List.length_cons, List.length_nil, List.nil_append]); omega) 40) rfl (fun r_ m_ hpost => ?_)
  revert m_
  intro m2 hpost
  obtain ⟨rfl, g2, t2⟩ := hpost
  have G2 := G1.trans g2
  have hL2 := G2.lay hL
  have H2 := G2.ms H
  refine e_iload_n dX9_bending_49 rfl ?_
  refine e_iconst dX9_bending_50 kci_1 ?_
  refine e_iadd dX9_bending_51 ?_
  refine e_istore dX9_bending_52 (by decide) rfl ?_
  refine e_iload dX9_bending_54 rfl ?_
  refine e_if_eq 65 dX9_bending_56 rfl (fun h => absurd h (by decide)) (fun _ => ?_)
  refine e_aload_n dX9_bending_59 rfl ?_
  refine e_bipush dX9_bending_60 kcb_20 ?_
  refine e_callV (μ' := mX9_body) (ci := 9) (As := [.int 20]) dX9_bending_62 wl_X9_312 ok_X9_body rfl rfl (fx_pi_lt (by decide)) (by decide) (Nat.le_of_ble_eq_true rfl) fx_n1 (s_X9_body (m := m2) hL2 t2 (by (try simp only [show p_beT 6 = [70, 40, 20, 10] from rfl, show p_waT 6 6 = [71, 11, 70, 40, 20, 10] from rfl, List.length_append, List.length_cons, List.length_nil, List.nil_append]); omega) 20) rfl (fun r_ m_ hpost => ?_)
  revert m_
  intro m3 hpost
  obtain ⟨rfl, g3, t3⟩ := hpost
  have G3 := G2.trans g3
  have hL3 := G3.lay hL
  have H3 := G3.ms H
  refine e_iload_n dX9_bending_65 rfl ?_
  refine e_iconst dX9_bending_66 kci_4 ?_
  refine e_icmp_ne 76 dX9_bending_67 rfl (fun _ => ?_) (fun h => absurd h (by decide))
  refine e_aload_n dX9_bending_76 rfl ?_
  refine e_bipush dX9_bending_77 kcb_10 ?_
  refine e_callV (μ' := mX9_body) (ci := 9) (As := [.int 10]) dX9_bending_79 wl_X9_312 ok_X9_body rfl rfl (fx_pi_lt (by decide)) (by decide) (Nat.le_of_ble_eq_true rfl) fx_n1 (s_X9_body (m := m3) hL3 t3 (by (try simp only [show p_beT 6 = [70, 40, 20, 10] from rfl, show p_waT 6 6 = [71, 11, 70, 40, 20, 10] from rfl, List.length_append, List.length_cons, List.length_nil, List.nil_append]); omega) 10) rfl (fun r_ m_ hpost => ?_)
  revert m_
  intro m4 hpost
  obtain ⟨rfl, g4, t4⟩ := hpost
  have G4 := G3.trans g4
  have hL4 := G4.lay hL
  have H4 := G4.ms H
  refine e_iload dX9_bending_82 rfl ?_
  refine e_iload_n dX9_bending_84 rfl ?_
  refine e_iadd dX9_bending_85 ?_
  refine e_istore dX9_bending_86 (by decide) rfl ?_
  refine e_iload dX9_bending_88 rfl ?_
  refine e_if_eq 104 dX9_bending_90 rfl (fun h => absurd h (by decide)) (fun _ => ?_)
  refine e_iload dX9_bending_93 rfl ?_
  refine e_aload_n dX9_bending_95 rfl ?_
  refine e_getr (o2 := 86) dX9_bending_96 ff_X9_23 rfl (fx_pi_lt (by decide)) (by decide) rfl (hL4 _ _ _ rfl) ?_
  refine e_iload_n dX9_bending_99 rfl ?_
  refine e_ialdv (j := p) (v := t.1 p 1) dX9_bending_100 rfl (fx_pi_lt (by decide)) rfl (by omega) (by decide) (H4.2.2.2.1 p (by omega) 1 (by decide)) ?_
  refine e_iadd dX9_bending_101 ?_
  refine e_istore dX9_bending_102 (by decide) rfl ?_
  refine e_iload_n dX9_bending_104 rfl ?_
  refine e_iconst dX9_bending_105 kci_4 ?_
  refine e_icmp_ne 115 dX9_bending_106 rfl (fun _ => ?_) (fun h => absurd h (by decide))
  refine e_iload_n dX9_bending_115 rfl ?_
  refine e_bipush dX9_bending_116 kcb_6 ?_
  refine e_icmp_ne 128 dX9_bending_118 rfl (fun h => absurd h (by decide)) (fun _ => ?_)
  refine e_iload dX9_bending_121 rfl ?_
  refine e_iconst dX9_bending_123 kci_2 ?_
  refine e_imul dX9_bending_124 ?_
  refine e_goto 130 dX9_bending_125 rfl ?_
  exact e_iret dX9_bending_130 rfl rfl rfl ⟨by first | rfl | (simp [p_be, p_wa, p_do, p_do0]; done), G4, by rw [show p_beT 6 = [70, 40, 20, 10] from rfl]; have q := t4; (try simp only [List.append_assoc, List.cons_append, List.nil_append, show p_beT 6 = [70, 40, 20, 10] from rfl, show p_waT 6 6 = [71, 11, 70, 40, 20, 10] from rfl] at q); exact q⟩
set_option maxRecDepth 100000 in
set_option maxHeartbeats 600000 in
theorem s_X9_waving6 {Γ : fx_G} {m : fx_M} (hL : fx_Lay m) {na nd : Nat} {t : p_Sg} (H : fx_MS m na nd t) {p : Nat} (hp : p < na) (hK : t.1 p 0 = 6) {l : List Nat} (ht : fx_trM m l) (hl : l.length + 6 ≤ 20) (x : Int32) : fx_Ct Γ mX9_waving 2 119 119 [fx_rf Γ 83, .int (nI p), .int x] m (fun r m' => r = some (.int (p_wa 6 6 (nI p) (t.1 p 1) x)) ∧ fx_TF m m' ∧ fx_trM m' (l ++ p_waT 6 6)) := by
  refine fx_Ct.of (j := 4) (by decide) (Nat.le_of_ble_eq_true rfl) (Nat.le_of_ble_eq_true rfl) ?_
  show fx_E Γ mX9_waving 2 119 119 _ 119 m 0 [some (fx_rf Γ 83), some (.int (nI p)), some (.int x), none, none, none, none] []
  have h9 := H.2.2.2.2.2.1
  have h5 := H.2.2.2.2.2.2.1
  refine e_aload_n dX9_waving_0 rfl ?_
  refine e_getr (o2 := 85) dX9_waving_1 ff_X9_20 rfl (fx_pi_lt (by decide)) (by decide) rfl (hL _ _ _ rfl) ?_
  refine e_iload_n dX9_waving_4 rfl ?_
  refine e_ialdv (j := p) (v := 6) dX9_waving_5 rfl (fx_pi_lt (by decide)) rfl (by omega) (by decide) (by have q := H.2.2.2.1 p (by omega) 0 (by decide); rw [hK] at q; exact q) ?_
  refine e_istore_n dX9_waving_6 (by decide) rfl ?_
  refine e_iload_n dX9_waving_7 rfl ?_
  refine e_istore dX9_waving_8 (by decide) rfl ?_
  refine e_iload_n dX9_waving_10 rfl ?_
  refine e_bipush dX9_waving_11 kcb_6 ?_
  refine e_icmp_ne 32 dX9_waving_13 rfl (fun h => absurd h (by decide)) (fun _ => ?_)
  refine e_aload_n dX9_waving_16 rfl ?_
  refine e_bipush dX9_waving_17 kcb_71 ?_
  refine e_callV (μ' := mX9_body) (ci := 9) (As := [.int 71]) dX9_waving_19 wl_X9_312 ok_X9_body rfl rfl (fx_pi_lt (by decide)) (by decide) (Nat.le_of_ble_eq_true rfl) fx_n1 (s_X9_body (m := m) hL ht (by (try simp only [show p_beT 6 = [70, 40, 20, 10] from rfl, show p_waT 6 6 = [71, 11, 70, 40, 20, 10] from rfl, List.length_append, List.length_cons, List.length_nil, List.nil_append]); omega) 71) rfl (fun r_ m_ hpost => ?_)
  revert m_
  intro m1 hpost
  obtain ⟨rfl, g1, t1⟩ := hpost
  have G1 := g1
  have hL1 := G1.lay hL
  have H1 := G1.ms H
  refine e_iload_n dX9_waving_22 rfl ?_
  refine e_aload_n dX9_waving_23 rfl ?_
  refine e_getr (o2 := 86) dX9_waving_24 ff_X9_23 rfl (fx_pi_lt (by decide)) (by decide) rfl (hL1 _ _ _ rfl) ?_
  refine e_iload_n dX9_waving_27 rfl ?_
  refine e_ialdv (j := p) (v := t.1 p 1) dX9_waving_28 rfl (fx_pi_lt (by decide)) rfl (by omega) (by decide) (H1.2.2.2.1 p (by omega) 1 (by decide)) ?_
  refine e_isub dX9_waving_29 ?_
  refine e_istore dX9_waving_30 (by decide) rfl ?_
  refine e_aload_n dX9_waving_32 rfl ?_
  refine e_iload_n dX9_waving_33 rfl ?_
  refine e_iconst dX9_waving_34 kci_2 ?_
  refine e_callV (μ' := mX9_isUnder) (ci := 9) (As := [.int 6, .int 2]) dX9_waving_35 wl_X9_143 ok_X9_isUnder rfl rfl (fx_pi_lt (by decide)) (by decide) (Nat.le_of_ble_eq_true rfl) fx_n1 (s_X9_isUnder (m := m1) hL1 6 2) rfl (fun r_ m_ hpost => ?_)
  obtain ⟨rfl, e2⟩ := hpost
  have e2 := e2.symm
  subst e2
  rw [if_neg (show ¬ p_isU 6 2 by decide)]
  refine e_istore dX9_waving_38 (by decide) rfl ?_
  refine e_iload dX9_waving_40 rfl ?_
  refine e_if_eq 51 dX9_waving_42 rfl (fun _ => ?_) (fun h => absurd (by decide) h)
  refine e_aload_n dX9_waving_51 rfl ?_
  refine e_bipush dX9_waving_52 kcb_11 ?_
  refine e_callV (μ' := mX9_body) (ci := 9) (As := [.int 11]) dX9_waving_54 wl_X9_312 ok_X9_body rfl rfl (fx_pi_lt (by decide)) (by decide) (Nat.le_of_ble_eq_true rfl) fx_n1 (s_X9_body (m := m1) hL1 t1 (by (try simp only [show p_beT 6 = [70, 40, 20, 10] from rfl, show p_waT 6 6 = [71, 11, 70, 40, 20, 10] from rfl, List.length_append, List.length_cons, List.length_nil, List.nil_append]); omega) 11) rfl (fun r_ m_ hpost => ?_)
  revert m_
  intro m2 hpost
  obtain ⟨rfl, g2, t2⟩ := hpost
  have G2 := G1.trans g2
  have hL2 := G2.lay hL
  have H2 := G2.ms H
  refine e_aload_n dX9_waving_57 rfl ?_
  refine e_iload_n dX9_waving_58 rfl ?_
  refine e_iload dX9_waving_59 rfl ?_
  refine e_callV (μ' := mX9_bending) (ci := 9) (As := [.int (nI p), .int (x - (t.1 p 1))]) dX9_waving_61 wl_X9_316 ok_X9_bending rfl rfl (fx_pi_lt (by decide)) (by decide) (Nat.le_of_ble_eq_true rfl) fx_n1 (s_X9_bending6 (m := m2) hL2 H2 hp hK t2 (by (try simp only [show p_beT 6 = [70, 40, 20, 10] from rfl, show p_waT 6 6 = [71, 11, 70, 40, 20, 10] from rfl, List.length_append, List.length_cons, List.length_nil, List.nil_append]); omega) (x - (t.1 p 1))) rfl (fun r_ m_ hpost => ?_)
  revert r_ m_
  intro r_ m3 hpost
  obtain ⟨rfl, g3, t3⟩ := hpost
  have G3 := G2.trans g3
  have hL3 := G3.lay hL
  have H3 := G3.ms H
  refine e_iconst dX9_waving_64 kci_2 ?_
  refine e_imul dX9_waving_65 ?_
  refine e_istore dX9_waving_66 (by decide) rfl ?_
  refine e_iload dX9_waving_68 rfl ?_
  refine e_if_eq 80 dX9_waving_70 rfl (fun _ => ?_) (fun h => absurd (by decide) h)
  refine e_iload dX9_waving_80 rfl ?_
  exact e_iret dX9_waving_82 rfl rfl rfl ⟨by first | rfl | (simp [p_be, p_wa, p_do, p_do0]; done), G3, by rw [show p_waT 6 6 = [71, 11, 70, 40, 20, 10] from rfl]; have q := t3; (try simp only [List.append_assoc, List.cons_append, List.nil_append, show p_beT 6 = [70, 40, 20, 10] from rfl, show p_waT 6 6 = [71, 11, 70, 40, 20, 10] from rfl] at q); exact q⟩
set_option maxRecDepth 100000 in
set_option maxHeartbeats 600000 in
theorem s_X9_dropping6 {Γ : fx_G} {m : fx_M} (hL : fx_Lay m) {na nd : Nat} {t : p_Sg} (H : fx_MS m na nd t) {p : Nat} (hp : p < na) (hK : t.1 p 0 = 6) {l : List Nat} (ht : fx_trM m l) (hl : l.length + 11 ≤ 20) (x : Int32) : fx_Ct Γ mX9_dropping 3 119 119 [fx_rf Γ 83, .int (nI p), .int x] m (fun r m' => r = some (.int (p_do 6 6 (nI p) (t.1 p 1) x)) ∧ fx_TF m m' ∧ fx_trM m' (l ++ p_doT 6 6)) := by
  refine fx_Ct.of (j := 2) (by decide) (Nat.le_of_ble_eq_true rfl) (Nat.le_of_ble_eq_true rfl) ?_
  show fx_E Γ mX9_dropping 3 119 119 _ 119 m 0 [some (fx_rf Γ 83), some (.int (nI p)), some (.int x), none, none] []
  have h9 := H.2.2.2.2.2.1
  have h5 := H.2.2.2.2.2.2.1
  refine e_aload_n dX9_dropping_0 rfl ?_
  refine e_getr (o2 := 85) dX9_dropping_1 ff_X9_20 rfl (fx_pi_lt (by decide)) (by decide) rfl (hL _ _ _ rfl) ?_
  refine e_iload_n dX9_dropping_4 rfl ?_
  refine e_ialdv (j := p) (v := 6) dX9_dropping_5 rfl (fx_pi_lt (by decide)) rfl (by omega) (by decide) (by have q := H.2.2.2.1 p (by omega) 0 (by decide); rw [hK] at q; exact q) ?_
  refine e_istore_n dX9_dropping_6 (by decide) rfl ?_
  refine e_iload_n dX9_dropping_7 rfl ?_
  refine e_iconst dX9_dropping_8 kci_5 ?_
  refine e_icmp_ne 18 dX9_dropping_9 rfl (fun _ => ?_) (fun h => absurd h (by decide))
  refine e_iload_n dX9_dropping_18 rfl ?_
  refine e_iconst dX9_dropping_19 kci_4 ?_
  refine e_icmp_ne 29 dX9_dropping_20 rfl (fun _ => ?_) (fun h => absurd h (by decide))
  refine e_aload_n dX9_dropping_29 rfl ?_
  refine e_bipush dX9_dropping_30 kcb_12 ?_
  refine e_callV (μ' := mX9_body) (ci := 9) (As := [.int 12]) dX9_dropping_32 wl_X9_312 ok_X9_body rfl rfl (fx_pi_lt (by decide)) (by decide) (Nat.le_of_ble_eq_true rfl) fx_n1 (s_X9_body (m := m) hL ht (by (try simp only [show p_beT 6 = [70, 40, 20, 10] from rfl, show p_waT 6 6 = [71, 11, 70, 40, 20, 10] from rfl, List.length_append, List.length_cons, List.length_nil, List.nil_append]); omega) 12) rfl (fun r_ m_ hpost => ?_)
  revert m_
  intro m1 hpost
  obtain ⟨rfl, g1, t1⟩ := hpost
  have G1 := g1
  have hL1 := G1.lay hL
  have H1 := G1.ms H
  refine e_aload_n dX9_dropping_35 rfl ?_
  refine e_iload_n dX9_dropping_36 rfl ?_
  refine e_iload_n dX9_dropping_37 rfl ?_
  refine e_callV (μ' := mX9_waving) (ci := 9) (As := [.int (nI p), .int x]) dX9_dropping_38 wl_X9_319 ok_X9_waving rfl rfl (fx_pi_lt (by decide)) (by decide) (Nat.le_of_ble_eq_true rfl) fx_n1 (s_X9_waving6 (m := m1) hL1 H1 hp hK t1 (by (try simp only [show p_beT 6 = [70, 40, 20, 10] from rfl, show p_waT 6 6 = [71, 11, 70, 40, 20, 10] from rfl, List.length_append, List.length_cons, List.length_nil, List.nil_append]); omega) x) rfl (fun r_ m_ hpost => ?_)
  revert r_ m_
  intro r_ m2 hpost
  obtain ⟨rfl, g2, t2⟩ := hpost
  have G2 := G1.trans g2
  have hL2 := G2.lay hL
  have H2 := G2.ms H
  refine e_istore dX9_dropping_41 (by decide) rfl ?_
  refine e_iload dX9_dropping_43 rfl ?_
  refine e_aload_n dX9_dropping_45 rfl ?_
  refine e_iload_n dX9_dropping_46 rfl ?_
  refine e_iload_n dX9_dropping_47 rfl ?_
  refine e_aload_n dX9_dropping_48 rfl ?_
  refine e_getr (o2 := 86) dX9_dropping_49 ff_X9_23 rfl (fx_pi_lt (by decide)) (by decide) rfl (hL2 _ _ _ rfl) ?_
  refine e_iload_n dX9_dropping_52 rfl ?_
  refine e_ialdv (j := p) (v := t.1 p 1) dX9_dropping_53 rfl (fx_pi_lt (by decide)) rfl (by omega) (by decide) (H2.2.2.2.1 p (by omega) 1 (by decide)) ?_
  refine e_isub dX9_dropping_54 ?_
  refine e_callV (μ' := mX9_bending) (ci := 9) (As := [.int (nI p), .int (x - (t.1 p 1))]) dX9_dropping_55 wl_X9_316 ok_X9_bending rfl rfl (fx_pi_lt (by decide)) (by decide) (Nat.le_of_ble_eq_true rfl) fx_n1 (s_X9_bending6 (m := m2) hL2 H2 hp hK t2 (by (try simp only [show p_beT 6 = [70, 40, 20, 10] from rfl, show p_waT 6 6 = [71, 11, 70, 40, 20, 10] from rfl, List.length_append, List.length_cons, List.length_nil, List.nil_append]); omega) (x - (t.1 p 1))) rfl (fun r_ m_ hpost => ?_)
  revert r_ m_
  intro r_ m3 hpost
  obtain ⟨rfl, g3, t3⟩ := hpost
  have G3 := G2.trans g3
  have hL3 := G3.lay hL
  have H3 := G3.ms H
  refine e_ixor dX9_dropping_58 ?_
  refine e_istore dX9_dropping_59 (by decide) rfl ?_
  refine e_iload_n dX9_dropping_61 rfl ?_
  refine e_iconst dX9_dropping_62 kci_4 ?_
  refine e_icmp_ne 72 dX9_dropping_63 rfl (fun _ => ?_) (fun h => absurd h (by decide))
  refine e_iload_n dX9_dropping_72 rfl ?_
  refine e_iconst dX9_dropping_73 kci_5 ?_
  refine e_icmp_ne 84 dX9_dropping_74 rfl (fun _ => ?_) (fun h => absurd h (by decide))
  refine e_iload dX9_dropping_84 rfl ?_
  exact e_iret dX9_dropping_86 rfl rfl rfl ⟨by first | rfl | (simp [p_be, p_wa, p_do, p_do0]; done), G3, by rw [show p_doT 6 6 = [12, 71, 11, 70, 40, 20, 10, 70, 40, 20, 10] from rfl]; have q := t3; (try simp only [List.append_assoc, List.cons_append, List.nil_append, show p_beT 6 = [70, 40, 20, 10] from rfl, show p_waT 6 6 = [71, 11, 70, 40, 20, 10] from rfl] at q); exact q⟩
theorem s_X9_bending {Γ : fx_G} {m : fx_M} (hL : fx_Lay m) {na nd : Nat} {t : p_Sg} (H : fx_MS m na nd t) {p : Nat} (hp : p < na) {K : Nat} (hK7 : K < 7) (hK : t.1 p 0 = nI K) (ht : fx_trM m []) (x : Int32) : fx_Ct Γ mX9_bending 1 119 119 [fx_rf Γ 83, .int (nI p), .int x] m (fun r m' => r = some (.int (p_be K (nI p) (t.1 p 1) x)) ∧ fx_TF m m' ∧ fx_trM m' (p_beT K)) := by
  revert hK
  refine p_7 (P := fun K => t.1 p 0 = nI K → fx_Ct Γ mX9_bending 1 119 119 [fx_rf Γ 83, .int (nI p), .int x] m (fun r m' => r = some (.int (p_be K (nI p) (t.1 p 1) x)) ∧ fx_TF m m' ∧ fx_trM m' (p_beT K))) (fun hK => s_X9_bending0 hL H hp hK ht (by decide) x) (fun hK => s_X9_bending1 hL H hp hK ht (by decide) x) (fun hK => s_X9_bending2 hL H hp hK ht (by decide) x) (fun hK => s_X9_bending3 hL H hp hK ht (by decide) x) (fun hK => s_X9_bending4 hL H hp hK ht (by decide) x) (fun hK => s_X9_bending5 hL H hp hK ht (by decide) x) (fun hK => s_X9_bending6 hL H hp hK ht (by decide) x) hK7
theorem s_X9_waving {Γ : fx_G} {m : fx_M} (hL : fx_Lay m) {na nd : Nat} {t : p_Sg} (H : fx_MS m na nd t) {p : Nat} (hp : p < na) {K : Nat} (hK7 : K < 7) (hK : t.1 p 0 = nI K) (ht : fx_trM m []) (x : Int32) : fx_Ct Γ mX9_waving 2 119 119 [fx_rf Γ 83, .int (nI p), .int x] m (fun r m' => r = some (.int (p_wa K K (nI p) (t.1 p 1) x)) ∧ fx_TF m m' ∧ fx_trM m' (p_waT K K)) := by
  revert hK
  refine p_7 (P := fun K => t.1 p 0 = nI K → fx_Ct Γ mX9_waving 2 119 119 [fx_rf Γ 83, .int (nI p), .int x] m (fun r m' => r = some (.int (p_wa K K (nI p) (t.1 p 1) x)) ∧ fx_TF m m' ∧ fx_trM m' (p_waT K K))) (fun hK => s_X9_waving0 hL H hp hK ht (by decide) x) (fun hK => s_X9_waving1 hL H hp hK ht (by decide) x) (fun hK => s_X9_waving2 hL H hp hK ht (by decide) x) (fun hK => s_X9_waving3 hL H hp hK ht (by decide) x) (fun hK => s_X9_waving4 hL H hp hK ht (by decide) x) (fun hK => s_X9_waving5 hL H hp hK ht (by decide) x) (fun hK => s_X9_waving6 hL H hp hK ht (by decide) x) hK7
theorem s_X9_dropping {Γ : fx_G} {m : fx_M} (hL : fx_Lay m) {na nd : Nat} {t : p_Sg} (H : fx_MS m na nd t) {p : Nat} (hp : p < na) {K : Nat} (hK7 : K < 7) (hK : t.1 p 0 = nI K) (ht : fx_trM m []) (x : Int32) : fx_Ct Γ mX9_dropping 3 119 119 [fx_rf Γ 83, .int (nI p), .int x] m (fun r m' => r = some (.int (p_do K K (nI p) (t.1 p 1) x)) ∧ fx_TF m m' ∧ fx_trM m' (p_doT K K)) := by
  revert hK
  refine p_7 (P := fun K => t.1 p 0 = nI K → fx_Ct Γ mX9_dropping 3 119 119 [fx_rf Γ 83, .int (nI p), .int x] m (fun r m' => r = some (.int (p_do K K (nI p) (t.1 p 1) x)) ∧ fx_TF m m' ∧ fx_trM m' (p_doT K K))) (fun hK => s_X9_dropping0 hL H hp hK ht (by decide) x) (fun hK => s_X9_dropping1 hL H hp hK ht (by decide) x) (fun hK => s_X9_dropping2 hL H hp hK ht (by decide) x) (fun hK => s_X9_dropping3 hL H hp hK ht (by decide) x) (fun hK => s_X9_dropping4 hL H hp hK ht (by decide) x) (fun hK => s_X9_dropping5 hL H hp hK ht (by decide) x) (fun hK => s_X9_dropping6 hL H hp hK ht (by decide) x) hK7
