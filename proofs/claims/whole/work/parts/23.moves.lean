theorem e_topI {Γ : fx_G} {μ : fx_MD} {d n0 n1 n : Nat} {post : Option Value → fx_M → Prop} {m : fx_M} {pc : Nat} {lv : List (Option Value)} {st : List Value} {x v : Int32} (h : x = v) (kk : fx_E Γ μ d n0 n1 post n m pc lv (.int v :: st)) : fx_E Γ μ d n0 n1 post n m pc lv (.int x :: st) := by
  rw [h]; exact kk
/-! the moves: the trace is a list of bodies; K an arm's kind, n its number, a its a -/
def fx_tr (m : fx_M) (l : List Nat) : Prop := m.1 65 0 = nI l.length ∧ ∀ i v, l[i]? = some v → m.1 66 i = nI v
def fx_mv (m m' : fx_M) : Prop := m'.2 = m.2 ∧ (∀ o, o ≠ 65 → o ≠ 66 → m'.1 o = m.1 o) ∧ ∀ k, k ≠ 0 → m'.1 65 k = m.1 65 k
theorem fx_mv.refl (m : fx_M) : fx_mv m m := ⟨rfl, fun _ _ _ => rfl, fun _ _ => rfl⟩
theorem fx_mv.trans {a b c : fx_M} (h : fx_mv a b) (g : fx_mv b c) : fx_mv a c := ⟨g.1.trans h.1, fun o h1 h2 => (g.2.1 o h1 h2).trans (h.2.1 o h1 h2), fun k hk => (g.2.2 k hk).trans (h.2.2 k hk)⟩
/-- an arm as the moves see it -/
def fx_mA (m : fx_M) (o K : Nat) (n a : Int32) : Prop := m.1 65 3 = n ∧ m.2.2 65 2 = some o ∧ fx_shapes[o]? = some (10 + 0, 7) ∧ o < 50 ∧ m.1 o 0 = nI K ∧ m.1 o 1 = a ∧ fx_Lay m ∧ K < 7
theorem fx_mA.mv {m m' : fx_M} {o K : Nat} {n a : Int32} (h : fx_mA m o K n a) (g : fx_mv m m') : fx_mA m' o K n a := by
  obtain ⟨h1, h2, h3, h4, h5, h6, h7, h8⟩ := h
  exact ⟨(g.2.2 3 (by decide)).trans h1, by rw [g.1]; exact h2, h3, h4, by rw [g.2.1 o (by omega) (by omega)]; exact h5, by rw [g.2.1 o (by omega) (by omega)]; exact h6, fun o k v hv => by rw [g.1]; exact h7 o k v hv, h8⟩
theorem fx_tr.note {m : fx_M} {l : List Nat} (h : fx_tr m l) (b : Nat) : fx_tr (fx_sI (fx_sI m 66 l.length (nI b)) 65 0 (nI (l.length + 1))) (l ++ [b]) := by
  refine ⟨by rw [fx_rd0, List.length_append]; rfl, fun i v hi => ?_⟩
  rw [fx_sI_n _ _ _ (by decide)]
  by_cases c : i < l.length
  · rw [List.getElem?_append_left c] at hi
    rw [fx_rd2 (by omega)]
    exact h.2 i v hi
  · rw [List.getElem?_append_right (by omega)] at hi
    by_cases d : i = l.length
    · subst d
      simp at hi
      subst hi
      exact fx_rd0
    · rw [List.getElem?_eq_none (by simp; omega)] at hi
      cases hi
def p_be (f : Nat) (n a x : Int32) : Int32 := if f = 1 then x + n + a else if f = 3 then x + 1 + n + a else if f = 4 then x + n - n else if f = 6 then (x + 1 + n + a) * 2 else x + n
def p_beT (f : Nat) : List Nat := if f = 1 then [20, 10] else if f = 3 then [40, 20, 10] else if f = 4 then [51, 10] else if f = 6 then [70, 40, 20, 10] else [10]
def p_wa (f K : Nat) (n a x : Int32) : Int32 := if f = 2 ∨ f = 5 then p_be K n a x * 2 * 3 else if f = 6 then p_be K n a (x - a) * 2 else p_be K n a x * 2
def p_waT (f K : Nat) : List Nat := if f = 2 ∨ f = 5 then 30 :: 11 :: p_beT K else if f = 6 then 71 :: 11 :: p_beT K else 11 :: p_beT K
def p_do0 (K : Nat) (n a x : Int32) : Int32 := p_wa K K n a x ^^^ p_be K n a (x - a)
def p_do0T (K : Nat) : List Nat := 12 :: (p_waT K K ++ p_beT K)
def p_do (f K : Nat) (n a x : Int32) : Int32 := if f = 4 then -(p_do0 K n a x) else if f = 5 then p_do0 K n a x ^^^ 5 else p_do0 K n a x
def p_doT (f K : Nat) : List Nat := if f = 4 then 50 :: p_do0T K else if f = 5 then 60 :: p_do0T K else p_do0T K
theorem p_beT_le (f : Nat) : (p_beT f).length ≤ 4 := by unfold p_beT; repeat (split; exact by decide)
                                                        decide
theorem p_waT_le (f K : Nat) : (p_waT f K).length ≤ 6 := by
  have := p_beT_le K
  unfold p_waT
  split
  · simp; omega
  · split <;> (simp; omega)
theorem p_do0T_le (K : Nat) : (p_do0T K).length ≤ 11 := by
  have h1 := p_beT_le K
  have h2 := p_waT_le K K
  unfold p_do0T
  simp
  omega
theorem p_doT_le (f K : Nat) : (p_doT f K).length ≤ 12 := by
  have := p_do0T_le K
  unfold p_doT
  split
  · simp; omega
  · split <;> (simp; omega)
theorem p_7 {P : Nat → Prop} (h0 : P 0) (h1 : P 1) (h2 : P 2) (h3 : P 3) (h4 : P 4) (h5 : P 5) (h6 : P 6) {x : Nat} (hx : x < 7) : P x := by
  have : x = 0 ∨ x = 1 ∨ x = 2 ∨ x = 3 ∨ x = 4 ∨ x = 5 ∨ x = 6 := by omega
  rcases this with rfl | rfl | rfl | rfl | rfl | rfl | rfl <;> assumption
set_option maxRecDepth 100000 in
set_option maxHeartbeats 600000 in
theorem s_X2_forget {Γ : fx_G} {m : fx_M} : fx_Ct Γ mX2_forget 0 119 119 [fx_rf Γ 65] m (fx_is none (fx_sI m 65 0 0)) := by
  refine fx_Ct.of (j := 0) (by decide) (Nat.le_of_ble_eq_true rfl) (Nat.le_of_ble_eq_true rfl) ?_
  show fx_E Γ mX2_forget 0 119 119 _ 119 m 0 [some (fx_rf Γ 65)] []
  refine e_aload_n dX2_forget_0 rfl ?_
  refine e_iconst dX2_forget_1 kci_0 ?_
  refine e_put dX2_forget_2 ff_X2_9 rfl (fx_pi_lt (by decide)) (by decide) rfl (Or.inl rfl) ?_
  exact e_vret dX2_forget_5 rfl rfl ⟨rfl, rfl⟩
def p_bod (k : Nat → Int32) (c i : Int32) : Int32 := if 0 ≤ i ∧ i < c ∧ i < 20 then k i.toNatClampNeg else -1
set_option maxRecDepth 100000 in
set_option maxHeartbeats 600000 in
theorem s_X2_bodyAt {Γ : fx_G} {m : fx_M} (hL : fx_Lay m) (i : Int32) : fx_Ct Γ mX2_bodyAt 0 119 119 [fx_rf Γ 65, .int i] m (fx_is (some (.int (p_bod (m.1 66) (m.1 65 0) i))) m) := by
  refine fx_Ct.of (j := 0) (by decide) (Nat.le_of_ble_eq_true rfl) (Nat.le_of_ble_eq_true rfl) ?_
  show fx_E Γ mX2_bodyAt 0 119 119 _ 119 m 0 [some (fx_rf Γ 65), some (.int i)] []
  refine e_iload_n dX2_bodyAt_0 rfl ?_
  refine e_if_lt 27 dX2_bodyAt_1 rfl (fun c_1 => ?_) (fun c_1 => ?_)
  · refine e_iconst dX2_bodyAt_27 kci_m1 ?_
    exact e_iret dX2_bodyAt_28 rfl rfl rfl ⟨by rw [p_bod, if_neg (by rintro ⟨h1, h2, h3⟩; first | exact absurd h1 (Int32.not_le.mpr c_1) | exact absurd h2 (Int32.not_lt.mpr c_2) | exact absurd h3 (Int32.not_lt.mpr c_3))], rfl⟩
  · refine e_iload_n dX2_bodyAt_4 rfl ?_
    refine e_aload_n dX2_bodyAt_5 rfl ?_
    refine e_get dX2_bodyAt_6 ff_X2_9 rfl (fx_pi_lt (by decide)) (by decide) rfl ?_
    refine e_icmp_ge 27 dX2_bodyAt_9 rfl (fun c_2 => ?_) (fun c_2 => ?_)
    · refine e_iconst dX2_bodyAt_27 kci_m1 ?_
      exact e_iret dX2_bodyAt_28 rfl rfl rfl ⟨by rw [p_bod, if_neg (by rintro ⟨h1, h2, h3⟩; first | exact absurd h1 (Int32.not_le.mpr c_1) | exact absurd h2 (Int32.not_lt.mpr c_2) | exact absurd h3 (Int32.not_lt.mpr c_3))], rfl⟩
    · refine e_iload_n dX2_bodyAt_12 rfl ?_
      refine e_bipush dX2_bodyAt_13 kcb_20 ?_
      refine e_icmp_ge 27 dX2_bodyAt_15 rfl (fun c_3 => ?_) (fun c_3 => ?_)
      · refine e_iconst dX2_bodyAt_27 kci_m1 ?_
        exact e_iret dX2_bodyAt_28 rfl rfl rfl ⟨by rw [p_bod, if_neg (by rintro ⟨h1, h2, h3⟩; first | exact absurd h1 (Int32.not_le.mpr c_1) | exact absurd h2 (Int32.not_lt.mpr c_2) | exact absurd h3 (Int32.not_lt.mpr c_3))], rfl⟩
      · obtain ⟨y, hy, hiy⟩ := p_el_ex (c := 20) ⟨Int32.not_lt.mp c_1, Int32.not_le.mp c_3⟩ (by decide)
        subst hiy
        refine e_aload_n dX2_bodyAt_18 rfl ?_
        refine e_getr (o2 := 66) dX2_bodyAt_19 ff_X2_15 rfl (fx_pi_lt (by decide)) (by decide) rfl (hL _ _ _ rfl) ?_
        refine e_iload_n dX2_bodyAt_22 rfl ?_
        refine e_iald (j := y) dX2_bodyAt_23 rfl (fx_pi_lt (by decide)) rfl (by omega) (by decide) ?_
        refine e_goto 28 dX2_bodyAt_24 rfl ?_
        exact e_iret dX2_bodyAt_28 rfl rfl rfl ⟨by rw [p_bod, if_pos ⟨Int32.not_lt.mp c_1, Int32.not_le.mp c_2, Int32.not_le.mp c_3⟩, nI_clamp (by omega)], rfl⟩
set_option maxRecDepth 100000 in
set_option maxHeartbeats 600000 in
theorem s_X2_note {Γ : fx_G} {m : fx_M} (hL : fx_Lay m) {l : List Nat} (ht : fx_tr m l) (hl : l.length < 20) (b : Nat) : fx_Ct Γ mX2_note 0 119 119 [fx_rf Γ 65, .int (nI b)] m (fun r m' => r = none ∧ fx_mv m m' ∧ fx_tr m' (l ++ [b])) := by
  refine fx_Ct.of (j := 0) (by decide) (Nat.le_of_ble_eq_true rfl) (Nat.le_of_ble_eq_true rfl) ?_
  show fx_E Γ mX2_note 0 119 119 _ 119 m 0 [some (fx_rf Γ 65), some (.int (nI b))] []
  refine e_aload_n dX2_note_0 rfl ?_
  refine e_getv (v := nI l.length) dX2_note_1 ff_X2_9 rfl (fx_pi_lt (by decide)) (by decide) rfl (by first | exact ht.1 | (rw [fx_sI_n _ _ _ (by decide)]; exact ht.1)) ?_
  refine e_bipush dX2_note_4 kcb_20 ?_
  refine e_icmp_ge 19 dX2_note_6 rfl (fun h => absurd h (nI_ge (by omega) (by decide))) (fun _ => ?_)
  refine e_aload_n dX2_note_9 rfl ?_
  refine e_getr (o2 := 66) dX2_note_10 ff_X2_15 rfl (fx_pi_lt (by decide)) (by decide) rfl (hL _ _ _ rfl) ?_
  refine e_aload_n dX2_note_13 rfl ?_
  refine e_getv (v := nI l.length) dX2_note_14 ff_X2_9 rfl (fx_pi_lt (by decide)) (by decide) rfl (by first | exact ht.1 | (rw [fx_sI_n _ _ _ (by decide)]; exact ht.1)) ?_
  refine e_iload_n dX2_note_17 rfl ?_
  refine e_iast (j := l.length) dX2_note_18 rfl (fx_pi_lt (by decide)) rfl (by omega) (by decide) ?_
  refine e_aload_n dX2_note_19 rfl ?_
  refine e_dup dX2_note_20 rfl ?_
  refine e_getv (v := nI l.length) dX2_note_21 ff_X2_9 rfl (fx_pi_lt (by decide)) (by decide) rfl (by first | exact ht.1 | (rw [fx_sI_n _ _ _ (by decide)]; exact ht.1)) ?_
  refine e_iconst dX2_note_24 kci_1 ?_
  refine e_iadd dX2_note_25 ?_
  rw [nI_1]
  refine e_put dX2_note_26 ff_X2_9 rfl (fx_pi_lt (by decide)) (by decide) rfl (Or.inl rfl) ?_
  exact e_vret dX2_note_29 rfl rfl ⟨rfl, ⟨rfl, fun o h1 h2 => by rw [fx_sI_n _ _ _ h1, fx_sI_n _ _ _ h2], fun k hk => by rw [fx_rd2 (Ne.symm hk), fx_sI_n _ _ _ (by decide)]⟩, ht.note b⟩
set_option maxRecDepth 100000 in
set_option maxHeartbeats 600000 in
theorem s_X2_body00 {Γ : fx_G} {m : fx_M} : fx_Ct Γ mX2_bodyOf 1 119 119 [.int 0, .int 0] m (fx_is (some (.int 10)) m) := by
  refine fx_Ct.of (j := 1) (by decide) (Nat.le_of_ble_eq_true rfl) (Nat.le_of_ble_eq_true rfl) ?_
  show fx_E Γ mX2_bodyOf 1 119 119 _ 119 m 0 [some (.int 0), some (.int 0), none] []
  refine e_iload_n dX2_bodyOf_0 rfl ?_
  refine e_iconst dX2_bodyOf_1 kci_0 ?_
  refine e_bipush dX2_bodyOf_2 kcb_6 ?_
  refine e_callSN1 (μ' := mX8_within) (As := [.int 0, .int 0, .int 6]) dX2_bodyOf_4 (List.mem_of_getElem? (i := 6) rfl) ok_X8_within (by decide) (Nat.le_of_ble_eq_true rfl) fx_n1 (s_X8_within (m := m) 0 0 6) rfl ?_
  refine e_if_eqB 23 dX2_bodyOf_7 rfl (fun h => absurd h (by decide)) (fun _ => ?_)
  refine e_iload_n dX2_bodyOf_10 rfl ?_
  refine e_iconst dX2_bodyOf_11 kci_0 ?_
  refine e_iconst dX2_bodyOf_12 kci_2 ?_
  refine e_callSN1 (μ' := mX8_within) (As := [.int 0, .int 0, .int 2]) dX2_bodyOf_13 (List.mem_of_getElem? (i := 6) rfl) ok_X8_within (by decide) (Nat.le_of_ble_eq_true rfl) fx_n1 (s_X8_within (m := m) 0 0 2) rfl ?_
  refine e_if_eqB 23 dX2_bodyOf_16 rfl (fun h => absurd h (by decide)) (fun _ => ?_)
  refine e_iconst dX2_bodyOf_19 kci_1 ?_
  refine e_goto 24 dX2_bodyOf_20 rfl ?_
  refine e_istore_n dX2_bodyOf_24 (by decide) rfl ?_
  refine e_iload_n dX2_bodyOf_25 rfl ?_
  refine e_if_eq 41 dX2_bodyOf_26 rfl (fun h => absurd h (by decide)) (fun _ => ?_)
  refine e_gets (j := 5) dX2_bodyOf_29 rfl wf_X2_54 ?_
  refine e_iconst dX2_bodyOf_32 kci_3 ?_
  refine e_iload_n dX2_bodyOf_33 rfl ?_
  refine e_imul dX2_bodyOf_34 ?_
  refine e_iload_n dX2_bodyOf_35 rfl ?_
  refine e_iadd dX2_bodyOf_36 ?_
  refine e_topI (v := 0) (by decide) ?_
  refine e_sald (j := 5) (i := 0) dX2_bodyOf_37 rfl rfl (by decide) (by decide) ?_
  refine e_goto 42 dX2_bodyOf_38 rfl ?_
  exact e_iret dX2_bodyOf_42 rfl rfl rfl ⟨rfl, rfl⟩
set_option maxRecDepth 100000 in
set_option maxHeartbeats 600000 in
theorem s_X2_body01 {Γ : fx_G} {m : fx_M} : fx_Ct Γ mX2_bodyOf 1 119 119 [.int 0, .int 1] m (fx_is (some (.int 11)) m) := by
  refine fx_Ct.of (j := 1) (by decide) (Nat.le_of_ble_eq_true rfl) (Nat.le_of_ble_eq_true rfl) ?_
  show fx_E Γ mX2_bodyOf 1 119 119 _ 119 m 0 [some (.int 0), some (.int 1), none] []
  refine e_iload_n dX2_bodyOf_0 rfl ?_
  refine e_iconst dX2_bodyOf_1 kci_0 ?_
  refine e_bipush dX2_bodyOf_2 kcb_6 ?_
  refine e_callSN1 (μ' := mX8_within) (As := [.int 0, .int 0, .int 6]) dX2_bodyOf_4 (List.mem_of_getElem? (i := 6) rfl) ok_X8_within (by decide) (Nat.le_of_ble_eq_true rfl) fx_n1 (s_X8_within (m := m) 0 0 6) rfl ?_
  refine e_if_eqB 23 dX2_bodyOf_7 rfl (fun h => absurd h (by decide)) (fun _ => ?_)
  refine e_iload_n dX2_bodyOf_10 rfl ?_
  refine e_iconst dX2_bodyOf_11 kci_0 ?_
  refine e_iconst dX2_bodyOf_12 kci_2 ?_
  refine e_callSN1 (μ' := mX8_within) (As := [.int 1, .int 0, .int 2]) dX2_bodyOf_13 (List.mem_of_getElem? (i := 6) rfl) ok_X8_within (by decide) (Nat.le_of_ble_eq_true rfl) fx_n1 (s_X8_within (m := m) 1 0 2) rfl ?_
  refine e_if_eqB 23 dX2_bodyOf_16 rfl (fun h => absurd h (by decide)) (fun _ => ?_)
  refine e_iconst dX2_bodyOf_19 kci_1 ?_
  refine e_goto 24 dX2_bodyOf_20 rfl ?_
  refine e_istore_n dX2_bodyOf_24 (by decide) rfl ?_
  refine e_iload_n dX2_bodyOf_25 rfl ?_
  refine e_if_eq 41 dX2_bodyOf_26 rfl (fun h => absurd h (by decide)) (fun _ => ?_)
  refine e_gets (j := 5) dX2_bodyOf_29 rfl wf_X2_54 ?_
  refine e_iconst dX2_bodyOf_32 kci_3 ?_
  refine e_iload_n dX2_bodyOf_33 rfl ?_
  refine e_imul dX2_bodyOf_34 ?_
  refine e_iload_n dX2_bodyOf_35 rfl ?_
  refine e_iadd dX2_bodyOf_36 ?_
  refine e_topI (v := 1) (by decide) ?_
  refine e_sald (j := 5) (i := 1) dX2_bodyOf_37 rfl rfl (by decide) (by decide) ?_
  refine e_goto 42 dX2_bodyOf_38 rfl ?_
  exact e_iret dX2_bodyOf_42 rfl rfl rfl ⟨rfl, rfl⟩
set_option maxRecDepth 100000 in
set_option maxHeartbeats 600000 in
theorem s_X2_body02 {Γ : fx_G} {m : fx_M} : fx_Ct Γ mX2_bodyOf 1 119 119 [.int 0, .int 2] m (fx_is (some (.int 12)) m) := by
  refine fx_Ct.of (j := 1) (by decide) (Nat.le_of_ble_eq_true rfl) (Nat.le_of_ble_eq_true rfl) ?_
  show fx_E Γ mX2_bodyOf 1 119 119 _ 119 m 0 [some (.int 0), some (.int 2), none] []
  refine e_iload_n dX2_bodyOf_0 rfl ?_
  refine e_iconst dX2_bodyOf_1 kci_0 ?_
  refine e_bipush dX2_bodyOf_2 kcb_6 ?_
  refine e_callSN1 (μ' := mX8_within) (As := [.int 0, .int 0, .int 6]) dX2_bodyOf_4 (List.mem_of_getElem? (i := 6) rfl) ok_X8_within (by decide) (Nat.le_of_ble_eq_true rfl) fx_n1 (s_X8_within (m := m) 0 0 6) rfl ?_
  refine e_if_eqB 23 dX2_bodyOf_7 rfl (fun h => absurd h (by decide)) (fun _ => ?_)
  refine e_iload_n dX2_bodyOf_10 rfl ?_
  refine e_iconst dX2_bodyOf_11 kci_0 ?_
  refine e_iconst dX2_bodyOf_12 kci_2 ?_
  refine e_callSN1 (μ' := mX8_within) (As := [.int 2, .int 0, .int 2]) dX2_bodyOf_13 (List.mem_of_getElem? (i := 6) rfl) ok_X8_within (by decide) (Nat.le_of_ble_eq_true rfl) fx_n1 (s_X8_within (m := m) 2 0 2) rfl ?_
  refine e_if_eqB 23 dX2_bodyOf_16 rfl (fun h => absurd h (by decide)) (fun _ => ?_)
  refine e_iconst dX2_bodyOf_19 kci_1 ?_
  refine e_goto 24 dX2_bodyOf_20 rfl ?_
  refine e_istore_n dX2_bodyOf_24 (by decide) rfl ?_
  refine e_iload_n dX2_bodyOf_25 rfl ?_
  refine e_if_eq 41 dX2_bodyOf_26 rfl (fun h => absurd h (by decide)) (fun _ => ?_)
  refine e_gets (j := 5) dX2_bodyOf_29 rfl wf_X2_54 ?_
  refine e_iconst dX2_bodyOf_32 kci_3 ?_
  refine e_iload_n dX2_bodyOf_33 rfl ?_
  refine e_imul dX2_bodyOf_34 ?_
  refine e_iload_n dX2_bodyOf_35 rfl ?_
  refine e_iadd dX2_bodyOf_36 ?_
  refine e_topI (v := 2) (by decide) ?_
  refine e_sald (j := 5) (i := 2) dX2_bodyOf_37 rfl rfl (by decide) (by decide) ?_
  refine e_goto 42 dX2_bodyOf_38 rfl ?_
  exact e_iret dX2_bodyOf_42 rfl rfl rfl ⟨rfl, rfl⟩
set_option maxRecDepth 100000 in
set_option maxHeartbeats 600000 in
theorem s_X2_body10 {Γ : fx_G} {m : fx_M} : fx_Ct Γ mX2_bodyOf 1 119 119 [.int 1, .int 0] m (fx_is (some (.int 20)) m) := by
  refine fx_Ct.of (j := 1) (by decide) (Nat.le_of_ble_eq_true rfl) (Nat.le_of_ble_eq_true rfl) ?_
  show fx_E Γ mX2_bodyOf 1 119 119 _ 119 m 0 [some (.int 1), some (.int 0), none] []
  refine e_iload_n dX2_bodyOf_0 rfl ?_
  refine e_iconst dX2_bodyOf_1 kci_0 ?_
  refine e_bipush dX2_bodyOf_2 kcb_6 ?_
  refine e_callSN1 (μ' := mX8_within) (As := [.int 1, .int 0, .int 6]) dX2_bodyOf_4 (List.mem_of_getElem? (i := 6) rfl) ok_X8_within (by decide) (Nat.le_of_ble_eq_true rfl) fx_n1 (s_X8_within (m := m) 1 0 6) rfl ?_
  refine e_if_eqB 23 dX2_bodyOf_7 rfl (fun h => absurd h (by decide)) (fun _ => ?_)
  refine e_iload_n dX2_bodyOf_10 rfl ?_
  refine e_iconst dX2_bodyOf_11 kci_0 ?_
  refine e_iconst dX2_bodyOf_12 kci_2 ?_
  refine e_callSN1 (μ' := mX8_within) (As := [.int 0, .int 0, .int 2]) dX2_bodyOf_13 (List.mem_of_getElem? (i := 6) rfl) ok_X8_within (by decide) (Nat.le_of_ble_eq_true rfl) fx_n1 (s_X8_within (m := m) 0 0 2) rfl ?_
  refine e_if_eqB 23 dX2_bodyOf_16 rfl (fun h => absurd h (by decide)) (fun _ => ?_)
  refine e_iconst dX2_bodyOf_19 kci_1 ?_
  refine e_goto 24 dX2_bodyOf_20 rfl ?_
  refine e_istore_n dX2_bodyOf_24 (by decide) rfl ?_
  refine e_iload_n dX2_bodyOf_25 rfl ?_
  refine e_if_eq 41 dX2_bodyOf_26 rfl (fun h => absurd h (by decide)) (fun _ => ?_)
  refine e_gets (j := 5) dX2_bodyOf_29 rfl wf_X2_54 ?_
  refine e_iconst dX2_bodyOf_32 kci_3 ?_
  refine e_iload_n dX2_bodyOf_33 rfl ?_
  refine e_imul dX2_bodyOf_34 ?_
  refine e_iload_n dX2_bodyOf_35 rfl ?_
  refine e_iadd dX2_bodyOf_36 ?_
  refine e_topI (v := 3) (by decide) ?_
  refine e_sald (j := 5) (i := 3) dX2_bodyOf_37 rfl rfl (by decide) (by decide) ?_
  refine e_goto 42 dX2_bodyOf_38 rfl ?_
  exact e_iret dX2_bodyOf_42 rfl rfl rfl ⟨rfl, rfl⟩
set_option maxRecDepth 100000 in
set_option maxHeartbeats 600000 in
theorem s_X2_body11 {Γ : fx_G} {m : fx_M} : fx_Ct Γ mX2_bodyOf 1 119 119 [.int 1, .int 1] m (fx_is (some (.int 0)) m) := by
  refine fx_Ct.of (j := 1) (by decide) (Nat.le_of_ble_eq_true rfl) (Nat.le_of_ble_eq_true rfl) ?_
  show fx_E Γ mX2_bodyOf 1 119 119 _ 119 m 0 [some (.int 1), some (.int 1), none] []
  refine e_iload_n dX2_bodyOf_0 rfl ?_
  refine e_iconst dX2_bodyOf_1 kci_0 ?_
  refine e_bipush dX2_bodyOf_2 kcb_6 ?_
  refine e_callSN1 (μ' := mX8_within) (As := [.int 1, .int 0, .int 6]) dX2_bodyOf_4 (List.mem_of_getElem? (i := 6) rfl) ok_X8_within (by decide) (Nat.le_of_ble_eq_true rfl) fx_n1 (s_X8_within (m := m) 1 0 6) rfl ?_
  refine e_if_eqB 23 dX2_bodyOf_7 rfl (fun h => absurd h (by decide)) (fun _ => ?_)
  refine e_iload_n dX2_bodyOf_10 rfl ?_
  refine e_iconst dX2_bodyOf_11 kci_0 ?_
  refine e_iconst dX2_bodyOf_12 kci_2 ?_
  refine e_callSN1 (μ' := mX8_within) (As := [.int 1, .int 0, .int 2]) dX2_bodyOf_13 (List.mem_of_getElem? (i := 6) rfl) ok_X8_within (by decide) (Nat.le_of_ble_eq_true rfl) fx_n1 (s_X8_within (m := m) 1 0 2) rfl ?_
  refine e_if_eqB 23 dX2_bodyOf_16 rfl (fun h => absurd h (by decide)) (fun _ => ?_)
  refine e_iconst dX2_bodyOf_19 kci_1 ?_
  refine e_goto 24 dX2_bodyOf_20 rfl ?_
  refine e_istore_n dX2_bodyOf_24 (by decide) rfl ?_
  refine e_iload_n dX2_bodyOf_25 rfl ?_
  refine e_if_eq 41 dX2_bodyOf_26 rfl (fun h => absurd h (by decide)) (fun _ => ?_)
  refine e_gets (j := 5) dX2_bodyOf_29 rfl wf_X2_54 ?_
  refine e_iconst dX2_bodyOf_32 kci_3 ?_
  refine e_iload_n dX2_bodyOf_33 rfl ?_
  refine e_imul dX2_bodyOf_34 ?_
  refine e_iload_n dX2_bodyOf_35 rfl ?_
  refine e_iadd dX2_bodyOf_36 ?_
  refine e_topI (v := 4) (by decide) ?_
  refine e_sald (j := 5) (i := 4) dX2_bodyOf_37 rfl rfl (by decide) (by decide) ?_
  refine e_goto 42 dX2_bodyOf_38 rfl ?_
  exact e_iret dX2_bodyOf_42 rfl rfl rfl ⟨rfl, rfl⟩
set_option maxRecDepth 100000 in
set_option maxHeartbeats 600000 in
theorem s_X2_body12 {Γ : fx_G} {m : fx_M} : fx_Ct Γ mX2_bodyOf 1 119 119 [.int 1, .int 2] m (fx_is (some (.int 0)) m) := by
  refine fx_Ct.of (j := 1) (by decide) (Nat.le_of_ble_eq_true rfl) (Nat.le_of_ble_eq_true rfl) ?_
  show fx_E Γ mX2_bodyOf 1 119 119 _ 119 m 0 [some (.int 1), some (.int 2), none] []
  refine e_iload_n dX2_bodyOf_0 rfl ?_
  refine e_iconst dX2_bodyOf_1 kci_0 ?_
  refine e_bipush dX2_bodyOf_2 kcb_6 ?_
  refine e_callSN1 (μ' := mX8_within) (As := [.int 1, .int 0, .int 6]) dX2_bodyOf_4 (List.mem_of_getElem? (i := 6) rfl) ok_X8_within (by decide) (Nat.le_of_ble_eq_true rfl) fx_n1 (s_X8_within (m := m) 1 0 6) rfl ?_
  refine e_if_eqB 23 dX2_bodyOf_7 rfl (fun h => absurd h (by decide)) (fun _ => ?_)
  refine e_iload_n dX2_bodyOf_10 rfl ?_
  refine e_iconst dX2_bodyOf_11 kci_0 ?_
  refine e_iconst dX2_bodyOf_12 kci_2 ?_
  refine e_callSN1 (μ' := mX8_within) (As := [.int 2, .int 0, .int 2]) dX2_bodyOf_13 (List.mem_of_getElem? (i := 6) rfl) ok_X8_within (by decide) (Nat.le_of_ble_eq_true rfl) fx_n1 (s_X8_within (m := m) 2 0 2) rfl ?_
  refine e_if_eqB 23 dX2_bodyOf_16 rfl (fun h => absurd h (by decide)) (fun _ => ?_)
  refine e_iconst dX2_bodyOf_19 kci_1 ?_
  refine e_goto 24 dX2_bodyOf_20 rfl ?_
  refine e_istore_n dX2_bodyOf_24 (by decide) rfl ?_
  refine e_iload_n dX2_bodyOf_25 rfl ?_
  refine e_if_eq 41 dX2_bodyOf_26 rfl (fun h => absurd h (by decide)) (fun _ => ?_)
  refine e_gets (j := 5) dX2_bodyOf_29 rfl wf_X2_54 ?_
  refine e_iconst dX2_bodyOf_32 kci_3 ?_
  refine e_iload_n dX2_bodyOf_33 rfl ?_
  refine e_imul dX2_bodyOf_34 ?_
  refine e_iload_n dX2_bodyOf_35 rfl ?_
  refine e_iadd dX2_bodyOf_36 ?_
  refine e_topI (v := 5) (by decide) ?_
  refine e_sald (j := 5) (i := 5) dX2_bodyOf_37 rfl rfl (by decide) (by decide) ?_
  refine e_goto 42 dX2_bodyOf_38 rfl ?_
  exact e_iret dX2_bodyOf_42 rfl rfl rfl ⟨rfl, rfl⟩
set_option maxRecDepth 100000 in
set_option maxHeartbeats 600000 in
theorem s_X2_body20 {Γ : fx_G} {m : fx_M} : fx_Ct Γ mX2_bodyOf 1 119 119 [.int 2, .int 0] m (fx_is (some (.int 0)) m) := by
  refine fx_Ct.of (j := 1) (by decide) (Nat.le_of_ble_eq_true rfl) (Nat.le_of_ble_eq_true rfl) ?_
  show fx_E Γ mX2_bodyOf 1 119 119 _ 119 m 0 [some (.int 2), some (.int 0), none] []
  refine e_iload_n dX2_bodyOf_0 rfl ?_
  refine e_iconst dX2_bodyOf_1 kci_0 ?_
  refine e_bipush dX2_bodyOf_2 kcb_6 ?_
  refine e_callSN1 (μ' := mX8_within) (As := [.int 2, .int 0, .int 6]) dX2_bodyOf_4 (List.mem_of_getElem? (i := 6) rfl) ok_X8_within (by decide) (Nat.le_of_ble_eq_true rfl) fx_n1 (s_X8_within (m := m) 2 0 6) rfl ?_
  refine e_if_eqB 23 dX2_bodyOf_7 rfl (fun h => absurd h (by decide)) (fun _ => ?_)
  refine e_iload_n dX2_bodyOf_10 rfl ?_
  refine e_iconst dX2_bodyOf_11 kci_0 ?_
  refine e_iconst dX2_bodyOf_12 kci_2 ?_
  refine e_callSN1 (μ' := mX8_within) (As := [.int 0, .int 0, .int 2]) dX2_bodyOf_13 (List.mem_of_getElem? (i := 6) rfl) ok_X8_within (by decide) (Nat.le_of_ble_eq_true rfl) fx_n1 (s_X8_within (m := m) 0 0 2) rfl ?_
  refine e_if_eqB 23 dX2_bodyOf_16 rfl (fun h => absurd h (by decide)) (fun _ => ?_)
  refine e_iconst dX2_bodyOf_19 kci_1 ?_
  refine e_goto 24 dX2_bodyOf_20 rfl ?_
  refine e_istore_n dX2_bodyOf_24 (by decide) rfl ?_
  refine e_iload_n dX2_bodyOf_25 rfl ?_
  refine e_if_eq 41 dX2_bodyOf_26 rfl (fun h => absurd h (by decide)) (fun _ => ?_)
  refine e_gets (j := 5) dX2_bodyOf_29 rfl wf_X2_54 ?_
  refine e_iconst dX2_bodyOf_32 kci_3 ?_
  refine e_iload_n dX2_bodyOf_33 rfl ?_
  refine e_imul dX2_bodyOf_34 ?_
  refine e_iload_n dX2_bodyOf_35 rfl ?_
  refine e_iadd dX2_bodyOf_36 ?_
  refine e_topI (v := 6) (by decide) ?_
  refine e_sald (j := 5) (i := 6) dX2_bodyOf_37 rfl rfl (by decide) (by decide) ?_
  refine e_goto 42 dX2_bodyOf_38 rfl ?_
  exact e_iret dX2_bodyOf_42 rfl rfl rfl ⟨rfl, rfl⟩
set_option maxRecDepth 100000 in
set_option maxHeartbeats 600000 in
theorem s_X2_body21 {Γ : fx_G} {m : fx_M} : fx_Ct Γ mX2_bodyOf 1 119 119 [.int 2, .int 1] m (fx_is (some (.int 30)) m) := by
  refine fx_Ct.of (j := 1) (by decide) (Nat.le_of_ble_eq_true rfl) (Nat.le_of_ble_eq_true rfl) ?_
  show fx_E Γ mX2_bodyOf 1 119 119 _ 119 m 0 [some (.int 2), some (.int 1), none] []
  refine e_iload_n dX2_bodyOf_0 rfl ?_
  refine e_iconst dX2_bodyOf_1 kci_0 ?_
  refine e_bipush dX2_bodyOf_2 kcb_6 ?_
  refine e_callSN1 (μ' := mX8_within) (As := [.int 2, .int 0, .int 6]) dX2_bodyOf_4 (List.mem_of_getElem? (i := 6) rfl) ok_X8_within (by decide) (Nat.le_of_ble_eq_true rfl) fx_n1 (s_X8_within (m := m) 2 0 6) rfl ?_
  refine e_if_eqB 23 dX2_bodyOf_7 rfl (fun h => absurd h (by decide)) (fun _ => ?_)
  refine e_iload_n dX2_bodyOf_10 rfl ?_
  refine e_iconst dX2_bodyOf_11 kci_0 ?_
  refine e_iconst dX2_bodyOf_12 kci_2 ?_
  refine e_callSN1 (μ' := mX8_within) (As := [.int 1, .int 0, .int 2]) dX2_bodyOf_13 (List.mem_of_getElem? (i := 6) rfl) ok_X8_within (by decide) (Nat.le_of_ble_eq_true rfl) fx_n1 (s_X8_within (m := m) 1 0 2) rfl ?_
  refine e_if_eqB 23 dX2_bodyOf_16 rfl (fun h => absurd h (by decide)) (fun _ => ?_)
  refine e_iconst dX2_bodyOf_19 kci_1 ?_
  refine e_goto 24 dX2_bodyOf_20 rfl ?_
  refine e_istore_n dX2_bodyOf_24 (by decide) rfl ?_
  refine e_iload_n dX2_bodyOf_25 rfl ?_
  refine e_if_eq 41 dX2_bodyOf_26 rfl (fun h => absurd h (by decide)) (fun _ => ?_)
  refine e_gets (j := 5) dX2_bodyOf_29 rfl wf_X2_54 ?_
  refine e_iconst dX2_bodyOf_32 kci_3 ?_
  refine e_iload_n dX2_bodyOf_33 rfl ?_
  refine e_imul dX2_bodyOf_34 ?_
  refine e_iload_n dX2_bodyOf_35 rfl ?_
  refine e_iadd dX2_bodyOf_36 ?_
  refine e_topI (v := 7) (by decide) ?_
  refine e_sald (j := 5) (i := 7) dX2_bodyOf_37 rfl rfl (by decide) (by decide) ?_
  refine e_goto 42 dX2_bodyOf_38 rfl ?_
  exact e_iret dX2_bodyOf_42 rfl rfl rfl ⟨rfl, rfl⟩
set_option maxRecDepth 100000 in
set_option maxHeartbeats 600000 in
theorem s_X2_body22 {Γ : fx_G} {m : fx_M} : fx_Ct Γ mX2_bodyOf 1 119 119 [.int 2, .int 2] m (fx_is (some (.int 0)) m) := by
  refine fx_Ct.of (j := 1) (by decide) (Nat.le_of_ble_eq_true rfl) (Nat.le_of_ble_eq_true rfl) ?_
  show fx_E Γ mX2_bodyOf 1 119 119 _ 119 m 0 [some (.int 2), some (.int 2), none] []
  refine e_iload_n dX2_bodyOf_0 rfl ?_
  refine e_iconst dX2_bodyOf_1 kci_0 ?_
  refine e_bipush dX2_bodyOf_2 kcb_6 ?_
  refine e_callSN1 (μ' := mX8_within) (As := [.int 2, .int 0, .int 6]) dX2_bodyOf_4 (List.mem_of_getElem? (i := 6) rfl) ok_X8_within (by decide) (Nat.le_of_ble_eq_true rfl) fx_n1 (s_X8_within (m := m) 2 0 6) rfl ?_
  refine e_if_eqB 23 dX2_bodyOf_7 rfl (fun h => absurd h (by decide)) (fun _ => ?_)
  refine e_iload_n dX2_bodyOf_10 rfl ?_
  refine e_iconst dX2_bodyOf_11 kci_0 ?_
  refine e_iconst dX2_bodyOf_12 kci_2 ?_
  refine e_callSN1 (μ' := mX8_within) (As := [.int 2, .int 0, .int 2]) dX2_bodyOf_13 (List.mem_of_getElem? (i := 6) rfl) ok_X8_within (by decide) (Nat.le_of_ble_eq_true rfl) fx_n1 (s_X8_within (m := m) 2 0 2) rfl ?_
  refine e_if_eqB 23 dX2_bodyOf_16 rfl (fun h => absurd h (by decide)) (fun _ => ?_)
  refine e_iconst dX2_bodyOf_19 kci_1 ?_
  refine e_goto 24 dX2_bodyOf_20 rfl ?_
  refine e_istore_n dX2_bodyOf_24 (by decide) rfl ?_
  refine e_iload_n dX2_bodyOf_25 rfl ?_
  refine e_if_eq 41 dX2_bodyOf_26 rfl (fun h => absurd h (by decide)) (fun _ => ?_)
  refine e_gets (j := 5) dX2_bodyOf_29 rfl wf_X2_54 ?_
  refine e_iconst dX2_bodyOf_32 kci_3 ?_
  refine e_iload_n dX2_bodyOf_33 rfl ?_
  refine e_imul dX2_bodyOf_34 ?_
  refine e_iload_n dX2_bodyOf_35 rfl ?_
  refine e_iadd dX2_bodyOf_36 ?_
  refine e_topI (v := 8) (by decide) ?_
  refine e_sald (j := 5) (i := 8) dX2_bodyOf_37 rfl rfl (by decide) (by decide) ?_
  refine e_goto 42 dX2_bodyOf_38 rfl ?_
  exact e_iret dX2_bodyOf_42 rfl rfl rfl ⟨rfl, rfl⟩
set_option maxRecDepth 100000 in
set_option maxHeartbeats 600000 in
theorem s_X2_body30 {Γ : fx_G} {m : fx_M} : fx_Ct Γ mX2_bodyOf 1 119 119 [.int 3, .int 0] m (fx_is (some (.int 40)) m) := by
  refine fx_Ct.of (j := 1) (by decide) (Nat.le_of_ble_eq_true rfl) (Nat.le_of_ble_eq_true rfl) ?_
  show fx_E Γ mX2_bodyOf 1 119 119 _ 119 m 0 [some (.int 3), some (.int 0), none] []
  refine e_iload_n dX2_bodyOf_0 rfl ?_
  refine e_iconst dX2_bodyOf_1 kci_0 ?_
  refine e_bipush dX2_bodyOf_2 kcb_6 ?_
  refine e_callSN1 (μ' := mX8_within) (As := [.int 3, .int 0, .int 6]) dX2_bodyOf_4 (List.mem_of_getElem? (i := 6) rfl) ok_X8_within (by decide) (Nat.le_of_ble_eq_true rfl) fx_n1 (s_X8_within (m := m) 3 0 6) rfl ?_
  refine e_if_eqB 23 dX2_bodyOf_7 rfl (fun h => absurd h (by decide)) (fun _ => ?_)
  refine e_iload_n dX2_bodyOf_10 rfl ?_
  refine e_iconst dX2_bodyOf_11 kci_0 ?_
  refine e_iconst dX2_bodyOf_12 kci_2 ?_
  refine e_callSN1 (μ' := mX8_within) (As := [.int 0, .int 0, .int 2]) dX2_bodyOf_13 (List.mem_of_getElem? (i := 6) rfl) ok_X8_within (by decide) (Nat.le_of_ble_eq_true rfl) fx_n1 (s_X8_within (m := m) 0 0 2) rfl ?_
  refine e_if_eqB 23 dX2_bodyOf_16 rfl (fun h => absurd h (by decide)) (fun _ => ?_)
  refine e_iconst dX2_bodyOf_19 kci_1 ?_
  refine e_goto 24 dX2_bodyOf_20 rfl ?_
  refine e_istore_n dX2_bodyOf_24 (by decide) rfl ?_
  refine e_iload_n dX2_bodyOf_25 rfl ?_
  refine e_if_eq 41 dX2_bodyOf_26 rfl (fun h => absurd h (by decide)) (fun _ => ?_)
  refine e_gets (j := 5) dX2_bodyOf_29 rfl wf_X2_54 ?_
  refine e_iconst dX2_bodyOf_32 kci_3 ?_
  refine e_iload_n dX2_bodyOf_33 rfl ?_
  refine e_imul dX2_bodyOf_34 ?_
  refine e_iload_n dX2_bodyOf_35 rfl ?_
  refine e_iadd dX2_bodyOf_36 ?_
  refine e_topI (v := 9) (by decide) ?_
  refine e_sald (j := 5) (i := 9) dX2_bodyOf_37 rfl rfl (by decide) (by decide) ?_
  refine e_goto 42 dX2_bodyOf_38 rfl ?_
  exact e_iret dX2_bodyOf_42 rfl rfl rfl ⟨rfl, rfl⟩
set_option maxRecDepth 100000 in
set_option maxHeartbeats 600000 in
theorem s_X2_body31 {Γ : fx_G} {m : fx_M} : fx_Ct Γ mX2_bodyOf 1 119 119 [.int 3, .int 1] m (fx_is (some (.int 0)) m) := by
  refine fx_Ct.of (j := 1) (by decide) (Nat.le_of_ble_eq_true rfl) (Nat.le_of_ble_eq_true rfl) ?_
  show fx_E Γ mX2_bodyOf 1 119 119 _ 119 m 0 [some (.int 3), some (.int 1), none] []
  refine e_iload_n dX2_bodyOf_0 rfl ?_
  refine e_iconst dX2_bodyOf_1 kci_0 ?_
  refine e_bipush dX2_bodyOf_2 kcb_6 ?_
  refine e_callSN1 (μ' := mX8_within) (As := [.int 3, .int 0, .int 6]) dX2_bodyOf_4 (List.mem_of_getElem? (i := 6) rfl) ok_X8_within (by decide) (Nat.le_of_ble_eq_true rfl) fx_n1 (s_X8_within (m := m) 3 0 6) rfl ?_
  refine e_if_eqB 23 dX2_bodyOf_7 rfl (fun h => absurd h (by decide)) (fun _ => ?_)
  refine e_iload_n dX2_bodyOf_10 rfl ?_
  refine e_iconst dX2_bodyOf_11 kci_0 ?_
  refine e_iconst dX2_bodyOf_12 kci_2 ?_
  refine e_callSN1 (μ' := mX8_within) (As := [.int 1, .int 0, .int 2]) dX2_bodyOf_13 (List.mem_of_getElem? (i := 6) rfl) ok_X8_within (by decide) (Nat.le_of_ble_eq_true rfl) fx_n1 (s_X8_within (m := m) 1 0 2) rfl ?_
  refine e_if_eqB 23 dX2_bodyOf_16 rfl (fun h => absurd h (by decide)) (fun _ => ?_)
  refine e_iconst dX2_bodyOf_19 kci_1 ?_
  refine e_goto 24 dX2_bodyOf_20 rfl ?_
  refine e_istore_n dX2_bodyOf_24 (by decide) rfl ?_
  refine e_iload_n dX2_bodyOf_25 rfl ?_
  refine e_if_eq 41 dX2_bodyOf_26 rfl (fun h => absurd h (by decide)) (fun _ => ?_)
  refine e_gets (j := 5) dX2_bodyOf_29 rfl wf_X2_54 ?_
  refine e_iconst dX2_bodyOf_32 kci_3 ?_
  refine e_iload_n dX2_bodyOf_33 rfl ?_
  refine e_imul dX2_bodyOf_34 ?_
  refine e_iload_n dX2_bodyOf_35 rfl ?_
  refine e_iadd dX2_bodyOf_36 ?_
  refine e_topI (v := 10) (by decide) ?_
  refine e_sald (j := 5) (i := 10) dX2_bodyOf_37 rfl rfl (by decide) (by decide) ?_
  refine e_goto 42 dX2_bodyOf_38 rfl ?_
  exact e_iret dX2_bodyOf_42 rfl rfl rfl ⟨rfl, rfl⟩
set_option maxRecDepth 100000 in
set_option maxHeartbeats 600000 in
theorem s_X2_body32 {Γ : fx_G} {m : fx_M} : fx_Ct Γ mX2_bodyOf 1 119 119 [.int 3, .int 2] m (fx_is (some (.int 0)) m) := by
  refine fx_Ct.of (j := 1) (by decide) (Nat.le_of_ble_eq_true rfl) (Nat.le_of_ble_eq_true rfl) ?_
  show fx_E Γ mX2_bodyOf 1 119 119 _ 119 m 0 [some (.int 3), some (.int 2), none] []
  refine e_iload_n dX2_bodyOf_0 rfl ?_
  refine e_iconst dX2_bodyOf_1 kci_0 ?_
  refine e_bipush dX2_bodyOf_2 kcb_6 ?_
  refine e_callSN1 (μ' := mX8_within) (As := [.int 3, .int 0, .int 6]) dX2_bodyOf_4 (List.mem_of_getElem? (i := 6) rfl) ok_X8_within (by decide) (Nat.le_of_ble_eq_true rfl) fx_n1 (s_X8_within (m := m) 3 0 6) rfl ?_
  refine e_if_eqB 23 dX2_bodyOf_7 rfl (fun h => absurd h (by decide)) (fun _ => ?_)
  refine e_iload_n dX2_bodyOf_10 rfl ?_
  refine e_iconst dX2_bodyOf_11 kci_0 ?_
  refine e_iconst dX2_bodyOf_12 kci_2 ?_
  refine e_callSN1 (μ' := mX8_within) (As := [.int 2, .int 0, .int 2]) dX2_bodyOf_13 (List.mem_of_getElem? (i := 6) rfl) ok_X8_within (by decide) (Nat.le_of_ble_eq_true rfl) fx_n1 (s_X8_within (m := m) 2 0 2) rfl ?_
  refine e_if_eqB 23 dX2_bodyOf_16 rfl (fun h => absurd h (by decide)) (fun _ => ?_)
  refine e_iconst dX2_bodyOf_19 kci_1 ?_
  refine e_goto 24 dX2_bodyOf_20 rfl ?_
  refine e_istore_n dX2_bodyOf_24 (by decide) rfl ?_
  refine e_iload_n dX2_bodyOf_25 rfl ?_
  refine e_if_eq 41 dX2_bodyOf_26 rfl (fun h => absurd h (by decide)) (fun _ => ?_)
  refine e_gets (j := 5) dX2_bodyOf_29 rfl wf_X2_54 ?_
  refine e_iconst dX2_bodyOf_32 kci_3 ?_
  refine e_iload_n dX2_bodyOf_33 rfl ?_
  refine e_imul dX2_bodyOf_34 ?_
  refine e_iload_n dX2_bodyOf_35 rfl ?_
  refine e_iadd dX2_bodyOf_36 ?_
  refine e_topI (v := 11) (by decide) ?_
  refine e_sald (j := 5) (i := 11) dX2_bodyOf_37 rfl rfl (by decide) (by decide) ?_
  refine e_goto 42 dX2_bodyOf_38 rfl ?_
  exact e_iret dX2_bodyOf_42 rfl rfl rfl ⟨rfl, rfl⟩
set_option maxRecDepth 100000 in
set_option maxHeartbeats 600000 in
theorem s_X2_body40 {Γ : fx_G} {m : fx_M} : fx_Ct Γ mX2_bodyOf 1 119 119 [.int 4, .int 0] m (fx_is (some (.int 51)) m) := by
  refine fx_Ct.of (j := 1) (by decide) (Nat.le_of_ble_eq_true rfl) (Nat.le_of_ble_eq_true rfl) ?_
  show fx_E Γ mX2_bodyOf 1 119 119 _ 119 m 0 [some (.int 4), some (.int 0), none] []
  refine e_iload_n dX2_bodyOf_0 rfl ?_
  refine e_iconst dX2_bodyOf_1 kci_0 ?_
  refine e_bipush dX2_bodyOf_2 kcb_6 ?_
  refine e_callSN1 (μ' := mX8_within) (As := [.int 4, .int 0, .int 6]) dX2_bodyOf_4 (List.mem_of_getElem? (i := 6) rfl) ok_X8_within (by decide) (Nat.le_of_ble_eq_true rfl) fx_n1 (s_X8_within (m := m) 4 0 6) rfl ?_
  refine e_if_eqB 23 dX2_bodyOf_7 rfl (fun h => absurd h (by decide)) (fun _ => ?_)
  refine e_iload_n dX2_bodyOf_10 rfl ?_
  refine e_iconst dX2_bodyOf_11 kci_0 ?_
  refine e_iconst dX2_bodyOf_12 kci_2 ?_
  refine e_callSN1 (μ' := mX8_within) (As := [.int 0, .int 0, .int 2]) dX2_bodyOf_13 (List.mem_of_getElem? (i := 6) rfl) ok_X8_within (by decide) (Nat.le_of_ble_eq_true rfl) fx_n1 (s_X8_within (m := m) 0 0 2) rfl ?_
  refine e_if_eqB 23 dX2_bodyOf_16 rfl (fun h => absurd h (by decide)) (fun _ => ?_)
  refine e_iconst dX2_bodyOf_19 kci_1 ?_
  refine e_goto 24 dX2_bodyOf_20 rfl ?_
  refine e_istore_n dX2_bodyOf_24 (by decide) rfl ?_
  refine e_iload_n dX2_bodyOf_25 rfl ?_
  refine e_if_eq 41 dX2_bodyOf_26 rfl (fun h => absurd h (by decide)) (fun _ => ?_)
  refine e_gets (j := 5) dX2_bodyOf_29 rfl wf_X2_54 ?_
  refine e_iconst dX2_bodyOf_32 kci_3 ?_
  refine e_iload_n dX2_bodyOf_33 rfl ?_
  refine e_imul dX2_bodyOf_34 ?_
  refine e_iload_n dX2_bodyOf_35 rfl ?_
  refine e_iadd dX2_bodyOf_36 ?_
  refine e_topI (v := 12) (by decide) ?_
  refine e_sald (j := 5) (i := 12) dX2_bodyOf_37 rfl rfl (by decide) (by decide) ?_
  refine e_goto 42 dX2_bodyOf_38 rfl ?_
  exact e_iret dX2_bodyOf_42 rfl rfl rfl ⟨rfl, rfl⟩
set_option maxRecDepth 100000 in
set_option maxHeartbeats 600000 in
theorem s_X2_body41 {Γ : fx_G} {m : fx_M} : fx_Ct Γ mX2_bodyOf 1 119 119 [.int 4, .int 1] m (fx_is (some (.int 0)) m) := by
  refine fx_Ct.of (j := 1) (by decide) (Nat.le_of_ble_eq_true rfl) (Nat.le_of_ble_eq_true rfl) ?_
  show fx_E Γ mX2_bodyOf 1 119 119 _ 119 m 0 [some (.int 4), some (.int 1), none] []
  refine e_iload_n dX2_bodyOf_0 rfl ?_
  refine e_iconst dX2_bodyOf_1 kci_0 ?_
  refine e_bipush dX2_bodyOf_2 kcb_6 ?_
  refine e_callSN1 (μ' := mX8_within) (As := [.int 4, .int 0, .int 6]) dX2_bodyOf_4 (List.mem_of_getElem? (i := 6) rfl) ok_X8_within (by decide) (Nat.le_of_ble_eq_true rfl) fx_n1 (s_X8_within (m := m) 4 0 6) rfl ?_
  refine e_if_eqB 23 dX2_bodyOf_7 rfl (fun h => absurd h (by decide)) (fun _ => ?_)
  refine e_iload_n dX2_bodyOf_10 rfl ?_
  refine e_iconst dX2_bodyOf_11 kci_0 ?_
  refine e_iconst dX2_bodyOf_12 kci_2 ?_
  refine e_callSN1 (μ' := mX8_within) (As := [.int 1, .int 0, .int 2]) dX2_bodyOf_13 (List.mem_of_getElem? (i := 6) rfl) ok_X8_within (by decide) (Nat.le_of_ble_eq_true rfl) fx_n1 (s_X8_within (m := m) 1 0 2) rfl ?_
  refine e_if_eqB 23 dX2_bodyOf_16 rfl (fun h => absurd h (by decide)) (fun _ => ?_)
  refine e_iconst dX2_bodyOf_19 kci_1 ?_
  refine e_goto 24 dX2_bodyOf_20 rfl ?_
  refine e_istore_n dX2_bodyOf_24 (by decide) rfl ?_
  refine e_iload_n dX2_bodyOf_25 rfl ?_
  refine e_if_eq 41 dX2_bodyOf_26 rfl (fun h => absurd h (by decide)) (fun _ => ?_)
  refine e_gets (j := 5) dX2_bodyOf_29 rfl wf_X2_54 ?_
  refine e_iconst dX2_bodyOf_32 kci_3 ?_
  refine e_iload_n dX2_bodyOf_33 rfl ?_
  refine e_imul dX2_bodyOf_34 ?_
  refine e_iload_n dX2_bodyOf_35 rfl ?_
  refine e_iadd dX2_bodyOf_36 ?_
  refine e_topI (v := 13) (by decide) ?_
  refine e_sald (j := 5) (i := 13) dX2_bodyOf_37 rfl rfl (by decide) (by decide) ?_
  refine e_goto 42 dX2_bodyOf_38 rfl ?_
  exact e_iret dX2_bodyOf_42 rfl rfl rfl ⟨rfl, rfl⟩
set_option maxRecDepth 100000 in
set_option maxHeartbeats 600000 in
theorem s_X2_body42 {Γ : fx_G} {m : fx_M} : fx_Ct Γ mX2_bodyOf 1 119 119 [.int 4, .int 2] m (fx_is (some (.int 50)) m) := by
  refine fx_Ct.of (j := 1) (by decide) (Nat.le_of_ble_eq_true rfl) (Nat.le_of_ble_eq_true rfl) ?_
  show fx_E Γ mX2_bodyOf 1 119 119 _ 119 m 0 [some (.int 4), some (.int 2), none] []
  refine e_iload_n dX2_bodyOf_0 rfl ?_
  refine e_iconst dX2_bodyOf_1 kci_0 ?_
  refine e_bipush dX2_bodyOf_2 kcb_6 ?_
  refine e_callSN1 (μ' := mX8_within) (As := [.int 4, .int 0, .int 6]) dX2_bodyOf_4 (List.mem_of_getElem? (i := 6) rfl) ok_X8_within (by decide) (Nat.le_of_ble_eq_true rfl) fx_n1 (s_X8_within (m := m) 4 0 6) rfl ?_
  refine e_if_eqB 23 dX2_bodyOf_7 rfl (fun h => absurd h (by decide)) (fun _ => ?_)
  refine e_iload_n dX2_bodyOf_10 rfl ?_
  refine e_iconst dX2_bodyOf_11 kci_0 ?_
  refine e_iconst dX2_bodyOf_12 kci_2 ?_
  refine e_callSN1 (μ' := mX8_within) (As := [.int 2, .int 0, .int 2]) dX2_bodyOf_13 (List.mem_of_getElem? (i := 6) rfl) ok_X8_within (by decide) (Nat.le_of_ble_eq_true rfl) fx_n1 (s_X8_within (m := m) 2 0 2) rfl ?_
  refine e_if_eqB 23 dX2_bodyOf_16 rfl (fun h => absurd h (by decide)) (fun _ => ?_)
  refine e_iconst dX2_bodyOf_19 kci_1 ?_
  refine e_goto 24 dX2_bodyOf_20 rfl ?_
  refine e_istore_n dX2_bodyOf_24 (by decide) rfl ?_
  refine e_iload_n dX2_bodyOf_25 rfl ?_
  refine e_if_eq 41 dX2_bodyOf_26 rfl (fun h => absurd h (by decide)) (fun _ => ?_)
  refine e_gets (j := 5) dX2_bodyOf_29 rfl wf_X2_54 ?_
  refine e_iconst dX2_bodyOf_32 kci_3 ?_
  refine e_iload_n dX2_bodyOf_33 rfl ?_
  refine e_imul dX2_bodyOf_34 ?_
  refine e_iload_n dX2_bodyOf_35 rfl ?_
  refine e_iadd dX2_bodyOf_36 ?_
  refine e_topI (v := 14) (by decide) ?_
  refine e_sald (j := 5) (i := 14) dX2_bodyOf_37 rfl rfl (by decide) (by decide) ?_
  refine e_goto 42 dX2_bodyOf_38 rfl ?_
  exact e_iret dX2_bodyOf_42 rfl rfl rfl ⟨rfl, rfl⟩
set_option maxRecDepth 100000 in
set_option maxHeartbeats 600000 in
theorem s_X2_body50 {Γ : fx_G} {m : fx_M} : fx_Ct Γ mX2_bodyOf 1 119 119 [.int 5, .int 0] m (fx_is (some (.int 0)) m) := by
  refine fx_Ct.of (j := 1) (by decide) (Nat.le_of_ble_eq_true rfl) (Nat.le_of_ble_eq_true rfl) ?_
  show fx_E Γ mX2_bodyOf 1 119 119 _ 119 m 0 [some (.int 5), some (.int 0), none] []
  refine e_iload_n dX2_bodyOf_0 rfl ?_
  refine e_iconst dX2_bodyOf_1 kci_0 ?_
  refine e_bipush dX2_bodyOf_2 kcb_6 ?_
  refine e_callSN1 (μ' := mX8_within) (As := [.int 5, .int 0, .int 6]) dX2_bodyOf_4 (List.mem_of_getElem? (i := 6) rfl) ok_X8_within (by decide) (Nat.le_of_ble_eq_true rfl) fx_n1 (s_X8_within (m := m) 5 0 6) rfl ?_
  refine e_if_eqB 23 dX2_bodyOf_7 rfl (fun h => absurd h (by decide)) (fun _ => ?_)
  refine e_iload_n dX2_bodyOf_10 rfl ?_
  refine e_iconst dX2_bodyOf_11 kci_0 ?_
  refine e_iconst dX2_bodyOf_12 kci_2 ?_
  refine e_callSN1 (μ' := mX8_within) (As := [.int 0, .int 0, .int 2]) dX2_bodyOf_13 (List.mem_of_getElem? (i := 6) rfl) ok_X8_within (by decide) (Nat.le_of_ble_eq_true rfl) fx_n1 (s_X8_within (m := m) 0 0 2) rfl ?_
  refine e_if_eqB 23 dX2_bodyOf_16 rfl (fun h => absurd h (by decide)) (fun _ => ?_)
  refine e_iconst dX2_bodyOf_19 kci_1 ?_
  refine e_goto 24 dX2_bodyOf_20 rfl ?_
  refine e_istore_n dX2_bodyOf_24 (by decide) rfl ?_
  refine e_iload_n dX2_bodyOf_25 rfl ?_
  refine e_if_eq 41 dX2_bodyOf_26 rfl (fun h => absurd h (by decide)) (fun _ => ?_)
  refine e_gets (j := 5) dX2_bodyOf_29 rfl wf_X2_54 ?_
  refine e_iconst dX2_bodyOf_32 kci_3 ?_
  refine e_iload_n dX2_bodyOf_33 rfl ?_
  refine e_imul dX2_bodyOf_34 ?_
  refine e_iload_n dX2_bodyOf_35 rfl ?_
  refine e_iadd dX2_bodyOf_36 ?_
  refine e_topI (v := 15) (by decide) ?_
  refine e_sald (j := 5) (i := 15) dX2_bodyOf_37 rfl rfl (by decide) (by decide) ?_
  refine e_goto 42 dX2_bodyOf_38 rfl ?_
  exact e_iret dX2_bodyOf_42 rfl rfl rfl ⟨rfl, rfl⟩
set_option maxRecDepth 100000 in
set_option maxHeartbeats 600000 in
theorem s_X2_body51 {Γ : fx_G} {m : fx_M} : fx_Ct Γ mX2_bodyOf 1 119 119 [.int 5, .int 1] m (fx_is (some (.int 0)) m) := by
  refine fx_Ct.of (j := 1) (by decide) (Nat.le_of_ble_eq_true rfl) (Nat.le_of_ble_eq_true rfl) ?_
  show fx_E Γ mX2_bodyOf 1 119 119 _ 119 m 0 [some (.int 5), some (.int 1), none] []
  refine e_iload_n dX2_bodyOf_0 rfl ?_
  refine e_iconst dX2_bodyOf_1 kci_0 ?_
  refine e_bipush dX2_bodyOf_2 kcb_6 ?_
  refine e_callSN1 (μ' := mX8_within) (As := [.int 5, .int 0, .int 6]) dX2_bodyOf_4 (List.mem_of_getElem? (i := 6) rfl) ok_X8_within (by decide) (Nat.le_of_ble_eq_true rfl) fx_n1 (s_X8_within (m := m) 5 0 6) rfl ?_
  refine e_if_eqB 23 dX2_bodyOf_7 rfl (fun h => absurd h (by decide)) (fun _ => ?_)
  refine e_iload_n dX2_bodyOf_10 rfl ?_
  refine e_iconst dX2_bodyOf_11 kci_0 ?_
  refine e_iconst dX2_bodyOf_12 kci_2 ?_
  refine e_callSN1 (μ' := mX8_within) (As := [.int 1, .int 0, .int 2]) dX2_bodyOf_13 (List.mem_of_getElem? (i := 6) rfl) ok_X8_within (by decide) (Nat.le_of_ble_eq_true rfl) fx_n1 (s_X8_within (m := m) 1 0 2) rfl ?_
  refine e_if_eqB 23 dX2_bodyOf_16 rfl (fun h => absurd h (by decide)) (fun _ => ?_)
  refine e_iconst dX2_bodyOf_19 kci_1 ?_
  refine e_goto 24 dX2_bodyOf_20 rfl ?_
  refine e_istore_n dX2_bodyOf_24 (by decide) rfl ?_
  refine e_iload_n dX2_bodyOf_25 rfl ?_
  refine e_if_eq 41 dX2_bodyOf_26 rfl (fun h => absurd h (by decide)) (fun _ => ?_)
  refine e_gets (j := 5) dX2_bodyOf_29 rfl wf_X2_54 ?_
  refine e_iconst dX2_bodyOf_32 kci_3 ?_
  refine e_iload_n dX2_bodyOf_33 rfl ?_
  refine e_imul dX2_bodyOf_34 ?_
  refine e_iload_n dX2_bodyOf_35 rfl ?_
  refine e_iadd dX2_bodyOf_36 ?_
  refine e_topI (v := 16) (by decide) ?_
  refine e_sald (j := 5) (i := 16) dX2_bodyOf_37 rfl rfl (by decide) (by decide) ?_
  refine e_goto 42 dX2_bodyOf_38 rfl ?_
  exact e_iret dX2_bodyOf_42 rfl rfl rfl ⟨rfl, rfl⟩
set_option maxRecDepth 100000 in
set_option maxHeartbeats 600000 in
theorem s_X2_body52 {Γ : fx_G} {m : fx_M} : fx_Ct Γ mX2_bodyOf 1 119 119 [.int 5, .int 2] m (fx_is (some (.int 60)) m) := by
  refine fx_Ct.of (j := 1) (by decide) (Nat.le_of_ble_eq_true rfl) (Nat.le_of_ble_eq_true rfl) ?_
  show fx_E Γ mX2_bodyOf 1 119 119 _ 119 m 0 [some (.int 5), some (.int 2), none] []
  refine e_iload_n dX2_bodyOf_0 rfl ?_
  refine e_iconst dX2_bodyOf_1 kci_0 ?_
  refine e_bipush dX2_bodyOf_2 kcb_6 ?_
  refine e_callSN1 (μ' := mX8_within) (As := [.int 5, .int 0, .int 6]) dX2_bodyOf_4 (List.mem_of_getElem? (i := 6) rfl) ok_X8_within (by decide) (Nat.le_of_ble_eq_true rfl) fx_n1 (s_X8_within (m := m) 5 0 6) rfl ?_
  refine e_if_eqB 23 dX2_bodyOf_7 rfl (fun h => absurd h (by decide)) (fun _ => ?_)
  refine e_iload_n dX2_bodyOf_10 rfl ?_
  refine e_iconst dX2_bodyOf_11 kci_0 ?_
  refine e_iconst dX2_bodyOf_12 kci_2 ?_
  refine e_callSN1 (μ' := mX8_within) (As := [.int 2, .int 0, .int 2]) dX2_bodyOf_13 (List.mem_of_getElem? (i := 6) rfl) ok_X8_within (by decide) (Nat.le_of_ble_eq_true rfl) fx_n1 (s_X8_within (m := m) 2 0 2) rfl ?_
  refine e_if_eqB 23 dX2_bodyOf_16 rfl (fun h => absurd h (by decide)) (fun _ => ?_)
  refine e_iconst dX2_bodyOf_19 kci_1 ?_
  refine e_goto 24 dX2_bodyOf_20 rfl ?_
  refine e_istore_n dX2_bodyOf_24 (by decide) rfl ?_
  refine e_iload_n dX2_bodyOf_25 rfl ?_
  refine e_if_eq 41 dX2_bodyOf_26 rfl (fun h => absurd h (by decide)) (fun _ => ?_)
  refine e_gets (j := 5) dX2_bodyOf_29 rfl wf_X2_54 ?_
  refine e_iconst dX2_bodyOf_32 kci_3 ?_
  refine e_iload_n dX2_bodyOf_33 rfl ?_
  refine e_imul dX2_bodyOf_34 ?_
  refine e_iload_n dX2_bodyOf_35 rfl ?_
  refine e_iadd dX2_bodyOf_36 ?_
  refine e_topI (v := 17) (by decide) ?_
  refine e_sald (j := 5) (i := 17) dX2_bodyOf_37 rfl rfl (by decide) (by decide) ?_
  refine e_goto 42 dX2_bodyOf_38 rfl ?_
  exact e_iret dX2_bodyOf_42 rfl rfl rfl ⟨rfl, rfl⟩
set_option maxRecDepth 100000 in
set_option maxHeartbeats 600000 in
theorem s_X2_body60 {Γ : fx_G} {m : fx_M} : fx_Ct Γ mX2_bodyOf 1 119 119 [.int 6, .int 0] m (fx_is (some (.int 70)) m) := by
  refine fx_Ct.of (j := 1) (by decide) (Nat.le_of_ble_eq_true rfl) (Nat.le_of_ble_eq_true rfl) ?_
  show fx_E Γ mX2_bodyOf 1 119 119 _ 119 m 0 [some (.int 6), some (.int 0), none] []
  refine e_iload_n dX2_bodyOf_0 rfl ?_
  refine e_iconst dX2_bodyOf_1 kci_0 ?_
  refine e_bipush dX2_bodyOf_2 kcb_6 ?_
  refine e_callSN1 (μ' := mX8_within) (As := [.int 6, .int 0, .int 6]) dX2_bodyOf_4 (List.mem_of_getElem? (i := 6) rfl) ok_X8_within (by decide) (Nat.le_of_ble_eq_true rfl) fx_n1 (s_X8_within (m := m) 6 0 6) rfl ?_
  refine e_if_eqB 23 dX2_bodyOf_7 rfl (fun h => absurd h (by decide)) (fun _ => ?_)
  refine e_iload_n dX2_bodyOf_10 rfl ?_
  refine e_iconst dX2_bodyOf_11 kci_0 ?_
  refine e_iconst dX2_bodyOf_12 kci_2 ?_
  refine e_callSN1 (μ' := mX8_within) (As := [.int 0, .int 0, .int 2]) dX2_bodyOf_13 (List.mem_of_getElem? (i := 6) rfl) ok_X8_within (by decide) (Nat.le_of_ble_eq_true rfl) fx_n1 (s_X8_within (m := m) 0 0 2) rfl ?_
  refine e_if_eqB 23 dX2_bodyOf_16 rfl (fun h => absurd h (by decide)) (fun _ => ?_)
  refine e_iconst dX2_bodyOf_19 kci_1 ?_
  refine e_goto 24 dX2_bodyOf_20 rfl ?_
  refine e_istore_n dX2_bodyOf_24 (by decide) rfl ?_
  refine e_iload_n dX2_bodyOf_25 rfl ?_
  refine e_if_eq 41 dX2_bodyOf_26 rfl (fun h => absurd h (by decide)) (fun _ => ?_)
  refine e_gets (j := 5) dX2_bodyOf_29 rfl wf_X2_54 ?_
  refine e_iconst dX2_bodyOf_32 kci_3 ?_
  refine e_iload_n dX2_bodyOf_33 rfl ?_
  refine e_imul dX2_bodyOf_34 ?_
  refine e_iload_n dX2_bodyOf_35 rfl ?_
  refine e_iadd dX2_bodyOf_36 ?_
  refine e_topI (v := 18) (by decide) ?_
  refine e_sald (j := 5) (i := 18) dX2_bodyOf_37 rfl rfl (by decide) (by decide) ?_
  refine e_goto 42 dX2_bodyOf_38 rfl ?_
  exact e_iret dX2_bodyOf_42 rfl rfl rfl ⟨rfl, rfl⟩
set_option maxRecDepth 100000 in
set_option maxHeartbeats 600000 in
theorem s_X2_body61 {Γ : fx_G} {m : fx_M} : fx_Ct Γ mX2_bodyOf 1 119 119 [.int 6, .int 1] m (fx_is (some (.int 71)) m) := by
  refine fx_Ct.of (j := 1) (by decide) (Nat.le_of_ble_eq_true rfl) (Nat.le_of_ble_eq_true rfl) ?_
  show fx_E Γ mX2_bodyOf 1 119 119 _ 119 m 0 [some (.int 6), some (.int 1), none] []
  refine e_iload_n dX2_bodyOf_0 rfl ?_
  refine e_iconst dX2_bodyOf_1 kci_0 ?_
  refine e_bipush dX2_bodyOf_2 kcb_6 ?_
  refine e_callSN1 (μ' := mX8_within) (As := [.int 6, .int 0, .int 6]) dX2_bodyOf_4 (List.mem_of_getElem? (i := 6) rfl) ok_X8_within (by decide) (Nat.le_of_ble_eq_true rfl) fx_n1 (s_X8_within (m := m) 6 0 6) rfl ?_
  refine e_if_eqB 23 dX2_bodyOf_7 rfl (fun h => absurd h (by decide)) (fun _ => ?_)
  refine e_iload_n dX2_bodyOf_10 rfl ?_
  refine e_iconst dX2_bodyOf_11 kci_0 ?_
  refine e_iconst dX2_bodyOf_12 kci_2 ?_
  refine e_callSN1 (μ' := mX8_within) (As := [.int 1, .int 0, .int 2]) dX2_bodyOf_13 (List.mem_of_getElem? (i := 6) rfl) ok_X8_within (by decide) (Nat.le_of_ble_eq_true rfl) fx_n1 (s_X8_within (m := m) 1 0 2) rfl ?_
  refine e_if_eqB 23 dX2_bodyOf_16 rfl (fun h => absurd h (by decide)) (fun _ => ?_)
  refine e_iconst dX2_bodyOf_19 kci_1 ?_
  refine e_goto 24 dX2_bodyOf_20 rfl ?_
  refine e_istore_n dX2_bodyOf_24 (by decide) rfl ?_
  refine e_iload_n dX2_bodyOf_25 rfl ?_
  refine e_if_eq 41 dX2_bodyOf_26 rfl (fun h => absurd h (by decide)) (fun _ => ?_)
  refine e_gets (j := 5) dX2_bodyOf_29 rfl wf_X2_54 ?_
  refine e_iconst dX2_bodyOf_32 kci_3 ?_
  refine e_iload_n dX2_bodyOf_33 rfl ?_
  refine e_imul dX2_bodyOf_34 ?_
  refine e_iload_n dX2_bodyOf_35 rfl ?_
  refine e_iadd dX2_bodyOf_36 ?_
  refine e_topI (v := 19) (by decide) ?_
  refine e_sald (j := 5) (i := 19) dX2_bodyOf_37 rfl rfl (by decide) (by decide) ?_
  refine e_goto 42 dX2_bodyOf_38 rfl ?_
  exact e_iret dX2_bodyOf_42 rfl rfl rfl ⟨rfl, rfl⟩
set_option maxRecDepth 100000 in
set_option maxHeartbeats 600000 in
theorem s_X2_body62 {Γ : fx_G} {m : fx_M} : fx_Ct Γ mX2_bodyOf 1 119 119 [.int 6, .int 2] m (fx_is (some (.int 0)) m) := by
  refine fx_Ct.of (j := 1) (by decide) (Nat.le_of_ble_eq_true rfl) (Nat.le_of_ble_eq_true rfl) ?_
  show fx_E Γ mX2_bodyOf 1 119 119 _ 119 m 0 [some (.int 6), some (.int 2), none] []
  refine e_iload_n dX2_bodyOf_0 rfl ?_
  refine e_iconst dX2_bodyOf_1 kci_0 ?_
  refine e_bipush dX2_bodyOf_2 kcb_6 ?_
  refine e_callSN1 (μ' := mX8_within) (As := [.int 6, .int 0, .int 6]) dX2_bodyOf_4 (List.mem_of_getElem? (i := 6) rfl) ok_X8_within (by decide) (Nat.le_of_ble_eq_true rfl) fx_n1 (s_X8_within (m := m) 6 0 6) rfl ?_
  refine e_if_eqB 23 dX2_bodyOf_7 rfl (fun h => absurd h (by decide)) (fun _ => ?_)
  refine e_iload_n dX2_bodyOf_10 rfl ?_
  refine e_iconst dX2_bodyOf_11 kci_0 ?_
  refine e_iconst dX2_bodyOf_12 kci_2 ?_
  refine e_callSN1 (μ' := mX8_within) (As := [.int 2, .int 0, .int 2]) dX2_bodyOf_13 (List.mem_of_getElem? (i := 6) rfl) ok_X8_within (by decide) (Nat.le_of_ble_eq_true rfl) fx_n1 (s_X8_within (m := m) 2 0 2) rfl ?_
  refine e_if_eqB 23 dX2_bodyOf_16 rfl (fun h => absurd h (by decide)) (fun _ => ?_)
  refine e_iconst dX2_bodyOf_19 kci_1 ?_
  refine e_goto 24 dX2_bodyOf_20 rfl ?_
  refine e_istore_n dX2_bodyOf_24 (by decide) rfl ?_
  refine e_iload_n dX2_bodyOf_25 rfl ?_
  refine e_if_eq 41 dX2_bodyOf_26 rfl (fun h => absurd h (by decide)) (fun _ => ?_)
  refine e_gets (j := 5) dX2_bodyOf_29 rfl wf_X2_54 ?_
  refine e_iconst dX2_bodyOf_32 kci_3 ?_
  refine e_iload_n dX2_bodyOf_33 rfl ?_
  refine e_imul dX2_bodyOf_34 ?_
  refine e_iload_n dX2_bodyOf_35 rfl ?_
  refine e_iadd dX2_bodyOf_36 ?_
  refine e_topI (v := 20) (by decide) ?_
  refine e_sald (j := 5) (i := 20) dX2_bodyOf_37 rfl rfl (by decide) (by decide) ?_
  refine e_goto 42 dX2_bodyOf_38 rfl ?_
  exact e_iret dX2_bodyOf_42 rfl rfl rfl ⟨rfl, rfl⟩
set_option maxRecDepth 100000 in
set_option maxHeartbeats 600000 in
theorem s_X2_o10 {Γ : fx_G} {d : Nat} (hd : 0 ≤ d) {m : fx_M} {o K : Nat} {n a : Int32} (hA : fx_mA m o K n a) {l : List Nat} (ht : fx_tr m l) {dep : Nat} (hdp : dep ≤ 41) (hl : l.length + 0 ≤ 20) (x : Int32) : fx_Ct Γ mX2_outcome d 119 119 [fx_rf Γ 65, .int 10, .int (-1), .int x, .int (nI dep)] m (fun r m' => r = some (.int (x + n)) ∧ fx_mv m m' ∧ fx_tr m' (l ++ [])) := by
  refine fx_Ct.of (j := 0) (by decide) (Nat.le_of_ble_eq_true rfl) (Nat.le_of_ble_eq_true rfl) ?_
  show fx_E Γ mX2_outcome d 119 119 _ 119 m 0 [some (fx_rf Γ 65), some (.int 10), some (.int (-1)), some (.int x), some (.int (nI dep))] []
  refine e_iload_n dX2_outcome_0 rfl ?_
  refine e_lookup (off := 99) 100 dX2_outcome_1 (by decide) (by decide) rfl ?_
  refine e_iload_n dX2_outcome_100 rfl ?_
  refine e_aload_n dX2_outcome_101 rfl ?_
  refine e_getv (v := n) dX2_outcome_102 ff_X2_19 rfl (fx_pi_lt (by decide)) (by decide) rfl hA.1 ?_
  refine e_iadd dX2_outcome_105 ?_
  exact e_iret dX2_outcome_106 rfl rfl rfl ⟨rfl, fx_mv.refl m, by simpa using ht⟩
set_option maxRecDepth 100000 in
set_option maxHeartbeats 600000 in
theorem s_X2_r00 {Γ : fx_G} {d : Nat} (hd : 2 ≤ d) {m : fx_M} {o K : Nat} {n a : Int32} (hA : fx_mA m o K n a) {l : List Nat} (ht : fx_tr m l) {dep : Nat} (hdp : dep ≤ 40) (hl : l.length + 1 ≤ 20) (x : Int32) : fx_Ct Γ mX2_run d 119 119 [fx_rf Γ 65, .int 0, .int 0, .int x, .int (nI dep)] m (fun r m' => r = some (.int (p_be 0 n a x)) ∧ fx_mv m m' ∧ fx_tr m' (l ++ p_beT 0)) := by
  refine fx_Ct.of (j := 3) (by decide) (Nat.le_of_ble_eq_true rfl) (Nat.le_of_ble_eq_true rfl) ?_
  show fx_E Γ mX2_run d 119 119 _ 119 m 0 [some (fx_rf Γ 65), some (.int 0), some (.int 0), some (.int x), some (.int (nI dep)), none, none, none] []
  refine e_iload dX2_run_0 rfl ?_
  refine e_bipush dX2_run_2 kcb_40 ?_
  refine e_icmp_le 9 dX2_run_4 rfl (fun _ => ?_) (fun h => absurd (show nI dep ≤ nI 40 from nI_le (by omega) (by decide)) h)
  refine e_iload_n dX2_run_9 rfl ?_
  refine e_istore dX2_run_10 (by decide) rfl ?_
  refine e_iconst dX2_run_12 kci_0 ?_
  refine e_istore dX2_run_13 (by decide) rfl ?_
  refine e_iload dX2_run_15 rfl ?_
  refine e_bipush dX2_run_17 kcb_6 ?_
  refine e_icmp_gt 77 dX2_run_19 rfl (fun h => absurd h (by decide)) (fun _ => ?_)
  refine e_iload dX2_run_22 rfl ?_
  refine e_iconst dX2_run_24 kci_m1 ?_
  refine e_icmp_eq 77 dX2_run_25 rfl (fun h => absurd h (by decide)) (fun _ => ?_)
  refine e_iload dX2_run_28 rfl ?_
  refine e_iload_n dX2_run_30 rfl ?_
  refine e_callS1 (μ' := mX2_bodyOf) (As := [.int 0, .int 0]) dX2_run_31 wl_X2_35 ok_X2_bodyOf (by omega) (Nat.le_of_ble_eq_true rfl) fx_n1 (s_X2_body00 (m := m) ) rfl ?_
  refine e_istore dX2_run_34 (by decide) rfl ?_
  refine e_iload dX2_run_36 rfl ?_
  refine e_if_eq 64 dX2_run_38 rfl (fun h => absurd h (by decide)) (fun _ => ?_)
  refine e_aload_n dX2_run_41 rfl ?_
  refine e_iload dX2_run_42 rfl ?_
  refine e_callV (μ' := mX2_note) (ci := 2) (As := [.int 10]) dX2_run_44 wl_X2_39 ok_X2_note rfl rfl (fx_pi_lt (by decide)) (by omega) (Nat.le_of_ble_eq_true rfl) fx_n1 (s_X2_note (m := m) hA.2.2.2.2.2.2.1 ht (by have q1 := p_beT_le K; have q2 := p_waT_le K K; (try simp only [List.length_append, List.length_cons, List.length_nil]); omega) 10) rfl (fun r_ m_ hpost => ?_)
  revert m_
  intro m1 hpost
  obtain ⟨rfl, g1, t1⟩ := hpost
  have G1 := g1
  have A1 := hA.mv G1
  refine e_aload_n dX2_run_47 rfl ?_
  refine e_iload dX2_run_48 rfl ?_
  refine e_iload dX2_run_50 rfl ?_
  refine e_callS1 (μ' := mX0_above) (As := [.int 0]) dX2_run_52 wl_X2_43 ok_X0_above (by omega) (Nat.le_of_ble_eq_true rfl) fx_n1 (s_X0_above0 (m := m1) ) rfl ?_
  refine e_iload_n dX2_run_55 rfl ?_
  refine e_iload dX2_run_56 rfl ?_
  refine e_iconst dX2_run_58 kci_1 ?_
  refine e_iadd dX2_run_59 ?_
  rw [nI_1]
  refine e_callV (μ' := mX2_outcome) (ci := 2) (As := [.int 10, .int (-1), .int x, .int (nI (dep + 1))]) dX2_run_60 wl_X2_47 ok_X2_outcome rfl rfl (fx_pi_lt (by decide)) (by omega) (Nat.le_of_ble_eq_true rfl) fx_n1 (s_X2_o10 (m := m1) (d := 0) (by decide) A1 t1 (dep := dep + 1) (by omega) (by have q1 := p_beT_le K; have q2 := p_waT_le K K; (try simp only [List.length_append, List.length_cons, List.length_nil]); omega) x) rfl (fun r_ m_ hpost => ?_)
  revert r_ m_
  intro r_ m2 hpost
  obtain ⟨rfl, g2, t2⟩ := hpost
  have G2 := G1.trans g2
  have A2 := hA.mv G2
  exact e_iret dX2_run_63 rfl rfl rfl ⟨(by first | rfl | (simp [p_be, p_wa, p_do]; done)), G2, by have q := t2; (try simp only [List.append_assoc, List.cons_append, List.nil_append, List.append_nil] at q); (try simp only [show p_beT 0 = [10] from rfl, List.append_assoc, List.cons_append, List.nil_append, List.append_nil]); exact q⟩
set_option maxRecDepth 100000 in
set_option maxHeartbeats 600000 in
theorem s_X2_o20 {Γ : fx_G} {d : Nat} (hd : 3 ≤ d) {m : fx_M} {o K : Nat} {n a : Int32} (hA : fx_mA m o K n a) {l : List Nat} (ht : fx_tr m l) {dep : Nat} (hdp : dep ≤ 40) (hl : l.length + 1 ≤ 20) (x : Int32) : fx_Ct Γ mX2_outcome d 119 119 [fx_rf Γ 65, .int 20, .int 0, .int x, .int (nI dep)] m (fun r m' => r = some (.int (p_be 0 n a x + a)) ∧ fx_mv m m' ∧ fx_tr m' (l ++ p_beT 0)) := by
  refine fx_Ct.of (j := 0) (by decide) (Nat.le_of_ble_eq_true rfl) (Nat.le_of_ble_eq_true rfl) ?_
  show fx_E Γ mX2_outcome d 119 119 _ 119 m 0 [some (fx_rf Γ 65), some (.int 20), some (.int 0), some (.int x), some (.int (nI dep))] []
  refine e_iload_n dX2_outcome_0 rfl ?_
  refine e_lookup (off := 164) 165 dX2_outcome_1 (by decide) (by decide) rfl ?_
  refine e_aload_n dX2_outcome_165 rfl ?_
  refine e_iload_n dX2_outcome_166 rfl ?_
  refine e_iconst dX2_outcome_167 kci_0 ?_
  refine e_iload_n dX2_outcome_168 rfl ?_
  refine e_iload dX2_outcome_169 rfl ?_
  refine e_callV (μ' := mX2_run) (ci := 2) (As := [.int 0, .int 0, .int x, .int (nI dep)]) dX2_outcome_171 wl_X2_31 ok_X2_run rfl rfl (fx_pi_lt (by decide)) (by omega) (Nat.le_of_ble_eq_true rfl) fx_n1 (s_X2_r00 (m := m) (d := 2) (by decide) hA ht (dep := dep) (by omega) (by have q1 := p_beT_le K; have q2 := p_waT_le K K; (try simp only [List.length_append, List.length_cons, List.length_nil]); omega) x) rfl (fun r_ m_ hpost => ?_)
  revert r_ m_
  intro r_ m1 hpost
  obtain ⟨rfl, g1, t1⟩ := hpost
  have G1 := g1
  have A1 := hA.mv G1
  refine e_aload_n dX2_outcome_174 rfl ?_
  refine e_getr (o2 := o) dX2_outcome_175 ff_X2_22 rfl (fx_pi_lt (by decide)) (by decide) rfl A1.2.1 ?_
  refine e_getv (v := a) dX2_outcome_178 ff_X2_57 hA.2.2.1 (fx_pi_lt (by have := hA.2.2.2.1; omega)) (by decide) rfl A1.2.2.2.2.2.1 ?_
  refine e_iadd dX2_outcome_181 ?_
  exact e_iret dX2_outcome_182 rfl rfl rfl ⟨rfl, G1, by have q := t1; (try simp only [List.append_assoc, List.cons_append, List.nil_append, List.append_nil] at q); (try simp only [List.append_assoc, List.cons_append, List.nil_append, List.append_nil]); exact q⟩
set_option maxRecDepth 100000 in
set_option maxHeartbeats 600000 in
theorem s_X2_r10 {Γ : fx_G} {d : Nat} (hd : 4 ≤ d) {m : fx_M} {o K : Nat} {n a : Int32} (hA : fx_mA m o K n a) {l : List Nat} (ht : fx_tr m l) {dep : Nat} (hdp : dep ≤ 39) (hl : l.length + 2 ≤ 20) (x : Int32) : fx_Ct Γ mX2_run d 119 119 [fx_rf Γ 65, .int 1, .int 0, .int x, .int (nI dep)] m (fun r m' => r = some (.int (p_be 1 n a x)) ∧ fx_mv m m' ∧ fx_tr m' (l ++ p_beT 1)) := by
  refine fx_Ct.of (j := 3) (by decide) (Nat.le_of_ble_eq_true rfl) (Nat.le_of_ble_eq_true rfl) ?_
  show fx_E Γ mX2_run d 119 119 _ 119 m 0 [some (fx_rf Γ 65), some (.int 1), some (.int 0), some (.int x), some (.int (nI dep)), none, none, none] []
  refine e_iload dX2_run_0 rfl ?_
  refine e_bipush dX2_run_2 kcb_40 ?_
  refine e_icmp_le 9 dX2_run_4 rfl (fun _ => ?_) (fun h => absurd (show nI dep ≤ nI 40 from nI_le (by omega) (by decide)) h)
  refine e_iload_n dX2_run_9 rfl ?_
  refine e_istore dX2_run_10 (by decide) rfl ?_
  refine e_iconst dX2_run_12 kci_0 ?_
  refine e_istore dX2_run_13 (by decide) rfl ?_
  refine e_iload dX2_run_15 rfl ?_
  refine e_bipush dX2_run_17 kcb_6 ?_
  refine e_icmp_gt 77 dX2_run_19 rfl (fun h => absurd h (by decide)) (fun _ => ?_)
  refine e_iload dX2_run_22 rfl ?_
  refine e_iconst dX2_run_24 kci_m1 ?_
  refine e_icmp_eq 77 dX2_run_25 rfl (fun h => absurd h (by decide)) (fun _ => ?_)
  refine e_iload dX2_run_28 rfl ?_
  refine e_iload_n dX2_run_30 rfl ?_
  refine e_callS1 (μ' := mX2_bodyOf) (As := [.int 1, .int 0]) dX2_run_31 wl_X2_35 ok_X2_bodyOf (by omega) (Nat.le_of_ble_eq_true rfl) fx_n1 (s_X2_body10 (m := m) ) rfl ?_
  refine e_istore dX2_run_34 (by decide) rfl ?_
  refine e_iload dX2_run_36 rfl ?_
  refine e_if_eq 64 dX2_run_38 rfl (fun h => absurd h (by decide)) (fun _ => ?_)
  refine e_aload_n dX2_run_41 rfl ?_
  refine e_iload dX2_run_42 rfl ?_
  refine e_callV (μ' := mX2_note) (ci := 2) (As := [.int 20]) dX2_run_44 wl_X2_39 ok_X2_note rfl rfl (fx_pi_lt (by decide)) (by omega) (Nat.le_of_ble_eq_true rfl) fx_n1 (s_X2_note (m := m) hA.2.2.2.2.2.2.1 ht (by have q1 := p_beT_le K; have q2 := p_waT_le K K; (try simp only [List.length_append, List.length_cons, List.length_nil]); omega) 20) rfl (fun r_ m_ hpost => ?_)
  revert m_
  intro m1 hpost
  obtain ⟨rfl, g1, t1⟩ := hpost
  have G1 := g1
  have A1 := hA.mv G1
  refine e_aload_n dX2_run_47 rfl ?_
  refine e_iload dX2_run_48 rfl ?_
  refine e_iload dX2_run_50 rfl ?_
  refine e_callS1 (μ' := mX0_above) (As := [.int 1]) dX2_run_52 wl_X2_43 ok_X0_above (by omega) (Nat.le_of_ble_eq_true rfl) fx_n1 (s_X0_above1 (m := m1) ) rfl ?_
  refine e_iload_n dX2_run_55 rfl ?_
  refine e_iload dX2_run_56 rfl ?_
  refine e_iconst dX2_run_58 kci_1 ?_
  refine e_iadd dX2_run_59 ?_
  rw [nI_1]
  refine e_callV (μ' := mX2_outcome) (ci := 2) (As := [.int 20, .int 0, .int x, .int (nI (dep + 1))]) dX2_run_60 wl_X2_47 ok_X2_outcome rfl rfl (fx_pi_lt (by decide)) (by omega) (Nat.le_of_ble_eq_true rfl) fx_n1 (s_X2_o20 (m := m1) (d := 3) (by decide) A1 t1 (dep := dep + 1) (by omega) (by have q1 := p_beT_le K; have q2 := p_waT_le K K; (try simp only [List.length_append, List.length_cons, List.length_nil]); omega) x) rfl (fun r_ m_ hpost => ?_)
  revert r_ m_
  intro r_ m2 hpost
  obtain ⟨rfl, g2, t2⟩ := hpost
  have G2 := G1.trans g2
  have A2 := hA.mv G2
  exact e_iret dX2_run_63 rfl rfl rfl ⟨(by first | rfl | (simp [p_be, p_wa, p_do]; done)), G2, by have q := t2; (try simp only [List.append_assoc, List.cons_append, List.nil_append, List.append_nil] at q); (try simp only [show p_beT 1 = 20 :: p_beT 0 from rfl, List.append_assoc, List.cons_append, List.nil_append, List.append_nil]); exact q⟩
set_option maxRecDepth 100000 in
set_option maxHeartbeats 600000 in
theorem s_X2_r20 {Γ : fx_G} {d : Nat} (hd : 2 ≤ d) {m : fx_M} {o K : Nat} {n a : Int32} (hA : fx_mA m o K n a) {l : List Nat} (ht : fx_tr m l) {dep : Nat} (hdp : dep ≤ 40) (hl : l.length + 1 ≤ 20) (x : Int32) : fx_Ct Γ mX2_run d 119 119 [fx_rf Γ 65, .int 2, .int 0, .int x, .int (nI dep)] m (fun r m' => r = some (.int (p_be 2 n a x)) ∧ fx_mv m m' ∧ fx_tr m' (l ++ p_beT 2)) := by
  refine fx_Ct.of (j := 3) (by decide) (Nat.le_of_ble_eq_true rfl) (Nat.le_of_ble_eq_true rfl) ?_
  show fx_E Γ mX2_run d 119 119 _ 119 m 0 [some (fx_rf Γ 65), some (.int 2), some (.int 0), some (.int x), some (.int (nI dep)), none, none, none] []
  refine e_iload dX2_run_0 rfl ?_
  refine e_bipush dX2_run_2 kcb_40 ?_
  refine e_icmp_le 9 dX2_run_4 rfl (fun _ => ?_) (fun h => absurd (show nI dep ≤ nI 40 from nI_le (by omega) (by decide)) h)
  refine e_iload_n dX2_run_9 rfl ?_
  refine e_istore dX2_run_10 (by decide) rfl ?_
  refine e_iconst dX2_run_12 kci_0 ?_
  refine e_istore dX2_run_13 (by decide) rfl ?_
  refine e_iload dX2_run_15 rfl ?_
  refine e_bipush dX2_run_17 kcb_6 ?_
  refine e_icmp_gt 77 dX2_run_19 rfl (fun h => absurd h (by decide)) (fun _ => ?_)
  refine e_iload dX2_run_22 rfl ?_
  refine e_iconst dX2_run_24 kci_m1 ?_
  refine e_icmp_eq 77 dX2_run_25 rfl (fun h => absurd h (by decide)) (fun _ => ?_)
  refine e_iload dX2_run_28 rfl ?_
  refine e_iload_n dX2_run_30 rfl ?_
  refine e_callS1 (μ' := mX2_bodyOf) (As := [.int 2, .int 0]) dX2_run_31 wl_X2_35 ok_X2_bodyOf (by omega) (Nat.le_of_ble_eq_true rfl) fx_n1 (s_X2_body20 (m := m) ) rfl ?_
  refine e_istore dX2_run_34 (by decide) rfl ?_
  refine e_iload dX2_run_36 rfl ?_
  refine e_if_eq 64 dX2_run_38 rfl (fun _ => ?_) (fun h => absurd (by decide) h)
  refine e_iload dX2_run_64 rfl ?_
  refine e_callS1 (μ' := mX0_above) (As := [.int 2]) dX2_run_66 wl_X2_43 ok_X0_above (by omega) (Nat.le_of_ble_eq_true rfl) fx_n1 (s_X0_above2 (m := m) ) rfl ?_
  refine e_istore dX2_run_69 (by decide) rfl ?_
  refine e_iinc (v := 1) dX2_run_71 rfl (by decide) (by decide) rfl ?_
  refine e_goto 15 dX2_run_74 rfl ?_
  refine e_iload dX2_run_15 rfl ?_
  refine e_bipush dX2_run_17 kcb_6 ?_
  refine e_icmp_gt 77 dX2_run_19 rfl (fun h => absurd h (by decide)) (fun _ => ?_)
  refine e_iload dX2_run_22 rfl ?_
  refine e_iconst dX2_run_24 kci_m1 ?_
  refine e_icmp_eq 77 dX2_run_25 rfl (fun h => absurd h (by decide)) (fun _ => ?_)
  refine e_iload dX2_run_28 rfl ?_
  refine e_iload_n dX2_run_30 rfl ?_
  refine e_callS1 (μ' := mX2_bodyOf) (As := [.int 0, .int 0]) dX2_run_31 wl_X2_35 ok_X2_bodyOf (by omega) (Nat.le_of_ble_eq_true rfl) fx_n1 (s_X2_body00 (m := m) ) rfl ?_
  refine e_istore dX2_run_34 (by decide) rfl ?_
  refine e_iload dX2_run_36 rfl ?_
  refine e_if_eq 64 dX2_run_38 rfl (fun h => absurd h (by decide)) (fun _ => ?_)
  refine e_aload_n dX2_run_41 rfl ?_
  refine e_iload dX2_run_42 rfl ?_
  refine e_callV (μ' := mX2_note) (ci := 2) (As := [.int 10]) dX2_run_44 wl_X2_39 ok_X2_note rfl rfl (fx_pi_lt (by decide)) (by omega) (Nat.le_of_ble_eq_true rfl) fx_n1 (s_X2_note (m := m) hA.2.2.2.2.2.2.1 ht (by have q1 := p_beT_le K; have q2 := p_waT_le K K; (try simp only [List.length_append, List.length_cons, List.length_nil]); omega) 10) rfl (fun r_ m_ hpost => ?_)
  revert m_
  intro m1 hpost
  obtain ⟨rfl, g1, t1⟩ := hpost
  have G1 := g1
  have A1 := hA.mv G1
  refine e_aload_n dX2_run_47 rfl ?_
  refine e_iload dX2_run_48 rfl ?_
  refine e_iload dX2_run_50 rfl ?_
  refine e_callS1 (μ' := mX0_above) (As := [.int 0]) dX2_run_52 wl_X2_43 ok_X0_above (by omega) (Nat.le_of_ble_eq_true rfl) fx_n1 (s_X0_above0 (m := m1) ) rfl ?_
  refine e_iload_n dX2_run_55 rfl ?_
  refine e_iload dX2_run_56 rfl ?_
  refine e_iconst dX2_run_58 kci_1 ?_
  refine e_iadd dX2_run_59 ?_
  rw [nI_1]
  refine e_callV (μ' := mX2_outcome) (ci := 2) (As := [.int 10, .int (-1), .int x, .int (nI (dep + 1))]) dX2_run_60 wl_X2_47 ok_X2_outcome rfl rfl (fx_pi_lt (by decide)) (by omega) (Nat.le_of_ble_eq_true rfl) fx_n1 (s_X2_o10 (m := m1) (d := 0) (by decide) A1 t1 (dep := dep + 1) (by omega) (by have q1 := p_beT_le K; have q2 := p_waT_le K K; (try simp only [List.length_append, List.length_cons, List.length_nil]); omega) x) rfl (fun r_ m_ hpost => ?_)
  revert r_ m_
  intro r_ m2 hpost
  obtain ⟨rfl, g2, t2⟩ := hpost
  have G2 := G1.trans g2
  have A2 := hA.mv G2
  exact e_iret dX2_run_63 rfl rfl rfl ⟨(by first | rfl | (simp [p_be, p_wa, p_do]; done)), G2, by have q := t2; (try simp only [List.append_assoc, List.cons_append, List.nil_append, List.append_nil] at q); (try simp only [show p_beT 2 = [10] from rfl, List.append_assoc, List.cons_append, List.nil_append, List.append_nil]); exact q⟩
set_option maxRecDepth 100000 in
set_option maxHeartbeats 600000 in
theorem s_X2_o40 {Γ : fx_G} {d : Nat} (hd : 5 ≤ d) {m : fx_M} {o K : Nat} {n a : Int32} (hA : fx_mA m o K n a) {l : List Nat} (ht : fx_tr m l) {dep : Nat} (hdp : dep ≤ 39) (hl : l.length + 2 ≤ 20) (x : Int32) : fx_Ct Γ mX2_outcome d 119 119 [fx_rf Γ 65, .int 40, .int 1, .int x, .int (nI dep)] m (fun r m' => r = some (.int (p_be 1 n a (x + 1))) ∧ fx_mv m m' ∧ fx_tr m' (l ++ p_beT 1)) := by
  refine fx_Ct.of (j := 0) (by decide) (Nat.le_of_ble_eq_true rfl) (Nat.le_of_ble_eq_true rfl) ?_
  show fx_E Γ mX2_outcome d 119 119 _ 119 m 0 [some (fx_rf Γ 65), some (.int 40), some (.int 1), some (.int x), some (.int (nI dep))] []
  refine e_iload_n dX2_outcome_0 rfl ?_
  refine e_lookup (off := 194) 195 dX2_outcome_1 (by decide) (by decide) rfl ?_
  refine e_aload_n dX2_outcome_195 rfl ?_
  refine e_iload_n dX2_outcome_196 rfl ?_
  refine e_iconst dX2_outcome_197 kci_0 ?_
  refine e_iload_n dX2_outcome_198 rfl ?_
  refine e_iconst dX2_outcome_199 kci_1 ?_
  refine e_iadd dX2_outcome_200 ?_
  refine e_iload dX2_outcome_201 rfl ?_
  refine e_callV (μ' := mX2_run) (ci := 2) (As := [.int 1, .int 0, .int (x + 1), .int (nI dep)]) dX2_outcome_203 wl_X2_31 ok_X2_run rfl rfl (fx_pi_lt (by decide)) (by omega) (Nat.le_of_ble_eq_true rfl) fx_n1 (s_X2_r10 (m := m) (d := 4) (by decide) hA ht (dep := dep) (by omega) (by have q1 := p_beT_le K; have q2 := p_waT_le K K; (try simp only [List.length_append, List.length_cons, List.length_nil]); omega) (x + 1)) rfl (fun r_ m_ hpost => ?_)
  revert r_ m_
  intro r_ m1 hpost
  obtain ⟨rfl, g1, t1⟩ := hpost
  have G1 := g1
  have A1 := hA.mv G1
  exact e_iret dX2_outcome_206 rfl rfl rfl ⟨rfl, G1, by have q := t1; (try simp only [List.append_assoc, List.cons_append, List.nil_append, List.append_nil] at q); (try simp only [List.append_assoc, List.cons_append, List.nil_append, List.append_nil]); exact q⟩
set_option maxRecDepth 100000 in
set_option maxHeartbeats 600000 in
theorem s_X2_r30 {Γ : fx_G} {d : Nat} (hd : 6 ≤ d) {m : fx_M} {o K : Nat} {n a : Int32} (hA : fx_mA m o K n a) {l : List Nat} (ht : fx_tr m l) {dep : Nat} (hdp : dep ≤ 38) (hl : l.length + 3 ≤ 20) (x : Int32) : fx_Ct Γ mX2_run d 119 119 [fx_rf Γ 65, .int 3, .int 0, .int x, .int (nI dep)] m (fun r m' => r = some (.int (p_be 3 n a x)) ∧ fx_mv m m' ∧ fx_tr m' (l ++ p_beT 3)) := by
  refine fx_Ct.of (j := 3) (by decide) (Nat.le_of_ble_eq_true rfl) (Nat.le_of_ble_eq_true rfl) ?_
  show fx_E Γ mX2_run d 119 119 _ 119 m 0 [some (fx_rf Γ 65), some (.int 3), some (.int 0), some (.int x), some (.int (nI dep)), none, none, none] []
  refine e_iload dX2_run_0 rfl ?_
  refine e_bipush dX2_run_2 kcb_40 ?_
  refine e_icmp_le 9 dX2_run_4 rfl (fun _ => ?_) (fun h => absurd (show nI dep ≤ nI 40 from nI_le (by omega) (by decide)) h)
  refine e_iload_n dX2_run_9 rfl ?_
  refine e_istore dX2_run_10 (by decide) rfl ?_
  refine e_iconst dX2_run_12 kci_0 ?_
  refine e_istore dX2_run_13 (by decide) rfl ?_
  refine e_iload dX2_run_15 rfl ?_
  refine e_bipush dX2_run_17 kcb_6 ?_
  refine e_icmp_gt 77 dX2_run_19 rfl (fun h => absurd h (by decide)) (fun _ => ?_)
  refine e_iload dX2_run_22 rfl ?_
  refine e_iconst dX2_run_24 kci_m1 ?_
  refine e_icmp_eq 77 dX2_run_25 rfl (fun h => absurd h (by decide)) (fun _ => ?_)
  refine e_iload dX2_run_28 rfl ?_
  refine e_iload_n dX2_run_30 rfl ?_
  refine e_callS1 (μ' := mX2_bodyOf) (As := [.int 3, .int 0]) dX2_run_31 wl_X2_35 ok_X2_bodyOf (by omega) (Nat.le_of_ble_eq_true rfl) fx_n1 (s_X2_body30 (m := m) ) rfl ?_
  refine e_istore dX2_run_34 (by decide) rfl ?_
  refine e_iload dX2_run_36 rfl ?_
  refine e_if_eq 64 dX2_run_38 rfl (fun h => absurd h (by decide)) (fun _ => ?_)
  refine e_aload_n dX2_run_41 rfl ?_
  refine e_iload dX2_run_42 rfl ?_
  refine e_callV (μ' := mX2_note) (ci := 2) (As := [.int 40]) dX2_run_44 wl_X2_39 ok_X2_note rfl rfl (fx_pi_lt (by decide)) (by omega) (Nat.le_of_ble_eq_true rfl) fx_n1 (s_X2_note (m := m) hA.2.2.2.2.2.2.1 ht (by have q1 := p_beT_le K; have q2 := p_waT_le K K; (try simp only [List.length_append, List.length_cons, List.length_nil]); omega) 40) rfl (fun r_ m_ hpost => ?_)
  revert m_
  intro m1 hpost
  obtain ⟨rfl, g1, t1⟩ := hpost
  have G1 := g1
  have A1 := hA.mv G1
  refine e_aload_n dX2_run_47 rfl ?_
  refine e_iload dX2_run_48 rfl ?_
  refine e_iload dX2_run_50 rfl ?_
  refine e_callS1 (μ' := mX0_above) (As := [.int 3]) dX2_run_52 wl_X2_43 ok_X0_above (by omega) (Nat.le_of_ble_eq_true rfl) fx_n1 (s_X0_above3 (m := m1) ) rfl ?_
  refine e_iload_n dX2_run_55 rfl ?_
  refine e_iload dX2_run_56 rfl ?_
  refine e_iconst dX2_run_58 kci_1 ?_
  refine e_iadd dX2_run_59 ?_
  rw [nI_1]
  refine e_callV (μ' := mX2_outcome) (ci := 2) (As := [.int 40, .int 1, .int x, .int (nI (dep + 1))]) dX2_run_60 wl_X2_47 ok_X2_outcome rfl rfl (fx_pi_lt (by decide)) (by omega) (Nat.le_of_ble_eq_true rfl) fx_n1 (s_X2_o40 (m := m1) (d := 5) (by decide) A1 t1 (dep := dep + 1) (by omega) (by have q1 := p_beT_le K; have q2 := p_waT_le K K; (try simp only [List.length_append, List.length_cons, List.length_nil]); omega) x) rfl (fun r_ m_ hpost => ?_)
  revert r_ m_
  intro r_ m2 hpost
  obtain ⟨rfl, g2, t2⟩ := hpost
  have G2 := G1.trans g2
  have A2 := hA.mv G2
  exact e_iret dX2_run_63 rfl rfl rfl ⟨(by first | rfl | (simp [p_be, p_wa, p_do]; done)), G2, by have q := t2; (try simp only [List.append_assoc, List.cons_append, List.nil_append, List.append_nil] at q); (try simp only [show p_beT 3 = 40 :: p_beT 1 from rfl, List.append_assoc, List.cons_append, List.nil_append, List.append_nil]); exact q⟩
set_option maxRecDepth 100000 in
set_option maxHeartbeats 600000 in
theorem s_X2_o51 {Γ : fx_G} {d : Nat} (hd : 3 ≤ d) {m : fx_M} {o K : Nat} {n a : Int32} (hA : fx_mA m o K n a) {l : List Nat} (ht : fx_tr m l) {dep : Nat} (hdp : dep ≤ 40) (hl : l.length + 1 ≤ 20) (x : Int32) : fx_Ct Γ mX2_outcome d 119 119 [fx_rf Γ 65, .int 51, .int 0, .int x, .int (nI dep)] m (fun r m' => r = some (.int (p_be 0 n a x - n)) ∧ fx_mv m m' ∧ fx_tr m' (l ++ p_beT 0)) := by
  refine fx_Ct.of (j := 0) (by decide) (Nat.le_of_ble_eq_true rfl) (Nat.le_of_ble_eq_true rfl) ?_
  show fx_E Γ mX2_outcome d 119 119 _ 119 m 0 [some (fx_rf Γ 65), some (.int 51), some (.int 0), some (.int x), some (.int (nI dep))] []
  refine e_iload_n dX2_outcome_0 rfl ?_
  refine e_lookup (off := 217) 218 dX2_outcome_1 (by decide) (by decide) rfl ?_
  refine e_aload_n dX2_outcome_218 rfl ?_
  refine e_iload_n dX2_outcome_219 rfl ?_
  refine e_iconst dX2_outcome_220 kci_0 ?_
  refine e_iload_n dX2_outcome_221 rfl ?_
  refine e_iload dX2_outcome_222 rfl ?_
  refine e_callV (μ' := mX2_run) (ci := 2) (As := [.int 0, .int 0, .int x, .int (nI dep)]) dX2_outcome_224 wl_X2_31 ok_X2_run rfl rfl (fx_pi_lt (by decide)) (by omega) (Nat.le_of_ble_eq_true rfl) fx_n1 (s_X2_r00 (m := m) (d := 2) (by decide) hA ht (dep := dep) (by omega) (by have q1 := p_beT_le K; have q2 := p_waT_le K K; (try simp only [List.length_append, List.length_cons, List.length_nil]); omega) x) rfl (fun r_ m_ hpost => ?_)
  revert r_ m_
  intro r_ m1 hpost
  obtain ⟨rfl, g1, t1⟩ := hpost
  have G1 := g1
  have A1 := hA.mv G1
  refine e_aload_n dX2_outcome_227 rfl ?_
  refine e_getv (v := n) dX2_outcome_228 ff_X2_19 rfl (fx_pi_lt (by decide)) (by decide) rfl A1.1 ?_
  refine e_isub dX2_outcome_231 ?_
  exact e_iret dX2_outcome_232 rfl rfl rfl ⟨rfl, G1, by have q := t1; (try simp only [List.append_assoc, List.cons_append, List.nil_append, List.append_nil] at q); (try simp only [List.append_assoc, List.cons_append, List.nil_append, List.append_nil]); exact q⟩
set_option maxRecDepth 100000 in
set_option maxHeartbeats 600000 in
theorem s_X2_r40 {Γ : fx_G} {d : Nat} (hd : 4 ≤ d) {m : fx_M} {o K : Nat} {n a : Int32} (hA : fx_mA m o K n a) {l : List Nat} (ht : fx_tr m l) {dep : Nat} (hdp : dep ≤ 39) (hl : l.length + 2 ≤ 20) (x : Int32) : fx_Ct Γ mX2_run d 119 119 [fx_rf Γ 65, .int 4, .int 0, .int x, .int (nI dep)] m (fun r m' => r = some (.int (p_be 4 n a x)) ∧ fx_mv m m' ∧ fx_tr m' (l ++ p_beT 4)) := by
  refine fx_Ct.of (j := 3) (by decide) (Nat.le_of_ble_eq_true rfl) (Nat.le_of_ble_eq_true rfl) ?_
  show fx_E Γ mX2_run d 119 119 _ 119 m 0 [some (fx_rf Γ 65), some (.int 4), some (.int 0), some (.int x), some (.int (nI dep)), none, none, none] []
  refine e_iload dX2_run_0 rfl ?_
  refine e_bipush dX2_run_2 kcb_40 ?_
  refine e_icmp_le 9 dX2_run_4 rfl (fun _ => ?_) (fun h => absurd (show nI dep ≤ nI 40 from nI_le (by omega) (by decide)) h)
  refine e_iload_n dX2_run_9 rfl ?_
  refine e_istore dX2_run_10 (by decide) rfl ?_
  refine e_iconst dX2_run_12 kci_0 ?_
  refine e_istore dX2_run_13 (by decide) rfl ?_
  refine e_iload dX2_run_15 rfl ?_
  refine e_bipush dX2_run_17 kcb_6 ?_
  refine e_icmp_gt 77 dX2_run_19 rfl (fun h => absurd h (by decide)) (fun _ => ?_)
  refine e_iload dX2_run_22 rfl ?_
  refine e_iconst dX2_run_24 kci_m1 ?_
  refine e_icmp_eq 77 dX2_run_25 rfl (fun h => absurd h (by decide)) (fun _ => ?_)
  refine e_iload dX2_run_28 rfl ?_
  refine e_iload_n dX2_run_30 rfl ?_
  refine e_callS1 (μ' := mX2_bodyOf) (As := [.int 4, .int 0]) dX2_run_31 wl_X2_35 ok_X2_bodyOf (by omega) (Nat.le_of_ble_eq_true rfl) fx_n1 (s_X2_body40 (m := m) ) rfl ?_
  refine e_istore dX2_run_34 (by decide) rfl ?_
  refine e_iload dX2_run_36 rfl ?_
  refine e_if_eq 64 dX2_run_38 rfl (fun h => absurd h (by decide)) (fun _ => ?_)
  refine e_aload_n dX2_run_41 rfl ?_
  refine e_iload dX2_run_42 rfl ?_
  refine e_callV (μ' := mX2_note) (ci := 2) (As := [.int 51]) dX2_run_44 wl_X2_39 ok_X2_note rfl rfl (fx_pi_lt (by decide)) (by omega) (Nat.le_of_ble_eq_true rfl) fx_n1 (s_X2_note (m := m) hA.2.2.2.2.2.2.1 ht (by have q1 := p_beT_le K; have q2 := p_waT_le K K; (try simp only [List.length_append, List.length_cons, List.length_nil]); omega) 51) rfl (fun r_ m_ hpost => ?_)
  revert m_
  intro m1 hpost
  obtain ⟨rfl, g1, t1⟩ := hpost
  have G1 := g1
  have A1 := hA.mv G1
  refine e_aload_n dX2_run_47 rfl ?_
  refine e_iload dX2_run_48 rfl ?_
  refine e_iload dX2_run_50 rfl ?_
  refine e_callS1 (μ' := mX0_above) (As := [.int 4]) dX2_run_52 wl_X2_43 ok_X0_above (by omega) (Nat.le_of_ble_eq_true rfl) fx_n1 (s_X0_above4 (m := m1) ) rfl ?_
  refine e_iload_n dX2_run_55 rfl ?_
  refine e_iload dX2_run_56 rfl ?_
  refine e_iconst dX2_run_58 kci_1 ?_
  refine e_iadd dX2_run_59 ?_
  rw [nI_1]
  refine e_callV (μ' := mX2_outcome) (ci := 2) (As := [.int 51, .int 0, .int x, .int (nI (dep + 1))]) dX2_run_60 wl_X2_47 ok_X2_outcome rfl rfl (fx_pi_lt (by decide)) (by omega) (Nat.le_of_ble_eq_true rfl) fx_n1 (s_X2_o51 (m := m1) (d := 3) (by decide) A1 t1 (dep := dep + 1) (by omega) (by have q1 := p_beT_le K; have q2 := p_waT_le K K; (try simp only [List.length_append, List.length_cons, List.length_nil]); omega) x) rfl (fun r_ m_ hpost => ?_)
  revert r_ m_
  intro r_ m2 hpost
  obtain ⟨rfl, g2, t2⟩ := hpost
  have G2 := G1.trans g2
  have A2 := hA.mv G2
  exact e_iret dX2_run_63 rfl rfl rfl ⟨(by first | rfl | (simp [p_be, p_wa, p_do]; done)), G2, by have q := t2; (try simp only [List.append_assoc, List.cons_append, List.nil_append, List.append_nil] at q); (try simp only [show p_beT 4 = 51 :: p_beT 0 from rfl, List.append_assoc, List.cons_append, List.nil_append, List.append_nil]); exact q⟩
set_option maxRecDepth 100000 in
set_option maxHeartbeats 600000 in
theorem s_X2_r50 {Γ : fx_G} {d : Nat} (hd : 2 ≤ d) {m : fx_M} {o K : Nat} {n a : Int32} (hA : fx_mA m o K n a) {l : List Nat} (ht : fx_tr m l) {dep : Nat} (hdp : dep ≤ 40) (hl : l.length + 1 ≤ 20) (x : Int32) : fx_Ct Γ mX2_run d 119 119 [fx_rf Γ 65, .int 5, .int 0, .int x, .int (nI dep)] m (fun r m' => r = some (.int (p_be 5 n a x)) ∧ fx_mv m m' ∧ fx_tr m' (l ++ p_beT 5)) := by
  refine fx_Ct.of (j := 3) (by decide) (Nat.le_of_ble_eq_true rfl) (Nat.le_of_ble_eq_true rfl) ?_
  show fx_E Γ mX2_run d 119 119 _ 119 m 0 [some (fx_rf Γ 65), some (.int 5), some (.int 0), some (.int x), some (.int (nI dep)), none, none, none] []
  refine e_iload dX2_run_0 rfl ?_
  refine e_bipush dX2_run_2 kcb_40 ?_
  refine e_icmp_le 9 dX2_run_4 rfl (fun _ => ?_) (fun h => absurd (show nI dep ≤ nI 40 from nI_le (by omega) (by decide)) h)
  refine e_iload_n dX2_run_9 rfl ?_
  refine e_istore dX2_run_10 (by decide) rfl ?_
  refine e_iconst dX2_run_12 kci_0 ?_
  refine e_istore dX2_run_13 (by decide) rfl ?_
  refine e_iload dX2_run_15 rfl ?_
  refine e_bipush dX2_run_17 kcb_6 ?_
  refine e_icmp_gt 77 dX2_run_19 rfl (fun h => absurd h (by decide)) (fun _ => ?_)
  refine e_iload dX2_run_22 rfl ?_
  refine e_iconst dX2_run_24 kci_m1 ?_
  refine e_icmp_eq 77 dX2_run_25 rfl (fun h => absurd h (by decide)) (fun _ => ?_)
  refine e_iload dX2_run_28 rfl ?_
  refine e_iload_n dX2_run_30 rfl ?_
  refine e_callS1 (μ' := mX2_bodyOf) (As := [.int 5, .int 0]) dX2_run_31 wl_X2_35 ok_X2_bodyOf (by omega) (Nat.le_of_ble_eq_true rfl) fx_n1 (s_X2_body50 (m := m) ) rfl ?_
  refine e_istore dX2_run_34 (by decide) rfl ?_
  refine e_iload dX2_run_36 rfl ?_
  refine e_if_eq 64 dX2_run_38 rfl (fun _ => ?_) (fun h => absurd (by decide) h)
  refine e_iload dX2_run_64 rfl ?_
  refine e_callS1 (μ' := mX0_above) (As := [.int 5]) dX2_run_66 wl_X2_43 ok_X0_above (by omega) (Nat.le_of_ble_eq_true rfl) fx_n1 (s_X0_above5 (m := m) ) rfl ?_
  refine e_istore dX2_run_69 (by decide) rfl ?_
  refine e_iinc (v := 1) dX2_run_71 rfl (by decide) (by decide) rfl ?_
  refine e_goto 15 dX2_run_74 rfl ?_
  refine e_iload dX2_run_15 rfl ?_
  refine e_bipush dX2_run_17 kcb_6 ?_
  refine e_icmp_gt 77 dX2_run_19 rfl (fun h => absurd h (by decide)) (fun _ => ?_)
  refine e_iload dX2_run_22 rfl ?_
  refine e_iconst dX2_run_24 kci_m1 ?_
  refine e_icmp_eq 77 dX2_run_25 rfl (fun h => absurd h (by decide)) (fun _ => ?_)
  refine e_iload dX2_run_28 rfl ?_
  refine e_iload_n dX2_run_30 rfl ?_
  refine e_callS1 (μ' := mX2_bodyOf) (As := [.int 2, .int 0]) dX2_run_31 wl_X2_35 ok_X2_bodyOf (by omega) (Nat.le_of_ble_eq_true rfl) fx_n1 (s_X2_body20 (m := m) ) rfl ?_
  refine e_istore dX2_run_34 (by decide) rfl ?_
  refine e_iload dX2_run_36 rfl ?_
  refine e_if_eq 64 dX2_run_38 rfl (fun _ => ?_) (fun h => absurd (by decide) h)
  refine e_iload dX2_run_64 rfl ?_
  refine e_callS1 (μ' := mX0_above) (As := [.int 2]) dX2_run_66 wl_X2_43 ok_X0_above (by omega) (Nat.le_of_ble_eq_true rfl) fx_n1 (s_X0_above2 (m := m) ) rfl ?_
  refine e_istore dX2_run_69 (by decide) rfl ?_
  refine e_iinc (v := 2) dX2_run_71 rfl (by decide) (by decide) rfl ?_
  refine e_goto 15 dX2_run_74 rfl ?_
  refine e_iload dX2_run_15 rfl ?_
  refine e_bipush dX2_run_17 kcb_6 ?_
  refine e_icmp_gt 77 dX2_run_19 rfl (fun h => absurd h (by decide)) (fun _ => ?_)
  refine e_iload dX2_run_22 rfl ?_
  refine e_iconst dX2_run_24 kci_m1 ?_
  refine e_icmp_eq 77 dX2_run_25 rfl (fun h => absurd h (by decide)) (fun _ => ?_)
  refine e_iload dX2_run_28 rfl ?_
  refine e_iload_n dX2_run_30 rfl ?_
  refine e_callS1 (μ' := mX2_bodyOf) (As := [.int 0, .int 0]) dX2_run_31 wl_X2_35 ok_X2_bodyOf (by omega) (Nat.le_of_ble_eq_true rfl) fx_n1 (s_X2_body00 (m := m) ) rfl ?_
  refine e_istore dX2_run_34 (by decide) rfl ?_
  refine e_iload dX2_run_36 rfl ?_
  refine e_if_eq 64 dX2_run_38 rfl (fun h => absurd h (by decide)) (fun _ => ?_)
  refine e_aload_n dX2_run_41 rfl ?_
  refine e_iload dX2_run_42 rfl ?_
  refine e_callV (μ' := mX2_note) (ci := 2) (As := [.int 10]) dX2_run_44 wl_X2_39 ok_X2_note rfl rfl (fx_pi_lt (by decide)) (by omega) (Nat.le_of_ble_eq_true rfl) fx_n1 (s_X2_note (m := m) hA.2.2.2.2.2.2.1 ht (by have q1 := p_beT_le K; have q2 := p_waT_le K K; (try simp only [List.length_append, List.length_cons, List.length_nil]); omega) 10) rfl (fun r_ m_ hpost => ?_)
  revert m_
  intro m1 hpost
  obtain ⟨rfl, g1, t1⟩ := hpost
  have G1 := g1
  have A1 := hA.mv G1
  refine e_aload_n dX2_run_47 rfl ?_
  refine e_iload dX2_run_48 rfl ?_
  refine e_iload dX2_run_50 rfl ?_
  refine e_callS1 (μ' := mX0_above) (As := [.int 0]) dX2_run_52 wl_X2_43 ok_X0_above (by omega) (Nat.le_of_ble_eq_true rfl) fx_n1 (s_X0_above0 (m := m1) ) rfl ?_
  refine e_iload_n dX2_run_55 rfl ?_
  refine e_iload dX2_run_56 rfl ?_
  refine e_iconst dX2_run_58 kci_1 ?_
  refine e_iadd dX2_run_59 ?_
  rw [nI_1]
  refine e_callV (μ' := mX2_outcome) (ci := 2) (As := [.int 10, .int (-1), .int x, .int (nI (dep + 1))]) dX2_run_60 wl_X2_47 ok_X2_outcome rfl rfl (fx_pi_lt (by decide)) (by omega) (Nat.le_of_ble_eq_true rfl) fx_n1 (s_X2_o10 (m := m1) (d := 0) (by decide) A1 t1 (dep := dep + 1) (by omega) (by have q1 := p_beT_le K; have q2 := p_waT_le K K; (try simp only [List.length_append, List.length_cons, List.length_nil]); omega) x) rfl (fun r_ m_ hpost => ?_)
  revert r_ m_
  intro r_ m2 hpost
  obtain ⟨rfl, g2, t2⟩ := hpost
  have G2 := G1.trans g2
  have A2 := hA.mv G2
  exact e_iret dX2_run_63 rfl rfl rfl ⟨(by first | rfl | (simp [p_be, p_wa, p_do]; done)), G2, by have q := t2; (try simp only [List.append_assoc, List.cons_append, List.nil_append, List.append_nil] at q); (try simp only [show p_beT 5 = [10] from rfl, List.append_assoc, List.cons_append, List.nil_append, List.append_nil]); exact q⟩
set_option maxRecDepth 100000 in
set_option maxHeartbeats 600000 in
theorem s_X2_o70 {Γ : fx_G} {d : Nat} (hd : 7 ≤ d) {m : fx_M} {o K : Nat} {n a : Int32} (hA : fx_mA m o K n a) {l : List Nat} (ht : fx_tr m l) {dep : Nat} (hdp : dep ≤ 38) (hl : l.length + 3 ≤ 20) (x : Int32) : fx_Ct Γ mX2_outcome d 119 119 [fx_rf Γ 65, .int 70, .int 3, .int x, .int (nI dep)] m (fun r m' => r = some (.int (p_be 3 n a x * 2)) ∧ fx_mv m m' ∧ fx_tr m' (l ++ p_beT 3)) := by
  refine fx_Ct.of (j := 0) (by decide) (Nat.le_of_ble_eq_true rfl) (Nat.le_of_ble_eq_true rfl) ?_
  show fx_E Γ mX2_outcome d 119 119 _ 119 m 0 [some (fx_rf Γ 65), some (.int 70), some (.int 3), some (.int x), some (.int (nI dep))] []
  refine e_iload_n dX2_outcome_0 rfl ?_
  refine e_lookup (off := 244) 245 dX2_outcome_1 (by decide) (by decide) rfl ?_
  refine e_aload_n dX2_outcome_245 rfl ?_
  refine e_iload_n dX2_outcome_246 rfl ?_
  refine e_iconst dX2_outcome_247 kci_0 ?_
  refine e_iload_n dX2_outcome_248 rfl ?_
  refine e_iload dX2_outcome_249 rfl ?_
  refine e_callV (μ' := mX2_run) (ci := 2) (As := [.int 3, .int 0, .int x, .int (nI dep)]) dX2_outcome_251 wl_X2_31 ok_X2_run rfl rfl (fx_pi_lt (by decide)) (by omega) (Nat.le_of_ble_eq_true rfl) fx_n1 (s_X2_r30 (m := m) (d := 6) (by decide) hA ht (dep := dep) (by omega) (by have q1 := p_beT_le K; have q2 := p_waT_le K K; (try simp only [List.length_append, List.length_cons, List.length_nil]); omega) x) rfl (fun r_ m_ hpost => ?_)
  revert r_ m_
  intro r_ m1 hpost
  obtain ⟨rfl, g1, t1⟩ := hpost
  have G1 := g1
  have A1 := hA.mv G1
  refine e_iconst dX2_outcome_254 kci_2 ?_
  refine e_imul dX2_outcome_255 ?_
  exact e_iret dX2_outcome_256 rfl rfl rfl ⟨rfl, G1, by have q := t1; (try simp only [List.append_assoc, List.cons_append, List.nil_append, List.append_nil] at q); (try simp only [List.append_assoc, List.cons_append, List.nil_append, List.append_nil]); exact q⟩
set_option maxRecDepth 100000 in
set_option maxHeartbeats 600000 in
theorem s_X2_r60 {Γ : fx_G} {d : Nat} (hd : 8 ≤ d) {m : fx_M} {o K : Nat} {n a : Int32} (hA : fx_mA m o K n a) {l : List Nat} (ht : fx_tr m l) {dep : Nat} (hdp : dep ≤ 37) (hl : l.length + 4 ≤ 20) (x : Int32) : fx_Ct Γ mX2_run d 119 119 [fx_rf Γ 65, .int 6, .int 0, .int x, .int (nI dep)] m (fun r m' => r = some (.int (p_be 6 n a x)) ∧ fx_mv m m' ∧ fx_tr m' (l ++ p_beT 6)) := by
  refine fx_Ct.of (j := 3) (by decide) (Nat.le_of_ble_eq_true rfl) (Nat.le_of_ble_eq_true rfl) ?_
  show fx_E Γ mX2_run d 119 119 _ 119 m 0 [some (fx_rf Γ 65), some (.int 6), some (.int 0), some (.int x), some (.int (nI dep)), none, none, none] []
  refine e_iload dX2_run_0 rfl ?_
  refine e_bipush dX2_run_2 kcb_40 ?_
  refine e_icmp_le 9 dX2_run_4 rfl (fun _ => ?_) (fun h => absurd (show nI dep ≤ nI 40 from nI_le (by omega) (by decide)) h)
  refine e_iload_n dX2_run_9 rfl ?_
  refine e_istore dX2_run_10 (by decide) rfl ?_
  refine e_iconst dX2_run_12 kci_0 ?_
  refine e_istore dX2_run_13 (by decide) rfl ?_
  refine e_iload dX2_run_15 rfl ?_
  refine e_bipush dX2_run_17 kcb_6 ?_
  refine e_icmp_gt 77 dX2_run_19 rfl (fun h => absurd h (by decide)) (fun _ => ?_)
  refine e_iload dX2_run_22 rfl ?_
  refine e_iconst dX2_run_24 kci_m1 ?_
  refine e_icmp_eq 77 dX2_run_25 rfl (fun h => absurd h (by decide)) (fun _ => ?_)
  refine e_iload dX2_run_28 rfl ?_
  refine e_iload_n dX2_run_30 rfl ?_
  refine e_callS1 (μ' := mX2_bodyOf) (As := [.int 6, .int 0]) dX2_run_31 wl_X2_35 ok_X2_bodyOf (by omega) (Nat.le_of_ble_eq_true rfl) fx_n1 (s_X2_body60 (m := m) ) rfl ?_
  refine e_istore dX2_run_34 (by decide) rfl ?_
  refine e_iload dX2_run_36 rfl ?_
  refine e_if_eq 64 dX2_run_38 rfl (fun h => absurd h (by decide)) (fun _ => ?_)
  refine e_aload_n dX2_run_41 rfl ?_
  refine e_iload dX2_run_42 rfl ?_
  refine e_callV (μ' := mX2_note) (ci := 2) (As := [.int 70]) dX2_run_44 wl_X2_39 ok_X2_note rfl rfl (fx_pi_lt (by decide)) (by omega) (Nat.le_of_ble_eq_true rfl) fx_n1 (s_X2_note (m := m) hA.2.2.2.2.2.2.1 ht (by have q1 := p_beT_le K; have q2 := p_waT_le K K; (try simp only [List.length_append, List.length_cons, List.length_nil]); omega) 70) rfl (fun r_ m_ hpost => ?_)
  revert m_
  intro m1 hpost
  obtain ⟨rfl, g1, t1⟩ := hpost
  have G1 := g1
  have A1 := hA.mv G1
  refine e_aload_n dX2_run_47 rfl ?_
  refine e_iload dX2_run_48 rfl ?_
  refine e_iload dX2_run_50 rfl ?_
  refine e_callS1 (μ' := mX0_above) (As := [.int 6]) dX2_run_52 wl_X2_43 ok_X0_above (by omega) (Nat.le_of_ble_eq_true rfl) fx_n1 (s_X0_above6 (m := m1) ) rfl ?_
  refine e_iload_n dX2_run_55 rfl ?_
  refine e_iload dX2_run_56 rfl ?_
  refine e_iconst dX2_run_58 kci_1 ?_
  refine e_iadd dX2_run_59 ?_
  rw [nI_1]
  refine e_callV (μ' := mX2_outcome) (ci := 2) (As := [.int 70, .int 3, .int x, .int (nI (dep + 1))]) dX2_run_60 wl_X2_47 ok_X2_outcome rfl rfl (fx_pi_lt (by decide)) (by omega) (Nat.le_of_ble_eq_true rfl) fx_n1 (s_X2_o70 (m := m1) (d := 7) (by decide) A1 t1 (dep := dep + 1) (by omega) (by have q1 := p_beT_le K; have q2 := p_waT_le K K; (try simp only [List.length_append, List.length_cons, List.length_nil]); omega) x) rfl (fun r_ m_ hpost => ?_)
  revert r_ m_
  intro r_ m2 hpost
  obtain ⟨rfl, g2, t2⟩ := hpost
  have G2 := G1.trans g2
  have A2 := hA.mv G2
  exact e_iret dX2_run_63 rfl rfl rfl ⟨(by first | rfl | (simp [p_be, p_wa, p_do]; done)), G2, by have q := t2; (try simp only [List.append_assoc, List.cons_append, List.nil_append, List.append_nil] at q); (try simp only [show p_beT 6 = 70 :: p_beT 3 from rfl, List.append_assoc, List.cons_append, List.nil_append, List.append_nil]); exact q⟩
theorem s_X2_rK0 {Γ : fx_G} {d : Nat} (hd : 8 ≤ d) {m : fx_M} {o K : Nat} {n a : Int32} (hA : fx_mA m o K n a) {l : List Nat} (ht : fx_tr m l) {dep : Nat} (hdp : dep ≤ 37) (hl : l.length + 4 ≤ 20) (x : Int32) : fx_Ct Γ mX2_run d 119 119 [fx_rf Γ 65, .int (nI K), .int 0, .int x, .int (nI dep)] m (fun r m' => r = some (.int (p_be K n a x)) ∧ fx_mv m m' ∧ fx_tr m' (l ++ p_beT K)) := by
  have hK := hA.2.2.2.2.2.2.2
  revert hA
  refine p_7 (P := fun K => fx_mA m o K n a → fx_Ct Γ mX2_run d 119 119 [fx_rf Γ 65, .int (nI K), .int 0, .int x, .int (nI dep)] m (fun r m' => r = some (.int (p_be K n a x)) ∧ fx_mv m m' ∧ fx_tr m' (l ++ p_beT K))) (fun hA => s_X2_r00 (by omega) hA ht (by omega) (by omega) x) (fun hA => s_X2_r10 (by omega) hA ht (by omega) (by omega) x) (fun hA => s_X2_r20 (by omega) hA ht (by omega) (by omega) x) (fun hA => s_X2_r30 (by omega) hA ht (by omega) (by omega) x) (fun hA => s_X2_r40 (by omega) hA ht (by omega) (by omega) x) (fun hA => s_X2_r50 (by omega) hA ht (by omega) (by omega) x) (fun hA => s_X2_r60 (by omega) hA ht (by omega) (by omega) x) hK
set_option maxRecDepth 100000 in
set_option maxHeartbeats 600000 in
theorem s_X2_o11 {Γ : fx_G} {d : Nat} (hd : 9 ≤ d) {m : fx_M} {o K : Nat} {n a : Int32} (hA : fx_mA m o K n a) {l : List Nat} (ht : fx_tr m l) {dep : Nat} (hdp : dep ≤ 37) (hl : l.length + 4 ≤ 20) (x : Int32) : fx_Ct Γ mX2_outcome d 119 119 [fx_rf Γ 65, .int 11, .int (-1), .int x, .int (nI dep)] m (fun r m' => r = some (.int (p_be K n a x * 2)) ∧ fx_mv m m' ∧ fx_tr m' (l ++ p_beT K)) := by
  refine fx_Ct.of (j := 0) (by decide) (Nat.le_of_ble_eq_true rfl) (Nat.le_of_ble_eq_true rfl) ?_
  show fx_E Γ mX2_outcome d 119 119 _ 119 m 0 [some (fx_rf Γ 65), some (.int 11), some (.int (-1)), some (.int x), some (.int (nI dep))] []
  refine e_iload_n dX2_outcome_0 rfl ?_
  refine e_lookup (off := 106) 107 dX2_outcome_1 (by decide) (by decide) rfl ?_
  refine e_aload_n dX2_outcome_107 rfl ?_
  refine e_aload_n dX2_outcome_108 rfl ?_
  refine e_getr (o2 := o) dX2_outcome_109 ff_X2_22 rfl (fx_pi_lt (by decide)) (by decide) rfl hA.2.1 ?_
  refine e_getv (v := nI K) dX2_outcome_112 ff_X2_26 hA.2.2.1 (fx_pi_lt (by have := hA.2.2.2.1; omega)) (by decide) rfl hA.2.2.2.2.1 ?_
  refine e_iconst dX2_outcome_115 kci_0 ?_
  refine e_iload_n dX2_outcome_116 rfl ?_
  refine e_iload dX2_outcome_117 rfl ?_
  refine e_callV (μ' := mX2_run) (ci := 2) (As := [.int (nI K), .int 0, .int x, .int (nI dep)]) dX2_outcome_119 wl_X2_31 ok_X2_run rfl rfl (fx_pi_lt (by decide)) (by omega) (Nat.le_of_ble_eq_true rfl) fx_n1 (s_X2_rK0 (m := m) (d := 8) (by decide) hA ht (dep := dep) (by omega) (by have q1 := p_beT_le K; have q2 := p_waT_le K K; (try simp only [List.length_append, List.length_cons, List.length_nil]); omega) x) rfl (fun r_ m_ hpost => ?_)
  revert r_ m_
  intro r_ m1 hpost
  obtain ⟨rfl, g1, t1⟩ := hpost
  have G1 := g1
  have A1 := hA.mv G1
  refine e_iconst dX2_outcome_122 kci_2 ?_
  refine e_imul dX2_outcome_123 ?_
  exact e_iret dX2_outcome_124 rfl rfl rfl ⟨rfl, G1, by have q := t1; (try simp only [List.append_assoc, List.cons_append, List.nil_append, List.append_nil] at q); (try simp only [List.append_assoc, List.cons_append, List.nil_append, List.append_nil]); exact q⟩
set_option maxRecDepth 100000 in
set_option maxHeartbeats 600000 in
theorem s_X2_r01 {Γ : fx_G} {d : Nat} (hd : 10 ≤ d) {m : fx_M} {o K : Nat} {n a : Int32} (hA : fx_mA m o K n a) {l : List Nat} (ht : fx_tr m l) {dep : Nat} (hdp : dep ≤ 36) (hl : l.length + 5 ≤ 20) (x : Int32) : fx_Ct Γ mX2_run d 119 119 [fx_rf Γ 65, .int 0, .int 1, .int x, .int (nI dep)] m (fun r m' => r = some (.int (p_wa 0 K n a x)) ∧ fx_mv m m' ∧ fx_tr m' (l ++ p_waT 0 K)) := by
  refine fx_Ct.of (j := 3) (by decide) (Nat.le_of_ble_eq_true rfl) (Nat.le_of_ble_eq_true rfl) ?_
  show fx_E Γ mX2_run d 119 119 _ 119 m 0 [some (fx_rf Γ 65), some (.int 0), some (.int 1), some (.int x), some (.int (nI dep)), none, none, none] []
  refine e_iload dX2_run_0 rfl ?_
  refine e_bipush dX2_run_2 kcb_40 ?_
  refine e_icmp_le 9 dX2_run_4 rfl (fun _ => ?_) (fun h => absurd (show nI dep ≤ nI 40 from nI_le (by omega) (by decide)) h)
  refine e_iload_n dX2_run_9 rfl ?_
  refine e_istore dX2_run_10 (by decide) rfl ?_
  refine e_iconst dX2_run_12 kci_0 ?_
  refine e_istore dX2_run_13 (by decide) rfl ?_
  refine e_iload dX2_run_15 rfl ?_
  refine e_bipush dX2_run_17 kcb_6 ?_
  refine e_icmp_gt 77 dX2_run_19 rfl (fun h => absurd h (by decide)) (fun _ => ?_)
  refine e_iload dX2_run_22 rfl ?_
  refine e_iconst dX2_run_24 kci_m1 ?_
  refine e_icmp_eq 77 dX2_run_25 rfl (fun h => absurd h (by decide)) (fun _ => ?_)
  refine e_iload dX2_run_28 rfl ?_
  refine e_iload_n dX2_run_30 rfl ?_
  refine e_callS1 (μ' := mX2_bodyOf) (As := [.int 0, .int 1]) dX2_run_31 wl_X2_35 ok_X2_bodyOf (by omega) (Nat.le_of_ble_eq_true rfl) fx_n1 (s_X2_body01 (m := m) ) rfl ?_
  refine e_istore dX2_run_34 (by decide) rfl ?_
  refine e_iload dX2_run_36 rfl ?_
  refine e_if_eq 64 dX2_run_38 rfl (fun h => absurd h (by decide)) (fun _ => ?_)
  refine e_aload_n dX2_run_41 rfl ?_
  refine e_iload dX2_run_42 rfl ?_
  refine e_callV (μ' := mX2_note) (ci := 2) (As := [.int 11]) dX2_run_44 wl_X2_39 ok_X2_note rfl rfl (fx_pi_lt (by decide)) (by omega) (Nat.le_of_ble_eq_true rfl) fx_n1 (s_X2_note (m := m) hA.2.2.2.2.2.2.1 ht (by have q1 := p_beT_le K; have q2 := p_waT_le K K; (try simp only [List.length_append, List.length_cons, List.length_nil]); omega) 11) rfl (fun r_ m_ hpost => ?_)
  revert m_
  intro m1 hpost
  obtain ⟨rfl, g1, t1⟩ := hpost
  have G1 := g1
  have A1 := hA.mv G1
  refine e_aload_n dX2_run_47 rfl ?_
  refine e_iload dX2_run_48 rfl ?_
  refine e_iload dX2_run_50 rfl ?_
  refine e_callS1 (μ' := mX0_above) (As := [.int 0]) dX2_run_52 wl_X2_43 ok_X0_above (by omega) (Nat.le_of_ble_eq_true rfl) fx_n1 (s_X0_above0 (m := m1) ) rfl ?_
  refine e_iload_n dX2_run_55 rfl ?_
  refine e_iload dX2_run_56 rfl ?_
  refine e_iconst dX2_run_58 kci_1 ?_
  refine e_iadd dX2_run_59 ?_
  rw [nI_1]
  refine e_callV (μ' := mX2_outcome) (ci := 2) (As := [.int 11, .int (-1), .int x, .int (nI (dep + 1))]) dX2_run_60 wl_X2_47 ok_X2_outcome rfl rfl (fx_pi_lt (by decide)) (by omega) (Nat.le_of_ble_eq_true rfl) fx_n1 (s_X2_o11 (m := m1) (d := 9) (by decide) A1 t1 (dep := dep + 1) (by omega) (by have q1 := p_beT_le K; have q2 := p_waT_le K K; (try simp only [List.length_append, List.length_cons, List.length_nil]); omega) x) rfl (fun r_ m_ hpost => ?_)
  revert r_ m_
  intro r_ m2 hpost
  obtain ⟨rfl, g2, t2⟩ := hpost
  have G2 := G1.trans g2
  have A2 := hA.mv G2
  exact e_iret dX2_run_63 rfl rfl rfl ⟨(by first | rfl | (simp [p_be, p_wa, p_do]; done)), G2, by have q := t2; (try simp only [List.append_assoc, List.cons_append, List.nil_append, List.append_nil] at q); (try simp only [show p_waT 0 K = 11 :: p_beT K from rfl, List.append_assoc, List.cons_append, List.nil_append, List.append_nil]); exact q⟩
set_option maxRecDepth 100000 in
set_option maxHeartbeats 600000 in
theorem s_X2_r11 {Γ : fx_G} {d : Nat} (hd : 10 ≤ d) {m : fx_M} {o K : Nat} {n a : Int32} (hA : fx_mA m o K n a) {l : List Nat} (ht : fx_tr m l) {dep : Nat} (hdp : dep ≤ 36) (hl : l.length + 5 ≤ 20) (x : Int32) : fx_Ct Γ mX2_run d 119 119 [fx_rf Γ 65, .int 1, .int 1, .int x, .int (nI dep)] m (fun r m' => r = some (.int (p_wa 1 K n a x)) ∧ fx_mv m m' ∧ fx_tr m' (l ++ p_waT 1 K)) := by
  refine fx_Ct.of (j := 3) (by decide) (Nat.le_of_ble_eq_true rfl) (Nat.le_of_ble_eq_true rfl) ?_
  show fx_E Γ mX2_run d 119 119 _ 119 m 0 [some (fx_rf Γ 65), some (.int 1), some (.int 1), some (.int x), some (.int (nI dep)), none, none, none] []
  refine e_iload dX2_run_0 rfl ?_
  refine e_bipush dX2_run_2 kcb_40 ?_
  refine e_icmp_le 9 dX2_run_4 rfl (fun _ => ?_) (fun h => absurd (show nI dep ≤ nI 40 from nI_le (by omega) (by decide)) h)
  refine e_iload_n dX2_run_9 rfl ?_
  refine e_istore dX2_run_10 (by decide) rfl ?_
  refine e_iconst dX2_run_12 kci_0 ?_
  refine e_istore dX2_run_13 (by decide) rfl ?_
  refine e_iload dX2_run_15 rfl ?_
  refine e_bipush dX2_run_17 kcb_6 ?_
  refine e_icmp_gt 77 dX2_run_19 rfl (fun h => absurd h (by decide)) (fun _ => ?_)
  refine e_iload dX2_run_22 rfl ?_
  refine e_iconst dX2_run_24 kci_m1 ?_
  refine e_icmp_eq 77 dX2_run_25 rfl (fun h => absurd h (by decide)) (fun _ => ?_)
  refine e_iload dX2_run_28 rfl ?_
  refine e_iload_n dX2_run_30 rfl ?_
  refine e_callS1 (μ' := mX2_bodyOf) (As := [.int 1, .int 1]) dX2_run_31 wl_X2_35 ok_X2_bodyOf (by omega) (Nat.le_of_ble_eq_true rfl) fx_n1 (s_X2_body11 (m := m) ) rfl ?_
  refine e_istore dX2_run_34 (by decide) rfl ?_
  refine e_iload dX2_run_36 rfl ?_
  refine e_if_eq 64 dX2_run_38 rfl (fun _ => ?_) (fun h => absurd (by decide) h)
  refine e_iload dX2_run_64 rfl ?_
  refine e_callS1 (μ' := mX0_above) (As := [.int 1]) dX2_run_66 wl_X2_43 ok_X0_above (by omega) (Nat.le_of_ble_eq_true rfl) fx_n1 (s_X0_above1 (m := m) ) rfl ?_
  refine e_istore dX2_run_69 (by decide) rfl ?_
  refine e_iinc (v := 1) dX2_run_71 rfl (by decide) (by decide) rfl ?_
  refine e_goto 15 dX2_run_74 rfl ?_
  refine e_iload dX2_run_15 rfl ?_
  refine e_bipush dX2_run_17 kcb_6 ?_
  refine e_icmp_gt 77 dX2_run_19 rfl (fun h => absurd h (by decide)) (fun _ => ?_)
  refine e_iload dX2_run_22 rfl ?_
  refine e_iconst dX2_run_24 kci_m1 ?_
  refine e_icmp_eq 77 dX2_run_25 rfl (fun h => absurd h (by decide)) (fun _ => ?_)
  refine e_iload dX2_run_28 rfl ?_
  refine e_iload_n dX2_run_30 rfl ?_
  refine e_callS1 (μ' := mX2_bodyOf) (As := [.int 0, .int 1]) dX2_run_31 wl_X2_35 ok_X2_bodyOf (by omega) (Nat.le_of_ble_eq_true rfl) fx_n1 (s_X2_body01 (m := m) ) rfl ?_
  refine e_istore dX2_run_34 (by decide) rfl ?_
  refine e_iload dX2_run_36 rfl ?_
  refine e_if_eq 64 dX2_run_38 rfl (fun h => absurd h (by decide)) (fun _ => ?_)
  refine e_aload_n dX2_run_41 rfl ?_
  refine e_iload dX2_run_42 rfl ?_
  refine e_callV (μ' := mX2_note) (ci := 2) (As := [.int 11]) dX2_run_44 wl_X2_39 ok_X2_note rfl rfl (fx_pi_lt (by decide)) (by omega) (Nat.le_of_ble_eq_true rfl) fx_n1 (s_X2_note (m := m) hA.2.2.2.2.2.2.1 ht (by have q1 := p_beT_le K; have q2 := p_waT_le K K; (try simp only [List.length_append, List.length_cons, List.length_nil]); omega) 11) rfl (fun r_ m_ hpost => ?_)
  revert m_
  intro m1 hpost
  obtain ⟨rfl, g1, t1⟩ := hpost
  have G1 := g1
  have A1 := hA.mv G1
  refine e_aload_n dX2_run_47 rfl ?_
  refine e_iload dX2_run_48 rfl ?_
  refine e_iload dX2_run_50 rfl ?_
  refine e_callS1 (μ' := mX0_above) (As := [.int 0]) dX2_run_52 wl_X2_43 ok_X0_above (by omega) (Nat.le_of_ble_eq_true rfl) fx_n1 (s_X0_above0 (m := m1) ) rfl ?_
  refine e_iload_n dX2_run_55 rfl ?_
  refine e_iload dX2_run_56 rfl ?_
  refine e_iconst dX2_run_58 kci_1 ?_
  refine e_iadd dX2_run_59 ?_
  rw [nI_1]
  refine e_callV (μ' := mX2_outcome) (ci := 2) (As := [.int 11, .int (-1), .int x, .int (nI (dep + 1))]) dX2_run_60 wl_X2_47 ok_X2_outcome rfl rfl (fx_pi_lt (by decide)) (by omega) (Nat.le_of_ble_eq_true rfl) fx_n1 (s_X2_o11 (m := m1) (d := 9) (by decide) A1 t1 (dep := dep + 1) (by omega) (by have q1 := p_beT_le K; have q2 := p_waT_le K K; (try simp only [List.length_append, List.length_cons, List.length_nil]); omega) x) rfl (fun r_ m_ hpost => ?_)
  revert r_ m_
  intro r_ m2 hpost
  obtain ⟨rfl, g2, t2⟩ := hpost
  have G2 := G1.trans g2
  have A2 := hA.mv G2
  exact e_iret dX2_run_63 rfl rfl rfl ⟨(by first | rfl | (simp [p_be, p_wa, p_do]; done)), G2, by have q := t2; (try simp only [List.append_assoc, List.cons_append, List.nil_append, List.append_nil] at q); (try simp only [show p_waT 1 K = 11 :: p_beT K from rfl, List.append_assoc, List.cons_append, List.nil_append, List.append_nil]); exact q⟩
set_option maxRecDepth 100000 in
set_option maxHeartbeats 600000 in
theorem s_X2_r31 {Γ : fx_G} {d : Nat} (hd : 10 ≤ d) {m : fx_M} {o K : Nat} {n a : Int32} (hA : fx_mA m o K n a) {l : List Nat} (ht : fx_tr m l) {dep : Nat} (hdp : dep ≤ 36) (hl : l.length + 5 ≤ 20) (x : Int32) : fx_Ct Γ mX2_run d 119 119 [fx_rf Γ 65, .int 3, .int 1, .int x, .int (nI dep)] m (fun r m' => r = some (.int (p_wa 3 K n a x)) ∧ fx_mv m m' ∧ fx_tr m' (l ++ p_waT 3 K)) := by
  refine fx_Ct.of (j := 3) (by decide) (Nat.le_of_ble_eq_true rfl) (Nat.le_of_ble_eq_true rfl) ?_
  show fx_E Γ mX2_run d 119 119 _ 119 m 0 [some (fx_rf Γ 65), some (.int 3), some (.int 1), some (.int x), some (.int (nI dep)), none, none, none] []
  refine e_iload dX2_run_0 rfl ?_
  refine e_bipush dX2_run_2 kcb_40 ?_
  refine e_icmp_le 9 dX2_run_4 rfl (fun _ => ?_) (fun h => absurd (show nI dep ≤ nI 40 from nI_le (by omega) (by decide)) h)
  refine e_iload_n dX2_run_9 rfl ?_
  refine e_istore dX2_run_10 (by decide) rfl ?_
  refine e_iconst dX2_run_12 kci_0 ?_
  refine e_istore dX2_run_13 (by decide) rfl ?_
  refine e_iload dX2_run_15 rfl ?_
  refine e_bipush dX2_run_17 kcb_6 ?_
  refine e_icmp_gt 77 dX2_run_19 rfl (fun h => absurd h (by decide)) (fun _ => ?_)
  refine e_iload dX2_run_22 rfl ?_
  refine e_iconst dX2_run_24 kci_m1 ?_
  refine e_icmp_eq 77 dX2_run_25 rfl (fun h => absurd h (by decide)) (fun _ => ?_)
  refine e_iload dX2_run_28 rfl ?_
  refine e_iload_n dX2_run_30 rfl ?_
  refine e_callS1 (μ' := mX2_bodyOf) (As := [.int 3, .int 1]) dX2_run_31 wl_X2_35 ok_X2_bodyOf (by omega) (Nat.le_of_ble_eq_true rfl) fx_n1 (s_X2_body31 (m := m) ) rfl ?_
  refine e_istore dX2_run_34 (by decide) rfl ?_
  refine e_iload dX2_run_36 rfl ?_
  refine e_if_eq 64 dX2_run_38 rfl (fun _ => ?_) (fun h => absurd (by decide) h)
  refine e_iload dX2_run_64 rfl ?_
  refine e_callS1 (μ' := mX0_above) (As := [.int 3]) dX2_run_66 wl_X2_43 ok_X0_above (by omega) (Nat.le_of_ble_eq_true rfl) fx_n1 (s_X0_above3 (m := m) ) rfl ?_
  refine e_istore dX2_run_69 (by decide) rfl ?_
  refine e_iinc (v := 1) dX2_run_71 rfl (by decide) (by decide) rfl ?_
  refine e_goto 15 dX2_run_74 rfl ?_
  refine e_iload dX2_run_15 rfl ?_
  refine e_bipush dX2_run_17 kcb_6 ?_
  refine e_icmp_gt 77 dX2_run_19 rfl (fun h => absurd h (by decide)) (fun _ => ?_)
  refine e_iload dX2_run_22 rfl ?_
  refine e_iconst dX2_run_24 kci_m1 ?_
  refine e_icmp_eq 77 dX2_run_25 rfl (fun h => absurd h (by decide)) (fun _ => ?_)
  refine e_iload dX2_run_28 rfl ?_
  refine e_iload_n dX2_run_30 rfl ?_
  refine e_callS1 (μ' := mX2_bodyOf) (As := [.int 1, .int 1]) dX2_run_31 wl_X2_35 ok_X2_bodyOf (by omega) (Nat.le_of_ble_eq_true rfl) fx_n1 (s_X2_body11 (m := m) ) rfl ?_
  refine e_istore dX2_run_34 (by decide) rfl ?_
  refine e_iload dX2_run_36 rfl ?_
  refine e_if_eq 64 dX2_run_38 rfl (fun _ => ?_) (fun h => absurd (by decide) h)
  refine e_iload dX2_run_64 rfl ?_
  refine e_callS1 (μ' := mX0_above) (As := [.int 1]) dX2_run_66 wl_X2_43 ok_X0_above (by omega) (Nat.le_of_ble_eq_true rfl) fx_n1 (s_X0_above1 (m := m) ) rfl ?_
  refine e_istore dX2_run_69 (by decide) rfl ?_
  refine e_iinc (v := 2) dX2_run_71 rfl (by decide) (by decide) rfl ?_
  refine e_goto 15 dX2_run_74 rfl ?_
  refine e_iload dX2_run_15 rfl ?_
  refine e_bipush dX2_run_17 kcb_6 ?_
  refine e_icmp_gt 77 dX2_run_19 rfl (fun h => absurd h (by decide)) (fun _ => ?_)
  refine e_iload dX2_run_22 rfl ?_
  refine e_iconst dX2_run_24 kci_m1 ?_
  refine e_icmp_eq 77 dX2_run_25 rfl (fun h => absurd h (by decide)) (fun _ => ?_)
  refine e_iload dX2_run_28 rfl ?_
  refine e_iload_n dX2_run_30 rfl ?_
  refine e_callS1 (μ' := mX2_bodyOf) (As := [.int 0, .int 1]) dX2_run_31 wl_X2_35 ok_X2_bodyOf (by omega) (Nat.le_of_ble_eq_true rfl) fx_n1 (s_X2_body01 (m := m) ) rfl ?_
  refine e_istore dX2_run_34 (by decide) rfl ?_
  refine e_iload dX2_run_36 rfl ?_
  refine e_if_eq 64 dX2_run_38 rfl (fun h => absurd h (by decide)) (fun _ => ?_)
  refine e_aload_n dX2_run_41 rfl ?_
  refine e_iload dX2_run_42 rfl ?_
  refine e_callV (μ' := mX2_note) (ci := 2) (As := [.int 11]) dX2_run_44 wl_X2_39 ok_X2_note rfl rfl (fx_pi_lt (by decide)) (by omega) (Nat.le_of_ble_eq_true rfl) fx_n1 (s_X2_note (m := m) hA.2.2.2.2.2.2.1 ht (by have q1 := p_beT_le K; have q2 := p_waT_le K K; (try simp only [List.length_append, List.length_cons, List.length_nil]); omega) 11) rfl (fun r_ m_ hpost => ?_)
  revert m_
  intro m1 hpost
  obtain ⟨rfl, g1, t1⟩ := hpost
  have G1 := g1
  have A1 := hA.mv G1
  refine e_aload_n dX2_run_47 rfl ?_
  refine e_iload dX2_run_48 rfl ?_
  refine e_iload dX2_run_50 rfl ?_
  refine e_callS1 (μ' := mX0_above) (As := [.int 0]) dX2_run_52 wl_X2_43 ok_X0_above (by omega) (Nat.le_of_ble_eq_true rfl) fx_n1 (s_X0_above0 (m := m1) ) rfl ?_
  refine e_iload_n dX2_run_55 rfl ?_
  refine e_iload dX2_run_56 rfl ?_
  refine e_iconst dX2_run_58 kci_1 ?_
  refine e_iadd dX2_run_59 ?_
  rw [nI_1]
  refine e_callV (μ' := mX2_outcome) (ci := 2) (As := [.int 11, .int (-1), .int x, .int (nI (dep + 1))]) dX2_run_60 wl_X2_47 ok_X2_outcome rfl rfl (fx_pi_lt (by decide)) (by omega) (Nat.le_of_ble_eq_true rfl) fx_n1 (s_X2_o11 (m := m1) (d := 9) (by decide) A1 t1 (dep := dep + 1) (by omega) (by have q1 := p_beT_le K; have q2 := p_waT_le K K; (try simp only [List.length_append, List.length_cons, List.length_nil]); omega) x) rfl (fun r_ m_ hpost => ?_)
  revert r_ m_
  intro r_ m2 hpost
  obtain ⟨rfl, g2, t2⟩ := hpost
  have G2 := G1.trans g2
  have A2 := hA.mv G2
  exact e_iret dX2_run_63 rfl rfl rfl ⟨(by first | rfl | (simp [p_be, p_wa, p_do]; done)), G2, by have q := t2; (try simp only [List.append_assoc, List.cons_append, List.nil_append, List.append_nil] at q); (try simp only [show p_waT 3 K = 11 :: p_beT K from rfl, List.append_assoc, List.cons_append, List.nil_append, List.append_nil]); exact q⟩
set_option maxRecDepth 100000 in
set_option maxHeartbeats 600000 in
theorem s_X2_r41 {Γ : fx_G} {d : Nat} (hd : 10 ≤ d) {m : fx_M} {o K : Nat} {n a : Int32} (hA : fx_mA m o K n a) {l : List Nat} (ht : fx_tr m l) {dep : Nat} (hdp : dep ≤ 36) (hl : l.length + 5 ≤ 20) (x : Int32) : fx_Ct Γ mX2_run d 119 119 [fx_rf Γ 65, .int 4, .int 1, .int x, .int (nI dep)] m (fun r m' => r = some (.int (p_wa 4 K n a x)) ∧ fx_mv m m' ∧ fx_tr m' (l ++ p_waT 4 K)) := by
  refine fx_Ct.of (j := 3) (by decide) (Nat.le_of_ble_eq_true rfl) (Nat.le_of_ble_eq_true rfl) ?_
  show fx_E Γ mX2_run d 119 119 _ 119 m 0 [some (fx_rf Γ 65), some (.int 4), some (.int 1), some (.int x), some (.int (nI dep)), none, none, none] []
  refine e_iload dX2_run_0 rfl ?_
  refine e_bipush dX2_run_2 kcb_40 ?_
  refine e_icmp_le 9 dX2_run_4 rfl (fun _ => ?_) (fun h => absurd (show nI dep ≤ nI 40 from nI_le (by omega) (by decide)) h)
  refine e_iload_n dX2_run_9 rfl ?_
  refine e_istore dX2_run_10 (by decide) rfl ?_
  refine e_iconst dX2_run_12 kci_0 ?_
  refine e_istore dX2_run_13 (by decide) rfl ?_
  refine e_iload dX2_run_15 rfl ?_
  refine e_bipush dX2_run_17 kcb_6 ?_
  refine e_icmp_gt 77 dX2_run_19 rfl (fun h => absurd h (by decide)) (fun _ => ?_)
  refine e_iload dX2_run_22 rfl ?_
  refine e_iconst dX2_run_24 kci_m1 ?_
  refine e_icmp_eq 77 dX2_run_25 rfl (fun h => absurd h (by decide)) (fun _ => ?_)
  refine e_iload dX2_run_28 rfl ?_
  refine e_iload_n dX2_run_30 rfl ?_
  refine e_callS1 (μ' := mX2_bodyOf) (As := [.int 4, .int 1]) dX2_run_31 wl_X2_35 ok_X2_bodyOf (by omega) (Nat.le_of_ble_eq_true rfl) fx_n1 (s_X2_body41 (m := m) ) rfl ?_
  refine e_istore dX2_run_34 (by decide) rfl ?_
  refine e_iload dX2_run_36 rfl ?_
  refine e_if_eq 64 dX2_run_38 rfl (fun _ => ?_) (fun h => absurd (by decide) h)
  refine e_iload dX2_run_64 rfl ?_
  refine e_callS1 (μ' := mX0_above) (As := [.int 4]) dX2_run_66 wl_X2_43 ok_X0_above (by omega) (Nat.le_of_ble_eq_true rfl) fx_n1 (s_X0_above4 (m := m) ) rfl ?_
  refine e_istore dX2_run_69 (by decide) rfl ?_
  refine e_iinc (v := 1) dX2_run_71 rfl (by decide) (by decide) rfl ?_
  refine e_goto 15 dX2_run_74 rfl ?_
  refine e_iload dX2_run_15 rfl ?_
  refine e_bipush dX2_run_17 kcb_6 ?_
  refine e_icmp_gt 77 dX2_run_19 rfl (fun h => absurd h (by decide)) (fun _ => ?_)
  refine e_iload dX2_run_22 rfl ?_
  refine e_iconst dX2_run_24 kci_m1 ?_
  refine e_icmp_eq 77 dX2_run_25 rfl (fun h => absurd h (by decide)) (fun _ => ?_)
  refine e_iload dX2_run_28 rfl ?_
  refine e_iload_n dX2_run_30 rfl ?_
  refine e_callS1 (μ' := mX2_bodyOf) (As := [.int 0, .int 1]) dX2_run_31 wl_X2_35 ok_X2_bodyOf (by omega) (Nat.le_of_ble_eq_true rfl) fx_n1 (s_X2_body01 (m := m) ) rfl ?_
  refine e_istore dX2_run_34 (by decide) rfl ?_
  refine e_iload dX2_run_36 rfl ?_
  refine e_if_eq 64 dX2_run_38 rfl (fun h => absurd h (by decide)) (fun _ => ?_)
  refine e_aload_n dX2_run_41 rfl ?_
  refine e_iload dX2_run_42 rfl ?_
  refine e_callV (μ' := mX2_note) (ci := 2) (As := [.int 11]) dX2_run_44 wl_X2_39 ok_X2_note rfl rfl (fx_pi_lt (by decide)) (by omega) (Nat.le_of_ble_eq_true rfl) fx_n1 (s_X2_note (m := m) hA.2.2.2.2.2.2.1 ht (by have q1 := p_beT_le K; have q2 := p_waT_le K K; (try simp only [List.length_append, List.length_cons, List.length_nil]); omega) 11) rfl (fun r_ m_ hpost => ?_)
  revert m_
  intro m1 hpost
  obtain ⟨rfl, g1, t1⟩ := hpost
  have G1 := g1
  have A1 := hA.mv G1
  refine e_aload_n dX2_run_47 rfl ?_
  refine e_iload dX2_run_48 rfl ?_
  refine e_iload dX2_run_50 rfl ?_
  refine e_callS1 (μ' := mX0_above) (As := [.int 0]) dX2_run_52 wl_X2_43 ok_X0_above (by omega) (Nat.le_of_ble_eq_true rfl) fx_n1 (s_X0_above0 (m := m1) ) rfl ?_
  refine e_iload_n dX2_run_55 rfl ?_
  refine e_iload dX2_run_56 rfl ?_
  refine e_iconst dX2_run_58 kci_1 ?_
  refine e_iadd dX2_run_59 ?_
  rw [nI_1]
  refine e_callV (μ' := mX2_outcome) (ci := 2) (As := [.int 11, .int (-1), .int x, .int (nI (dep + 1))]) dX2_run_60 wl_X2_47 ok_X2_outcome rfl rfl (fx_pi_lt (by decide)) (by omega) (Nat.le_of_ble_eq_true rfl) fx_n1 (s_X2_o11 (m := m1) (d := 9) (by decide) A1 t1 (dep := dep + 1) (by omega) (by have q1 := p_beT_le K; have q2 := p_waT_le K K; (try simp only [List.length_append, List.length_cons, List.length_nil]); omega) x) rfl (fun r_ m_ hpost => ?_)
  revert r_ m_
  intro r_ m2 hpost
  obtain ⟨rfl, g2, t2⟩ := hpost
  have G2 := G1.trans g2
  have A2 := hA.mv G2
  exact e_iret dX2_run_63 rfl rfl rfl ⟨(by first | rfl | (simp [p_be, p_wa, p_do]; done)), G2, by have q := t2; (try simp only [List.append_assoc, List.cons_append, List.nil_append, List.append_nil] at q); (try simp only [show p_waT 4 K = 11 :: p_beT K from rfl, List.append_assoc, List.cons_append, List.nil_append, List.append_nil]); exact q⟩
set_option maxRecDepth 100000 in
set_option maxHeartbeats 600000 in
theorem s_X2_o30 {Γ : fx_G} {d : Nat} (hd : 11 ≤ d) {m : fx_M} {o K : Nat} {n a : Int32} (hA : fx_mA m o K n a) {l : List Nat} (ht : fx_tr m l) {dep : Nat} (hdp : dep ≤ 36) (hl : l.length + 5 ≤ 20) (x : Int32) : fx_Ct Γ mX2_outcome d 119 119 [fx_rf Γ 65, .int 30, .int 0, .int x, .int (nI dep)] m (fun r m' => r = some (.int (p_wa 0 K n a x * 3)) ∧ fx_mv m m' ∧ fx_tr m' (l ++ p_waT 0 K)) := by
  refine fx_Ct.of (j := 0) (by decide) (Nat.le_of_ble_eq_true rfl) (Nat.le_of_ble_eq_true rfl) ?_
  show fx_E Γ mX2_outcome d 119 119 _ 119 m 0 [some (fx_rf Γ 65), some (.int 30), some (.int 0), some (.int x), some (.int (nI dep))] []
  refine e_iload_n dX2_outcome_0 rfl ?_
  refine e_lookup (off := 182) 183 dX2_outcome_1 (by decide) (by decide) rfl ?_
  refine e_aload_n dX2_outcome_183 rfl ?_
  refine e_iload_n dX2_outcome_184 rfl ?_
  refine e_iconst dX2_outcome_185 kci_1 ?_
  refine e_iload_n dX2_outcome_186 rfl ?_
  refine e_iload dX2_outcome_187 rfl ?_
  refine e_callV (μ' := mX2_run) (ci := 2) (As := [.int 0, .int 1, .int x, .int (nI dep)]) dX2_outcome_189 wl_X2_31 ok_X2_run rfl rfl (fx_pi_lt (by decide)) (by omega) (Nat.le_of_ble_eq_true rfl) fx_n1 (s_X2_r01 (m := m) (d := 10) (by decide) hA ht (dep := dep) (by omega) (by have q1 := p_beT_le K; have q2 := p_waT_le K K; (try simp only [List.length_append, List.length_cons, List.length_nil]); omega) x) rfl (fun r_ m_ hpost => ?_)
  revert r_ m_
  intro r_ m1 hpost
  obtain ⟨rfl, g1, t1⟩ := hpost
  have G1 := g1
  have A1 := hA.mv G1
  refine e_iconst dX2_outcome_192 kci_3 ?_
  refine e_imul dX2_outcome_193 ?_
  exact e_iret dX2_outcome_194 rfl rfl rfl ⟨rfl, G1, by have q := t1; (try simp only [List.append_assoc, List.cons_append, List.nil_append, List.append_nil] at q); (try simp only [List.append_assoc, List.cons_append, List.nil_append, List.append_nil]); exact q⟩
set_option maxRecDepth 100000 in
set_option maxHeartbeats 600000 in
theorem s_X2_o71 {Γ : fx_G} {d : Nat} (hd : 11 ≤ d) {m : fx_M} {o K : Nat} {n a : Int32} (hA : fx_mA m o K n a) {l : List Nat} (ht : fx_tr m l) {dep : Nat} (hdp : dep ≤ 36) (hl : l.length + 5 ≤ 20) (x : Int32) : fx_Ct Γ mX2_outcome d 119 119 [fx_rf Γ 65, .int 71, .int 3, .int x, .int (nI dep)] m (fun r m' => r = some (.int (p_wa 3 K n a (x - a))) ∧ fx_mv m m' ∧ fx_tr m' (l ++ p_waT 3 K)) := by
  refine fx_Ct.of (j := 0) (by decide) (Nat.le_of_ble_eq_true rfl) (Nat.le_of_ble_eq_true rfl) ?_
  show fx_E Γ mX2_outcome d 119 119 _ 119 m 0 [some (fx_rf Γ 65), some (.int 71), some (.int 3), some (.int x), some (.int (nI dep))] []
  refine e_iload_n dX2_outcome_0 rfl ?_
  refine e_lookup (off := 256) 257 dX2_outcome_1 (by decide) (by decide) rfl ?_
  refine e_aload_n dX2_outcome_257 rfl ?_
  refine e_iload_n dX2_outcome_258 rfl ?_
  refine e_iconst dX2_outcome_259 kci_1 ?_
  refine e_iload_n dX2_outcome_260 rfl ?_
  refine e_aload_n dX2_outcome_261 rfl ?_
  refine e_getr (o2 := o) dX2_outcome_262 ff_X2_22 rfl (fx_pi_lt (by decide)) (by decide) rfl hA.2.1 ?_
  refine e_getv (v := a) dX2_outcome_265 ff_X2_57 hA.2.2.1 (fx_pi_lt (by have := hA.2.2.2.1; omega)) (by decide) rfl hA.2.2.2.2.2.1 ?_
  refine e_isub dX2_outcome_268 ?_
  refine e_iload dX2_outcome_269 rfl ?_
  refine e_callV (μ' := mX2_run) (ci := 2) (As := [.int 3, .int 1, .int (x - a), .int (nI dep)]) dX2_outcome_271 wl_X2_31 ok_X2_run rfl rfl (fx_pi_lt (by decide)) (by omega) (Nat.le_of_ble_eq_true rfl) fx_n1 (s_X2_r31 (m := m) (d := 10) (by decide) hA ht (dep := dep) (by omega) (by have q1 := p_beT_le K; have q2 := p_waT_le K K; (try simp only [List.length_append, List.length_cons, List.length_nil]); omega) (x - a)) rfl (fun r_ m_ hpost => ?_)
  revert r_ m_
  intro r_ m1 hpost
  obtain ⟨rfl, g1, t1⟩ := hpost
  have G1 := g1
  have A1 := hA.mv G1
  exact e_iret dX2_outcome_274 rfl rfl rfl ⟨rfl, G1, by have q := t1; (try simp only [List.append_assoc, List.cons_append, List.nil_append, List.append_nil] at q); (try simp only [List.append_assoc, List.cons_append, List.nil_append, List.append_nil]); exact q⟩
set_option maxRecDepth 100000 in
set_option maxHeartbeats 600000 in
theorem s_X2_r21 {Γ : fx_G} {d : Nat} (hd : 12 ≤ d) {m : fx_M} {o K : Nat} {n a : Int32} (hA : fx_mA m o K n a) {l : List Nat} (ht : fx_tr m l) {dep : Nat} (hdp : dep ≤ 35) (hl : l.length + 6 ≤ 20) (x : Int32) : fx_Ct Γ mX2_run d 119 119 [fx_rf Γ 65, .int 2, .int 1, .int x, .int (nI dep)] m (fun r m' => r = some (.int (p_wa 2 K n a x)) ∧ fx_mv m m' ∧ fx_tr m' (l ++ p_waT 2 K)) := by
  refine fx_Ct.of (j := 3) (by decide) (Nat.le_of_ble_eq_true rfl) (Nat.le_of_ble_eq_true rfl) ?_
  show fx_E Γ mX2_run d 119 119 _ 119 m 0 [some (fx_rf Γ 65), some (.int 2), some (.int 1), some (.int x), some (.int (nI dep)), none, none, none] []
  refine e_iload dX2_run_0 rfl ?_
  refine e_bipush dX2_run_2 kcb_40 ?_
  refine e_icmp_le 9 dX2_run_4 rfl (fun _ => ?_) (fun h => absurd (show nI dep ≤ nI 40 from nI_le (by omega) (by decide)) h)
  refine e_iload_n dX2_run_9 rfl ?_
  refine e_istore dX2_run_10 (by decide) rfl ?_
  refine e_iconst dX2_run_12 kci_0 ?_
  refine e_istore dX2_run_13 (by decide) rfl ?_
  refine e_iload dX2_run_15 rfl ?_
  refine e_bipush dX2_run_17 kcb_6 ?_
  refine e_icmp_gt 77 dX2_run_19 rfl (fun h => absurd h (by decide)) (fun _ => ?_)
  refine e_iload dX2_run_22 rfl ?_
  refine e_iconst dX2_run_24 kci_m1 ?_
  refine e_icmp_eq 77 dX2_run_25 rfl (fun h => absurd h (by decide)) (fun _ => ?_)
  refine e_iload dX2_run_28 rfl ?_
  refine e_iload_n dX2_run_30 rfl ?_
  refine e_callS1 (μ' := mX2_bodyOf) (As := [.int 2, .int 1]) dX2_run_31 wl_X2_35 ok_X2_bodyOf (by omega) (Nat.le_of_ble_eq_true rfl) fx_n1 (s_X2_body21 (m := m) ) rfl ?_
  refine e_istore dX2_run_34 (by decide) rfl ?_
  refine e_iload dX2_run_36 rfl ?_
  refine e_if_eq 64 dX2_run_38 rfl (fun h => absurd h (by decide)) (fun _ => ?_)
  refine e_aload_n dX2_run_41 rfl ?_
  refine e_iload dX2_run_42 rfl ?_
  refine e_callV (μ' := mX2_note) (ci := 2) (As := [.int 30]) dX2_run_44 wl_X2_39 ok_X2_note rfl rfl (fx_pi_lt (by decide)) (by omega) (Nat.le_of_ble_eq_true rfl) fx_n1 (s_X2_note (m := m) hA.2.2.2.2.2.2.1 ht (by have q1 := p_beT_le K; have q2 := p_waT_le K K; (try simp only [List.length_append, List.length_cons, List.length_nil]); omega) 30) rfl (fun r_ m_ hpost => ?_)
  revert m_
  intro m1 hpost
  obtain ⟨rfl, g1, t1⟩ := hpost
  have G1 := g1
  have A1 := hA.mv G1
  refine e_aload_n dX2_run_47 rfl ?_
  refine e_iload dX2_run_48 rfl ?_
  refine e_iload dX2_run_50 rfl ?_
  refine e_callS1 (μ' := mX0_above) (As := [.int 2]) dX2_run_52 wl_X2_43 ok_X0_above (by omega) (Nat.le_of_ble_eq_true rfl) fx_n1 (s_X0_above2 (m := m1) ) rfl ?_
  refine e_iload_n dX2_run_55 rfl ?_
  refine e_iload dX2_run_56 rfl ?_
  refine e_iconst dX2_run_58 kci_1 ?_
  refine e_iadd dX2_run_59 ?_
  rw [nI_1]
  refine e_callV (μ' := mX2_outcome) (ci := 2) (As := [.int 30, .int 0, .int x, .int (nI (dep + 1))]) dX2_run_60 wl_X2_47 ok_X2_outcome rfl rfl (fx_pi_lt (by decide)) (by omega) (Nat.le_of_ble_eq_true rfl) fx_n1 (s_X2_o30 (m := m1) (d := 11) (by decide) A1 t1 (dep := dep + 1) (by omega) (by have q1 := p_beT_le K; have q2 := p_waT_le K K; (try simp only [List.length_append, List.length_cons, List.length_nil]); omega) x) rfl (fun r_ m_ hpost => ?_)
  revert r_ m_
  intro r_ m2 hpost
  obtain ⟨rfl, g2, t2⟩ := hpost
  have G2 := G1.trans g2
  have A2 := hA.mv G2
  exact e_iret dX2_run_63 rfl rfl rfl ⟨(by first | rfl | (simp [p_be, p_wa, p_do]; done)), G2, by have q := t2; (try simp only [List.append_assoc, List.cons_append, List.nil_append, List.append_nil] at q); (try simp only [show p_waT 2 K = 30 :: p_waT 0 K from rfl, List.append_assoc, List.cons_append, List.nil_append, List.append_nil]); exact q⟩
set_option maxRecDepth 100000 in
set_option maxHeartbeats 600000 in
theorem s_X2_r51 {Γ : fx_G} {d : Nat} (hd : 12 ≤ d) {m : fx_M} {o K : Nat} {n a : Int32} (hA : fx_mA m o K n a) {l : List Nat} (ht : fx_tr m l) {dep : Nat} (hdp : dep ≤ 35) (hl : l.length + 6 ≤ 20) (x : Int32) : fx_Ct Γ mX2_run d 119 119 [fx_rf Γ 65, .int 5, .int 1, .int x, .int (nI dep)] m (fun r m' => r = some (.int (p_wa 5 K n a x)) ∧ fx_mv m m' ∧ fx_tr m' (l ++ p_waT 5 K)) := by
  refine fx_Ct.of (j := 3) (by decide) (Nat.le_of_ble_eq_true rfl) (Nat.le_of_ble_eq_true rfl) ?_
  show fx_E Γ mX2_run d 119 119 _ 119 m 0 [some (fx_rf Γ 65), some (.int 5), some (.int 1), some (.int x), some (.int (nI dep)), none, none, none] []
  refine e_iload dX2_run_0 rfl ?_
  refine e_bipush dX2_run_2 kcb_40 ?_
  refine e_icmp_le 9 dX2_run_4 rfl (fun _ => ?_) (fun h => absurd (show nI dep ≤ nI 40 from nI_le (by omega) (by decide)) h)
  refine e_iload_n dX2_run_9 rfl ?_
  refine e_istore dX2_run_10 (by decide) rfl ?_
  refine e_iconst dX2_run_12 kci_0 ?_
  refine e_istore dX2_run_13 (by decide) rfl ?_
  refine e_iload dX2_run_15 rfl ?_
  refine e_bipush dX2_run_17 kcb_6 ?_
  refine e_icmp_gt 77 dX2_run_19 rfl (fun h => absurd h (by decide)) (fun _ => ?_)
  refine e_iload dX2_run_22 rfl ?_
  refine e_iconst dX2_run_24 kci_m1 ?_
  refine e_icmp_eq 77 dX2_run_25 rfl (fun h => absurd h (by decide)) (fun _ => ?_)
  refine e_iload dX2_run_28 rfl ?_
  refine e_iload_n dX2_run_30 rfl ?_
  refine e_callS1 (μ' := mX2_bodyOf) (As := [.int 5, .int 1]) dX2_run_31 wl_X2_35 ok_X2_bodyOf (by omega) (Nat.le_of_ble_eq_true rfl) fx_n1 (s_X2_body51 (m := m) ) rfl ?_
  refine e_istore dX2_run_34 (by decide) rfl ?_
  refine e_iload dX2_run_36 rfl ?_
  refine e_if_eq 64 dX2_run_38 rfl (fun _ => ?_) (fun h => absurd (by decide) h)
  refine e_iload dX2_run_64 rfl ?_
  refine e_callS1 (μ' := mX0_above) (As := [.int 5]) dX2_run_66 wl_X2_43 ok_X0_above (by omega) (Nat.le_of_ble_eq_true rfl) fx_n1 (s_X0_above5 (m := m) ) rfl ?_
  refine e_istore dX2_run_69 (by decide) rfl ?_
  refine e_iinc (v := 1) dX2_run_71 rfl (by decide) (by decide) rfl ?_
  refine e_goto 15 dX2_run_74 rfl ?_
  refine e_iload dX2_run_15 rfl ?_
  refine e_bipush dX2_run_17 kcb_6 ?_
  refine e_icmp_gt 77 dX2_run_19 rfl (fun h => absurd h (by decide)) (fun _ => ?_)
  refine e_iload dX2_run_22 rfl ?_
  refine e_iconst dX2_run_24 kci_m1 ?_
  refine e_icmp_eq 77 dX2_run_25 rfl (fun h => absurd h (by decide)) (fun _ => ?_)
  refine e_iload dX2_run_28 rfl ?_
  refine e_iload_n dX2_run_30 rfl ?_
  refine e_callS1 (μ' := mX2_bodyOf) (As := [.int 2, .int 1]) dX2_run_31 wl_X2_35 ok_X2_bodyOf (by omega) (Nat.le_of_ble_eq_true rfl) fx_n1 (s_X2_body21 (m := m) ) rfl ?_
  refine e_istore dX2_run_34 (by decide) rfl ?_
  refine e_iload dX2_run_36 rfl ?_
  refine e_if_eq 64 dX2_run_38 rfl (fun h => absurd h (by decide)) (fun _ => ?_)
  refine e_aload_n dX2_run_41 rfl ?_
  refine e_iload dX2_run_42 rfl ?_
  refine e_callV (μ' := mX2_note) (ci := 2) (As := [.int 30]) dX2_run_44 wl_X2_39 ok_X2_note rfl rfl (fx_pi_lt (by decide)) (by omega) (Nat.le_of_ble_eq_true rfl) fx_n1 (s_X2_note (m := m) hA.2.2.2.2.2.2.1 ht (by have q1 := p_beT_le K; have q2 := p_waT_le K K; (try simp only [List.length_append, List.length_cons, List.length_nil]); omega) 30) rfl (fun r_ m_ hpost => ?_)
  revert m_
  intro m1 hpost
  obtain ⟨rfl, g1, t1⟩ := hpost
  have G1 := g1
  have A1 := hA.mv G1
  refine e_aload_n dX2_run_47 rfl ?_
  refine e_iload dX2_run_48 rfl ?_
  refine e_iload dX2_run_50 rfl ?_
  refine e_callS1 (μ' := mX0_above) (As := [.int 2]) dX2_run_52 wl_X2_43 ok_X0_above (by omega) (Nat.le_of_ble_eq_true rfl) fx_n1 (s_X0_above2 (m := m1) ) rfl ?_
  refine e_iload_n dX2_run_55 rfl ?_
  refine e_iload dX2_run_56 rfl ?_
  refine e_iconst dX2_run_58 kci_1 ?_
  refine e_iadd dX2_run_59 ?_
  rw [nI_1]
  refine e_callV (μ' := mX2_outcome) (ci := 2) (As := [.int 30, .int 0, .int x, .int (nI (dep + 1))]) dX2_run_60 wl_X2_47 ok_X2_outcome rfl rfl (fx_pi_lt (by decide)) (by omega) (Nat.le_of_ble_eq_true rfl) fx_n1 (s_X2_o30 (m := m1) (d := 11) (by decide) A1 t1 (dep := dep + 1) (by omega) (by have q1 := p_beT_le K; have q2 := p_waT_le K K; (try simp only [List.length_append, List.length_cons, List.length_nil]); omega) x) rfl (fun r_ m_ hpost => ?_)
  revert r_ m_
  intro r_ m2 hpost
  obtain ⟨rfl, g2, t2⟩ := hpost
  have G2 := G1.trans g2
  have A2 := hA.mv G2
  exact e_iret dX2_run_63 rfl rfl rfl ⟨(by first | rfl | (simp [p_be, p_wa, p_do]; done)), G2, by have q := t2; (try simp only [List.append_assoc, List.cons_append, List.nil_append, List.append_nil] at q); (try simp only [show p_waT 5 K = 30 :: p_waT 0 K from rfl, List.append_assoc, List.cons_append, List.nil_append, List.append_nil]); exact q⟩
set_option maxRecDepth 100000 in
set_option maxHeartbeats 600000 in
theorem s_X2_r61 {Γ : fx_G} {d : Nat} (hd : 12 ≤ d) {m : fx_M} {o K : Nat} {n a : Int32} (hA : fx_mA m o K n a) {l : List Nat} (ht : fx_tr m l) {dep : Nat} (hdp : dep ≤ 35) (hl : l.length + 6 ≤ 20) (x : Int32) : fx_Ct Γ mX2_run d 119 119 [fx_rf Γ 65, .int 6, .int 1, .int x, .int (nI dep)] m (fun r m' => r = some (.int (p_wa 6 K n a x)) ∧ fx_mv m m' ∧ fx_tr m' (l ++ p_waT 6 K)) := by
  refine fx_Ct.of (j := 3) (by decide) (Nat.le_of_ble_eq_true rfl) (Nat.le_of_ble_eq_true rfl) ?_
  show fx_E Γ mX2_run d 119 119 _ 119 m 0 [some (fx_rf Γ 65), some (.int 6), some (.int 1), some (.int x), some (.int (nI dep)), none, none, none] []
  refine e_iload dX2_run_0 rfl ?_
  refine e_bipush dX2_run_2 kcb_40 ?_
  refine e_icmp_le 9 dX2_run_4 rfl (fun _ => ?_) (fun h => absurd (show nI dep ≤ nI 40 from nI_le (by omega) (by decide)) h)
  refine e_iload_n dX2_run_9 rfl ?_
  refine e_istore dX2_run_10 (by decide) rfl ?_
  refine e_iconst dX2_run_12 kci_0 ?_
  refine e_istore dX2_run_13 (by decide) rfl ?_
  refine e_iload dX2_run_15 rfl ?_
  refine e_bipush dX2_run_17 kcb_6 ?_
  refine e_icmp_gt 77 dX2_run_19 rfl (fun h => absurd h (by decide)) (fun _ => ?_)
  refine e_iload dX2_run_22 rfl ?_
  refine e_iconst dX2_run_24 kci_m1 ?_
  refine e_icmp_eq 77 dX2_run_25 rfl (fun h => absurd h (by decide)) (fun _ => ?_)
  refine e_iload dX2_run_28 rfl ?_
  refine e_iload_n dX2_run_30 rfl ?_
  refine e_callS1 (μ' := mX2_bodyOf) (As := [.int 6, .int 1]) dX2_run_31 wl_X2_35 ok_X2_bodyOf (by omega) (Nat.le_of_ble_eq_true rfl) fx_n1 (s_X2_body61 (m := m) ) rfl ?_
  refine e_istore dX2_run_34 (by decide) rfl ?_
  refine e_iload dX2_run_36 rfl ?_
  refine e_if_eq 64 dX2_run_38 rfl (fun h => absurd h (by decide)) (fun _ => ?_)
  refine e_aload_n dX2_run_41 rfl ?_
  refine e_iload dX2_run_42 rfl ?_
  refine e_callV (μ' := mX2_note) (ci := 2) (As := [.int 71]) dX2_run_44 wl_X2_39 ok_X2_note rfl rfl (fx_pi_lt (by decide)) (by omega) (Nat.le_of_ble_eq_true rfl) fx_n1 (s_X2_note (m := m) hA.2.2.2.2.2.2.1 ht (by have q1 := p_beT_le K; have q2 := p_waT_le K K; (try simp only [List.length_append, List.length_cons, List.length_nil]); omega) 71) rfl (fun r_ m_ hpost => ?_)
  revert m_
  intro m1 hpost
  obtain ⟨rfl, g1, t1⟩ := hpost
  have G1 := g1
  have A1 := hA.mv G1
  refine e_aload_n dX2_run_47 rfl ?_
  refine e_iload dX2_run_48 rfl ?_
  refine e_iload dX2_run_50 rfl ?_
  refine e_callS1 (μ' := mX0_above) (As := [.int 6]) dX2_run_52 wl_X2_43 ok_X0_above (by omega) (Nat.le_of_ble_eq_true rfl) fx_n1 (s_X0_above6 (m := m1) ) rfl ?_
  refine e_iload_n dX2_run_55 rfl ?_
  refine e_iload dX2_run_56 rfl ?_
  refine e_iconst dX2_run_58 kci_1 ?_
  refine e_iadd dX2_run_59 ?_
  rw [nI_1]
  refine e_callV (μ' := mX2_outcome) (ci := 2) (As := [.int 71, .int 3, .int x, .int (nI (dep + 1))]) dX2_run_60 wl_X2_47 ok_X2_outcome rfl rfl (fx_pi_lt (by decide)) (by omega) (Nat.le_of_ble_eq_true rfl) fx_n1 (s_X2_o71 (m := m1) (d := 11) (by decide) A1 t1 (dep := dep + 1) (by omega) (by have q1 := p_beT_le K; have q2 := p_waT_le K K; (try simp only [List.length_append, List.length_cons, List.length_nil]); omega) x) rfl (fun r_ m_ hpost => ?_)
  revert r_ m_
  intro r_ m2 hpost
  obtain ⟨rfl, g2, t2⟩ := hpost
  have G2 := G1.trans g2
  have A2 := hA.mv G2
  exact e_iret dX2_run_63 rfl rfl rfl ⟨(by first | rfl | (simp [p_be, p_wa, p_do]; done)), G2, by have q := t2; (try simp only [List.append_assoc, List.cons_append, List.nil_append, List.append_nil] at q); (try simp only [show p_waT 6 K = 71 :: p_waT 3 K from rfl, List.append_assoc, List.cons_append, List.nil_append, List.append_nil]); exact q⟩
theorem s_X2_rF1 {Γ : fx_G} {d : Nat} (hd : 12 ≤ d) {m : fx_M} {o K : Nat} {n a : Int32} (hA : fx_mA m o K n a) {l : List Nat} (ht : fx_tr m l) {dep : Nat} (hdp : dep ≤ 35) (hl : l.length + 6 ≤ 20) (x : Int32) {F : Nat} (hF : F < 7) : fx_Ct Γ mX2_run d 119 119 [fx_rf Γ 65, .int (nI F), .int 1, .int x, .int (nI dep)] m (fun r m' => r = some (.int (p_wa F K n a x)) ∧ fx_mv m m' ∧ fx_tr m' (l ++ p_waT F K)) := by
  refine p_7 (P := fun F => fx_Ct Γ mX2_run d 119 119 [fx_rf Γ 65, .int (nI F), .int 1, .int x, .int (nI dep)] m (fun r m' => r = some (.int (p_wa F K n a x)) ∧ fx_mv m m' ∧ fx_tr m' (l ++ p_waT F K))) (s_X2_r01 (by omega) hA ht (by omega) (by omega) x) (s_X2_r11 (by omega) hA ht (by omega) (by omega) x) (s_X2_r21 (by omega) hA ht (by omega) (by omega) x) (s_X2_r31 (by omega) hA ht (by omega) (by omega) x) (s_X2_r41 (by omega) hA ht (by omega) (by omega) x) (s_X2_r51 (by omega) hA ht (by omega) (by omega) x) (s_X2_r61 (by omega) hA ht (by omega) (by omega) x) hF
theorem s_X2_rK1 {Γ : fx_G} {d : Nat} (hd : 12 ≤ d) {m : fx_M} {o K : Nat} {n a : Int32} (hA : fx_mA m o K n a) {l : List Nat} (ht : fx_tr m l) {dep : Nat} (hdp : dep ≤ 35) (hl : l.length + 6 ≤ 20) (x : Int32) : fx_Ct Γ mX2_run d 119 119 [fx_rf Γ 65, .int (nI K), .int 1, .int x, .int (nI dep)] m (fun r m' => r = some (.int (p_wa K K n a x)) ∧ fx_mv m m' ∧ fx_tr m' (l ++ p_waT K K)) := s_X2_rF1 hd hA ht hdp hl x hA.2.2.2.2.2.2.2
set_option maxRecDepth 100000 in
set_option maxHeartbeats 600000 in
theorem s_X2_o12 {Γ : fx_G} {d : Nat} (hd : 13 ≤ d) {m : fx_M} {o K : Nat} {n a : Int32} (hA : fx_mA m o K n a) {l : List Nat} (ht : fx_tr m l) {dep : Nat} (hdp : dep ≤ 35) (hl : l.length + 10 ≤ 20) (x : Int32) : fx_Ct Γ mX2_outcome d 119 119 [fx_rf Γ 65, .int 12, .int (-1), .int x, .int (nI dep)] m (fun r m' => r = some (.int (p_wa K K n a x ^^^ p_be K n a (x - a))) ∧ fx_mv m m' ∧ fx_tr m' (l ++ (p_waT K K ++ p_beT K))) := by
  refine fx_Ct.of (j := 0) (by decide) (Nat.le_of_ble_eq_true rfl) (Nat.le_of_ble_eq_true rfl) ?_
  show fx_E Γ mX2_outcome d 119 119 _ 119 m 0 [some (fx_rf Γ 65), some (.int 12), some (.int (-1)), some (.int x), some (.int (nI dep))] []
  refine e_iload_n dX2_outcome_0 rfl ?_
  refine e_lookup (off := 124) 125 dX2_outcome_1 (by decide) (by decide) rfl ?_
  refine e_aload_n dX2_outcome_125 rfl ?_
  refine e_aload_n dX2_outcome_126 rfl ?_
  refine e_getr (o2 := o) dX2_outcome_127 ff_X2_22 rfl (fx_pi_lt (by decide)) (by decide) rfl hA.2.1 ?_
  refine e_getv (v := nI K) dX2_outcome_130 ff_X2_26 hA.2.2.1 (fx_pi_lt (by have := hA.2.2.2.1; omega)) (by decide) rfl hA.2.2.2.2.1 ?_
  refine e_iconst dX2_outcome_133 kci_1 ?_
  refine e_iload_n dX2_outcome_134 rfl ?_
  refine e_iload dX2_outcome_135 rfl ?_
  refine e_callV (μ' := mX2_run) (ci := 2) (As := [.int (nI K), .int 1, .int x, .int (nI dep)]) dX2_outcome_137 wl_X2_31 ok_X2_run rfl rfl (fx_pi_lt (by decide)) (by omega) (Nat.le_of_ble_eq_true rfl) fx_n1 (s_X2_rK1 (m := m) (d := 12) (by decide) hA ht (dep := dep) (by omega) (by have q1 := p_beT_le K; have q2 := p_waT_le K K; (try simp only [List.length_append, List.length_cons, List.length_nil]); omega) x) rfl (fun r_ m_ hpost => ?_)
  revert r_ m_
  intro r_ m1 hpost
  obtain ⟨rfl, g1, t1⟩ := hpost
  have G1 := g1
  have A1 := hA.mv G1
  refine e_aload_n dX2_outcome_140 rfl ?_
  refine e_aload_n dX2_outcome_141 rfl ?_
  refine e_getr (o2 := o) dX2_outcome_142 ff_X2_22 rfl (fx_pi_lt (by decide)) (by decide) rfl A1.2.1 ?_
  refine e_getv (v := nI K) dX2_outcome_145 ff_X2_26 hA.2.2.1 (fx_pi_lt (by have := hA.2.2.2.1; omega)) (by decide) rfl A1.2.2.2.2.1 ?_
  refine e_iconst dX2_outcome_148 kci_0 ?_
  refine e_iload_n dX2_outcome_149 rfl ?_
  refine e_aload_n dX2_outcome_150 rfl ?_
  refine e_getr (o2 := o) dX2_outcome_151 ff_X2_22 rfl (fx_pi_lt (by decide)) (by decide) rfl A1.2.1 ?_
  refine e_getv (v := a) dX2_outcome_154 ff_X2_57 hA.2.2.1 (fx_pi_lt (by have := hA.2.2.2.1; omega)) (by decide) rfl A1.2.2.2.2.2.1 ?_
  refine e_isub dX2_outcome_157 ?_
  refine e_iload dX2_outcome_158 rfl ?_
  refine e_callV (μ' := mX2_run) (ci := 2) (As := [.int (nI K), .int 0, .int (x - a), .int (nI dep)]) dX2_outcome_160 wl_X2_31 ok_X2_run rfl rfl (fx_pi_lt (by decide)) (by omega) (Nat.le_of_ble_eq_true rfl) fx_n1 (s_X2_rK0 (m := m1) (d := 8) (by decide) A1 t1 (dep := dep) (by omega) (by have q1 := p_beT_le K; have q2 := p_waT_le K K; (try simp only [List.length_append, List.length_cons, List.length_nil]); omega) (x - a)) rfl (fun r_ m_ hpost => ?_)
  revert r_ m_
  intro r_ m2 hpost
  obtain ⟨rfl, g2, t2⟩ := hpost
  have G2 := G1.trans g2
  have A2 := hA.mv G2
  refine e_ixor dX2_outcome_163 ?_
  exact e_iret dX2_outcome_164 rfl rfl rfl ⟨rfl, G2, by have q := t2; (try simp only [List.append_assoc, List.cons_append, List.nil_append, List.append_nil] at q); (try simp only [List.append_assoc, List.cons_append, List.nil_append, List.append_nil]); exact q⟩
set_option maxRecDepth 100000 in
set_option maxHeartbeats 600000 in
theorem s_X2_r02 {Γ : fx_G} {d : Nat} (hd : 14 ≤ d) {m : fx_M} {o K : Nat} {n a : Int32} (hA : fx_mA m o K n a) {l : List Nat} (ht : fx_tr m l) {dep : Nat} (hdp : dep ≤ 34) (hl : l.length + 11 ≤ 20) (x : Int32) : fx_Ct Γ mX2_run d 119 119 [fx_rf Γ 65, .int 0, .int 2, .int x, .int (nI dep)] m (fun r m' => r = some (.int (p_do 0 K n a x)) ∧ fx_mv m m' ∧ fx_tr m' (l ++ p_doT 0 K)) := by
  refine fx_Ct.of (j := 3) (by decide) (Nat.le_of_ble_eq_true rfl) (Nat.le_of_ble_eq_true rfl) ?_
  show fx_E Γ mX2_run d 119 119 _ 119 m 0 [some (fx_rf Γ 65), some (.int 0), some (.int 2), some (.int x), some (.int (nI dep)), none, none, none] []
  refine e_iload dX2_run_0 rfl ?_
  refine e_bipush dX2_run_2 kcb_40 ?_
  refine e_icmp_le 9 dX2_run_4 rfl (fun _ => ?_) (fun h => absurd (show nI dep ≤ nI 40 from nI_le (by omega) (by decide)) h)
  refine e_iload_n dX2_run_9 rfl ?_
  refine e_istore dX2_run_10 (by decide) rfl ?_
  refine e_iconst dX2_run_12 kci_0 ?_
  refine e_istore dX2_run_13 (by decide) rfl ?_
  refine e_iload dX2_run_15 rfl ?_
  refine e_bipush dX2_run_17 kcb_6 ?_
  refine e_icmp_gt 77 dX2_run_19 rfl (fun h => absurd h (by decide)) (fun _ => ?_)
  refine e_iload dX2_run_22 rfl ?_
  refine e_iconst dX2_run_24 kci_m1 ?_
  refine e_icmp_eq 77 dX2_run_25 rfl (fun h => absurd h (by decide)) (fun _ => ?_)
  refine e_iload dX2_run_28 rfl ?_
  refine e_iload_n dX2_run_30 rfl ?_
  refine e_callS1 (μ' := mX2_bodyOf) (As := [.int 0, .int 2]) dX2_run_31 wl_X2_35 ok_X2_bodyOf (by omega) (Nat.le_of_ble_eq_true rfl) fx_n1 (s_X2_body02 (m := m) ) rfl ?_
  refine e_istore dX2_run_34 (by decide) rfl ?_
  refine e_iload dX2_run_36 rfl ?_
  refine e_if_eq 64 dX2_run_38 rfl (fun h => absurd h (by decide)) (fun _ => ?_)
  refine e_aload_n dX2_run_41 rfl ?_
  refine e_iload dX2_run_42 rfl ?_
  refine e_callV (μ' := mX2_note) (ci := 2) (As := [.int 12]) dX2_run_44 wl_X2_39 ok_X2_note rfl rfl (fx_pi_lt (by decide)) (by omega) (Nat.le_of_ble_eq_true rfl) fx_n1 (s_X2_note (m := m) hA.2.2.2.2.2.2.1 ht (by have q1 := p_beT_le K; have q2 := p_waT_le K K; (try simp only [List.length_append, List.length_cons, List.length_nil]); omega) 12) rfl (fun r_ m_ hpost => ?_)
  revert m_
  intro m1 hpost
  obtain ⟨rfl, g1, t1⟩ := hpost
  have G1 := g1
  have A1 := hA.mv G1
  refine e_aload_n dX2_run_47 rfl ?_
  refine e_iload dX2_run_48 rfl ?_
  refine e_iload dX2_run_50 rfl ?_
  refine e_callS1 (μ' := mX0_above) (As := [.int 0]) dX2_run_52 wl_X2_43 ok_X0_above (by omega) (Nat.le_of_ble_eq_true rfl) fx_n1 (s_X0_above0 (m := m1) ) rfl ?_
  refine e_iload_n dX2_run_55 rfl ?_
  refine e_iload dX2_run_56 rfl ?_
  refine e_iconst dX2_run_58 kci_1 ?_
  refine e_iadd dX2_run_59 ?_
  rw [nI_1]
  refine e_callV (μ' := mX2_outcome) (ci := 2) (As := [.int 12, .int (-1), .int x, .int (nI (dep + 1))]) dX2_run_60 wl_X2_47 ok_X2_outcome rfl rfl (fx_pi_lt (by decide)) (by omega) (Nat.le_of_ble_eq_true rfl) fx_n1 (s_X2_o12 (m := m1) (d := 13) (by decide) A1 t1 (dep := dep + 1) (by omega) (by have q1 := p_beT_le K; have q2 := p_waT_le K K; (try simp only [List.length_append, List.length_cons, List.length_nil]); omega) x) rfl (fun r_ m_ hpost => ?_)
  revert r_ m_
  intro r_ m2 hpost
  obtain ⟨rfl, g2, t2⟩ := hpost
  have G2 := G1.trans g2
  have A2 := hA.mv G2
  exact e_iret dX2_run_63 rfl rfl rfl ⟨(by first | rfl | (simp [p_be, p_wa, p_do]; done)), G2, by have q := t2; (try simp only [List.append_assoc, List.cons_append, List.nil_append, List.append_nil] at q); (try simp only [show p_doT 0 K = 12 :: (p_waT K K ++ p_beT K) from rfl, List.append_assoc, List.cons_append, List.nil_append, List.append_nil]); exact q⟩
set_option maxRecDepth 100000 in
set_option maxHeartbeats 600000 in
theorem s_X2_r12 {Γ : fx_G} {d : Nat} (hd : 14 ≤ d) {m : fx_M} {o K : Nat} {n a : Int32} (hA : fx_mA m o K n a) {l : List Nat} (ht : fx_tr m l) {dep : Nat} (hdp : dep ≤ 34) (hl : l.length + 11 ≤ 20) (x : Int32) : fx_Ct Γ mX2_run d 119 119 [fx_rf Γ 65, .int 1, .int 2, .int x, .int (nI dep)] m (fun r m' => r = some (.int (p_do 1 K n a x)) ∧ fx_mv m m' ∧ fx_tr m' (l ++ p_doT 1 K)) := by
  refine fx_Ct.of (j := 3) (by decide) (Nat.le_of_ble_eq_true rfl) (Nat.le_of_ble_eq_true rfl) ?_
  show fx_E Γ mX2_run d 119 119 _ 119 m 0 [some (fx_rf Γ 65), some (.int 1), some (.int 2), some (.int x), some (.int (nI dep)), none, none, none] []
  refine e_iload dX2_run_0 rfl ?_
  refine e_bipush dX2_run_2 kcb_40 ?_
  refine e_icmp_le 9 dX2_run_4 rfl (fun _ => ?_) (fun h => absurd (show nI dep ≤ nI 40 from nI_le (by omega) (by decide)) h)
  refine e_iload_n dX2_run_9 rfl ?_
  refine e_istore dX2_run_10 (by decide) rfl ?_
  refine e_iconst dX2_run_12 kci_0 ?_
  refine e_istore dX2_run_13 (by decide) rfl ?_
  refine e_iload dX2_run_15 rfl ?_
  refine e_bipush dX2_run_17 kcb_6 ?_
  refine e_icmp_gt 77 dX2_run_19 rfl (fun h => absurd h (by decide)) (fun _ => ?_)
  refine e_iload dX2_run_22 rfl ?_
  refine e_iconst dX2_run_24 kci_m1 ?_
  refine e_icmp_eq 77 dX2_run_25 rfl (fun h => absurd h (by decide)) (fun _ => ?_)
  refine e_iload dX2_run_28 rfl ?_
  refine e_iload_n dX2_run_30 rfl ?_
  refine e_callS1 (μ' := mX2_bodyOf) (As := [.int 1, .int 2]) dX2_run_31 wl_X2_35 ok_X2_bodyOf (by omega) (Nat.le_of_ble_eq_true rfl) fx_n1 (s_X2_body12 (m := m) ) rfl ?_
  refine e_istore dX2_run_34 (by decide) rfl ?_
  refine e_iload dX2_run_36 rfl ?_
  refine e_if_eq 64 dX2_run_38 rfl (fun _ => ?_) (fun h => absurd (by decide) h)
  refine e_iload dX2_run_64 rfl ?_
  refine e_callS1 (μ' := mX0_above) (As := [.int 1]) dX2_run_66 wl_X2_43 ok_X0_above (by omega) (Nat.le_of_ble_eq_true rfl) fx_n1 (s_X0_above1 (m := m) ) rfl ?_
  refine e_istore dX2_run_69 (by decide) rfl ?_
  refine e_iinc (v := 1) dX2_run_71 rfl (by decide) (by decide) rfl ?_
  refine e_goto 15 dX2_run_74 rfl ?_
  refine e_iload dX2_run_15 rfl ?_
  refine e_bipush dX2_run_17 kcb_6 ?_
  refine e_icmp_gt 77 dX2_run_19 rfl (fun h => absurd h (by decide)) (fun _ => ?_)
  refine e_iload dX2_run_22 rfl ?_
  refine e_iconst dX2_run_24 kci_m1 ?_
  refine e_icmp_eq 77 dX2_run_25 rfl (fun h => absurd h (by decide)) (fun _ => ?_)
  refine e_iload dX2_run_28 rfl ?_
  refine e_iload_n dX2_run_30 rfl ?_
  refine e_callS1 (μ' := mX2_bodyOf) (As := [.int 0, .int 2]) dX2_run_31 wl_X2_35 ok_X2_bodyOf (by omega) (Nat.le_of_ble_eq_true rfl) fx_n1 (s_X2_body02 (m := m) ) rfl ?_
  refine e_istore dX2_run_34 (by decide) rfl ?_
  refine e_iload dX2_run_36 rfl ?_
  refine e_if_eq 64 dX2_run_38 rfl (fun h => absurd h (by decide)) (fun _ => ?_)
  refine e_aload_n dX2_run_41 rfl ?_
  refine e_iload dX2_run_42 rfl ?_
  refine e_callV (μ' := mX2_note) (ci := 2) (As := [.int 12]) dX2_run_44 wl_X2_39 ok_X2_note rfl rfl (fx_pi_lt (by decide)) (by omega) (Nat.le_of_ble_eq_true rfl) fx_n1 (s_X2_note (m := m) hA.2.2.2.2.2.2.1 ht (by have q1 := p_beT_le K; have q2 := p_waT_le K K; (try simp only [List.length_append, List.length_cons, List.length_nil]); omega) 12) rfl (fun r_ m_ hpost => ?_)
  revert m_
  intro m1 hpost
  obtain ⟨rfl, g1, t1⟩ := hpost
  have G1 := g1
  have A1 := hA.mv G1
  refine e_aload_n dX2_run_47 rfl ?_
  refine e_iload dX2_run_48 rfl ?_
  refine e_iload dX2_run_50 rfl ?_
  refine e_callS1 (μ' := mX0_above) (As := [.int 0]) dX2_run_52 wl_X2_43 ok_X0_above (by omega) (Nat.le_of_ble_eq_true rfl) fx_n1 (s_X0_above0 (m := m1) ) rfl ?_
  refine e_iload_n dX2_run_55 rfl ?_
  refine e_iload dX2_run_56 rfl ?_
  refine e_iconst dX2_run_58 kci_1 ?_
  refine e_iadd dX2_run_59 ?_
  rw [nI_1]
  refine e_callV (μ' := mX2_outcome) (ci := 2) (As := [.int 12, .int (-1), .int x, .int (nI (dep + 1))]) dX2_run_60 wl_X2_47 ok_X2_outcome rfl rfl (fx_pi_lt (by decide)) (by omega) (Nat.le_of_ble_eq_true rfl) fx_n1 (s_X2_o12 (m := m1) (d := 13) (by decide) A1 t1 (dep := dep + 1) (by omega) (by have q1 := p_beT_le K; have q2 := p_waT_le K K; (try simp only [List.length_append, List.length_cons, List.length_nil]); omega) x) rfl (fun r_ m_ hpost => ?_)
  revert r_ m_
  intro r_ m2 hpost
  obtain ⟨rfl, g2, t2⟩ := hpost
  have G2 := G1.trans g2
  have A2 := hA.mv G2
  exact e_iret dX2_run_63 rfl rfl rfl ⟨(by first | rfl | (simp [p_be, p_wa, p_do]; done)), G2, by have q := t2; (try simp only [List.append_assoc, List.cons_append, List.nil_append, List.append_nil] at q); (try simp only [show p_doT 1 K = 12 :: (p_waT K K ++ p_beT K) from rfl, List.append_assoc, List.cons_append, List.nil_append, List.append_nil]); exact q⟩
set_option maxRecDepth 100000 in
set_option maxHeartbeats 600000 in
theorem s_X2_r22 {Γ : fx_G} {d : Nat} (hd : 14 ≤ d) {m : fx_M} {o K : Nat} {n a : Int32} (hA : fx_mA m o K n a) {l : List Nat} (ht : fx_tr m l) {dep : Nat} (hdp : dep ≤ 34) (hl : l.length + 11 ≤ 20) (x : Int32) : fx_Ct Γ mX2_run d 119 119 [fx_rf Γ 65, .int 2, .int 2, .int x, .int (nI dep)] m (fun r m' => r = some (.int (p_do 2 K n a x)) ∧ fx_mv m m' ∧ fx_tr m' (l ++ p_doT 2 K)) := by
  refine fx_Ct.of (j := 3) (by decide) (Nat.le_of_ble_eq_true rfl) (Nat.le_of_ble_eq_true rfl) ?_
  show fx_E Γ mX2_run d 119 119 _ 119 m 0 [some (fx_rf Γ 65), some (.int 2), some (.int 2), some (.int x), some (.int (nI dep)), none, none, none] []
  refine e_iload dX2_run_0 rfl ?_
  refine e_bipush dX2_run_2 kcb_40 ?_
  refine e_icmp_le 9 dX2_run_4 rfl (fun _ => ?_) (fun h => absurd (show nI dep ≤ nI 40 from nI_le (by omega) (by decide)) h)
  refine e_iload_n dX2_run_9 rfl ?_
  refine e_istore dX2_run_10 (by decide) rfl ?_
  refine e_iconst dX2_run_12 kci_0 ?_
  refine e_istore dX2_run_13 (by decide) rfl ?_
  refine e_iload dX2_run_15 rfl ?_
  refine e_bipush dX2_run_17 kcb_6 ?_
  refine e_icmp_gt 77 dX2_run_19 rfl (fun h => absurd h (by decide)) (fun _ => ?_)
  refine e_iload dX2_run_22 rfl ?_
  refine e_iconst dX2_run_24 kci_m1 ?_
  refine e_icmp_eq 77 dX2_run_25 rfl (fun h => absurd h (by decide)) (fun _ => ?_)
  refine e_iload dX2_run_28 rfl ?_
  refine e_iload_n dX2_run_30 rfl ?_
  refine e_callS1 (μ' := mX2_bodyOf) (As := [.int 2, .int 2]) dX2_run_31 wl_X2_35 ok_X2_bodyOf (by omega) (Nat.le_of_ble_eq_true rfl) fx_n1 (s_X2_body22 (m := m) ) rfl ?_
  refine e_istore dX2_run_34 (by decide) rfl ?_
  refine e_iload dX2_run_36 rfl ?_
  refine e_if_eq 64 dX2_run_38 rfl (fun _ => ?_) (fun h => absurd (by decide) h)
  refine e_iload dX2_run_64 rfl ?_
  refine e_callS1 (μ' := mX0_above) (As := [.int 2]) dX2_run_66 wl_X2_43 ok_X0_above (by omega) (Nat.le_of_ble_eq_true rfl) fx_n1 (s_X0_above2 (m := m) ) rfl ?_
  refine e_istore dX2_run_69 (by decide) rfl ?_
  refine e_iinc (v := 1) dX2_run_71 rfl (by decide) (by decide) rfl ?_
  refine e_goto 15 dX2_run_74 rfl ?_
  refine e_iload dX2_run_15 rfl ?_
  refine e_bipush dX2_run_17 kcb_6 ?_
  refine e_icmp_gt 77 dX2_run_19 rfl (fun h => absurd h (by decide)) (fun _ => ?_)
  refine e_iload dX2_run_22 rfl ?_
  refine e_iconst dX2_run_24 kci_m1 ?_
  refine e_icmp_eq 77 dX2_run_25 rfl (fun h => absurd h (by decide)) (fun _ => ?_)
  refine e_iload dX2_run_28 rfl ?_
  refine e_iload_n dX2_run_30 rfl ?_
  refine e_callS1 (μ' := mX2_bodyOf) (As := [.int 0, .int 2]) dX2_run_31 wl_X2_35 ok_X2_bodyOf (by omega) (Nat.le_of_ble_eq_true rfl) fx_n1 (s_X2_body02 (m := m) ) rfl ?_
  refine e_istore dX2_run_34 (by decide) rfl ?_
  refine e_iload dX2_run_36 rfl ?_
  refine e_if_eq 64 dX2_run_38 rfl (fun h => absurd h (by decide)) (fun _ => ?_)
  refine e_aload_n dX2_run_41 rfl ?_
  refine e_iload dX2_run_42 rfl ?_
  refine e_callV (μ' := mX2_note) (ci := 2) (As := [.int 12]) dX2_run_44 wl_X2_39 ok_X2_note rfl rfl (fx_pi_lt (by decide)) (by omega) (Nat.le_of_ble_eq_true rfl) fx_n1 (s_X2_note (m := m) hA.2.2.2.2.2.2.1 ht (by have q1 := p_beT_le K; have q2 := p_waT_le K K; (try simp only [List.length_append, List.length_cons, List.length_nil]); omega) 12) rfl (fun r_ m_ hpost => ?_)
  revert m_
  intro m1 hpost
  obtain ⟨rfl, g1, t1⟩ := hpost
  have G1 := g1
  have A1 := hA.mv G1
  refine e_aload_n dX2_run_47 rfl ?_
  refine e_iload dX2_run_48 rfl ?_
  refine e_iload dX2_run_50 rfl ?_
  refine e_callS1 (μ' := mX0_above) (As := [.int 0]) dX2_run_52 wl_X2_43 ok_X0_above (by omega) (Nat.le_of_ble_eq_true rfl) fx_n1 (s_X0_above0 (m := m1) ) rfl ?_
  refine e_iload_n dX2_run_55 rfl ?_
  refine e_iload dX2_run_56 rfl ?_
  refine e_iconst dX2_run_58 kci_1 ?_
  refine e_iadd dX2_run_59 ?_
  rw [nI_1]
  refine e_callV (μ' := mX2_outcome) (ci := 2) (As := [.int 12, .int (-1), .int x, .int (nI (dep + 1))]) dX2_run_60 wl_X2_47 ok_X2_outcome rfl rfl (fx_pi_lt (by decide)) (by omega) (Nat.le_of_ble_eq_true rfl) fx_n1 (s_X2_o12 (m := m1) (d := 13) (by decide) A1 t1 (dep := dep + 1) (by omega) (by have q1 := p_beT_le K; have q2 := p_waT_le K K; (try simp only [List.length_append, List.length_cons, List.length_nil]); omega) x) rfl (fun r_ m_ hpost => ?_)
  revert r_ m_
  intro r_ m2 hpost
  obtain ⟨rfl, g2, t2⟩ := hpost
  have G2 := G1.trans g2
  have A2 := hA.mv G2
  exact e_iret dX2_run_63 rfl rfl rfl ⟨(by first | rfl | (simp [p_be, p_wa, p_do]; done)), G2, by have q := t2; (try simp only [List.append_assoc, List.cons_append, List.nil_append, List.append_nil] at q); (try simp only [show p_doT 2 K = 12 :: (p_waT K K ++ p_beT K) from rfl, List.append_assoc, List.cons_append, List.nil_append, List.append_nil]); exact q⟩
set_option maxRecDepth 100000 in
set_option maxHeartbeats 600000 in
theorem s_X2_r32 {Γ : fx_G} {d : Nat} (hd : 14 ≤ d) {m : fx_M} {o K : Nat} {n a : Int32} (hA : fx_mA m o K n a) {l : List Nat} (ht : fx_tr m l) {dep : Nat} (hdp : dep ≤ 34) (hl : l.length + 11 ≤ 20) (x : Int32) : fx_Ct Γ mX2_run d 119 119 [fx_rf Γ 65, .int 3, .int 2, .int x, .int (nI dep)] m (fun r m' => r = some (.int (p_do 3 K n a x)) ∧ fx_mv m m' ∧ fx_tr m' (l ++ p_doT 3 K)) := by
  refine fx_Ct.of (j := 3) (by decide) (Nat.le_of_ble_eq_true rfl) (Nat.le_of_ble_eq_true rfl) ?_
  show fx_E Γ mX2_run d 119 119 _ 119 m 0 [some (fx_rf Γ 65), some (.int 3), some (.int 2), some (.int x), some (.int (nI dep)), none, none, none] []
  refine e_iload dX2_run_0 rfl ?_
  refine e_bipush dX2_run_2 kcb_40 ?_
  refine e_icmp_le 9 dX2_run_4 rfl (fun _ => ?_) (fun h => absurd (show nI dep ≤ nI 40 from nI_le (by omega) (by decide)) h)
  refine e_iload_n dX2_run_9 rfl ?_
  refine e_istore dX2_run_10 (by decide) rfl ?_
  refine e_iconst dX2_run_12 kci_0 ?_
  refine e_istore dX2_run_13 (by decide) rfl ?_
  refine e_iload dX2_run_15 rfl ?_
  refine e_bipush dX2_run_17 kcb_6 ?_
  refine e_icmp_gt 77 dX2_run_19 rfl (fun h => absurd h (by decide)) (fun _ => ?_)
  refine e_iload dX2_run_22 rfl ?_
  refine e_iconst dX2_run_24 kci_m1 ?_
  refine e_icmp_eq 77 dX2_run_25 rfl (fun h => absurd h (by decide)) (fun _ => ?_)
  refine e_iload dX2_run_28 rfl ?_
  refine e_iload_n dX2_run_30 rfl ?_
  refine e_callS1 (μ' := mX2_bodyOf) (As := [.int 3, .int 2]) dX2_run_31 wl_X2_35 ok_X2_bodyOf (by omega) (Nat.le_of_ble_eq_true rfl) fx_n1 (s_X2_body32 (m := m) ) rfl ?_
  refine e_istore dX2_run_34 (by decide) rfl ?_
  refine e_iload dX2_run_36 rfl ?_
  refine e_if_eq 64 dX2_run_38 rfl (fun _ => ?_) (fun h => absurd (by decide) h)
  refine e_iload dX2_run_64 rfl ?_
  refine e_callS1 (μ' := mX0_above) (As := [.int 3]) dX2_run_66 wl_X2_43 ok_X0_above (by omega) (Nat.le_of_ble_eq_true rfl) fx_n1 (s_X0_above3 (m := m) ) rfl ?_
  refine e_istore dX2_run_69 (by decide) rfl ?_
  refine e_iinc (v := 1) dX2_run_71 rfl (by decide) (by decide) rfl ?_
  refine e_goto 15 dX2_run_74 rfl ?_
  refine e_iload dX2_run_15 rfl ?_
  refine e_bipush dX2_run_17 kcb_6 ?_
  refine e_icmp_gt 77 dX2_run_19 rfl (fun h => absurd h (by decide)) (fun _ => ?_)
  refine e_iload dX2_run_22 rfl ?_
  refine e_iconst dX2_run_24 kci_m1 ?_
  refine e_icmp_eq 77 dX2_run_25 rfl (fun h => absurd h (by decide)) (fun _ => ?_)
  refine e_iload dX2_run_28 rfl ?_
  refine e_iload_n dX2_run_30 rfl ?_
  refine e_callS1 (μ' := mX2_bodyOf) (As := [.int 1, .int 2]) dX2_run_31 wl_X2_35 ok_X2_bodyOf (by omega) (Nat.le_of_ble_eq_true rfl) fx_n1 (s_X2_body12 (m := m) ) rfl ?_
  refine e_istore dX2_run_34 (by decide) rfl ?_
  refine e_iload dX2_run_36 rfl ?_
  refine e_if_eq 64 dX2_run_38 rfl (fun _ => ?_) (fun h => absurd (by decide) h)
  refine e_iload dX2_run_64 rfl ?_
  refine e_callS1 (μ' := mX0_above) (As := [.int 1]) dX2_run_66 wl_X2_43 ok_X0_above (by omega) (Nat.le_of_ble_eq_true rfl) fx_n1 (s_X0_above1 (m := m) ) rfl ?_
  refine e_istore dX2_run_69 (by decide) rfl ?_
  refine e_iinc (v := 2) dX2_run_71 rfl (by decide) (by decide) rfl ?_
  refine e_goto 15 dX2_run_74 rfl ?_
  refine e_iload dX2_run_15 rfl ?_
  refine e_bipush dX2_run_17 kcb_6 ?_
  refine e_icmp_gt 77 dX2_run_19 rfl (fun h => absurd h (by decide)) (fun _ => ?_)
  refine e_iload dX2_run_22 rfl ?_
  refine e_iconst dX2_run_24 kci_m1 ?_
  refine e_icmp_eq 77 dX2_run_25 rfl (fun h => absurd h (by decide)) (fun _ => ?_)
  refine e_iload dX2_run_28 rfl ?_
  refine e_iload_n dX2_run_30 rfl ?_
  refine e_callS1 (μ' := mX2_bodyOf) (As := [.int 0, .int 2]) dX2_run_31 wl_X2_35 ok_X2_bodyOf (by omega) (Nat.le_of_ble_eq_true rfl) fx_n1 (s_X2_body02 (m := m) ) rfl ?_
  refine e_istore dX2_run_34 (by decide) rfl ?_
  refine e_iload dX2_run_36 rfl ?_
  refine e_if_eq 64 dX2_run_38 rfl (fun h => absurd h (by decide)) (fun _ => ?_)
  refine e_aload_n dX2_run_41 rfl ?_
  refine e_iload dX2_run_42 rfl ?_
  refine e_callV (μ' := mX2_note) (ci := 2) (As := [.int 12]) dX2_run_44 wl_X2_39 ok_X2_note rfl rfl (fx_pi_lt (by decide)) (by omega) (Nat.le_of_ble_eq_true rfl) fx_n1 (s_X2_note (m := m) hA.2.2.2.2.2.2.1 ht (by have q1 := p_beT_le K; have q2 := p_waT_le K K; (try simp only [List.length_append, List.length_cons, List.length_nil]); omega) 12) rfl (fun r_ m_ hpost => ?_)
  revert m_
  intro m1 hpost
  obtain ⟨rfl, g1, t1⟩ := hpost
  have G1 := g1
  have A1 := hA.mv G1
  refine e_aload_n dX2_run_47 rfl ?_
  refine e_iload dX2_run_48 rfl ?_
  refine e_iload dX2_run_50 rfl ?_
  refine e_callS1 (μ' := mX0_above) (As := [.int 0]) dX2_run_52 wl_X2_43 ok_X0_above (by omega) (Nat.le_of_ble_eq_true rfl) fx_n1 (s_X0_above0 (m := m1) ) rfl ?_
  refine e_iload_n dX2_run_55 rfl ?_
  refine e_iload dX2_run_56 rfl ?_
  refine e_iconst dX2_run_58 kci_1 ?_
  refine e_iadd dX2_run_59 ?_
  rw [nI_1]
  refine e_callV (μ' := mX2_outcome) (ci := 2) (As := [.int 12, .int (-1), .int x, .int (nI (dep + 1))]) dX2_run_60 wl_X2_47 ok_X2_outcome rfl rfl (fx_pi_lt (by decide)) (by omega) (Nat.le_of_ble_eq_true rfl) fx_n1 (s_X2_o12 (m := m1) (d := 13) (by decide) A1 t1 (dep := dep + 1) (by omega) (by have q1 := p_beT_le K; have q2 := p_waT_le K K; (try simp only [List.length_append, List.length_cons, List.length_nil]); omega) x) rfl (fun r_ m_ hpost => ?_)
  revert r_ m_
  intro r_ m2 hpost
  obtain ⟨rfl, g2, t2⟩ := hpost
  have G2 := G1.trans g2
  have A2 := hA.mv G2
  exact e_iret dX2_run_63 rfl rfl rfl ⟨(by first | rfl | (simp [p_be, p_wa, p_do]; done)), G2, by have q := t2; (try simp only [List.append_assoc, List.cons_append, List.nil_append, List.append_nil] at q); (try simp only [show p_doT 3 K = 12 :: (p_waT K K ++ p_beT K) from rfl, List.append_assoc, List.cons_append, List.nil_append, List.append_nil]); exact q⟩
set_option maxRecDepth 100000 in
set_option maxHeartbeats 600000 in
theorem s_X2_r62 {Γ : fx_G} {d : Nat} (hd : 14 ≤ d) {m : fx_M} {o K : Nat} {n a : Int32} (hA : fx_mA m o K n a) {l : List Nat} (ht : fx_tr m l) {dep : Nat} (hdp : dep ≤ 34) (hl : l.length + 11 ≤ 20) (x : Int32) : fx_Ct Γ mX2_run d 119 119 [fx_rf Γ 65, .int 6, .int 2, .int x, .int (nI dep)] m (fun r m' => r = some (.int (p_do 6 K n a x)) ∧ fx_mv m m' ∧ fx_tr m' (l ++ p_doT 6 K)) := by
  refine fx_Ct.of (j := 3) (by decide) (Nat.le_of_ble_eq_true rfl) (Nat.le_of_ble_eq_true rfl) ?_
  show fx_E Γ mX2_run d 119 119 _ 119 m 0 [some (fx_rf Γ 65), some (.int 6), some (.int 2), some (.int x), some (.int (nI dep)), none, none, none] []
  refine e_iload dX2_run_0 rfl ?_
  refine e_bipush dX2_run_2 kcb_40 ?_
  refine e_icmp_le 9 dX2_run_4 rfl (fun _ => ?_) (fun h => absurd (show nI dep ≤ nI 40 from nI_le (by omega) (by decide)) h)
  refine e_iload_n dX2_run_9 rfl ?_
  refine e_istore dX2_run_10 (by decide) rfl ?_
  refine e_iconst dX2_run_12 kci_0 ?_
  refine e_istore dX2_run_13 (by decide) rfl ?_
  refine e_iload dX2_run_15 rfl ?_
  refine e_bipush dX2_run_17 kcb_6 ?_
  refine e_icmp_gt 77 dX2_run_19 rfl (fun h => absurd h (by decide)) (fun _ => ?_)
  refine e_iload dX2_run_22 rfl ?_
  refine e_iconst dX2_run_24 kci_m1 ?_
  refine e_icmp_eq 77 dX2_run_25 rfl (fun h => absurd h (by decide)) (fun _ => ?_)
  refine e_iload dX2_run_28 rfl ?_
  refine e_iload_n dX2_run_30 rfl ?_
  refine e_callS1 (μ' := mX2_bodyOf) (As := [.int 6, .int 2]) dX2_run_31 wl_X2_35 ok_X2_bodyOf (by omega) (Nat.le_of_ble_eq_true rfl) fx_n1 (s_X2_body62 (m := m) ) rfl ?_
  refine e_istore dX2_run_34 (by decide) rfl ?_
  refine e_iload dX2_run_36 rfl ?_
  refine e_if_eq 64 dX2_run_38 rfl (fun _ => ?_) (fun h => absurd (by decide) h)
  refine e_iload dX2_run_64 rfl ?_
  refine e_callS1 (μ' := mX0_above) (As := [.int 6]) dX2_run_66 wl_X2_43 ok_X0_above (by omega) (Nat.le_of_ble_eq_true rfl) fx_n1 (s_X0_above6 (m := m) ) rfl ?_
  refine e_istore dX2_run_69 (by decide) rfl ?_
  refine e_iinc (v := 1) dX2_run_71 rfl (by decide) (by decide) rfl ?_
  refine e_goto 15 dX2_run_74 rfl ?_
  refine e_iload dX2_run_15 rfl ?_
  refine e_bipush dX2_run_17 kcb_6 ?_
  refine e_icmp_gt 77 dX2_run_19 rfl (fun h => absurd h (by decide)) (fun _ => ?_)
  refine e_iload dX2_run_22 rfl ?_
  refine e_iconst dX2_run_24 kci_m1 ?_
  refine e_icmp_eq 77 dX2_run_25 rfl (fun h => absurd h (by decide)) (fun _ => ?_)
  refine e_iload dX2_run_28 rfl ?_
  refine e_iload_n dX2_run_30 rfl ?_
  refine e_callS1 (μ' := mX2_bodyOf) (As := [.int 3, .int 2]) dX2_run_31 wl_X2_35 ok_X2_bodyOf (by omega) (Nat.le_of_ble_eq_true rfl) fx_n1 (s_X2_body32 (m := m) ) rfl ?_
  refine e_istore dX2_run_34 (by decide) rfl ?_
  refine e_iload dX2_run_36 rfl ?_
  refine e_if_eq 64 dX2_run_38 rfl (fun _ => ?_) (fun h => absurd (by decide) h)
  refine e_iload dX2_run_64 rfl ?_
  refine e_callS1 (μ' := mX0_above) (As := [.int 3]) dX2_run_66 wl_X2_43 ok_X0_above (by omega) (Nat.le_of_ble_eq_true rfl) fx_n1 (s_X0_above3 (m := m) ) rfl ?_
  refine e_istore dX2_run_69 (by decide) rfl ?_
  refine e_iinc (v := 2) dX2_run_71 rfl (by decide) (by decide) rfl ?_
  refine e_goto 15 dX2_run_74 rfl ?_
  refine e_iload dX2_run_15 rfl ?_
  refine e_bipush dX2_run_17 kcb_6 ?_
  refine e_icmp_gt 77 dX2_run_19 rfl (fun h => absurd h (by decide)) (fun _ => ?_)
  refine e_iload dX2_run_22 rfl ?_
  refine e_iconst dX2_run_24 kci_m1 ?_
  refine e_icmp_eq 77 dX2_run_25 rfl (fun h => absurd h (by decide)) (fun _ => ?_)
  refine e_iload dX2_run_28 rfl ?_
  refine e_iload_n dX2_run_30 rfl ?_
  refine e_callS1 (μ' := mX2_bodyOf) (As := [.int 1, .int 2]) dX2_run_31 wl_X2_35 ok_X2_bodyOf (by omega) (Nat.le_of_ble_eq_true rfl) fx_n1 (s_X2_body12 (m := m) ) rfl ?_
  refine e_istore dX2_run_34 (by decide) rfl ?_
  refine e_iload dX2_run_36 rfl ?_
  refine e_if_eq 64 dX2_run_38 rfl (fun _ => ?_) (fun h => absurd (by decide) h)
  refine e_iload dX2_run_64 rfl ?_
  refine e_callS1 (μ' := mX0_above) (As := [.int 1]) dX2_run_66 wl_X2_43 ok_X0_above (by omega) (Nat.le_of_ble_eq_true rfl) fx_n1 (s_X0_above1 (m := m) ) rfl ?_
  refine e_istore dX2_run_69 (by decide) rfl ?_
  refine e_iinc (v := 3) dX2_run_71 rfl (by decide) (by decide) rfl ?_
  refine e_goto 15 dX2_run_74 rfl ?_
  refine e_iload dX2_run_15 rfl ?_
  refine e_bipush dX2_run_17 kcb_6 ?_
  refine e_icmp_gt 77 dX2_run_19 rfl (fun h => absurd h (by decide)) (fun _ => ?_)
  refine e_iload dX2_run_22 rfl ?_
  refine e_iconst dX2_run_24 kci_m1 ?_
  refine e_icmp_eq 77 dX2_run_25 rfl (fun h => absurd h (by decide)) (fun _ => ?_)
  refine e_iload dX2_run_28 rfl ?_
  refine e_iload_n dX2_run_30 rfl ?_
  refine e_callS1 (μ' := mX2_bodyOf) (As := [.int 0, .int 2]) dX2_run_31 wl_X2_35 ok_X2_bodyOf (by omega) (Nat.le_of_ble_eq_true rfl) fx_n1 (s_X2_body02 (m := m) ) rfl ?_
  refine e_istore dX2_run_34 (by decide) rfl ?_
  refine e_iload dX2_run_36 rfl ?_
  refine e_if_eq 64 dX2_run_38 rfl (fun h => absurd h (by decide)) (fun _ => ?_)
  refine e_aload_n dX2_run_41 rfl ?_
  refine e_iload dX2_run_42 rfl ?_
  refine e_callV (μ' := mX2_note) (ci := 2) (As := [.int 12]) dX2_run_44 wl_X2_39 ok_X2_note rfl rfl (fx_pi_lt (by decide)) (by omega) (Nat.le_of_ble_eq_true rfl) fx_n1 (s_X2_note (m := m) hA.2.2.2.2.2.2.1 ht (by have q1 := p_beT_le K; have q2 := p_waT_le K K; (try simp only [List.length_append, List.length_cons, List.length_nil]); omega) 12) rfl (fun r_ m_ hpost => ?_)
  revert m_
  intro m1 hpost
  obtain ⟨rfl, g1, t1⟩ := hpost
  have G1 := g1
  have A1 := hA.mv G1
  refine e_aload_n dX2_run_47 rfl ?_
  refine e_iload dX2_run_48 rfl ?_
  refine e_iload dX2_run_50 rfl ?_
  refine e_callS1 (μ' := mX0_above) (As := [.int 0]) dX2_run_52 wl_X2_43 ok_X0_above (by omega) (Nat.le_of_ble_eq_true rfl) fx_n1 (s_X0_above0 (m := m1) ) rfl ?_
  refine e_iload_n dX2_run_55 rfl ?_
  refine e_iload dX2_run_56 rfl ?_
  refine e_iconst dX2_run_58 kci_1 ?_
  refine e_iadd dX2_run_59 ?_
  rw [nI_1]
  refine e_callV (μ' := mX2_outcome) (ci := 2) (As := [.int 12, .int (-1), .int x, .int (nI (dep + 1))]) dX2_run_60 wl_X2_47 ok_X2_outcome rfl rfl (fx_pi_lt (by decide)) (by omega) (Nat.le_of_ble_eq_true rfl) fx_n1 (s_X2_o12 (m := m1) (d := 13) (by decide) A1 t1 (dep := dep + 1) (by omega) (by have q1 := p_beT_le K; have q2 := p_waT_le K K; (try simp only [List.length_append, List.length_cons, List.length_nil]); omega) x) rfl (fun r_ m_ hpost => ?_)
  revert r_ m_
  intro r_ m2 hpost
  obtain ⟨rfl, g2, t2⟩ := hpost
  have G2 := G1.trans g2
  have A2 := hA.mv G2
  exact e_iret dX2_run_63 rfl rfl rfl ⟨(by first | rfl | (simp [p_be, p_wa, p_do]; done)), G2, by have q := t2; (try simp only [List.append_assoc, List.cons_append, List.nil_append, List.append_nil] at q); (try simp only [show p_doT 6 K = 12 :: (p_waT K K ++ p_beT K) from rfl, List.append_assoc, List.cons_append, List.nil_append, List.append_nil]); exact q⟩
set_option maxRecDepth 100000 in
set_option maxHeartbeats 600000 in
theorem s_X2_o50 {Γ : fx_G} {d : Nat} (hd : 15 ≤ d) {m : fx_M} {o K : Nat} {n a : Int32} (hA : fx_mA m o K n a) {l : List Nat} (ht : fx_tr m l) {dep : Nat} (hdp : dep ≤ 34) (hl : l.length + 11 ≤ 20) (x : Int32) : fx_Ct Γ mX2_outcome d 119 119 [fx_rf Γ 65, .int 50, .int 0, .int x, .int (nI dep)] m (fun r m' => r = some (.int (-(p_do 0 K n a x))) ∧ fx_mv m m' ∧ fx_tr m' (l ++ p_doT 0 K)) := by
  refine fx_Ct.of (j := 0) (by decide) (Nat.le_of_ble_eq_true rfl) (Nat.le_of_ble_eq_true rfl) ?_
  show fx_E Γ mX2_outcome d 119 119 _ 119 m 0 [some (fx_rf Γ 65), some (.int 50), some (.int 0), some (.int x), some (.int (nI dep))] []
  refine e_iload_n dX2_outcome_0 rfl ?_
  refine e_lookup (off := 206) 207 dX2_outcome_1 (by decide) (by decide) rfl ?_
  refine e_aload_n dX2_outcome_207 rfl ?_
  refine e_iload_n dX2_outcome_208 rfl ?_
  refine e_iconst dX2_outcome_209 kci_2 ?_
  refine e_iload_n dX2_outcome_210 rfl ?_
  refine e_iload dX2_outcome_211 rfl ?_
  refine e_callV (μ' := mX2_run) (ci := 2) (As := [.int 0, .int 2, .int x, .int (nI dep)]) dX2_outcome_213 wl_X2_31 ok_X2_run rfl rfl (fx_pi_lt (by decide)) (by omega) (Nat.le_of_ble_eq_true rfl) fx_n1 (s_X2_r02 (m := m) (d := 14) (by decide) hA ht (dep := dep) (by omega) (by have q1 := p_beT_le K; have q2 := p_waT_le K K; (try simp only [List.length_append, List.length_cons, List.length_nil]); omega) x) rfl (fun r_ m_ hpost => ?_)
  revert r_ m_
  intro r_ m1 hpost
  obtain ⟨rfl, g1, t1⟩ := hpost
  have G1 := g1
  have A1 := hA.mv G1
  refine e_ineg dX2_outcome_216 ?_
  exact e_iret dX2_outcome_217 rfl rfl rfl ⟨rfl, G1, by have q := t1; (try simp only [List.append_assoc, List.cons_append, List.nil_append, List.append_nil] at q); (try simp only [List.append_assoc, List.cons_append, List.nil_append, List.append_nil]); exact q⟩
set_option maxRecDepth 100000 in
set_option maxHeartbeats 600000 in
theorem s_X2_o60 {Γ : fx_G} {d : Nat} (hd : 15 ≤ d) {m : fx_M} {o K : Nat} {n a : Int32} (hA : fx_mA m o K n a) {l : List Nat} (ht : fx_tr m l) {dep : Nat} (hdp : dep ≤ 34) (hl : l.length + 11 ≤ 20) (x : Int32) : fx_Ct Γ mX2_outcome d 119 119 [fx_rf Γ 65, .int 60, .int 2, .int x, .int (nI dep)] m (fun r m' => r = some (.int (p_do 2 K n a x ^^^ 5)) ∧ fx_mv m m' ∧ fx_tr m' (l ++ p_doT 2 K)) := by
  refine fx_Ct.of (j := 0) (by decide) (Nat.le_of_ble_eq_true rfl) (Nat.le_of_ble_eq_true rfl) ?_
  show fx_E Γ mX2_outcome d 119 119 _ 119 m 0 [some (fx_rf Γ 65), some (.int 60), some (.int 2), some (.int x), some (.int (nI dep))] []
  refine e_iload_n dX2_outcome_0 rfl ?_
  refine e_lookup (off := 232) 233 dX2_outcome_1 (by decide) (by decide) rfl ?_
  refine e_aload_n dX2_outcome_233 rfl ?_
  refine e_iload_n dX2_outcome_234 rfl ?_
  refine e_iconst dX2_outcome_235 kci_2 ?_
  refine e_iload_n dX2_outcome_236 rfl ?_
  refine e_iload dX2_outcome_237 rfl ?_
  refine e_callV (μ' := mX2_run) (ci := 2) (As := [.int 2, .int 2, .int x, .int (nI dep)]) dX2_outcome_239 wl_X2_31 ok_X2_run rfl rfl (fx_pi_lt (by decide)) (by omega) (Nat.le_of_ble_eq_true rfl) fx_n1 (s_X2_r22 (m := m) (d := 14) (by decide) hA ht (dep := dep) (by omega) (by have q1 := p_beT_le K; have q2 := p_waT_le K K; (try simp only [List.length_append, List.length_cons, List.length_nil]); omega) x) rfl (fun r_ m_ hpost => ?_)
  revert r_ m_
  intro r_ m1 hpost
  obtain ⟨rfl, g1, t1⟩ := hpost
  have G1 := g1
  have A1 := hA.mv G1
  refine e_iconst dX2_outcome_242 kci_5 ?_
  refine e_ixor dX2_outcome_243 ?_
  exact e_iret dX2_outcome_244 rfl rfl rfl ⟨rfl, G1, by have q := t1; (try simp only [List.append_assoc, List.cons_append, List.nil_append, List.append_nil] at q); (try simp only [List.append_assoc, List.cons_append, List.nil_append, List.append_nil]); exact q⟩
set_option maxRecDepth 100000 in
set_option maxHeartbeats 600000 in
theorem s_X2_r42 {Γ : fx_G} {d : Nat} (hd : 16 ≤ d) {m : fx_M} {o K : Nat} {n a : Int32} (hA : fx_mA m o K n a) {l : List Nat} (ht : fx_tr m l) {dep : Nat} (hdp : dep ≤ 33) (hl : l.length + 12 ≤ 20) (x : Int32) : fx_Ct Γ mX2_run d 119 119 [fx_rf Γ 65, .int 4, .int 2, .int x, .int (nI dep)] m (fun r m' => r = some (.int (p_do 4 K n a x)) ∧ fx_mv m m' ∧ fx_tr m' (l ++ p_doT 4 K)) := by
  refine fx_Ct.of (j := 3) (by decide) (Nat.le_of_ble_eq_true rfl) (Nat.le_of_ble_eq_true rfl) ?_
  show fx_E Γ mX2_run d 119 119 _ 119 m 0 [some (fx_rf Γ 65), some (.int 4), some (.int 2), some (.int x), some (.int (nI dep)), none, none, none] []
  refine e_iload dX2_run_0 rfl ?_
  refine e_bipush dX2_run_2 kcb_40 ?_
  refine e_icmp_le 9 dX2_run_4 rfl (fun _ => ?_) (fun h => absurd (show nI dep ≤ nI 40 from nI_le (by omega) (by decide)) h)
  refine e_iload_n dX2_run_9 rfl ?_
  refine e_istore dX2_run_10 (by decide) rfl ?_
  refine e_iconst dX2_run_12 kci_0 ?_
  refine e_istore dX2_run_13 (by decide) rfl ?_
  refine e_iload dX2_run_15 rfl ?_
  refine e_bipush dX2_run_17 kcb_6 ?_
  refine e_icmp_gt 77 dX2_run_19 rfl (fun h => absurd h (by decide)) (fun _ => ?_)
  refine e_iload dX2_run_22 rfl ?_
  refine e_iconst dX2_run_24 kci_m1 ?_
  refine e_icmp_eq 77 dX2_run_25 rfl (fun h => absurd h (by decide)) (fun _ => ?_)
  refine e_iload dX2_run_28 rfl ?_
  refine e_iload_n dX2_run_30 rfl ?_
  refine e_callS1 (μ' := mX2_bodyOf) (As := [.int 4, .int 2]) dX2_run_31 wl_X2_35 ok_X2_bodyOf (by omega) (Nat.le_of_ble_eq_true rfl) fx_n1 (s_X2_body42 (m := m) ) rfl ?_
  refine e_istore dX2_run_34 (by decide) rfl ?_
  refine e_iload dX2_run_36 rfl ?_
  refine e_if_eq 64 dX2_run_38 rfl (fun h => absurd h (by decide)) (fun _ => ?_)
  refine e_aload_n dX2_run_41 rfl ?_
  refine e_iload dX2_run_42 rfl ?_
  refine e_callV (μ' := mX2_note) (ci := 2) (As := [.int 50]) dX2_run_44 wl_X2_39 ok_X2_note rfl rfl (fx_pi_lt (by decide)) (by omega) (Nat.le_of_ble_eq_true rfl) fx_n1 (s_X2_note (m := m) hA.2.2.2.2.2.2.1 ht (by have q1 := p_beT_le K; have q2 := p_waT_le K K; (try simp only [List.length_append, List.length_cons, List.length_nil]); omega) 50) rfl (fun r_ m_ hpost => ?_)
  revert m_
  intro m1 hpost
  obtain ⟨rfl, g1, t1⟩ := hpost
  have G1 := g1
  have A1 := hA.mv G1
  refine e_aload_n dX2_run_47 rfl ?_
  refine e_iload dX2_run_48 rfl ?_
  refine e_iload dX2_run_50 rfl ?_
  refine e_callS1 (μ' := mX0_above) (As := [.int 4]) dX2_run_52 wl_X2_43 ok_X0_above (by omega) (Nat.le_of_ble_eq_true rfl) fx_n1 (s_X0_above4 (m := m1) ) rfl ?_
  refine e_iload_n dX2_run_55 rfl ?_
  refine e_iload dX2_run_56 rfl ?_
  refine e_iconst dX2_run_58 kci_1 ?_
  refine e_iadd dX2_run_59 ?_
  rw [nI_1]
  refine e_callV (μ' := mX2_outcome) (ci := 2) (As := [.int 50, .int 0, .int x, .int (nI (dep + 1))]) dX2_run_60 wl_X2_47 ok_X2_outcome rfl rfl (fx_pi_lt (by decide)) (by omega) (Nat.le_of_ble_eq_true rfl) fx_n1 (s_X2_o50 (m := m1) (d := 15) (by decide) A1 t1 (dep := dep + 1) (by omega) (by have q1 := p_beT_le K; have q2 := p_waT_le K K; (try simp only [List.length_append, List.length_cons, List.length_nil]); omega) x) rfl (fun r_ m_ hpost => ?_)
  revert r_ m_
  intro r_ m2 hpost
  obtain ⟨rfl, g2, t2⟩ := hpost
  have G2 := G1.trans g2
  have A2 := hA.mv G2
  exact e_iret dX2_run_63 rfl rfl rfl ⟨(by first | rfl | (simp [p_be, p_wa, p_do]; done)), G2, by have q := t2; (try simp only [List.append_assoc, List.cons_append, List.nil_append, List.append_nil] at q); (try simp only [show p_doT 4 K = 50 :: p_doT 0 K from rfl, List.append_assoc, List.cons_append, List.nil_append, List.append_nil]); exact q⟩
set_option maxRecDepth 100000 in
set_option maxHeartbeats 600000 in
theorem s_X2_r52 {Γ : fx_G} {d : Nat} (hd : 16 ≤ d) {m : fx_M} {o K : Nat} {n a : Int32} (hA : fx_mA m o K n a) {l : List Nat} (ht : fx_tr m l) {dep : Nat} (hdp : dep ≤ 33) (hl : l.length + 12 ≤ 20) (x : Int32) : fx_Ct Γ mX2_run d 119 119 [fx_rf Γ 65, .int 5, .int 2, .int x, .int (nI dep)] m (fun r m' => r = some (.int (p_do 5 K n a x)) ∧ fx_mv m m' ∧ fx_tr m' (l ++ p_doT 5 K)) := by
  refine fx_Ct.of (j := 3) (by decide) (Nat.le_of_ble_eq_true rfl) (Nat.le_of_ble_eq_true rfl) ?_
  show fx_E Γ mX2_run d 119 119 _ 119 m 0 [some (fx_rf Γ 65), some (.int 5), some (.int 2), some (.int x), some (.int (nI dep)), none, none, none] []
  refine e_iload dX2_run_0 rfl ?_
  refine e_bipush dX2_run_2 kcb_40 ?_
  refine e_icmp_le 9 dX2_run_4 rfl (fun _ => ?_) (fun h => absurd (show nI dep ≤ nI 40 from nI_le (by omega) (by decide)) h)
  refine e_iload_n dX2_run_9 rfl ?_
  refine e_istore dX2_run_10 (by decide) rfl ?_
  refine e_iconst dX2_run_12 kci_0 ?_
  refine e_istore dX2_run_13 (by decide) rfl ?_
  refine e_iload dX2_run_15 rfl ?_
  refine e_bipush dX2_run_17 kcb_6 ?_
  refine e_icmp_gt 77 dX2_run_19 rfl (fun h => absurd h (by decide)) (fun _ => ?_)
  refine e_iload dX2_run_22 rfl ?_
  refine e_iconst dX2_run_24 kci_m1 ?_
  refine e_icmp_eq 77 dX2_run_25 rfl (fun h => absurd h (by decide)) (fun _ => ?_)
  refine e_iload dX2_run_28 rfl ?_
  refine e_iload_n dX2_run_30 rfl ?_
  refine e_callS1 (μ' := mX2_bodyOf) (As := [.int 5, .int 2]) dX2_run_31 wl_X2_35 ok_X2_bodyOf (by omega) (Nat.le_of_ble_eq_true rfl) fx_n1 (s_X2_body52 (m := m) ) rfl ?_
  refine e_istore dX2_run_34 (by decide) rfl ?_
  refine e_iload dX2_run_36 rfl ?_
  refine e_if_eq 64 dX2_run_38 rfl (fun h => absurd h (by decide)) (fun _ => ?_)
  refine e_aload_n dX2_run_41 rfl ?_
  refine e_iload dX2_run_42 rfl ?_
  refine e_callV (μ' := mX2_note) (ci := 2) (As := [.int 60]) dX2_run_44 wl_X2_39 ok_X2_note rfl rfl (fx_pi_lt (by decide)) (by omega) (Nat.le_of_ble_eq_true rfl) fx_n1 (s_X2_note (m := m) hA.2.2.2.2.2.2.1 ht (by have q1 := p_beT_le K; have q2 := p_waT_le K K; (try simp only [List.length_append, List.length_cons, List.length_nil]); omega) 60) rfl (fun r_ m_ hpost => ?_)
  revert m_
  intro m1 hpost
  obtain ⟨rfl, g1, t1⟩ := hpost
  have G1 := g1
  have A1 := hA.mv G1
  refine e_aload_n dX2_run_47 rfl ?_
  refine e_iload dX2_run_48 rfl ?_
  refine e_iload dX2_run_50 rfl ?_
  refine e_callS1 (μ' := mX0_above) (As := [.int 5]) dX2_run_52 wl_X2_43 ok_X0_above (by omega) (Nat.le_of_ble_eq_true rfl) fx_n1 (s_X0_above5 (m := m1) ) rfl ?_
  refine e_iload_n dX2_run_55 rfl ?_
  refine e_iload dX2_run_56 rfl ?_
  refine e_iconst dX2_run_58 kci_1 ?_
  refine e_iadd dX2_run_59 ?_
  rw [nI_1]
  refine e_callV (μ' := mX2_outcome) (ci := 2) (As := [.int 60, .int 2, .int x, .int (nI (dep + 1))]) dX2_run_60 wl_X2_47 ok_X2_outcome rfl rfl (fx_pi_lt (by decide)) (by omega) (Nat.le_of_ble_eq_true rfl) fx_n1 (s_X2_o60 (m := m1) (d := 15) (by decide) A1 t1 (dep := dep + 1) (by omega) (by have q1 := p_beT_le K; have q2 := p_waT_le K K; (try simp only [List.length_append, List.length_cons, List.length_nil]); omega) x) rfl (fun r_ m_ hpost => ?_)
  revert r_ m_
  intro r_ m2 hpost
  obtain ⟨rfl, g2, t2⟩ := hpost
  have G2 := G1.trans g2
  have A2 := hA.mv G2
  exact e_iret dX2_run_63 rfl rfl rfl ⟨(by first | rfl | (simp [p_be, p_wa, p_do]; done)), G2, by have q := t2; (try simp only [List.append_assoc, List.cons_append, List.nil_append, List.append_nil] at q); (try simp only [show p_doT 5 K = 60 :: p_doT 2 K from rfl, List.append_assoc, List.cons_append, List.nil_append, List.append_nil]); exact q⟩
theorem s_X2_rF2 {Γ : fx_G} {d : Nat} (hd : 16 ≤ d) {m : fx_M} {o K : Nat} {n a : Int32} (hA : fx_mA m o K n a) {l : List Nat} (ht : fx_tr m l) {dep : Nat} (hdp : dep ≤ 33) (hl : l.length + 12 ≤ 20) (x : Int32) {F : Nat} (hF : F < 7) : fx_Ct Γ mX2_run d 119 119 [fx_rf Γ 65, .int (nI F), .int 2, .int x, .int (nI dep)] m (fun r m' => r = some (.int (p_do F K n a x)) ∧ fx_mv m m' ∧ fx_tr m' (l ++ p_doT F K)) := by
  refine p_7 (P := fun F => fx_Ct Γ mX2_run d 119 119 [fx_rf Γ 65, .int (nI F), .int 2, .int x, .int (nI dep)] m (fun r m' => r = some (.int (p_do F K n a x)) ∧ fx_mv m m' ∧ fx_tr m' (l ++ p_doT F K))) (s_X2_r02 (by omega) hA ht (by omega) (by omega) x) (s_X2_r12 (by omega) hA ht (by omega) (by omega) x) (s_X2_r22 (by omega) hA ht (by omega) (by omega) x) (s_X2_r32 (by omega) hA ht (by omega) (by omega) x) (s_X2_r42 (by omega) hA ht (by omega) (by omega) x) (s_X2_r52 (by omega) hA ht (by omega) (by omega) x) (s_X2_r62 (by omega) hA ht (by omega) (by omega) x) hF
theorem s_X2_rK2 {Γ : fx_G} {d : Nat} (hd : 16 ≤ d) {m : fx_M} {o K : Nat} {n a : Int32} (hA : fx_mA m o K n a) {l : List Nat} (ht : fx_tr m l) {dep : Nat} (hdp : dep ≤ 33) (hl : l.length + 12 ≤ 20) (x : Int32) : fx_Ct Γ mX2_run d 119 119 [fx_rf Γ 65, .int (nI K), .int 2, .int x, .int (nI dep)] m (fun r m' => r = some (.int (p_do K K n a x)) ∧ fx_mv m m' ∧ fx_tr m' (l ++ p_doT K K)) := s_X2_rF2 hd hA ht hdp hl x hA.2.2.2.2.2.2.2
