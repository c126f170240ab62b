/-! draws -/
def p_nx (sd : Int32) : Int32 := sd * 1103515245 + 12345
def p_dr (sd : Int32) (c : Nat) : Nat := (p_nx sd).toBitVec.toNat / 65536 % c
theorem p_dr_lt {sd : Int32} {c : Nat} (h : 0 < c) : p_dr sd c < c := Nat.mod_lt _ h
theorem i_ushr16 (x : Int32) : (x.toUInt32 >>> ((16 : Int32).toUInt32 &&& Int32.toUInt32 31)).toInt32 = nI (x.toBitVec.toNat / 65536) := by
  have h := pk_ushr x 16 16 (by decide)
  have hl : x.toBitVec.toNat / 2 ^ 16 < 2 ^ 32 := Nat.lt_of_le_of_lt (Nat.div_le_self _ _) x.toBitVec.isLt
  apply Int32.toBitVec_inj.mp
  apply BitVec.eq_of_toNat_eq
  rw [h, pk_tn (n := x.toBitVec.toNat / 65536) hl]
theorem i_draw (sd : Int32) {c : Nat} (h0 : 0 < c) (hc : c < 2 ^ 31) : ((p_nx sd).toUInt32 >>> ((16 : Int32).toUInt32 &&& Int32.toUInt32 31)).toInt32 - ((p_nx sd).toUInt32 >>> ((16 : Int32).toUInt32 &&& Int32.toUInt32 31)).toInt32 / nI c * nI c = nI (p_dr sd c) := by
  rw [i_ushr16]
  have hl : (p_nx sd).toBitVec.toNat / 65536 < 2 ^ 31 := by have := (p_nx sd).toBitVec.isLt; omega
  exact pk_rem hl h0 hc
set_option maxRecDepth 100000 in
set_option maxHeartbeats 600000 in
theorem s_X6_drawBelow {Γ : fx_G} {m : fx_M} (S : Nat) (HS : fx_St S) (hL : fx_Lay m) {c : Nat} (h0 : 0 < c) (hc : c < 2 ^ 31) : fx_Ct Γ mX6_drawBelow 0 119 119 [fx_rf Γ S, .int (nI c)] m (fx_is (some (.int (nI (p_dr (m.1 S 7) c)))) (fx_sI m S 7 (p_nx (m.1 S 7)))) := by
  refine fx_Ct.of (j := 0) (by decide) (Nat.le_of_ble_eq_true rfl) (Nat.le_of_ble_eq_true rfl) ?_
  show fx_E Γ mX6_drawBelow 0 119 119 _ 119 m 0 [some (fx_rf Γ S), some (.int (nI c))] []
  refine e_aload_n dX6_drawBelow_0 rfl ?_
  refine e_aload_n dX6_drawBelow_1 rfl ?_
  refine e_get dX6_drawBelow_2 ff_X6_39 HS.sh (fx_pi_lt HS.lt) (by decide) rfl ?_
  refine e_ldc dX6_drawBelow_5 wq_X6_116 ?_
  refine e_imul dX6_drawBelow_7 ?_
  refine e_sipush dX6_drawBelow_8 kcs_12345 ?_
  refine e_iadd dX6_drawBelow_11 ?_
  refine e_put dX6_drawBelow_12 ff_X6_39 HS.sh (fx_pi_lt HS.lt) (by decide) rfl (Or.inl rfl) ?_
  refine e_iload_n dX6_drawBelow_15 rfl ?_
  refine e_if_le 31 dX6_drawBelow_16 rfl (fun h => absurd h (nI_nle h0 hc)) (fun _ => ?_)
  refine e_aload_n dX6_drawBelow_19 rfl ?_
  refine e_getv (v := ((m.1 S 7) * 1103515245) + 12345) dX6_drawBelow_20 ff_X6_39 HS.sh (fx_pi_lt HS.lt) (by decide) rfl fx_rd0 ?_
  refine e_bipush dX6_drawBelow_23 kcb_16 ?_
  refine e_iushr dX6_drawBelow_25 ?_
  refine e_iload_n dX6_drawBelow_26 rfl ?_
  refine e_irem dX6_drawBelow_27 (nI_ne0 h0 hc) ?_
  refine e_goto 32 dX6_drawBelow_28 rfl ?_
  exact e_iret dX6_drawBelow_32 rfl rfl rfl ⟨by rw [← i_draw (m.1 S 7) h0 hc]; rfl, rfl⟩
set_option maxRecDepth 100000 in
set_option maxHeartbeats 600000 in
theorem s_X6_addArm {Γ : fx_G} {m : fx_M} (S : Nat) (HS : fx_St S) (hL : fx_Lay m) {na : Nat} (hna : m.1 S 2 = nI na) (h8 : na < 8) (k a s z h w : Int32) : fx_Ct Γ mX6_addArm 2 119 119 [fx_rf Γ S, .int k, .int a, .int s, .int z, .int h, .int w] m (fx_is (some (.int (nI na))) (fx_sI (fx_sI (fx_sI (fx_sI (fx_sI (fx_sI (fx_sI (fx_sI m (S + 3 + na) 0 k) (S + 3 + na) 1 a) (S + 3 + na) 2 s) (S + 3 + na) 3 z) (S + 3 + na) 4 h) (S + 3 + na) 5 w) (S + 3 + na) 6 99) S 2 (nI (na + 1)))) := by
  refine fx_Ct.of (j := 0) (by decide) (Nat.le_of_ble_eq_true rfl) (Nat.le_of_ble_eq_true rfl) ?_
  show fx_E Γ mX6_addArm 2 119 119 _ 119 m 0 [some (fx_rf Γ S), some (.int k), some (.int a), some (.int s), some (.int z), some (.int h), some (.int w)] []
  refine e_aload_n dX6_addArm_0 rfl ?_
  have h8b : na ≤ 8 := by omega
  refine e_callV1 (μ' := mX6_hasRoomForArm) (ci := 6) (As := []) dX6_addArm_1 wl_X6_51 ok_X6_hasRoomForArm HS.sh rfl (fx_pi_lt HS.lt) (by decide) (Nat.le_of_ble_eq_true rfl) fx_n1 (s_X6_hasRoomForArm (m := m) S HS hna h8b) rfl ?_
  refine e_if_neB 9 dX6_addArm_4 rfl (fun _ => ?_) (fun h => absurd h8 h)
  refine e_aload_n dX6_addArm_9 rfl ?_
  refine e_getr (o2 := S + 1) dX6_addArm_10 ff_X6_13 HS.sh (fx_pi_lt HS.lt) (by decide) rfl (HS.r0 hL) ?_
  refine e_aload_n dX6_addArm_13 rfl ?_
  refine e_getv (v := nI na) dX6_addArm_14 ff_X6_23 HS.sh (fx_pi_lt HS.lt) (by decide) rfl hna ?_
  refine e_aald (j := na) (o2 := S + 3 + na) dX6_addArm_17 HS.s1 (Or.inl rfl) (fx_pi_lt HS.l1) rfl (by omega) (by decide) (HS.ra hL (by omega)) ?_
  refine e_iload_n dX6_addArm_18 rfl ?_
  refine e_iload_n dX6_addArm_19 rfl ?_
  refine e_iload_n dX6_addArm_20 rfl ?_
  refine e_iload dX6_addArm_21 rfl ?_
  refine e_iload dX6_addArm_23 rfl ?_
  refine e_iload dX6_addArm_25 rfl ?_
  refine e_callV1 (μ' := mX0_become) (ci := 0) (As := [.int k, .int a, .int s, .int z, .int h, .int w]) dX6_addArm_27 wl_X6_55 ok_X0_become (HS.sa (by omega)) rfl (fx_pi_lt (HS.la (by omega))) (by decide) (Nat.le_of_ble_eq_true rfl) fx_n1 (s_X0_become (m := m) (S + 3 + na) (HS.sa (by omega)) (HS.la (by omega)) k a s z h w) rfl ?_
  refine e_aload_n dX6_addArm_30 rfl ?_
  refine e_dup dX6_addArm_31 rfl ?_
  refine e_getv (v := nI na) dX6_addArm_32 ff_X6_23 HS.sh (fx_pi_lt HS.lt) (by decide) rfl (((fx_rd1 (by omega)).trans ((fx_rd1 (by omega)).trans ((fx_rd1 (by omega)).trans ((fx_rd1 (by omega)).trans ((fx_rd1 (by omega)).trans ((fx_rd1 (by omega)).trans (fx_rd1 (by omega)))))))).trans hna) ?_
  refine e_iconst dX6_addArm_35 kci_1 ?_
  refine e_iadd dX6_addArm_36 ?_
  rw [nI_1]
  refine e_put dX6_addArm_37 ff_X6_23 HS.sh (fx_pi_lt HS.lt) (by decide) rfl (Or.inl rfl) ?_
  refine e_aload_n dX6_addArm_40 rfl ?_
  refine e_getv (v := nI (na + 1)) dX6_addArm_41 ff_X6_23 HS.sh (fx_pi_lt HS.lt) (by decide) rfl fx_rd0 ?_
  refine e_iconst dX6_addArm_44 kci_1 ?_
  refine e_isub dX6_addArm_45 ?_
  rw [nI_pred]
  exact e_iret dX6_addArm_46 rfl rfl rfl ⟨rfl, rfl⟩
set_option maxRecDepth 100000 in
set_option maxHeartbeats 600000 in
theorem s_X6_addDoll {Γ : fx_G} {m : fx_M} (S : Nat) (HS : fx_St S) (hL : fx_Lay m) {nd : Nat} (hnd : m.1 S 3 = nI nd) (h5 : nd < 5) (z h w v n t b : Int32) : fx_Ct Γ mX6_addDoll 2 119 119 [fx_rf Γ S, .int z, .int h, .int w, .int v, .int n, .int t, .int b] m (fx_is (some (.int (nI nd))) (fx_sI (fx_sI (fx_sI (fx_sI (fx_sI (fx_sI (fx_sI (fx_sI (fx_sI m (S + 11 + nd) 0 z) (S + 11 + nd) 1 h) (S + 11 + nd) 2 w) (S + 11 + nd) 3 v) (S + 11 + nd) 4 n) (S + 11 + nd) 5 t) (S + 11 + nd) 6 b) (S + 11 + nd) 7 0) S 3 (nI (nd + 1)))) := by
  refine fx_Ct.of (j := 0) (by decide) (Nat.le_of_ble_eq_true rfl) (Nat.le_of_ble_eq_true rfl) ?_
  show fx_E Γ mX6_addDoll 2 119 119 _ 119 m 0 [some (fx_rf Γ S), some (.int z), some (.int h), some (.int w), some (.int v), some (.int n), some (.int t), some (.int b)] []
  refine e_aload_n dX6_addDoll_0 rfl ?_
  have h5b : nd ≤ 5 := by omega
  refine e_callV1 (μ' := mX6_hasRoomForDoll) (ci := 6) (As := []) dX6_addDoll_1 wl_X6_59 ok_X6_hasRoomForDoll HS.sh rfl (fx_pi_lt HS.lt) (by decide) (Nat.le_of_ble_eq_true rfl) fx_n1 (s_X6_hasRoomForDoll (m := m) S HS hnd h5b) rfl ?_
  refine e_if_neB 9 dX6_addDoll_4 rfl (fun _ => ?_) (fun h => absurd h5 h)
  refine e_aload_n dX6_addDoll_9 rfl ?_
  refine e_getr (o2 := S + 2) dX6_addDoll_10 ff_X6_19 HS.sh (fx_pi_lt HS.lt) (by decide) rfl (HS.r1 hL) ?_
  refine e_aload_n dX6_addDoll_13 rfl ?_
  refine e_getv (v := nI nd) dX6_addDoll_14 ff_X6_27 HS.sh (fx_pi_lt HS.lt) (by decide) rfl hnd ?_
  refine e_aald (j := nd) (o2 := S + 11 + nd) dX6_addDoll_17 HS.s2 (Or.inr (Or.inl rfl)) (fx_pi_lt HS.l2) rfl (by omega) (by decide) (HS.rd hL (by omega)) ?_
  refine e_iload_n dX6_addDoll_18 rfl ?_
  refine e_iload_n dX6_addDoll_19 rfl ?_
  refine e_iload_n dX6_addDoll_20 rfl ?_
  refine e_iload dX6_addDoll_21 rfl ?_
  refine e_iload dX6_addDoll_23 rfl ?_
  refine e_iload dX6_addDoll_25 rfl ?_
  refine e_iload dX6_addDoll_27 rfl ?_
  refine e_callV1 (μ' := mX1_become) (ci := 1) (As := [.int z, .int h, .int w, .int v, .int n, .int t, .int b]) dX6_addDoll_29 wl_X6_62 ok_X1_become (HS.sd (by omega)) rfl (fx_pi_lt (HS.ld (by omega))) (by decide) (Nat.le_of_ble_eq_true rfl) fx_n1 (s_X1_become (m := m) (S + 11 + nd) (HS.sd (by omega)) (HS.ld (by omega)) z h w v n t b) rfl ?_
  refine e_aload_n dX6_addDoll_32 rfl ?_
  refine e_dup dX6_addDoll_33 rfl ?_
  refine e_getv (v := nI nd) dX6_addDoll_34 ff_X6_27 HS.sh (fx_pi_lt HS.lt) (by decide) rfl (((fx_rd1 (by omega)).trans ((fx_rd1 (by omega)).trans ((fx_rd1 (by omega)).trans ((fx_rd1 (by omega)).trans ((fx_rd1 (by omega)).trans ((fx_rd1 (by omega)).trans ((fx_rd1 (by omega)).trans (fx_rd1 (by omega))))))))).trans hnd) ?_
  refine e_iconst dX6_addDoll_37 kci_1 ?_
  refine e_iadd dX6_addDoll_38 ?_
  rw [nI_1]
  refine e_put dX6_addDoll_39 ff_X6_27 HS.sh (fx_pi_lt HS.lt) (by decide) rfl (Or.inl rfl) ?_
  refine e_aload_n dX6_addDoll_42 rfl ?_
  refine e_getv (v := nI (nd + 1)) dX6_addDoll_43 ff_X6_27 HS.sh (fx_pi_lt HS.lt) (by decide) rfl fx_rd0 ?_
  refine e_iconst dX6_addDoll_46 kci_1 ?_
  refine e_isub dX6_addDoll_47 ?_
  rw [nI_pred]
  exact e_iret dX6_addDoll_48 rfl rfl rfl ⟨rfl, rfl⟩
/-! a stock's contents as a value: counts, the arms, the dolls, mended, spent, today and seed -/
def fx_HS (m : fx_M) (S na nd : Nat) (A D : Nat → Nat → Int32) (c : Nat → Int32) : Prop := m.1 S 2 = nI na ∧ m.1 S 3 = nI nd ∧ (∀ x, x < na → m.1 (S + 3 + x) = A x) ∧ (∀ d, d < nd → m.1 (S + 11 + d) = D d) ∧ ∀ k, k < 4 → m.1 S (4 + k) = c k
def p_u (f : Nat → Int32) (k : Nat) (v : Int32) : Nat → Int32 := fun b => if b = k then v else f b
def p_ua (A : Nat → Nat → Int32) (x : Nat) (r : Nat → Int32) : Nat → Nat → Int32 := fun y => if y = x then r else A y
theorem fx_sI_o (m : fx_M) (o k : Nat) (v : Int32) : (fx_sI m o k v).1 o = p_u (m.1 o) k v := by funext b; simp [fx_sI, p_u]
theorem fx_sI_n (m : fx_M) {o o2 : Nat} (k : Nat) (v : Int32) (h : o2 ≠ o) : (fx_sI m o k v).1 o2 = m.1 o2 := by funext b; simp [fx_sI, h]
theorem fx_HS.sArm {m : fx_M} {S na nd x k : Nat} {A D : Nat → Nat → Int32} {c : Nat → Int32} {v : Int32} (h : fx_HS m S na nd A D c) (hx : x < na) (h8 : na ≤ 8) : fx_HS (fx_sI m (S + 3 + x) k v) S na nd (p_ua A x (p_u (A x) k v)) D c := by
  obtain ⟨h1, h2, h3, h4, h5⟩ := h
  refine ⟨?_, ?_, fun y hy => ?_, fun d hd => ?_, fun k hk => ?_⟩
  · rw [fx_sI_n m _ _ (by omega)]; exact h1
  · rw [fx_sI_n m _ _ (by omega)]; exact h2
  · by_cases e : y = x
    · subst e; rw [fx_sI_o, h3 y hy, p_ua, if_pos rfl]
    · rw [fx_sI_n m _ _ (by omega), h3 y hy, p_ua, if_neg e]
  · rw [fx_sI_n m _ _ (by omega)]; exact h4 d hd
  · rw [fx_sI_n m _ _ (by omega)]; exact h5 k hk
theorem fx_HS.sDoll {m : fx_M} {S na nd x k : Nat} {A D : Nat → Nat → Int32} {c : Nat → Int32} {v : Int32} (h : fx_HS m S na nd A D c) (hx : x < nd) (h8 : na ≤ 8) : fx_HS (fx_sI m (S + 11 + x) k v) S na nd A (p_ua D x (p_u (D x) k v)) c := by
  obtain ⟨h1, h2, h3, h4, h5⟩ := h
  refine ⟨?_, ?_, fun y hy => ?_, fun d hd => ?_, fun k hk => ?_⟩
  · rw [fx_sI_n m _ _ (by omega)]; exact h1
  · rw [fx_sI_n m _ _ (by omega)]; exact h2
  · rw [fx_sI_n m _ _ (by omega)]; exact h3 y hy
  · by_cases e : d = x
    · subst e; rw [fx_sI_o, h4 d hd, p_ua, if_pos rfl]
    · rw [fx_sI_n m _ _ (by omega), h4 d hd, p_ua, if_neg e]
  · rw [fx_sI_n m _ _ (by omega)]; exact h5 k hk
theorem fx_HS.sCnt {m : fx_M} {S na nd k : Nat} {A D : Nat → Nat → Int32} {c : Nat → Int32} {v : Int32} (h : fx_HS m S na nd A D c) (j : Nat) (hj : j = 4 + k) (hk : k < 4) : fx_HS (fx_sI m S j v) S na nd A D (p_u c k v) := by
  subst hj
  obtain ⟨h1, h2, h3, h4, h5⟩ := h
  refine ⟨?_, ?_, fun y hy => ?_, fun d hd => ?_, fun i hi => ?_⟩
  · rw [fx_rd2 (by omega)]; exact h1
  · rw [fx_rd2 (by omega)]; exact h2
  · rw [fx_sI_n m _ _ (by omega)]; exact h3 y hy
  · rw [fx_sI_n m _ _ (by omega)]; exact h4 d hd
  · by_cases e : i = k
    · subst e; rw [fx_rd0, p_u, if_pos rfl]
    · rw [fx_rd2 (by omega), h5 i hi, p_u, if_neg e]
theorem fx_HS.congr {m : fx_M} {S na nd : Nat} {A D A' D' : Nat → Nat → Int32} {c c' : Nat → Int32} (h : fx_HS m S na nd A D c) (hA : ∀ x, x < na → A x = A' x) (hD : ∀ d, d < nd → D d = D' d) (hc : ∀ k, k < 4 → c k = c' k) : fx_HS m S na nd A' D' c' :=
  ⟨h.1, h.2.1, fun x hx => (h.2.2.1 x hx).trans (hA x hx), fun d hd => (h.2.2.2.1 d hd).trans (hD d hd), fun k hk => (h.2.2.2.2 k hk).trans (hc k hk)⟩
/-- a stock's cells alone have changed; behind a record's fields nothing has -/
def fx_fr (S : Nat) (m m' : fx_M) : Prop := m'.2 = m.2 ∧ (∀ o, (o < S ∨ S + 16 ≤ o) → m'.1 o = m.1 o) ∧ ∀ o k, (S + 3 ≤ o ∧ o < S + 11 ∧ 7 ≤ k) ∨ (S + 11 ≤ o ∧ 8 ≤ k) → m'.1 o k = m.1 o k
theorem fx_fr.refl (S : Nat) (m : fx_M) : fx_fr S m m := ⟨rfl, fun _ _ => rfl, fun _ _ _ => rfl⟩
theorem fx_fr.sI {S o k : Nat} {v : Int32} {m m' : fx_M} (h : fx_fr S m m') (h1 : S ≤ o) (h2 : o < S + 16) (h3 : (S + 3 ≤ o → o < S + 11 → k < 7) ∧ (S + 11 ≤ o → k < 8)) : fx_fr S m (fx_sI m' o k v) :=
  ⟨h.1, fun q hq => by rw [fx_sI_n m' _ _ (by omega)]; exact h.2.1 q hq, fun q b hq => by
    by_cases e : q = o
    · subst e; rw [fx_rd2 (by omega)]; exact h.2.2 q b hq
    · rw [fx_sI_n m' _ _ e]; exact h.2.2 q b hq⟩
theorem fx_fr.lay {S : Nat} {m m' : fx_M} (h : fx_fr S m m') (hL : fx_Lay m) : fx_Lay m' := by
  intro o k v hv
  rw [h.1]
  exact hL o k v hv
theorem fx_fr.trans {S : Nat} {m m' m2 : fx_M} (h : fx_fr S m m') (h2 : fx_fr S m' m2) : fx_fr S m m2 := ⟨h2.1.trans h.1, fun o ho => (h2.2.1 o ho).trans (h.2.1 o ho), fun o k ho => (h2.2.2 o k ho).trans (h.2.2 o k ho)⟩
/-! congruence: only the arms and dolls that there are count -/
theorem p_fd_congr {P Q : Nat → Prop} [DecidablePred P] [DecidablePred Q] : ∀ (j k : Nat), (∀ x, k ≤ x → x < k + j → (P x ↔ Q x)) → p_fd P j k = p_fd Q j k
  | 0, _, _ => rfl
  | j + 1, k, h => by
    unfold p_fd
    rw [p_fd_congr j (k + 1) (fun x h1 h2 => h x (by omega) (by omega))]
    have := h k (Nat.le_refl _) (by omega)
    by_cases hP : P k
    · rw [if_pos hP, if_pos (this.mp hP)]
    · rw [if_neg hP, if_neg (fun q => hP (this.mpr q))]
theorem p_fold_congr {σ : Type} {f g : Nat → σ → σ} : ∀ (j k : Nat) (s : σ), (∀ x s, k ≤ x → x < k + j → f x s = g x s) → p_fold f j k s = p_fold g j k s
  | 0, _, _, _ => rfl
  | j + 1, k, s, h => by
    show p_fold f j (k + 1) (f k s) = p_fold g j (k + 1) (g k s)
    rw [h k s (Nat.le_refl _) (by omega)]
    exact p_fold_congr j (k + 1) _ (fun x s h1 h2 => h x s (by omega) (by omega))
theorem p_at_congr {A B : Nat → Nat → Int32} {na : Nat} {d s : Int32} (h : ∀ x, x < na → A x = B x) : p_at A na d s = p_at B na d s := p_fd_congr na 0 fun x _ h2 => by rw [h x (by omega)]
theorem p_can_congr {A B D E : Nat → Nat → Int32} {na nd x d : Nat} {s : Int32} (h : ∀ x, x < na → A x = B x) (h2 : ∀ d, d < nd → D d = E d) (hx : x < na) (hd : d < nd) : p_can A D na x d s ↔ p_can B E na x d s := by
  simp only [p_can, h x hx, h2 d hd, p_at_congr h]
/-! a day by draws -/
def p_D1 (D : Nat → Nat → Int32) : Nat → Nat → Int32 := fun d => p_u (D d) 7 (p_min 99 (D d 7 + 1))
def p_Dk (D : Nat → Nat → Int32) (k : Nat) : Nat → Nat → Int32 := fun d => if d < k then p_D1 D d else D d
abbrev p_Sg : Type := (Nat → Nat → Int32) × (Nat → Nat → Int32) × (Nat → Int32)
/-- what a mend does -/
def p_mend (t : p_Sg) (x d : Nat) (s : Int32) : p_Sg := (p_ua t.1 x (p_u (t.1 x) 6 (10 * nI d + s)), t.2.1, p_u (p_u t.2.2 1 (t.2.2 1 + t.2.1 d 4)) 0 (t.2.2 0 + 1))
def p_off (t : p_Sg) (x : Nat) : p_Sg := (p_ua t.1 x (p_u (t.1 x) 6 99), t.2.1, t.2.2)
def p_day (na nd : Nat) (t : p_Sg) : p_Sg :=
  let s1 := p_nx (t.2.2 3)
  let s2 := p_nx s1
  let u : p_Sg := (t.1, p_D1 t.2.1, p_u (p_u t.2.2 2 (t.2.2 2 + 1)) 3 (p_nx s2))
  let x := p_dr (t.2.2 3) na
  let d := p_dr s1 nd
  let s := nI (p_dr s2 2)
  if p_can u.1 u.2.1 na x d s then p_mend u x d s else if u.1 x 6 = 10 * nI d + s then p_off u x else u
abbrev fx_HT (m : fx_M) (S na nd : Nat) (t : p_Sg) : Prop := fx_HS m S na nd t.1 t.2.1 t.2.2
theorem fx_day_step {m : fx_M} {S na nd k : Nat} {A D : Nat → Nat → Int32} {c : Nat → Int32} (h : fx_HS m S na nd A (p_Dk D k) c) (hk : k < nd) (h8 : na ≤ 8) : fx_HS (fx_sI m (S + 11 + k) 7 (p_min 99 (m.1 (S + 11 + k) 7 + 1))) S na nd A (p_Dk D (k + 1)) c := by
  have e : m.1 (S + 11 + k) = D k := by rw [h.2.2.2.1 k hk, p_Dk, if_neg (by omega)]
  rw [e]
  refine (h.sDoll hk h8).congr (fun _ _ => rfl) (fun d hd => ?_) (fun _ _ => rfl)
  by_cases q : d = k
  · subst q
    simp [p_ua, p_Dk, p_D1]
  · simp only [p_ua, p_Dk, if_neg q]
    by_cases q2 : d < k
    · rw [if_pos q2, if_pos (by omega)]
    · rw [if_neg q2, if_neg (by omega)]
theorem fx_HS.mend {m : fx_M} {S na nd x d : Nat} {t : p_Sg} {s : Int32} (h : fx_HT m S na nd t) (hx : x < na) (hd : d < nd) (h8 : na ≤ 8) : fx_HT (fx_sI (fx_sI (fx_sI m (S + 3 + x) 6 (10 * nI d + s)) S 5 (m.1 S 5 + m.1 (S + 11 + d) 4)) S 4 (m.1 S 4 + 1)) S na nd (p_mend t x d s) := by
  have e5 : m.1 S 5 = t.2.2 1 := h.2.2.2.2 1 (by decide)
  have e4 : m.1 S 4 = t.2.2 0 := h.2.2.2.2 0 (by decide)
  have ed : m.1 (S + 11 + d) 4 = t.2.1 d 4 := by rw [h.2.2.2.1 d hd]
  rw [e5, e4, ed]
  exact ((h.sArm hx h8).sCnt 5 rfl (by decide)).sCnt 4 rfl (by decide)
set_option maxRecDepth 100000 in
set_option maxHeartbeats 600000 in
theorem s_X6_passDay {Γ : fx_G} {m : fx_M} (S : Nat) (HS : fx_St S) (hL : fx_Lay m) {na nd : Nat} (h8 : na ≤ 8) (h5 : nd ≤ 5) (hn0 : 0 < na) (hd0 : 0 < nd) {A D : Nat → Nat → Int32} {c : Nat → Int32} (H : fx_HS m S na nd A D c) : fx_Ct Γ mX6_passDay 4 119 119 [fx_rf Γ S] m (fun r m' => r = none ∧ fx_fr S m m' ∧ fx_HT m' S na nd (p_day na nd (A, D, c))) := by
  refine fx_Ct.of (j := 3) (by decide) (Nat.le_of_ble_eq_true rfl) (Nat.le_of_ble_eq_true rfl) ?_
  show fx_E Γ mX6_passDay 4 119 119 _ 119 m 0 [some (fx_rf Γ S), none, none, none] []
  have lp : ∀ (j : Nat) (k : Nat) (m1 : fx_M), k + j = nd → fx_fr S m m1 → fx_HS m1 S na nd A (p_Dk D k) c → fx_E Γ mX6_passDay 4 119 119 (fun r m' => r = none ∧ fx_fr S m m' ∧ fx_HT m' S na nd (p_day na nd (A, D, c))) 119 m1 2 [some (fx_rf Γ S), some (.int (nI k)), none, none] [] := by
    intro j
    induction j with
    | zero =>
      intro k m1 hk f1 H1
      have H1 := H1.congr (A' := A) (c' := c) (D' := p_D1 D) (fun _ _ => rfl) (fun d hd => if_pos (by omega)) (fun _ _ => rfl)
      have hL1 := f1.lay hL
      refine e_iload_n dX6_passDay_2 rfl ?_
      refine e_aload_n dX6_passDay_3 rfl ?_
      refine e_getv (v := nI nd) dX6_passDay_4 ff_X6_27 HS.sh (fx_pi_lt HS.lt) (by decide) rfl H1.2.1 ?_
      refine e_icmp_ge 41 dX6_passDay_7 rfl (fun _ => ?_) (fun h => absurd (nI_le (by omega) (by omega)) h)
      refine e_aload_n dX6_passDay_41 rfl ?_
      refine e_dup dX6_passDay_42 rfl ?_
      refine e_get dX6_passDay_43 ff_X6_36 HS.sh (fx_pi_lt HS.lt) (by decide) rfl ?_
      refine e_iconst dX6_passDay_46 kci_1 ?_
      refine e_iadd dX6_passDay_47 ?_
      refine e_put dX6_passDay_48 ff_X6_36 HS.sh (fx_pi_lt HS.lt) (by decide) rfl (Or.inl rfl) ?_
      refine e_aload_n dX6_passDay_51 rfl ?_
      refine e_aload_n dX6_passDay_52 rfl ?_
      refine e_getv (v := nI na) dX6_passDay_53 ff_X6_23 HS.sh (fx_pi_lt HS.lt) (by decide) rfl ((fx_rd2 (by decide)).trans H1.1) ?_
      refine e_callV1 (μ' := mX6_drawBelow) (ci := 6) (As := [.int (nI na)]) dX6_passDay_56 wl_X6_125 ok_X6_drawBelow HS.sh rfl (fx_pi_lt HS.lt) (by decide) (Nat.le_of_ble_eq_true rfl) fx_n1 (s_X6_drawBelow (m := fx_sI m1 S 6 ((m1.1 S 6) + 1)) S HS hL1 (c := na) (by omega) (by omega)) rfl ?_
      refine e_istore_n dX6_passDay_59 (by decide) rfl ?_
      refine e_aload_n dX6_passDay_60 rfl ?_
      refine e_aload_n dX6_passDay_61 rfl ?_
      refine e_getv (v := nI nd) dX6_passDay_62 ff_X6_27 HS.sh (fx_pi_lt HS.lt) (by decide) rfl (((fx_rd2 (by decide)).trans (fx_rd2 (by decide))).trans H1.2.1) ?_
      refine e_callV1 (μ' := mX6_drawBelow) (ci := 6) (As := [.int (nI nd)]) dX6_passDay_65 wl_X6_125 ok_X6_drawBelow HS.sh rfl (fx_pi_lt HS.lt) (by decide) (Nat.le_of_ble_eq_true rfl) fx_n1 (s_X6_drawBelow (m := fx_sI (fx_sI m1 S 6 ((m1.1 S 6) + 1)) S 7 (p_nx ((fx_sI m1 S 6 ((m1.1 S 6) + 1)).1 S 7))) S HS hL1 (c := nd) (by omega) (by omega)) rfl ?_
      refine e_istore_n dX6_passDay_68 (by decide) rfl ?_
      refine e_aload_n dX6_passDay_69 rfl ?_
      refine e_iconst dX6_passDay_70 kci_2 ?_
      refine e_callV1 (μ' := mX6_drawBelow) (ci := 6) (As := [.int 2]) dX6_passDay_71 wl_X6_125 ok_X6_drawBelow HS.sh rfl (fx_pi_lt HS.lt) (by decide) (Nat.le_of_ble_eq_true rfl) fx_n1 (s_X6_drawBelow (m := fx_sI (fx_sI (fx_sI m1 S 6 ((m1.1 S 6) + 1)) S 7 (p_nx ((fx_sI m1 S 6 ((m1.1 S 6) + 1)).1 S 7))) S 7 (p_nx ((fx_sI (fx_sI m1 S 6 ((m1.1 S 6) + 1)) S 7 (p_nx ((fx_sI m1 S 6 ((m1.1 S 6) + 1)).1 S 7))).1 S 7))) S HS hL1 (c := 2) (by omega) (by omega)) rfl ?_
      refine e_istore_n dX6_passDay_74 (by decide) rfl ?_
      have e7 : m1.1 S 7 = c 3 := H1.2.2.2.2 3 (by decide)
      have e6 : m1.1 S 6 = c 2 := H1.2.2.2.2 2 (by decide)
      simp only [fx_rd2 (show (6 : Nat) ≠ 7 by decide), fx_rd0, e7, e6]
      have H5 : fx_HT (fx_sI (fx_sI (fx_sI (fx_sI m1 S 6 (c 2 + 1)) S 7 (p_nx (c 3))) S 7 (p_nx (p_nx (c 3)))) S 7 (p_nx (p_nx (p_nx (c 3))))) S na nd (A, p_D1 D, p_u (p_u c 2 (c 2 + 1)) 3 (p_nx (p_nx (p_nx (c 3))))) := ((((H1.sCnt 6 (k := 2) rfl (by decide)).sCnt 7 (k := 3) rfl (by decide)).sCnt 7 (k := 3) rfl (by decide)).sCnt 7 (k := 3) rfl (by decide)).congr (fun _ _ => rfl) (fun _ _ => rfl) (fun k _ => by simp only [p_u]; split <;> rfl)
      have f5 : fx_fr S m (fx_sI (fx_sI (fx_sI (fx_sI m1 S 6 (c 2 + 1)) S 7 (p_nx (c 3))) S 7 (p_nx (p_nx (c 3)))) S 7 (p_nx (p_nx (p_nx (c 3))))) := (((f1.sI (Nat.le_refl _) (by omega) (by omega)).sI (Nat.le_refl _) (by omega) (by omega)).sI (Nat.le_refl _) (by omega) (by omega)).sI (Nat.le_refl _) (by omega) (by omega)
      have hx := p_dr_lt (sd := c 3) hn0
      have hd := p_dr_lt (sd := p_nx (c 3)) hd0
      obtain ⟨W_, hday⟩ : ∃ W_, W_ = p_day na nd (A, D, c) := ⟨_, rfl⟩
      rw [← hday]
      rw [p_day] at hday
      dsimp only at hday
      generalize fx_sI (fx_sI (fx_sI (fx_sI m1 S 6 (c 2 + 1)) S 7 (p_nx (c 3))) S 7 (p_nx (p_nx (c 3)))) S 7 (p_nx (p_nx (p_nx (c 3)))) = m5 at H5 f5 ⊢
      generalize p_dr (c 3) na = x at hx hday ⊢
      generalize p_dr (p_nx (c 3)) nd = d at hd hday ⊢
      generalize nI (p_dr (p_nx (p_nx (c 3))) 2) = s at hday ⊢
      have hL5 := f5.lay hL
      refine e_aload_n dX6_passDay_75 rfl ?_
      refine e_iload_n dX6_passDay_76 rfl ?_
      refine e_iload_n dX6_passDay_77 rfl ?_
      refine e_iload_n dX6_passDay_78 rfl ?_
      refine e_callV1 (μ' := mX6_canCome) (ci := 6) (As := [.int (nI x), .int (nI d), .int s]) dX6_passDay_79 wl_X6_87 ok_X6_canCome HS.sh rfl (fx_pi_lt HS.lt) (by decide) (Nat.le_of_ble_eq_true rfl) fx_n1 (s_X6_canCome (m := m5) S HS hL5 H5.1 h8 H5.2.1 h5 (x := x) (d := d) (by omega) (by omega) s) rfl ?_
      refine e_if_eqB 95 dX6_passDay_82 rfl (fun c_c => ?_) (fun c_c => ?_)
      · refine e_aload_n dX6_passDay_95 rfl ?_
        refine e_getr (o2 := S + 1) dX6_passDay_96 ff_X6_13 HS.sh (fx_pi_lt HS.lt) (by decide) rfl (HS.r0 hL5) ?_
        refine e_iload_n dX6_passDay_99 rfl ?_
        refine e_aald (j := x) (o2 := S + 3 + x) dX6_passDay_100 HS.s1 (Or.inl rfl) (fx_pi_lt HS.l1) rfl (by omega) (by decide) (HS.ra hL5 (by omega)) ?_
        refine e_iload_n dX6_passDay_101 rfl ?_
        refine e_iload_n dX6_passDay_102 rfl ?_
        refine e_callV1 (μ' := mX0_isOn) (ci := 0) (As := [.int (nI d), .int s]) dX6_passDay_103 wl_X6_65 ok_X0_isOn (HS.sa (by omega)) rfl (fx_pi_lt (HS.la (by omega))) (by decide) (Nat.le_of_ble_eq_true rfl) fx_n1 (s_X0_isOn (m := m5) (S + 3 + x) (HS.sa (by omega)) (HS.la (by omega)) (nI d) s) rfl ?_
        refine e_if_eqB 118 dX6_passDay_106 rfl (fun c_o => ?_) (fun c_o => ?_)
        · have hcan := p_can_congr (A := fx_ar m5 S) (D := fx_dr m5 S) (s := s) (fun x hx => H5.2.2.1 x hx) (fun d hd => H5.2.2.2.1 d hd) hx hd
          rw [if_neg (mt hcan.mpr c_c), if_neg (by rw [← show m5.1 (S + 3 + x) = A x from H5.2.2.1 x hx]; exact c_o)] at hday
          exact e_vret dX6_passDay_118 rfl rfl ⟨rfl, f5, by rw [hday]; exact H5⟩
        · refine e_aload_n dX6_passDay_109 rfl ?_
          refine e_getr (o2 := S + 1) dX6_passDay_110 ff_X6_13 HS.sh (fx_pi_lt HS.lt) (by decide) rfl (HS.r0 hL5) ?_
          refine e_iload_n dX6_passDay_113 rfl ?_
          refine e_aald (j := x) (o2 := S + 3 + x) dX6_passDay_114 HS.s1 (Or.inl rfl) (fx_pi_lt HS.l1) rfl (by omega) (by decide) (HS.ra hL5 (by omega)) ?_
          refine e_callV1 (μ' := mX0_comeOff) (ci := 0) (As := []) dX6_passDay_115 wl_X6_132 ok_X0_comeOff (HS.sa (by omega)) rfl (fx_pi_lt (HS.la (by omega))) (by decide) (Nat.le_of_ble_eq_true rfl) fx_n1 (s_X0_comeOff (m := m5) (S + 3 + x) (HS.sa (by omega)) (HS.la (by omega))) rfl ?_
          have hcan := p_can_congr (A := fx_ar m5 S) (D := fx_dr m5 S) (s := s) (fun x hx => H5.2.2.1 x hx) (fun d hd => H5.2.2.2.1 d hd) hx hd
          rw [if_neg (mt hcan.mpr c_c), if_pos (by rw [← show m5.1 (S + 3 + x) = A x from H5.2.2.1 x hx]; exact c_o)] at hday
          exact e_vret dX6_passDay_118 rfl rfl ⟨rfl, f5.sI (by omega) (by omega) (by omega), by rw [hday]; exact H5.sArm hx h8⟩
      · refine e_aload_n dX6_passDay_85 rfl ?_
        refine e_iload_n dX6_passDay_86 rfl ?_
        refine e_iload_n dX6_passDay_87 rfl ?_
        refine e_iload_n dX6_passDay_88 rfl ?_
        refine e_callV1 (μ' := mX6_mendWith) (ci := 6) (As := [.int (nI x), .int (nI d), .int s]) dX6_passDay_89 wl_X6_128 ok_X6_mendWith HS.sh rfl (fx_pi_lt HS.lt) (by decide) (Nat.le_of_ble_eq_true rfl) fx_n1 (s_X6_mendWith (m := m5) S HS hL5 (x := x) (d := d) (by omega) (by omega) s) rfl ?_
        refine e_goto 118 dX6_passDay_92 rfl ?_
        have hcan := p_can_congr (A := fx_ar m5 S) (D := fx_dr m5 S) (s := s) (fun x hx => H5.2.2.1 x hx) (fun d hd => H5.2.2.2.1 d hd) hx hd
        rw [if_pos (hcan.mp c_c)] at hday
        exact e_vret dX6_passDay_118 rfl rfl ⟨rfl, ((f5.sI (by omega) (by omega) (by omega)).sI (Nat.le_refl _) (by omega) (by omega)).sI (Nat.le_refl _) (by omega) (by omega), by rw [hday]; exact H5.mend hx hd h8⟩
    | succ j ih =>
      intro k m1 hk f1 H1
      have hL1 := f1.lay hL
      refine e_iload_n dX6_passDay_2 rfl ?_
      refine e_aload_n dX6_passDay_3 rfl ?_
      refine e_getv (v := nI nd) dX6_passDay_4 ff_X6_27 HS.sh (fx_pi_lt HS.lt) (by decide) rfl H1.2.1 ?_
      refine e_icmp_ge 41 dX6_passDay_7 rfl (fun h => absurd h (nI_ge (by omega) (by omega))) (fun _ => ?_)
      refine e_aload_n dX6_passDay_10 rfl ?_
      refine e_getr (o2 := S + 2) dX6_passDay_11 ff_X6_19 HS.sh (fx_pi_lt HS.lt) (by decide) rfl (HS.r1 hL1) ?_
      refine e_iload_n dX6_passDay_14 rfl ?_
      refine e_aald (j := k) (o2 := S + 11 + k) dX6_passDay_15 HS.s2 (Or.inr (Or.inl rfl)) (fx_pi_lt HS.l2) rfl (by omega) (by decide) (HS.rd hL1 (by omega)) ?_
      refine e_bipush dX6_passDay_16 kcb_99 ?_
      refine e_aload_n dX6_passDay_18 rfl ?_
      refine e_getr (o2 := S + 2) dX6_passDay_19 ff_X6_19 HS.sh (fx_pi_lt HS.lt) (by decide) rfl (HS.r1 hL1) ?_
      refine e_iload_n dX6_passDay_22 rfl ?_
      refine e_aald (j := k) (o2 := S + 11 + k) dX6_passDay_23 HS.s2 (Or.inr (Or.inl rfl)) (fx_pi_lt HS.l2) rfl (by omega) (by decide) (HS.rd hL1 (by omega)) ?_
      refine e_get dX6_passDay_24 ff_X6_117 (HS.sd (by omega)) (fx_pi_lt (HS.ld (by omega))) (by decide) rfl ?_
      refine e_iconst dX6_passDay_27 kci_1 ?_
      refine e_iadd dX6_passDay_28 ?_
      refine e_minP dX6_passDay_29 wl_X6_120 wt_J9_min_7cf53 wz_Math fx_wmin (by decide) (Nat.le_of_ble_eq_true rfl) ?_
      refine e_put dX6_passDay_32 ff_X6_117 (HS.sd (by omega)) (fx_pi_lt (HS.ld (by omega))) (by decide) rfl (Or.inl rfl) ?_
      refine e_iinc (v := nI (k + 1)) dX6_passDay_35 rfl (fx_inc _) (by decide) rfl ?_
      refine e_goto 2 dX6_passDay_38 rfl ?_
      exact ih (k + 1) _ (by omega) (f1.sI (by omega) (by omega) (by omega)) (fx_day_step H1 (by omega) h8)
  refine e_iconst dX6_passDay_0 kci_0 ?_
  refine e_istore_n dX6_passDay_1 (by decide) rfl ?_
  exact lp nd 0 m (by omega) (fx_fr.refl S m) (H.congr (fun _ _ => rfl) (fun d hd => by rw [p_Dk, if_neg (by omega)]) (fun _ _ => rfl))
/-- behind the fields of a stock's records stands nothing -/
def fx_J (S : Nat) (m : fx_M) : Prop := ∀ o k, (S + 3 ≤ o ∧ o < S + 11 ∧ 7 ≤ k) ∨ (S + 11 ≤ o ∧ o < S + 16 ∧ 8 ≤ k) → m.1 o k = 0
theorem fx_fr.J {S : Nat} {m m' : fx_M} (h : fx_fr S m m') (hJ : fx_J S m) : fx_J S m' := fun o k hk => by
  rw [h.2.2 o k (by omega)]; exact hJ o k hk
theorem fx_fr.JJ {S S2 : Nat} {m m' : fx_M} (h : fx_fr S m m') (hd : S + 16 ≤ S2 ∨ S2 + 16 ≤ S) (hJ : fx_J S2 m) : fx_J S2 m' := fun o k hk => by
  rw [h.2.1 o (by omega)]; exact hJ o k hk
theorem fx_fr.HS {S S2 na nd : Nat} {m m' : fx_M} {A D : Nat → Nat → Int32} {c : Nat → Int32} (h : fx_fr S m m') (hd : S + 16 ≤ S2 ∨ S2 + 16 ≤ S) (h8 : na ≤ 8) (h5 : nd ≤ 5) (H : fx_HS m S2 na nd A D c) : fx_HS m' S2 na nd A D c :=
  ⟨by rw [h.2.1 S2 (by omega)]; exact H.1, by rw [h.2.1 S2 (by omega)]; exact H.2.1, fun x hx => by rw [h.2.1 _ (by omega)]; exact H.2.2.1 x hx, fun x hx => by rw [h.2.1 _ (by omega)]; exact H.2.2.2.1 x hx, fun k hk => by rw [h.2.1 S2 (by omega)]; exact H.2.2.2.2 k hk⟩
theorem fx_St.dis {S S2 : Nat} (H : fx_St S) (H2 : fx_St S2) (hne : S ≠ S2) : S + 16 ≤ S2 ∨ S2 + 16 ≤ S := by
  rcases H with rfl | rfl | rfl <;> rcases H2 with rfl | rfl | rfl <;> first | omega | exact absurd rfl hne
theorem fx_eqA {f g : Nat → Int32} (h : ∀ k, k < 7 → f k = g k) (hf : ∀ k, 7 ≤ k → f k = 0) (hg : ∀ k, 7 ≤ k → g k = 0) : f = g := by
  funext k
  rcases Nat.lt_or_ge k 7 with q | q
  · exact h k q
  · rw [hf k q, hg k q]
theorem fx_eqD {f g : Nat → Int32} (h : ∀ k, k < 8 → f k = g k) (hf : ∀ k, 8 ≤ k → f k = 0) (hg : ∀ k, 8 ≤ k → g k = 0) : f = g := by
  funext k
  rcases Nat.lt_or_ge k 8 with q | q
  · exact h k q
  · rw [hf k q, hg k q]
theorem fx_7 {P : Nat → Prop} (h0 : P 0) (h1 : P 1) (h2 : P 2) (h3 : P 3) (h4 : P 4) (h5 : P 5) (h6 : P 6) : ∀ k, k < 7 → P k := by
  intro k hk
  have : k = 0 ∨ k = 1 ∨ k = 2 ∨ k = 3 ∨ k = 4 ∨ k = 5 ∨ k = 6 := by omega
  rcases this with rfl | rfl | rfl | rfl | rfl | rfl | rfl <;> assumption
def fx_blA (m : fx_M) (o q : Nat) : fx_M := fx_sI (fx_sI (fx_sI (fx_sI (fx_sI (fx_sI (fx_sI (fx_sI m o 0 (m.1 q 0)) o 1 (m.1 q 1)) o 2 (m.1 q 2)) o 3 (m.1 q 3)) o 4 (m.1 q 4)) o 5 (m.1 q 5)) o 6 99) o 6 (m.1 q 6)
def fx_blD (m : fx_M) (o q : Nat) : fx_M := fx_sI (fx_sI (fx_sI (fx_sI (fx_sI (fx_sI (fx_sI (fx_sI (fx_sI m o 0 (m.1 q 0)) o 1 (m.1 q 1)) o 2 (m.1 q 2)) o 3 (m.1 q 3)) o 4 (m.1 q 4)) o 5 (m.1 q 5)) o 6 (m.1 q 6)) o 7 0) o 7 (m.1 q 7)
theorem fx_blA_rec (m : fx_M) {o q : Nat} (hne : q ≠ o) (h1 : ∀ k, 7 ≤ k → m.1 o k = 0) (h2 : ∀ k, 7 ≤ k → m.1 q k = 0) : (fx_blA m o q).1 o = m.1 q := by
  refine fx_eqA (fx_7 ?_ ?_ ?_ ?_ ?_ ?_ ?_) (fun k hk => ?_) h2
  · simp [fx_blA, fx_sI]
  · simp [fx_blA, fx_sI]
  · simp [fx_blA, fx_sI]
  · simp [fx_blA, fx_sI]
  · simp [fx_blA, fx_sI]
  · simp [fx_blA, fx_sI]
  · simp [fx_blA, fx_sI]
  · rw [← h1 k hk]
    simp only [fx_blA]
    repeat rw [fx_rd2 (by omega)]
theorem fx_blD_rec (m : fx_M) {o q : Nat} (hne : q ≠ o) (h1 : ∀ k, 8 ≤ k → m.1 o k = 0) (h2 : ∀ k, 8 ≤ k → m.1 q k = 0) : (fx_blD m o q).1 o = m.1 q := by
  refine fx_eqD (fun k hk => ?_) (fun k hk => ?_) h2
  · rcases Nat.lt_or_ge k 7 with q7 | q7
    · refine fx_7 (P := fun k => (fx_blD m o q).1 o k = m.1 q k) ?_ ?_ ?_ ?_ ?_ ?_ ?_ k q7 <;> simp [fx_blD, fx_sI]
    · rw [show k = 7 by omega]; simp [fx_blD, fx_sI]
  · rw [← h1 k hk]
    simp only [fx_blD]
    repeat rw [fx_rd2 (by omega)]
theorem fx_blA_fr {S o q : Nat} {m m' : fx_M} (h : fx_fr S m m') (h1 : S + 3 ≤ o) (h2 : o < S + 11) : fx_fr S m (fx_blA m' o q) := by
  unfold fx_blA
  repeat refine fx_fr.sI ?_ (by omega) (by omega) (by omega)
  exact h
theorem fx_blD_fr {S o q : Nat} {m m' : fx_M} (h : fx_fr S m m') (h1 : S + 11 ≤ o) (h2 : o < S + 16) : fx_fr S m (fx_blD m' o q) := by
  unfold fx_blD
  repeat refine fx_fr.sI ?_ (by omega) (by omega) (by omega)
  exact h
theorem fx_blA_n (m : fx_M) {o q o2 : Nat} (h : o2 ≠ o) : (fx_blA m o q).1 o2 = m.1 o2 := by
  unfold fx_blA
  repeat rw [fx_sI_n _ _ _ h]
theorem fx_blD_n (m : fx_M) {o q o2 : Nat} (h : o2 ≠ o) : (fx_blD m o q).1 o2 = m.1 o2 := by
  unfold fx_blD
  repeat rw [fx_sI_n _ _ _ h]
theorem s_X0_bl {Γ : fx_G} {m : fx_M} (o : Nat) (hs : fx_shapes[o]? = some (10 + 0, 7)) (ho : o < 119) (q : Nat) (hq : fx_shapes[q]? = some (10 + 0, 7)) (hqo : q < 119) (hne : q ≠ o) : fx_Ct Γ mX0_becomeLike 1 119 119 [fx_rf Γ o, fx_rf Γ q] m (fx_is none (fx_blA m o q)) := s_X0_becomeLike o hs ho q hq hqo hne
theorem s_X1_bl {Γ : fx_G} {m : fx_M} (o : Nat) (hs : fx_shapes[o]? = some (10 + 1, 8)) (ho : o < 119) (q : Nat) (hq : fx_shapes[q]? = some (10 + 1, 8)) (hqo : q < 119) (hne : q ≠ o) : fx_Ct Γ mX1_becomeLike 1 119 119 [fx_rf Γ o, fx_rf Γ q] m (fx_is none (fx_blD m o q)) := s_X1_becomeLike o hs ho q hq hqo hne
set_option maxRecDepth 100000 in
set_option maxHeartbeats 600000 in
theorem s_X6_takeFrom {Γ : fx_G} {m : fx_M} (S : Nat) (HS : fx_St S) (hL : fx_Lay m) (Q : Nat) (HQ : fx_St Q) (hne : S ≠ Q) {na nd : Nat} (h8 : na ≤ 8) (h5 : nd ≤ 5) {A D : Nat → Nat → Int32} {c : Nat → Int32} (H : fx_HS m Q na nd A D c) (hJ : fx_J S m) (hJ2 : fx_J Q m) : fx_Ct Γ mX6_takeFrom 2 119 119 [fx_rf Γ S, fx_rf Γ Q] m (fun r m' => r = none ∧ fx_fr S m m' ∧ fx_HS m' S na nd A D c) := by
  refine fx_Ct.of (j := 1) (by decide) (Nat.le_of_ble_eq_true rfl) (Nat.le_of_ble_eq_true rfl) ?_
  show fx_E Γ mX6_takeFrom 2 119 119 _ 119 m 0 [some (fx_rf Γ S), some (fx_rf Γ Q), none] []
  have hdis := HS.dis HQ hne
  have lpd : ∀ (j : Nat) (k : Nat) (m1 : fx_M), k + j = nd → fx_fr S m m1 → (∀ x, x < na → m1.1 (S + 3 + x) = A x) → (∀ x, x < k → m1.1 (S + 11 + x) = D x) → fx_E Γ mX6_takeFrom 2 119 119 (fun r m' => r = none ∧ fx_fr S m m' ∧ fx_HS m' S na nd A D c) 119 m1 33 [some (fx_rf Γ S), some (fx_rf Γ Q), some (.int (nI k))] [] := by
    intro j
    induction j with
    | zero =>
      intro k m1 hk f1 a1 d1
      have hL1 := f1.lay hL
      have H1 := f1.HS hdis h8 h5 H
      have J1 := f1.J hJ
      have J2 := f1.JJ hdis hJ2
      refine e_iload_n dX6_takeFrom_33 rfl ?_
      refine e_aload_n dX6_takeFrom_34 rfl ?_
      refine e_getv (v := nI nd) dX6_takeFrom_35 ff_X6_27 HQ.sh (fx_pi_lt HQ.lt) (by decide) rfl H1.2.1 ?_
      refine e_icmp_ge 62 dX6_takeFrom_38 rfl (fun _ => ?_) (fun h => absurd (nI_le (by omega) (by omega)) h)
      refine e_aload_n dX6_takeFrom_62 rfl ?_
      refine e_aload_n dX6_takeFrom_63 rfl ?_
      refine e_getv (v := nI na) dX6_takeFrom_64 ff_X6_23 HQ.sh (fx_pi_lt HQ.lt) (by decide) rfl H1.1 ?_
      refine e_put dX6_takeFrom_67 ff_X6_23 HS.sh (fx_pi_lt HS.lt) (by decide) rfl (Or.inl rfl) ?_
      refine e_aload_n dX6_takeFrom_70 rfl ?_
      refine e_aload_n dX6_takeFrom_71 rfl ?_
      refine e_getv (v := nI nd) dX6_takeFrom_72 ff_X6_27 HQ.sh (fx_pi_lt HQ.lt) (by decide) rfl ((fx_rd1 (by omega)).trans H1.2.1) ?_
      refine e_put dX6_takeFrom_75 ff_X6_27 HS.sh (fx_pi_lt HS.lt) (by decide) rfl (Or.inl rfl) ?_
      refine e_aload_n dX6_takeFrom_78 rfl ?_
      refine e_aload_n dX6_takeFrom_79 rfl ?_
      refine e_getv (v := c 0) dX6_takeFrom_80 ff_X6_30 HQ.sh (fx_pi_lt HQ.lt) (by decide) rfl ((fx_rd1 (by omega)).trans ((fx_rd1 (by omega)).trans (H1.2.2.2.2 0 (by decide)))) ?_
      refine e_put dX6_takeFrom_83 ff_X6_30 HS.sh (fx_pi_lt HS.lt) (by decide) rfl (Or.inl rfl) ?_
      refine e_aload_n dX6_takeFrom_86 rfl ?_
      refine e_aload_n dX6_takeFrom_87 rfl ?_
      refine e_getv (v := c 1) dX6_takeFrom_88 ff_X6_33 HQ.sh (fx_pi_lt HQ.lt) (by decide) rfl ((fx_rd1 (by omega)).trans ((fx_rd1 (by omega)).trans ((fx_rd1 (by omega)).trans (H1.2.2.2.2 1 (by decide))))) ?_
      refine e_put dX6_takeFrom_91 ff_X6_33 HS.sh (fx_pi_lt HS.lt) (by decide) rfl (Or.inl rfl) ?_
      refine e_aload_n dX6_takeFrom_94 rfl ?_
      refine e_aload_n dX6_takeFrom_95 rfl ?_
      refine e_getv (v := c 2) dX6_takeFrom_96 ff_X6_36 HQ.sh (fx_pi_lt HQ.lt) (by decide) rfl ((fx_rd1 (by omega)).trans ((fx_rd1 (by omega)).trans ((fx_rd1 (by omega)).trans ((fx_rd1 (by omega)).trans (H1.2.2.2.2 2 (by decide)))))) ?_
      refine e_put dX6_takeFrom_99 ff_X6_36 HS.sh (fx_pi_lt HS.lt) (by decide) rfl (Or.inl rfl) ?_
      refine e_aload_n dX6_takeFrom_102 rfl ?_
      refine e_aload_n dX6_takeFrom_103 rfl ?_
      refine e_getv (v := c 3) dX6_takeFrom_104 ff_X6_39 HQ.sh (fx_pi_lt HQ.lt) (by decide) rfl ((fx_rd1 (by omega)).trans ((fx_rd1 (by omega)).trans ((fx_rd1 (by omega)).trans ((fx_rd1 (by omega)).trans ((fx_rd1 (by omega)).trans (H1.2.2.2.2 3 (by decide))))))) ?_
      refine e_put dX6_takeFrom_107 ff_X6_39 HS.sh (fx_pi_lt HS.lt) (by decide) rfl (Or.inl rfl) ?_
      refine e_vret dX6_takeFrom_110 rfl rfl ⟨rfl, ?_, ?_⟩
      · repeat refine fx_fr.sI ?_ (by omega) (by omega) (by omega)
        exact f1
      · refine ⟨?_, ?_, fun x hx => ?_, fun x hx => ?_, fun k hk => ?_⟩
        · simp [fx_sI]
        · simp [fx_sI]
        · repeat rw [fx_sI_n _ _ _ (show S + 3 + x ≠ S by omega)]
          exact a1 x hx
        · repeat rw [fx_sI_n _ _ _ (show S + 11 + x ≠ S by omega)]
          exact d1 x (by omega)
        · have : k = 0 ∨ k = 1 ∨ k = 2 ∨ k = 3 := by omega
          rcases this with rfl | rfl | rfl | rfl <;> simp [fx_sI]
    | succ j ih =>
      intro k m1 hk f1 a1 d1
      have hL1 := f1.lay hL
      have H1 := f1.HS hdis h8 h5 H
      have J1 := f1.J hJ
      have J2 := f1.JJ hdis hJ2
      refine e_iload_n dX6_takeFrom_33 rfl ?_
      refine e_aload_n dX6_takeFrom_34 rfl ?_
      refine e_getv (v := nI nd) dX6_takeFrom_35 ff_X6_27 HQ.sh (fx_pi_lt HQ.lt) (by decide) rfl H1.2.1 ?_
      refine e_icmp_ge 62 dX6_takeFrom_38 rfl (fun h => absurd h (nI_ge (by omega) (by omega))) (fun _ => ?_)
      refine e_aload_n dX6_takeFrom_41 rfl ?_
      refine e_getr (o2 := S + 2) dX6_takeFrom_42 ff_X6_19 HS.sh (fx_pi_lt HS.lt) (by decide) rfl (HS.r1 hL1) ?_
      refine e_iload_n dX6_takeFrom_45 rfl ?_
      refine e_aald (j := k) (o2 := S + 11 + k) dX6_takeFrom_46 HS.s2 (Or.inr (Or.inl rfl)) (fx_pi_lt HS.l2) rfl (by omega) (by decide) (HS.rd hL1 (by omega)) ?_
      refine e_aload_n dX6_takeFrom_47 rfl ?_
      refine e_getr (o2 := Q + 2) dX6_takeFrom_48 ff_X6_19 HQ.sh (fx_pi_lt HQ.lt) (by decide) rfl (HQ.r1 hL1) ?_
      refine e_iload_n dX6_takeFrom_51 rfl ?_
      refine e_aald (j := k) (o2 := Q + 11 + k) dX6_takeFrom_52 HQ.s2 (Or.inr (Or.inl rfl)) (fx_pi_lt HQ.l2) rfl (by omega) (by decide) (HQ.rd hL1 (by omega)) ?_
      refine e_callV1 (μ' := mX1_becomeLike) (ci := 1) (As := [fx_rf Γ (Q + 11 + k)]) dX6_takeFrom_53 wl_X6_48 ok_X1_becomeLike (HS.sd (by omega)) rfl (fx_pi_lt (HS.ld (by omega))) (by decide) (Nat.le_of_ble_eq_true rfl) fx_n1 (s_X1_bl (m := m1) (S + 11 + k) (HS.sd (by omega)) (HS.ld (by omega)) (Q + 11 + k) (HQ.sd (by omega)) (HQ.ld (by omega)) (by omega)) rfl ?_
      refine e_iinc (v := nI (k + 1)) dX6_takeFrom_56 rfl (fx_inc _) (by decide) rfl ?_
      refine e_goto 33 dX6_takeFrom_59 rfl ?_
      refine ih (k + 1) _ (by omega) (fx_blD_fr f1 (by omega) (by omega)) (fun x hx => by rw [fx_blD_n m1 (by omega)]; exact a1 x hx) (fun x hx => ?_)
      by_cases e : x = k
      · subst e
        rw [fx_blD_rec m1 (by omega) (fun b hb => J1 _ b (by omega)) (fun b hb => J2 _ b (by omega))]
        exact H1.2.2.2.1 _ (by omega)
      · rw [fx_blD_n m1 (by omega)]
        exact d1 x (by omega)
  have lpa : ∀ (j : Nat) (k : Nat) (m1 : fx_M), k + j = na → fx_fr S m m1 → (∀ x, x < k → m1.1 (S + 3 + x) = A x) → fx_E Γ mX6_takeFrom 2 119 119 (fun r m' => r = none ∧ fx_fr S m m' ∧ fx_HS m' S na nd A D c) 119 m1 2 [some (fx_rf Γ S), some (fx_rf Γ Q), some (.int (nI k))] [] := by
    intro j
    induction j with
    | zero =>
      intro k m1 hk f1 a1
      have hL1 := f1.lay hL
      have H1 := f1.HS hdis h8 h5 H
      have J1 := f1.J hJ
      have J2 := f1.JJ hdis hJ2
      refine e_iload_n dX6_takeFrom_2 rfl ?_
      refine e_aload_n dX6_takeFrom_3 rfl ?_
      refine e_getv (v := nI na) dX6_takeFrom_4 ff_X6_23 HQ.sh (fx_pi_lt HQ.lt) (by decide) rfl H1.1 ?_
      refine e_icmp_ge 31 dX6_takeFrom_7 rfl (fun _ => ?_) (fun h => absurd (nI_le (by omega) (by omega)) h)
      refine e_iconst dX6_takeFrom_31 kci_0 ?_
      refine e_istore_n dX6_takeFrom_32 (by decide) rfl ?_
      exact lpd nd 0 m1 (by omega) f1 (fun x hx => a1 x (by omega)) (fun x hx => absurd hx (by omega))
    | succ j ih =>
      intro k m1 hk f1 a1
      have hL1 := f1.lay hL
      have H1 := f1.HS hdis h8 h5 H
      have J1 := f1.J hJ
      have J2 := f1.JJ hdis hJ2
      refine e_iload_n dX6_takeFrom_2 rfl ?_
      refine e_aload_n dX6_takeFrom_3 rfl ?_
      refine e_getv (v := nI na) dX6_takeFrom_4 ff_X6_23 HQ.sh (fx_pi_lt HQ.lt) (by decide) rfl H1.1 ?_
      refine e_icmp_ge 31 dX6_takeFrom_7 rfl (fun h => absurd h (nI_ge (by omega) (by omega))) (fun _ => ?_)
      refine e_aload_n dX6_takeFrom_10 rfl ?_
      refine e_getr (o2 := S + 1) dX6_takeFrom_11 ff_X6_13 HS.sh (fx_pi_lt HS.lt) (by decide) rfl (HS.r0 hL1) ?_
      refine e_iload_n dX6_takeFrom_14 rfl ?_
      refine e_aald (j := k) (o2 := S + 3 + k) dX6_takeFrom_15 HS.s1 (Or.inl rfl) (fx_pi_lt HS.l1) rfl (by omega) (by decide) (HS.ra hL1 (by omega)) ?_
      refine e_aload_n dX6_takeFrom_16 rfl ?_
      refine e_getr (o2 := Q + 1) dX6_takeFrom_17 ff_X6_13 HQ.sh (fx_pi_lt HQ.lt) (by decide) rfl (HQ.r0 hL1) ?_
      refine e_iload_n dX6_takeFrom_20 rfl ?_
      refine e_aald (j := k) (o2 := Q + 3 + k) dX6_takeFrom_21 HQ.s1 (Or.inl rfl) (fx_pi_lt HQ.l1) rfl (by omega) (by decide) (HQ.ra hL1 (by omega)) ?_
      refine e_callV1 (μ' := mX0_becomeLike) (ci := 0) (As := [fx_rf Γ (Q + 3 + k)]) dX6_takeFrom_22 wl_X6_44 ok_X0_becomeLike (HS.sa (by omega)) rfl (fx_pi_lt (HS.la (by omega))) (by decide) (Nat.le_of_ble_eq_true rfl) fx_n1 (s_X0_bl (m := m1) (S + 3 + k) (HS.sa (by omega)) (HS.la (by omega)) (Q + 3 + k) (HQ.sa (by omega)) (HQ.la (by omega)) (by omega)) rfl ?_
      refine e_iinc (v := nI (k + 1)) dX6_takeFrom_25 rfl (fx_inc _) (by decide) rfl ?_
      refine e_goto 2 dX6_takeFrom_28 rfl ?_
      refine ih (k + 1) _ (by omega) (fx_blA_fr f1 (by omega) (by omega)) (fun x hx => ?_)
      by_cases e : x = k
      · subst e
        rw [fx_blA_rec m1 (by omega) (fun b hb => J1 _ b (by omega)) (fun b hb => J2 _ b (by omega))]
        exact H1.2.2.1 _ (by omega)
      · rw [fx_blA_n m1 (by omega)]
        exact a1 x (by omega)
  refine e_iconst dX6_takeFrom_0 kci_0 ?_
  refine e_istore_n dX6_takeFrom_1 (by decide) rfl ?_
  exact lpa na 0 m (by omega) (fx_fr.refl S m) (fun x hx => absurd hx (by omega))
