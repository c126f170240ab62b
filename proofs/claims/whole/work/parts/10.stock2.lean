/-! draws -/
def p_nx (sd : Int32) : Int32 := sd * 1103515245 + 12345
def p_dr (sd : Int32) (c : Nat) : Nat := (p_nx sd).toBitVec.toNat / 65536 % c
theorem p_dr_lt {sd : Int32} {c : Nat} (h : 0 < c) : p_dr sd c < c := Nat.mod_lt _ h
theorem i_ushr16 (x : Int32) : (x.toUInt32 >>> ((16 : Int32).toUInt32 &&& Int32.toUInt32 31)).toInt32 = nI (x.toBitVec.toNat / 65536) := by
  have h := pk_ushr x 16 16 (by decide)
  have hl : x.toBitVec.toNat / 2 ^ 16 < 2 ^ 32 := Nat.lt_of_le_of_lt (Nat.div_le_self _ _) x.toBitVec.isLt
  apply Int32.toBitVec_inj.mp
  apply BitVec.eq_of_toNat_eq
  rw [h, pk_tn (n := x.toBitVec.toNat / 65536) hl]
theorem i_draw (sd : Int32) {c : Nat} (h0 : 0 < c) (hc : c < 2 ^ 31) : ((p_nx sd).toUInt32 >>> ((16 : Int32).toUInt32 &&& Int32.toUInt32 31)).toInt32 - ((p_nx sd).toUInt32 >>> ((16 : Int32).toUInt32 &&& Int32.toUInt32 31)).toInt32 / nI c * nI c = nI (p_dr sd c) := by
  rw [i_ushr16]
  have hl : (p_nx sd).toBitVec.toNat / 65536 < 2 ^ 31 := by have := (p_nx sd).toBitVec.isLt; omega
  exact pk_rem hl h0 hc
set_option maxRecDepth 100000 in
set_option maxHeartbeats 600000 in
theorem s_X6_drawBelow {Γ : fx_G} {m : fx_M} (S : Nat) (HS : fx_St S) (hL : fx_Lay m) {c : Nat} (h0 : 0 < c) (hc : c < 2 ^ 31) : fx_Ct Γ mX6_drawBelow 0 119 119 [fx_rf Γ S, .int (nI c)] m (fx_is (some (.int (nI (p_dr (m.1 S 7) c)))) (fx_sI m S 7 (p_nx (m.1 S 7)))) := by
  refine fx_Ct.of (j := 0) (by decide) (Nat.le_of_ble_eq_true rfl) (Nat.le_of_ble_eq_true rfl) ?_
  show fx_E Γ mX6_drawBelow 0 119 119 _ 119 m 0 [some (fx_rf Γ S), some (.int (nI c))] []
  refine e_aload_n dX6_drawBelow_0 rfl ?_
  refine e_aload_n dX6_drawBelow_1 rfl ?_
  refine e_get dX6_drawBelow_2 ff_X6_39 HS.sh HS.lt (by decide) rfl ?_
  refine e_ldc dX6_drawBelow_5 wq_X6_116 ?_
  refine e_imul dX6_drawBelow_7 ?_
  refine e_sipush dX6_drawBelow_8 kcs_12345 ?_
  refine e_iadd dX6_drawBelow_11 ?_
  refine e_put dX6_drawBelow_12 ff_X6_39 HS.sh HS.lt (by decide) rfl (Or.inl rfl) ?_
  refine e_iload_n dX6_drawBelow_15 rfl ?_
  refine e_if_le 31 dX6_drawBelow_16 rfl (fun h => absurd h (nI_nle h0 hc)) (fun _ => ?_)
  refine e_aload_n dX6_drawBelow_19 rfl ?_
  refine e_getv (v := ((m.1 S 7) * 1103515245) + 12345) dX6_drawBelow_20 ff_X6_39 HS.sh HS.lt (by decide) rfl fx_rd0 ?_
  refine e_bipush dX6_drawBelow_23 kcb_16 ?_
  refine e_iushr dX6_drawBelow_25 ?_
  refine e_iload_n dX6_drawBelow_26 rfl ?_
  refine e_irem dX6_drawBelow_27 (nI_ne0 h0 hc) ?_
  refine e_goto 32 dX6_drawBelow_28 rfl ?_
  exact e_iret dX6_drawBelow_32 rfl rfl rfl ⟨by rw [← i_draw (m.1 S 7) h0 hc]; rfl, rfl⟩
set_option maxRecDepth 100000 in
set_option maxHeartbeats 600000 in
theorem s_X6_addArm {Γ : fx_G} {m : fx_M} (S : Nat) (HS : fx_St S) (hL : fx_Lay m) {na : Nat} (hna : m.1 S 2 = nI na) (h8 : na < 8) (k a s z h w : Int32) : fx_Ct Γ mX6_addArm 2 119 119 [fx_rf Γ S, .int k, .int a, .int s, .int z, .int h, .int w] m (fx_is (some (.int (nI na))) (fx_sI (fx_sI (fx_sI (fx_sI (fx_sI (fx_sI (fx_sI (fx_sI m (S + 3 + na) 0 k) (S + 3 + na) 1 a) (S + 3 + na) 2 s) (S + 3 + na) 3 z) (S + 3 + na) 4 h) (S + 3 + na) 5 w) (S + 3 + na) 6 99) S 2 (nI (na + 1)))) := by
  refine fx_Ct.of (j := 0) (by decide) (Nat.le_of_ble_eq_true rfl) (Nat.le_of_ble_eq_true rfl) ?_
  show fx_E Γ mX6_addArm 2 119 119 _ 119 m 0 [some (fx_rf Γ S), some (.int k), some (.int a), some (.int s), some (.int z), some (.int h), some (.int w)] []
  refine e_aload_n dX6_addArm_0 rfl ?_
  have h8b : na ≤ 8 := by omega
  refine e_callV1 (μ' := mX6_hasRoomForArm) (ci := 6) (As := []) dX6_addArm_1 wl_X6_51 ok_X6_hasRoomForArm HS.sh rfl HS.lt (by decide) (Nat.le_of_ble_eq_true rfl) fx_n1 (s_X6_hasRoomForArm S HS hna h8b) rfl ?_
  refine e_if_neB 9 dX6_addArm_4 rfl (fun _ => ?_) (fun h => absurd h8 h)
  refine e_aload_n dX6_addArm_9 rfl ?_
  refine e_getr (o2 := S + 1) dX6_addArm_10 ff_X6_13 HS.sh HS.lt (by decide) rfl (HS.r0 hL) ?_
  refine e_aload_n dX6_addArm_13 rfl ?_
  refine e_getv (v := nI na) dX6_addArm_14 ff_X6_23 HS.sh HS.lt (by decide) rfl hna ?_
  refine e_aald (j := na) (o2 := S + 3 + na) dX6_addArm_17 HS.s1 (Or.inl rfl) HS.l1 rfl (by omega) (by decide) (HS.ra hL (by omega)) ?_
  refine e_iload_n dX6_addArm_18 rfl ?_
  refine e_iload_n dX6_addArm_19 rfl ?_
  refine e_iload_n dX6_addArm_20 rfl ?_
  refine e_iload dX6_addArm_21 rfl ?_
  refine e_iload dX6_addArm_23 rfl ?_
  refine e_iload dX6_addArm_25 rfl ?_
  refine e_callV1 (μ' := mX0_become) (ci := 0) (As := [.int k, .int a, .int s, .int z, .int h, .int w]) dX6_addArm_27 wl_X6_55 ok_X0_become (HS.sa (by omega)) rfl (HS.la (by omega)) (by decide) (Nat.le_of_ble_eq_true rfl) fx_n1 (s_X0_become (S + 3 + na) (HS.sa (by omega)) (HS.la (by omega)) k a s z h w) rfl ?_
  refine e_aload_n dX6_addArm_30 rfl ?_
  refine e_dup dX6_addArm_31 rfl ?_
  refine e_getv (v := nI na) dX6_addArm_32 ff_X6_23 HS.sh HS.lt (by decide) rfl (((fx_rd1 (by omega)).trans ((fx_rd1 (by omega)).trans ((fx_rd1 (by omega)).trans ((fx_rd1 (by omega)).trans ((fx_rd1 (by omega)).trans ((fx_rd1 (by omega)).trans (fx_rd1 (by omega)))))))).trans hna) ?_
  refine e_iconst dX6_addArm_35 kci_1 ?_
  refine e_iadd dX6_addArm_36 ?_
  rw [nI_1]
  refine e_put dX6_addArm_37 ff_X6_23 HS.sh HS.lt (by decide) rfl (Or.inl rfl) ?_
  refine e_aload_n dX6_addArm_40 rfl ?_
  refine e_getv (v := nI (na + 1)) dX6_addArm_41 ff_X6_23 HS.sh HS.lt (by decide) rfl fx_rd0 ?_
  refine e_iconst dX6_addArm_44 kci_1 ?_
  refine e_isub dX6_addArm_45 ?_
  rw [nI_pred]
  exact e_iret dX6_addArm_46 rfl rfl rfl ⟨rfl, rfl⟩
set_option maxRecDepth 100000 in
set_option maxHeartbeats 600000 in
theorem s_X6_addDoll {Γ : fx_G} {m : fx_M} (S : Nat) (HS : fx_St S) (hL : fx_Lay m) {nd : Nat} (hnd : m.1 S 3 = nI nd) (h5 : nd < 5) (z h w v n t b : Int32) : fx_Ct Γ mX6_addDoll 2 119 119 [fx_rf Γ S, .int z, .int h, .int w, .int v, .int n, .int t, .int b] m (fx_is (some (.int (nI nd))) (fx_sI (fx_sI (fx_sI (fx_sI (fx_sI (fx_sI (fx_sI (fx_sI (fx_sI m (S + 11 + nd) 0 z) (S + 11 + nd) 1 h) (S + 11 + nd) 2 w) (S + 11 + nd) 3 v) (S + 11 + nd) 4 n) (S + 11 + nd) 5 t) (S + 11 + nd) 6 b) (S + 11 + nd) 7 0) S 3 (nI (nd + 1)))) := by
  refine fx_Ct.of (j := 0) (by decide) (Nat.le_of_ble_eq_true rfl) (Nat.le_of_ble_eq_true rfl) ?_
  show fx_E Γ mX6_addDoll 2 119 119 _ 119 m 0 [some (fx_rf Γ S), some (.int z), some (.int h), some (.int w), some (.int v), some (.int n), some (.int t), some (.int b)] []
  refine e_aload_n dX6_addDoll_0 rfl ?_
  have h5b : nd ≤ 5 := by omega
  refine e_callV1 (μ' := mX6_hasRoomForDoll) (ci := 6) (As := []) dX6_addDoll_1 wl_X6_59 ok_X6_hasRoomForDoll HS.sh rfl HS.lt (by decide) (Nat.le_of_ble_eq_true rfl) fx_n1 (s_X6_hasRoomForDoll S HS hnd h5b) rfl ?_
  refine e_if_neB 9 dX6_addDoll_4 rfl (fun _ => ?_) (fun h => absurd h5 h)
  refine e_aload_n dX6_addDoll_9 rfl ?_
  refine e_getr (o2 := S + 2) dX6_addDoll_10 ff_X6_19 HS.sh HS.lt (by decide) rfl (HS.r1 hL) ?_
  refine e_aload_n dX6_addDoll_13 rfl ?_
  refine e_getv (v := nI nd) dX6_addDoll_14 ff_X6_27 HS.sh HS.lt (by decide) rfl hnd ?_
  refine e_aald (j := nd) (o2 := S + 11 + nd) dX6_addDoll_17 HS.s2 (Or.inr (Or.inl rfl)) HS.l2 rfl (by omega) (by decide) (HS.rd hL (by omega)) ?_
  refine e_iload_n dX6_addDoll_18 rfl ?_
  refine e_iload_n dX6_addDoll_19 rfl ?_
  refine e_iload_n dX6_addDoll_20 rfl ?_
  refine e_iload dX6_addDoll_21 rfl ?_
  refine e_iload dX6_addDoll_23 rfl ?_
  refine e_iload dX6_addDoll_25 rfl ?_
  refine e_iload dX6_addDoll_27 rfl ?_
  refine e_callV1 (μ' := mX1_become) (ci := 1) (As := [.int z, .int h, .int w, .int v, .int n, .int t, .int b]) dX6_addDoll_29 wl_X6_62 ok_X1_become (HS.sd (by omega)) rfl (HS.ld (by omega)) (by decide) (Nat.le_of_ble_eq_true rfl) fx_n1 (s_X1_become (S + 11 + nd) (HS.sd (by omega)) (HS.ld (by omega)) z h w v n t b) rfl ?_
  refine e_aload_n dX6_addDoll_32 rfl ?_
  refine e_dup dX6_addDoll_33 rfl ?_
  refine e_getv (v := nI nd) dX6_addDoll_34 ff_X6_27 HS.sh HS.lt (by decide) rfl (((fx_rd1 (by omega)).trans ((fx_rd1 (by omega)).trans ((fx_rd1 (by omega)).trans ((fx_rd1 (by omega)).trans ((fx_rd1 (by omega)).trans ((fx_rd1 (by omega)).trans ((fx_rd1 (by omega)).trans (fx_rd1 (by omega))))))))).trans hnd) ?_
  refine e_iconst dX6_addDoll_37 kci_1 ?_
  refine e_iadd dX6_addDoll_38 ?_
  rw [nI_1]
  refine e_put dX6_addDoll_39 ff_X6_27 HS.sh HS.lt (by decide) rfl (Or.inl rfl) ?_
  refine e_aload_n dX6_addDoll_42 rfl ?_
  refine e_getv (v := nI (nd + 1)) dX6_addDoll_43 ff_X6_27 HS.sh HS.lt (by decide) rfl fx_rd0 ?_
  refine e_iconst dX6_addDoll_46 kci_1 ?_
  refine e_isub dX6_addDoll_47 ?_
  rw [nI_pred]
  exact e_iret dX6_addDoll_48 rfl rfl rfl ⟨rfl, rfl⟩
