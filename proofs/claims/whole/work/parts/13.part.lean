/-! the parting: places, slots; R a table's row, W the worths, able a slot's places -/
def p_bw1 (R : Nat → Int32) (w : Nat → Int32) (b s a p : Nat) (z : Int32) : Int32 := if (s &&& a).testBit p = true then p_max z (w p + R (b + (s ^^^ 2 ^ p))) else z
def p_bw (R : Nat → Int32) (w : Nat → Int32) (b s a np : Nat) : Int32 := p_fold (p_bw1 R w b s a) np 0 (R (b + s))
theorem p_bw1_y {R w : Nat → Int32} {b s a p : Nat} {z : Int32} (h : (s &&& a).testBit p = true) : p_bw1 R w b s a p z = p_max z (w p + R (b + (s ^^^ 2 ^ p))) := if_pos h
theorem p_bw1_n {R w : Nat → Int32} {b s a p : Nat} {z : Int32} (h : (s &&& a).testBit p = false) : p_bw1 R w b s a p z = z := if_neg (by rw [h]; decide)
theorem i_and {a b : Nat} : nI a &&& nI b = nI (a &&& b) := fa_and a b
theorem i_xor {a b : Nat} : nI a ^^^ nI b = nI (a ^^^ b) := fb_xorI a b
theorem i_mulc (a c : Nat) : nI a * nI c = nI (a * c) := pk_mul a c
theorem p_xor_lt {s p n : Nat} (hs : s < 2 ^ n) (hp : p < n) : s ^^^ 2 ^ p < 2 ^ n := Nat.xor_lt_two_pow hs (Nat.pow_lt_pow_right (by decide) hp)
theorem p_256 {n : Nat} (h : n ≤ 8) : 2 ^ n ≤ 256 := Nat.pow_le_pow_right (n := 2) (by decide) h
theorem i_8 (t p : Nat) : nI t * 8 + nI p = nI (t * 8 + p) := by rw [show (8 : Int32) = nI 8 from rfl, i_mulc, nI_add]
theorem i_256 (t s : Nat) : nI t * 256 + nI s = nI (t * 256 + s) := by rw [show (256 : Int32) = nI 256 from rfl, i_mulc, nI_add]
set_option maxRecDepth 100000 in
set_option maxHeartbeats 600000 in
theorem s_X3_all {Γ : fx_G} {m : fx_M} (hL : fx_Lay m) {np : Nat} (hnp : m.1 53 9 = nI np) (h8 : np ≤ 8) : fx_Ct Γ mX3_all 0 119 119 [fx_rf Γ 53] m (fx_is (some (.int (nI (2 ^ np - 1)))) m) := by
  refine fx_Ct.of (j := 0) (by decide) (Nat.le_of_ble_eq_true rfl) (Nat.le_of_ble_eq_true rfl) ?_
  show fx_E Γ mX3_all 0 119 119 _ 119 m 0 [some (fx_rf Γ 53)] []
  refine e_iconst dX3_all_0 kci_1 ?_
  refine e_aload_n dX3_all_1 rfl ?_
  refine e_getv (v := nI np) dX3_all_2 ff_X3_45 rfl (by decide) (by decide) rfl hnp ?_
  refine e_ishl dX3_all_5 ?_
  rw [i_shl1 (by omega)]
  refine e_iconst dX3_all_6 kci_1 ?_
  refine e_isub dX3_all_7 ?_
  rw [p_all np Nat.one_le_two_pow]
  exact e_iret dX3_all_8 rfl rfl rfl ⟨rfl, rfl⟩
set_option maxRecDepth 100000 in
set_option maxHeartbeats 600000 in
theorem s_X3_filledBy {Γ : fx_G} {m : fx_M} (v : Int32) : fx_Ct Γ mX3_filledBy 0 119 119 [.int v] m (fx_is (some (.int ((v + 1000 - 1) / 1000))) m) := by
  refine fx_Ct.of (j := 0) (by decide) (Nat.le_of_ble_eq_true rfl) (Nat.le_of_ble_eq_true rfl) ?_
  show fx_E Γ mX3_filledBy 0 119 119 _ 119 m 0 [some (.int v)] []
  refine e_iload_n dX3_filledBy_0 rfl ?_
  refine e_sipush dX3_filledBy_1 kcs_1000 ?_
  refine e_iadd dX3_filledBy_4 ?_
  refine e_iconst dX3_filledBy_5 kci_1 ?_
  refine e_isub dX3_filledBy_6 ?_
  refine e_sipush dX3_filledBy_7 kcs_1000 ?_
  refine e_idiv dX3_filledBy_10 (by decide) ?_
  exact e_iret dX3_filledBy_11 rfl rfl rfl ⟨rfl, rfl⟩
set_option maxRecDepth 100000 in
set_option maxHeartbeats 600000 in
theorem s_X3_filled {Γ : fx_G} {m : fx_M} (hL : fx_Lay m) {np : Nat} (hnp : m.1 53 9 = nI np) (h8 : np ≤ 8) : fx_Ct Γ mX3_filled 2 119 119 [fx_rf Γ 53] m (fx_is (some (.int ((m.1 54 (2 ^ np - 1) + 1000 - 1) / 1000))) m) := by
  refine fx_Ct.of (j := 0) (by decide) (Nat.le_of_ble_eq_true rfl) (Nat.le_of_ble_eq_true rfl) ?_
  show fx_E Γ mX3_filled 2 119 119 _ 119 m 0 [some (fx_rf Γ 53)] []
  have h2 := p_256 h8
  refine e_aload_n dX3_filled_0 rfl ?_
  refine e_getr (o2 := 54) dX3_filled_1 ff_X3_13 rfl (by decide) (by decide) rfl (hL _ _ _ rfl) ?_
  refine e_aload_n dX3_filled_4 rfl ?_
  refine e_callV1 (μ' := mX3_all) (ci := 3) (As := []) dX3_filled_5 wl_X3_63 ok_X3_all rfl rfl (by decide) (by decide) (Nat.le_of_ble_eq_true rfl) fx_n1 (s_X3_all (m := m) hL hnp h8) rfl ?_
  refine e_iald (j := 2 ^ np - 1) dX3_filled_8 rfl (by decide) rfl (by omega) (by decide) ?_
  refine e_callS1 (μ' := mX3_filledBy) (As := [.int (m.1 54 (2 ^ np - 1))]) dX3_filled_9 wl_X3_114 ok_X3_filledBy (by decide) (Nat.le_of_ble_eq_true rfl) fx_n1 (s_X3_filledBy (m := m) (m.1 54 (2 ^ np - 1))) rfl ?_
  exact e_iret dX3_filled_12 rfl rfl rfl ⟨rfl, rfl⟩
set_option maxRecDepth 100000 in
set_option maxHeartbeats 600000 in
theorem s_X3_unlikeness {Γ : fx_G} {m : fx_M} (hL : fx_Lay m) {np : Nat} (hnp : m.1 53 9 = nI np) (h8 : np ≤ 8) : fx_Ct Γ mX3_unlikeness 3 119 119 [fx_rf Γ 53] m (fx_is (some (.int (1000 * ((m.1 54 (2 ^ np - 1) + 1000 - 1) / 1000) - m.1 54 (2 ^ np - 1)))) m) := by
  refine fx_Ct.of (j := 0) (by decide) (Nat.le_of_ble_eq_true rfl) (Nat.le_of_ble_eq_true rfl) ?_
  show fx_E Γ mX3_unlikeness 3 119 119 _ 119 m 0 [some (fx_rf Γ 53)] []
  have h2 := p_256 h8
  refine e_sipush dX3_unlikeness_0 kcs_1000 ?_
  refine e_aload_n dX3_unlikeness_3 rfl ?_
  refine e_callV1 (μ' := mX3_filled) (ci := 3) (As := []) dX3_unlikeness_4 wl_X3_118 ok_X3_filled rfl rfl (by decide) (by decide) (Nat.le_of_ble_eq_true rfl) fx_n1 (s_X3_filled (m := m) hL hnp h8) rfl ?_
  refine e_imul dX3_unlikeness_7 ?_
  refine e_aload_n dX3_unlikeness_8 rfl ?_
  refine e_getr (o2 := 54) dX3_unlikeness_9 ff_X3_13 rfl (by decide) (by decide) rfl (hL _ _ _ rfl) ?_
  refine e_aload_n dX3_unlikeness_12 rfl ?_
  refine e_callV1 (μ' := mX3_all) (ci := 3) (As := []) dX3_unlikeness_13 wl_X3_63 ok_X3_all rfl rfl (by decide) (by decide) (Nat.le_of_ble_eq_true rfl) fx_n1 (s_X3_all (m := m) hL hnp h8) rfl ?_
  refine e_iald (j := 2 ^ np - 1) dX3_unlikeness_16 rfl (by decide) rfl (by omega) (by decide) ?_
  refine e_isub dX3_unlikeness_17 ?_
  exact e_iret dX3_unlikeness_18 rfl rfl rfl ⟨rfl, rfl⟩
set_option maxRecDepth 100000 in
set_option maxHeartbeats 600000 in
theorem s_X3_bestWith {Γ : fx_G} {m : fx_M} (hL : fx_Lay m) {np : Nat} (hnp : m.1 53 9 = nI np) (h8 : np ≤ 8) {r len b s t ab : Nat} (hr : fx_shapes[r]? = some (0, len)) (hrl : r < 119) (hlen : len < 10000) (hb : b + 256 ≤ len) (hs : s < 2 ^ np) (ht : t < 10) (hab : m.1 60 t = nI ab) (habl : ab < 256) : fx_Ct Γ mX3_bestWith 1 119 119 [fx_rf Γ 53, fx_rf Γ r, .int (nI b), .int (nI s), .int (nI t)] m (fx_is (some (.int (p_bw (m.1 r) (fun p => m.1 61 (t * 8 + p)) b s ab np))) m) := by
  refine fx_Ct.of (j := 3) (by decide) (Nat.le_of_ble_eq_true rfl) (Nat.le_of_ble_eq_true rfl) ?_
  show fx_E Γ mX3_bestWith 1 119 119 _ 119 m 0 [some (fx_rf Γ 53), some (fx_rf Γ r), some (.int (nI b)), some (.int (nI s)), some (.int (nI t)), none, none, none] []
  have h2 := p_256 h8
  have hsab : s &&& ab < 256 := Nat.lt_of_le_of_lt Nat.and_le_right habl
  have lp : ∀ (j : Nat) (k : Nat) (z : Int32), k + j = np → fx_E Γ mX3_bestWith 1 119 119 (fx_is (some (.int (p_fold (p_bw1 (m.1 r) (fun p => m.1 61 (t * 8 + p)) b s ab) j k z))) m) 119 m 21 [some (fx_rf Γ 53), some (fx_rf Γ r), some (.int (nI b)), some (.int (nI s)), some (.int (nI t)), some (.int z), some (.int (nI (s &&& ab))), some (.int (nI k))] [] := by
    intro j
    induction j with
    | zero =>
      intro k z hk
      have h2 := p_256 h8
      have hsab : s &&& ab < 256 := Nat.lt_of_le_of_lt Nat.and_le_right habl
      refine e_iload dX3_bestWith_21 rfl ?_
      refine e_aload_n dX3_bestWith_23 rfl ?_
      refine e_getv (v := nI np) dX3_bestWith_24 ff_X3_45 rfl (by decide) (by decide) rfl hnp ?_
      refine e_icmp_ge 77 dX3_bestWith_27 rfl (fun _ => ?_) (fun h => absurd (nI_le (by omega) (by omega)) h)
      refine e_iload dX3_bestWith_77 rfl ?_
      exact e_iret dX3_bestWith_79 rfl rfl rfl ⟨rfl, rfl⟩
    | succ j ih =>
      intro k z hk
      have h2 := p_256 h8
      have hsab : s &&& ab < 256 := Nat.lt_of_le_of_lt Nat.and_le_right habl
      refine e_iload dX3_bestWith_21 rfl ?_
      refine e_aload_n dX3_bestWith_23 rfl ?_
      refine e_getv (v := nI np) dX3_bestWith_24 ff_X3_45 rfl (by decide) (by decide) rfl hnp ?_
      refine e_icmp_ge 77 dX3_bestWith_27 rfl (fun h => absurd h (nI_ge (by omega) (by omega))) (fun _ => ?_)
      refine e_iload dX3_bestWith_30 rfl ?_
      refine e_iload dX3_bestWith_32 rfl ?_
      refine e_ishr dX3_bestWith_34 ?_
      refine e_iconst dX3_bestWith_35 kci_1 ?_
      refine e_iand dX3_bestWith_36 ?_
      refine e_if_eq 71 dX3_bestWith_37 rfl (fun c_b => ?_) (fun c_b => ?_)
      · refine e_iinc (v := nI (k + 1)) dX3_bestWith_71 rfl (fx_inc _) (by decide) rfl ?_
        refine e_goto 21 dX3_bestWith_74 rfl ?_
        rw [p_fold_s (p_bw1_n (R := m.1 r) (w := (fun p => m.1 61 (t * 8 + p))) (b := b) ((i_bit0 (by omega) (by omega)).mp c_b))]
        exact ih (k + 1) _ (by omega)
      · refine e_iload dX3_bestWith_40 rfl ?_
        refine e_aload_n dX3_bestWith_42 rfl ?_
        refine e_getr (o2 := 61) dX3_bestWith_43 ff_X3_35 rfl (by decide) (by decide) rfl (hL _ _ _ rfl) ?_
        refine e_iload dX3_bestWith_46 rfl ?_
        refine e_bipush dX3_bestWith_48 kcb_8 ?_
        refine e_imul dX3_bestWith_50 ?_
        refine e_iload dX3_bestWith_51 rfl ?_
        refine e_iadd dX3_bestWith_53 ?_
        rw [i_8]
        refine e_iald (j := t * 8 + k) dX3_bestWith_54 rfl (by decide) rfl (by omega) (by decide) ?_
        refine e_aload_n dX3_bestWith_55 rfl ?_
        refine e_iload_n dX3_bestWith_56 rfl ?_
        refine e_iload_n dX3_bestWith_57 rfl ?_
        refine e_iconst dX3_bestWith_58 kci_1 ?_
        refine e_iload dX3_bestWith_59 rfl ?_
        refine e_ishl dX3_bestWith_61 ?_
        refine e_ixor dX3_bestWith_62 ?_
        refine e_iadd dX3_bestWith_63 ?_
        rw [i_shl1 (by omega), i_xor, nI_add]
        have hxl := p_xor_lt (p := k) hs (by omega)
        refine e_iald (j := b + (s ^^^ 2 ^ k)) dX3_bestWith_64 hr hrl rfl (by omega) (by omega) ?_
        refine e_iadd dX3_bestWith_65 ?_
        refine e_maxP dX3_bestWith_66 wl_X3_109 wt_J9_max_7cf53 wz_Math fx_wmax (by decide) (Nat.le_of_ble_eq_true rfl) ?_
        refine e_istore dX3_bestWith_69 (by decide) rfl ?_
        refine e_iinc (v := nI (k + 1)) dX3_bestWith_71 rfl (fx_inc _) (by decide) rfl ?_
        refine e_goto 21 dX3_bestWith_74 rfl ?_
        rw [p_fold_s (p_bw1_y (R := m.1 r) (w := (fun p => m.1 61 (t * 8 + p))) (b := b) (i_bit1 (by omega) (by omega) c_b))]
        exact ih (k + 1) _ (by omega)
  refine e_aload_n dX3_bestWith_0 rfl ?_
  refine e_iload_n dX3_bestWith_1 rfl ?_
  refine e_iload_n dX3_bestWith_2 rfl ?_
  refine e_iadd dX3_bestWith_3 ?_
  rw [nI_add]
  refine e_iald (j := b + s) dX3_bestWith_4 hr hrl rfl (by omega) (by omega) ?_
  refine e_istore dX3_bestWith_5 (by decide) rfl ?_
  refine e_iload_n dX3_bestWith_7 rfl ?_
  refine e_aload_n dX3_bestWith_8 rfl ?_
  refine e_getr (o2 := 60) dX3_bestWith_9 ff_X3_32 rfl (by decide) (by decide) rfl (hL _ _ _ rfl) ?_
  refine e_iload dX3_bestWith_12 rfl ?_
  refine e_ialdv (j := t) (v := nI ab) dX3_bestWith_14 rfl (by decide) rfl (by omega) (by decide) hab ?_
  refine e_iand dX3_bestWith_15 ?_
  rw [i_and]
  refine e_istore dX3_bestWith_16 (by decide) rfl ?_
  refine e_iconst dX3_bestWith_18 kci_0 ?_
  refine e_istore dX3_bestWith_19 (by decide) rfl ?_
  exact lp np 0 _ (by omega)
