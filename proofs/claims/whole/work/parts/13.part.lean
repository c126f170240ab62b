/-! the parting: places, slots; R a table's row, W the worths, able a slot's places -/
def p_bw1 (R : Nat → Int32) (w : Nat → Int32) (b s a p : Nat) (z : Int32) : Int32 := if (s &&& a).testBit p = true then p_max z (w p + R (b + (s ^^^ 2 ^ p))) else z
def p_bw (R : Nat → Int32) (w : Nat → Int32) (b s a np : Nat) : Int32 := p_fold (p_bw1 R w b s a) np 0 (R (b + s))
theorem p_bw1_y {R w : Nat → Int32} {b s a p : Nat} {z : Int32} (h : (s &&& a).testBit p = true) : p_bw1 R w b s a p z = p_max z (w p + R (b + (s ^^^ 2 ^ p))) := if_pos h
theorem p_bw1_n {R w : Nat → Int32} {b s a p : Nat} {z : Int32} (h : (s &&& a).testBit p = false) : p_bw1 R w b s a p z = z := if_neg (by rw [h]; decide)
theorem i_and {a b : Nat} : nI a &&& nI b = nI (a &&& b) := fa_and a b
theorem i_xor {a b : Nat} : nI a ^^^ nI b = nI (a ^^^ b) := fb_xorI a b
theorem i_mulc (a c : Nat) : nI a * nI c = nI (a * c) := pk_mul a c
theorem p_xor_lt {s p n : Nat} (hs : s < 2 ^ n) (hp : p < n) : s ^^^ 2 ^ p < 2 ^ n := Nat.xor_lt_two_pow hs (Nat.pow_lt_pow_right (by decide) hp)
theorem p_256 {n : Nat} (h : n ≤ 8) : 2 ^ n ≤ 256 := Nat.pow_le_pow_right (n := 2) (by decide) h
theorem i_8 (t p : Nat) : nI t * 8 + nI p = nI (t * 8 + p) := by rw [show (8 : Int32) = nI 8 from rfl, i_mulc, nI_add]
theorem i_256 (t s : Nat) : nI t * 256 + nI s = nI (t * 256 + s) := by rw [show (256 : Int32) = nI 256 from rfl, i_mulc, nI_add]
set_option maxRecDepth 100000 in
set_option maxHeartbeats 600000 in
theorem s_X3_all {Γ : fx_G} {m : fx_M} (hL : fx_Lay m) {np : Nat} (hnp : m.1 53 9 = nI np) (h8 : np ≤ 8) : fx_Ct Γ mX3_all 0 119 119 [fx_rf Γ 53] m (fx_is (some (.int (nI (2 ^ np - 1)))) m) := by
  refine fx_Ct.of (j := 0) (by decide) (Nat.le_of_ble_eq_true rfl) (Nat.le_of_ble_eq_true rfl) ?_
  show fx_E Γ mX3_all 0 119 119 _ 119 m 0 [some (fx_rf Γ 53)] []
  refine e_iconst dX3_all_0 kci_1 ?_
  refine e_aload_n dX3_all_1 rfl ?_
  refine e_getv (v := nI np) dX3_all_2 ff_X3_45 rfl (fx_pi_lt (by decide)) (by decide) rfl hnp ?_
  refine e_ishl dX3_all_5 ?_
  rw [i_shl1 (by omega)]
  refine e_iconst dX3_all_6 kci_1 ?_
  refine e_isub dX3_all_7 ?_
  rw [p_all np Nat.one_le_two_pow]
  exact e_iret dX3_all_8 rfl rfl rfl ⟨rfl, rfl⟩
set_option maxRecDepth 100000 in
set_option maxHeartbeats 600000 in
theorem s_X3_filledBy {Γ : fx_G} {m : fx_M} (v : Int32) : fx_Ct Γ mX3_filledBy 0 119 119 [.int v] m (fx_is (some (.int ((v + 1000 - 1) / 1000))) m) := by
  refine fx_Ct.of (j := 0) (by decide) (Nat.le_of_ble_eq_true rfl) (Nat.le_of_ble_eq_true rfl) ?_
  show fx_E Γ mX3_filledBy 0 119 119 _ 119 m 0 [some (.int v)] []
  refine e_iload_n dX3_filledBy_0 rfl ?_
  refine e_sipush dX3_filledBy_1 kcs_1000 ?_
  refine e_iadd dX3_filledBy_4 ?_
  refine e_iconst dX3_filledBy_5 kci_1 ?_
  refine e_isub dX3_filledBy_6 ?_
  refine e_sipush dX3_filledBy_7 kcs_1000 ?_
  refine e_idiv dX3_filledBy_10 (by decide) ?_
  exact e_iret dX3_filledBy_11 rfl rfl rfl ⟨rfl, rfl⟩
set_option maxRecDepth 100000 in
set_option maxHeartbeats 600000 in
theorem s_X3_filled {Γ : fx_G} {m : fx_M} (hL : fx_Lay m) {np : Nat} (hnp : m.1 53 9 = nI np) (h8 : np ≤ 8) : fx_Ct Γ mX3_filled 2 119 119 [fx_rf Γ 53] m (fx_is (some (.int ((m.1 54 (2 ^ np - 1) + 1000 - 1) / 1000))) m) := by
  refine fx_Ct.of (j := 0) (by decide) (Nat.le_of_ble_eq_true rfl) (Nat.le_of_ble_eq_true rfl) ?_
  show fx_E Γ mX3_filled 2 119 119 _ 119 m 0 [some (fx_rf Γ 53)] []
  have h2 := p_256 h8
  refine e_aload_n dX3_filled_0 rfl ?_
  refine e_getr (o2 := 54) dX3_filled_1 ff_X3_13 rfl (fx_pi_lt (by decide)) (by decide) rfl (hL _ _ _ rfl) ?_
  refine e_aload_n dX3_filled_4 rfl ?_
  refine e_callV1 (μ' := mX3_all) (ci := 3) (As := []) dX3_filled_5 wl_X3_63 ok_X3_all rfl rfl (fx_pi_lt (by decide)) (by decide) (Nat.le_of_ble_eq_true rfl) fx_n1 (s_X3_all (m := m) hL hnp h8) rfl ?_
  refine e_iald (j := 2 ^ np - 1) dX3_filled_8 rfl (fx_pi_lt (by decide)) rfl (by omega) (by decide) ?_
  refine e_callS1 (μ' := mX3_filledBy) (As := [.int (m.1 54 (2 ^ np - 1))]) dX3_filled_9 wl_X3_114 ok_X3_filledBy (by decide) (Nat.le_of_ble_eq_true rfl) fx_n1 (s_X3_filledBy (m := m) (m.1 54 (2 ^ np - 1))) rfl ?_
  exact e_iret dX3_filled_12 rfl rfl rfl ⟨rfl, rfl⟩
set_option maxRecDepth 100000 in
set_option maxHeartbeats 600000 in
theorem s_X3_unlikeness {Γ : fx_G} {m : fx_M} (hL : fx_Lay m) {np : Nat} (hnp : m.1 53 9 = nI np) (h8 : np ≤ 8) : fx_Ct Γ mX3_unlikeness 3 119 119 [fx_rf Γ 53] m (fx_is (some (.int (1000 * ((m.1 54 (2 ^ np - 1) + 1000 - 1) / 1000) - m.1 54 (2 ^ np - 1)))) m) := by
  refine fx_Ct.of (j := 0) (by decide) (Nat.le_of_ble_eq_true rfl) (Nat.le_of_ble_eq_true rfl) ?_
  show fx_E Γ mX3_unlikeness 3 119 119 _ 119 m 0 [some (fx_rf Γ 53)] []
  have h2 := p_256 h8
  refine e_sipush dX3_unlikeness_0 kcs_1000 ?_
  refine e_aload_n dX3_unlikeness_3 rfl ?_
  refine e_callV1 (μ' := mX3_filled) (ci := 3) (As := []) dX3_unlikeness_4 wl_X3_118 ok_X3_filled rfl rfl (fx_pi_lt (by decide)) (by decide) (Nat.le_of_ble_eq_true rfl) fx_n1 (s_X3_filled (m := m) hL hnp h8) rfl ?_
  refine e_imul dX3_unlikeness_7 ?_
  refine e_aload_n dX3_unlikeness_8 rfl ?_
  refine e_getr (o2 := 54) dX3_unlikeness_9 ff_X3_13 rfl (fx_pi_lt (by decide)) (by decide) rfl (hL _ _ _ rfl) ?_
  refine e_aload_n dX3_unlikeness_12 rfl ?_
  refine e_callV1 (μ' := mX3_all) (ci := 3) (As := []) dX3_unlikeness_13 wl_X3_63 ok_X3_all rfl rfl (fx_pi_lt (by decide)) (by decide) (Nat.le_of_ble_eq_true rfl) fx_n1 (s_X3_all (m := m) hL hnp h8) rfl ?_
  refine e_iald (j := 2 ^ np - 1) dX3_unlikeness_16 rfl (fx_pi_lt (by decide)) rfl (by omega) (by decide) ?_
  refine e_isub dX3_unlikeness_17 ?_
  exact e_iret dX3_unlikeness_18 rfl rfl rfl ⟨rfl, rfl⟩
set_option maxRecDepth 100000 in
set_option maxHeartbeats 600000 in
theorem s_X3_bestWith {Γ : fx_G} {m : fx_M} (hL : fx_Lay m) {np : Nat} (hnp : m.1 53 9 = nI np) (h8 : np ≤ 8) {r len b s t ab : Nat} (hr : fx_shapes[r]? = some (0, len)) (hrl : r < 119) (hlen : len < 10000) (hb : b + 256 ≤ len) (hs : s < 2 ^ np) (ht : t < 10) (hab : m.1 60 t = nI ab) (habl : ab < 256) : fx_Ct Γ mX3_bestWith 1 119 119 [fx_rf Γ 53, fx_rf Γ r, .int (nI b), .int (nI s), .int (nI t)] m (fx_is (some (.int (p_bw (m.1 r) (fun p => m.1 61 (t * 8 + p)) b s ab np))) m) := by
  refine fx_Ct.of (j := 3) (by decide) (Nat.le_of_ble_eq_true rfl) (Nat.le_of_ble_eq_true rfl) ?_
  show fx_E Γ mX3_bestWith 1 119 119 _ 119 m 0 [some (fx_rf Γ 53), some (fx_rf Γ r), some (.int (nI b)), some (.int (nI s)), some (.int (nI t)), none, none, none] []
  have h2 := p_256 h8
  have hsab : s &&& ab < 256 := Nat.lt_of_le_of_lt Nat.and_le_right habl
  have lp : ∀ (j : Nat) (k : Nat) (z : Int32), k + j = np → fx_E Γ mX3_bestWith 1 119 119 (fx_is (some (.int (p_fold (p_bw1 (m.1 r) (fun p => m.1 61 (t * 8 + p)) b s ab) j k z))) m) 119 m 21 [some (fx_rf Γ 53), some (fx_rf Γ r), some (.int (nI b)), some (.int (nI s)), some (.int (nI t)), some (.int z), some (.int (nI (s &&& ab))), some (.int (nI k))] [] := by
    intro j
    induction j with
    | zero =>
      intro k z hk
      have h2 := p_256 h8
      have hsab : s &&& ab < 256 := Nat.lt_of_le_of_lt Nat.and_le_right habl
      refine e_iload dX3_bestWith_21 rfl ?_
      refine e_aload_n dX3_bestWith_23 rfl ?_
      refine e_getv (v := nI np) dX3_bestWith_24 ff_X3_45 rfl (fx_pi_lt (by decide)) (by decide) rfl hnp ?_
      refine e_icmp_ge 77 dX3_bestWith_27 rfl (fun _ => ?_) (fun h => absurd (nI_le (by omega) (by omega)) h)
      refine e_iload dX3_bestWith_77 rfl ?_
      exact e_iret dX3_bestWith_79 rfl rfl rfl ⟨rfl, rfl⟩
    | succ j ih =>
      intro k z hk
      have h2 := p_256 h8
      have hsab : s &&& ab < 256 := Nat.lt_of_le_of_lt Nat.and_le_right habl
      refine e_iload dX3_bestWith_21 rfl ?_
      refine e_aload_n dX3_bestWith_23 rfl ?_
      refine e_getv (v := nI np) dX3_bestWith_24 ff_X3_45 rfl (fx_pi_lt (by decide)) (by decide) rfl hnp ?_
      refine e_icmp_ge 77 dX3_bestWith_27 rfl (fun h => absurd h (nI_ge (by omega) (by omega))) (fun _ => ?_)
      refine e_iload dX3_bestWith_30 rfl ?_
      refine e_iload dX3_bestWith_32 rfl ?_
      refine e_ishr dX3_bestWith_34 ?_
      refine e_iconst dX3_bestWith_35 kci_1 ?_
      refine e_iand dX3_bestWith_36 ?_
      refine e_if_eq 71 dX3_bestWith_37 rfl (fun c_b => ?_) (fun c_b => ?_)
      · refine e_iinc (v := nI (k + 1)) dX3_bestWith_71 rfl (fx_inc _) (by decide) rfl ?_
        refine e_goto 21 dX3_bestWith_74 rfl ?_
        rw [p_fold_s (p_bw1_n (R := m.1 r) (w := (fun p => m.1 61 (t * 8 + p))) (b := b) ((i_bit0 (by omega) (by omega)).mp c_b))]
        exact ih (k + 1) _ (by omega)
      · refine e_iload dX3_bestWith_40 rfl ?_
        refine e_aload_n dX3_bestWith_42 rfl ?_
        refine e_getr (o2 := 61) dX3_bestWith_43 ff_X3_35 rfl (fx_pi_lt (by decide)) (by decide) rfl (hL _ _ _ rfl) ?_
        refine e_iload dX3_bestWith_46 rfl ?_
        refine e_bipush dX3_bestWith_48 kcb_8 ?_
        refine e_imul dX3_bestWith_50 ?_
        refine e_iload dX3_bestWith_51 rfl ?_
        refine e_iadd dX3_bestWith_53 ?_
        rw [i_8]
        refine e_iald (j := t * 8 + k) dX3_bestWith_54 rfl (fx_pi_lt (by decide)) rfl (by omega) (by decide) ?_
        refine e_aload_n dX3_bestWith_55 rfl ?_
        refine e_iload_n dX3_bestWith_56 rfl ?_
        refine e_iload_n dX3_bestWith_57 rfl ?_
        refine e_iconst dX3_bestWith_58 kci_1 ?_
        refine e_iload dX3_bestWith_59 rfl ?_
        refine e_ishl dX3_bestWith_61 ?_
        refine e_ixor dX3_bestWith_62 ?_
        refine e_iadd dX3_bestWith_63 ?_
        rw [i_shl1 (by omega), i_xor, nI_add]
        have hxl := p_xor_lt (p := k) hs (by omega)
        refine e_iald (j := b + (s ^^^ 2 ^ k)) dX3_bestWith_64 hr (fx_pi_lt hrl) rfl (by omega) (by omega) ?_
        refine e_iadd dX3_bestWith_65 ?_
        refine e_maxP dX3_bestWith_66 wl_X3_109 wt_J9_max_7cf53 wz_Math fx_wmax (by decide) (Nat.le_of_ble_eq_true rfl) ?_
        refine e_istore dX3_bestWith_69 (by decide) rfl ?_
        refine e_iinc (v := nI (k + 1)) dX3_bestWith_71 rfl (fx_inc _) (by decide) rfl ?_
        refine e_goto 21 dX3_bestWith_74 rfl ?_
        rw [p_fold_s (p_bw1_y (R := m.1 r) (w := (fun p => m.1 61 (t * 8 + p))) (b := b) (i_bit1 (by omega) (by omega) c_b))]
        exact ih (k + 1) _ (by omega)
  refine e_aload_n dX3_bestWith_0 rfl ?_
  refine e_iload_n dX3_bestWith_1 rfl ?_
  refine e_iload_n dX3_bestWith_2 rfl ?_
  refine e_iadd dX3_bestWith_3 ?_
  rw [nI_add]
  refine e_iald (j := b + s) dX3_bestWith_4 hr (fx_pi_lt hrl) rfl (by omega) (by omega) ?_
  refine e_istore dX3_bestWith_5 (by decide) rfl ?_
  refine e_iload_n dX3_bestWith_7 rfl ?_
  refine e_aload_n dX3_bestWith_8 rfl ?_
  refine e_getr (o2 := 60) dX3_bestWith_9 ff_X3_32 rfl (fx_pi_lt (by decide)) (by decide) rfl (hL _ _ _ rfl) ?_
  refine e_iload dX3_bestWith_12 rfl ?_
  refine e_ialdv (j := t) (v := nI ab) dX3_bestWith_14 rfl (fx_pi_lt (by decide)) rfl (by omega) (by decide) hab ?_
  refine e_iand dX3_bestWith_15 ?_
  rw [i_and]
  refine e_istore dX3_bestWith_16 (by decide) rfl ?_
  refine e_iconst dX3_bestWith_18 kci_0 ?_
  refine e_istore dX3_bestWith_19 (by decide) rfl ?_
  exact lp np 0 _ (by omega)
abbrev p_fpP (W B : Nat → Int32) (ab t s p : Nat) : Prop := (s &&& ab).testBit p = true ∧ W (t * 8 + p) + B ((t + 1) * 256 + (s ^^^ 2 ^ p)) = B (t * 256 + s)
/-- the first place for slot t out of the set s -/
def p_fp (W B : Nat → Int32) (ab np t s : Nat) : Option Nat := p_fd (p_fpP W B ab t s) np 0
theorem p_fp_lt {W B : Nat → Int32} {ab np t s p : Nat} (h : p_fp W B ab np t s = some p) : p < np ∧ p_fpP W B ab t s p := by
  have := p_fd_some h
  exact ⟨by omega, this.2.2⟩
theorem p_fd_y {P : Nat → Prop} [DecidablePred P] {j k : Nat} (h : P k) : p_fd P (j + 1) k = some k := if_pos h
theorem p_fd_n {P : Nat → Prop} [DecidablePred P] {j k : Nat} (h : ¬ P k) : p_fd P (j + 1) k = p_fd P j (k + 1) := if_neg h
set_option maxRecDepth 100000 in
set_option maxHeartbeats 600000 in
theorem s_X3_firstPlace {Γ : fx_G} {m : fx_M} (hL : fx_Lay m) {np : Nat} (hnp : m.1 53 9 = nI np) (h8 : np ≤ 8) {t s ab : Nat} (ht : t < 10) (hs : s < 2 ^ np) (hab : m.1 60 t = nI ab) (habl : ab < 256) : fx_Ct Γ mX3_firstPlace 0 119 119 [fx_rf Γ 53, .int (nI t), .int (nI s)] m (fx_is (some (.int (p_oi (p_fp (m.1 61) (m.1 54) ab np t s)))) m) := by
  refine fx_Ct.of (j := 3) (by decide) (Nat.le_of_ble_eq_true rfl) (Nat.le_of_ble_eq_true rfl) ?_
  show fx_E Γ mX3_firstPlace 0 119 119 _ 119 m 0 [some (fx_rf Γ 53), some (.int (nI t)), some (.int (nI s)), none, none, none] []
  have lp : ∀ (j : Nat) (k : Nat), k + j = np → fx_E Γ mX3_firstPlace 0 119 119 (fx_is (some (.int (p_oi (p_fd (p_fpP (m.1 61) (m.1 54) ab t s) j k)))) m) 119 m 12 [some (fx_rf Γ 53), some (.int (nI t)), some (.int (nI s)), some (.int (nI (s &&& ab))), some (.int (nI k)), none] [] := by
    intro j
    induction j with
    | zero =>
      intro k hk
      have h2 := p_256 h8
      have hsab : s &&& ab < 256 := Nat.lt_of_le_of_lt Nat.and_le_right habl
      refine e_iload dX3_firstPlace_12 rfl ?_
      refine e_aload_n dX3_firstPlace_14 rfl ?_
      refine e_getv (v := nI np) dX3_firstPlace_15 ff_X3_45 rfl (fx_pi_lt (by decide)) (by decide) rfl hnp ?_
      refine e_icmp_ge 90 dX3_firstPlace_18 rfl (fun _ => ?_) (fun h => absurd (nI_le (by omega) (by omega)) h)
      refine e_iconst dX3_firstPlace_90 kci_m1 ?_
      exact e_iret dX3_firstPlace_91 rfl rfl rfl ⟨rfl, rfl⟩
    | succ j ih =>
      intro k hk
      have h2 := p_256 h8
      have hsab : s &&& ab < 256 := Nat.lt_of_le_of_lt Nat.and_le_right habl
      refine e_iload dX3_firstPlace_12 rfl ?_
      refine e_aload_n dX3_firstPlace_14 rfl ?_
      refine e_getv (v := nI np) dX3_firstPlace_15 ff_X3_45 rfl (fx_pi_lt (by decide)) (by decide) rfl hnp ?_
      refine e_icmp_ge 90 dX3_firstPlace_18 rfl (fun h => absurd h (nI_ge (by omega) (by omega))) (fun _ => ?_)
      refine e_iload_n dX3_firstPlace_21 rfl ?_
      refine e_iload dX3_firstPlace_22 rfl ?_
      refine e_ishr dX3_firstPlace_24 ?_
      refine e_iconst dX3_firstPlace_25 kci_1 ?_
      refine e_iand dX3_firstPlace_26 ?_
      refine e_if_eq 84 dX3_firstPlace_27 rfl (fun c_b => ?_) (fun c_b => ?_)
      · refine e_iinc (v := nI (k + 1)) dX3_firstPlace_84 rfl (fx_inc _) (by decide) rfl ?_
        refine e_goto 12 dX3_firstPlace_87 rfl ?_
        refine e_weak (lv2 := [some (fx_rf Γ 53), some (.int (nI t)), some (.int (nI s)), some (.int (nI (s &&& ab))), some (.int (nI (k + 1))), none]) ⟨rfl, rfl, rfl, rfl, rfl, trivial⟩ ?_
        rw [p_fd_n (P := (p_fpP (m.1 61) (m.1 54) ab t s)) (fun h => by have h1 := h.1; rw [(i_bit0 (by omega) (by omega)).mp c_b] at h1; exact absurd h1 (by decide))]
        exact ih (k + 1) (by omega)
      · refine e_aload_n dX3_firstPlace_30 rfl ?_
        refine e_getr (o2 := 61) dX3_firstPlace_31 ff_X3_35 rfl (fx_pi_lt (by decide)) (by decide) rfl (hL _ _ _ rfl) ?_
        refine e_iload_n dX3_firstPlace_34 rfl ?_
        refine e_bipush dX3_firstPlace_35 kcb_8 ?_
        refine e_imul dX3_firstPlace_37 ?_
        refine e_iload dX3_firstPlace_38 rfl ?_
        refine e_iadd dX3_firstPlace_40 ?_
        rw [i_8]
        refine e_iald (j := t * 8 + k) dX3_firstPlace_41 rfl (fx_pi_lt (by decide)) rfl (by omega) (by decide) ?_
        refine e_aload_n dX3_firstPlace_42 rfl ?_
        refine e_getr (o2 := 54) dX3_firstPlace_43 ff_X3_13 rfl (fx_pi_lt (by decide)) (by decide) rfl (hL _ _ _ rfl) ?_
        refine e_iload_n dX3_firstPlace_46 rfl ?_
        refine e_iconst dX3_firstPlace_47 kci_1 ?_
        refine e_iadd dX3_firstPlace_48 ?_
        refine e_sipush dX3_firstPlace_49 kcs_256 ?_
        refine e_imul dX3_firstPlace_52 ?_
        refine e_iload_n dX3_firstPlace_53 rfl ?_
        refine e_iconst dX3_firstPlace_54 kci_1 ?_
        refine e_iload dX3_firstPlace_55 rfl ?_
        refine e_ishl dX3_firstPlace_57 ?_
        refine e_ixor dX3_firstPlace_58 ?_
        refine e_iadd dX3_firstPlace_59 ?_
        rw [nI_1, show nI (t + 1) * 256 = nI ((t + 1) * 256) from i_mulc _ _, i_shl1 (by omega), i_xor, nI_add]
        have hxl := p_xor_lt (p := k) hs (by omega)
        refine e_iald (j := (t + 1) * 256 + (s ^^^ 2 ^ k)) dX3_firstPlace_60 rfl (fx_pi_lt (by decide)) rfl (by omega) (by decide) ?_
        refine e_iadd dX3_firstPlace_61 ?_
        refine e_istore dX3_firstPlace_62 (by decide) rfl ?_
        refine e_iload dX3_firstPlace_64 rfl ?_
        refine e_aload_n dX3_firstPlace_66 rfl ?_
        refine e_getr (o2 := 54) dX3_firstPlace_67 ff_X3_13 rfl (fx_pi_lt (by decide)) (by decide) rfl (hL _ _ _ rfl) ?_
        refine e_iload_n dX3_firstPlace_70 rfl ?_
        refine e_sipush dX3_firstPlace_71 kcs_256 ?_
        refine e_imul dX3_firstPlace_74 ?_
        refine e_iload_n dX3_firstPlace_75 rfl ?_
        refine e_iadd dX3_firstPlace_76 ?_
        rw [i_256]
        refine e_iald (j := t * 256 + s) dX3_firstPlace_77 rfl (fx_pi_lt (by decide)) rfl (by omega) (by decide) ?_
        refine e_icmp_ne 84 dX3_firstPlace_78 rfl (fun c_v => ?_) (fun c_v => ?_)
        · refine e_iinc (v := nI (k + 1)) dX3_firstPlace_84 rfl (fx_inc _) (by decide) rfl ?_
          refine e_goto 12 dX3_firstPlace_87 rfl ?_
          refine e_weak (lv2 := [some (fx_rf Γ 53), some (.int (nI t)), some (.int (nI s)), some (.int (nI (s &&& ab))), some (.int (nI (k + 1))), none]) ⟨rfl, rfl, rfl, rfl, rfl, trivial⟩ ?_
          rw [p_fd_n (P := (p_fpP (m.1 61) (m.1 54) ab t s)) (fun h => c_v h.2)]
          exact ih (k + 1) (by omega)
        · refine e_iload dX3_firstPlace_81 rfl ?_
          exact e_iret dX3_firstPlace_83 rfl rfl rfl ⟨by rw [p_fd_y (P := (p_fpP (m.1 61) (m.1 54) ab t s)) ⟨i_bit1 (by omega) (by omega) c_b, c_v⟩]; rfl, rfl⟩
  refine e_iload_n dX3_firstPlace_0 rfl ?_
  refine e_aload_n dX3_firstPlace_1 rfl ?_
  refine e_getr (o2 := 60) dX3_firstPlace_2 ff_X3_32 rfl (fx_pi_lt (by decide)) (by decide) rfl (hL _ _ _ rfl) ?_
  refine e_iload_n dX3_firstPlace_5 rfl ?_
  refine e_ialdv (j := t) (v := nI ab) dX3_firstPlace_6 rfl (fx_pi_lt (by decide)) rfl (by omega) (by decide) hab ?_
  refine e_iand dX3_firstPlace_7 ?_
  rw [i_and]
  refine e_istore_n dX3_firstPlace_8 (by decide) rfl ?_
  refine e_iconst dX3_firstPlace_9 kci_0 ?_
  refine e_istore dX3_firstPlace_10 (by decide) rfl ?_
  exact lp np 0 (by omega)
def p_oa (a : Nat → Int32) : Option Nat → Int32 | none => -1 | some p => a p
def p_afs (W B dl sd : Nat → Int32) (ab : Nat → Nat) (np : Nat) (a : Nat → Int32) (d e : Int32) : Nat → Nat → Nat → Int32
  | 0, _, _ => -1
  | j + 1, t, s => if dl t = d ∧ sd t = e then p_oa a (p_fp W B (ab t) np t s) else p_afs W B dl sd ab np a d e j (t + 1) (match p_fp W B (ab t) np t s with | none => s | some p => s ^^^ 2 ^ p)
set_option maxRecDepth 100000 in
set_option maxHeartbeats 600000 in
theorem s_X3_armForSide {Γ : fx_G} {m : fx_M} (hL : fx_Lay m) {np : Nat} (hnp : m.1 53 9 = nI np) (h8 : np ≤ 8) {ns : Nat} (hns : m.1 53 10 = nI ns) (h10 : ns ≤ 10) {ab : Nat → Nat} (hab : ∀ t, t < ns → m.1 60 t = nI (ab t) ∧ ab t < 256) (d e : Int32) : fx_Ct Γ mX3_armForSide 1 119 119 [fx_rf Γ 53, .int d, .int e] m (fx_is (some (.int (p_afs (m.1 61) (m.1 54) (m.1 58) (m.1 59) ab np (m.1 57) d e ns 0 (2 ^ np - 1)))) m) := by
  refine fx_Ct.of (j := 3) (by decide) (Nat.le_of_ble_eq_true rfl) (Nat.le_of_ble_eq_true rfl) ?_
  show fx_E Γ mX3_armForSide 1 119 119 _ 119 m 0 [some (fx_rf Γ 53), some (.int d), some (.int e), none, none, none] []
  have h2 := p_256 h8
  have lp : ∀ (j : Nat) (t s : Nat), t + j = ns → s < 2 ^ np → fx_E Γ mX3_armForSide 1 119 119 (fx_is (some (.int (p_afs (m.1 61) (m.1 54) (m.1 58) (m.1 59) ab np (m.1 57) d e j t s))) m) 119 m 8 [some (fx_rf Γ 53), some (.int d), some (.int e), some (.int (nI s)), some (.int (nI t)), none] [] := by
    intro j
    induction j with
    | zero =>
      intro t s ht hs
      have h2 := p_256 h8
      refine e_iload dX3_armForSide_8 rfl ?_
      refine e_aload_n dX3_armForSide_10 rfl ?_
      refine e_getv (v := nI ns) dX3_armForSide_11 ff_X3_49 rfl (fx_pi_lt (by decide)) (by decide) rfl hns ?_
      refine e_icmp_ge 85 dX3_armForSide_14 rfl (fun _ => ?_) (fun h => absurd (nI_le (by omega) (by omega)) h)
      refine e_iconst dX3_armForSide_85 kci_m1 ?_
      exact e_iret dX3_armForSide_86 rfl rfl rfl ⟨by first | rfl | (rw [p_afs, if_pos ⟨c_d, c_e⟩, (p_oi_ne (fun x hx => by have := (p_fp_lt hx).1; omega)).mp c_n]; rfl), rfl⟩
    | succ j ih =>
      intro t s ht hs
      have h2 := p_256 h8
      refine e_iload dX3_armForSide_8 rfl ?_
      refine e_aload_n dX3_armForSide_10 rfl ?_
      refine e_getv (v := nI ns) dX3_armForSide_11 ff_X3_49 rfl (fx_pi_lt (by decide)) (by decide) rfl hns ?_
      refine e_icmp_ge 85 dX3_armForSide_14 rfl (fun h => absurd h (nI_ge (by omega) (by omega))) (fun _ => ?_)
      refine e_aload_n dX3_armForSide_17 rfl ?_
      refine e_iload dX3_armForSide_18 rfl ?_
      refine e_iload_n dX3_armForSide_20 rfl ?_
      refine e_callV1 (μ' := mX3_firstPlace) (ci := 3) (As := [.int (nI t), .int (nI s)]) dX3_armForSide_21 wl_X3_121 ok_X3_firstPlace rfl rfl (fx_pi_lt (by decide)) (by decide) (Nat.le_of_ble_eq_true rfl) fx_n1 (s_X3_firstPlace (m := m) hL hnp h8 (t := t) (s := s) (by omega) hs (hab t (by omega)).1 (hab t (by omega)).2) rfl ?_
      refine e_istore dX3_armForSide_24 (by decide) rfl ?_
      refine e_aload_n dX3_armForSide_26 rfl ?_
      refine e_getr (o2 := 58) dX3_armForSide_27 ff_X3_26 rfl (fx_pi_lt (by decide)) (by decide) rfl (hL _ _ _ rfl) ?_
      refine e_iload dX3_armForSide_30 rfl ?_
      refine e_iald (j := t) dX3_armForSide_32 rfl (fx_pi_lt (by decide)) rfl (by omega) (by decide) ?_
      refine e_iload_n dX3_armForSide_33 rfl ?_
      refine e_icmp_ne 66 dX3_armForSide_34 rfl (fun c_d => ?_) (fun c_d => ?_)
      · refine e_iload dX3_armForSide_66 rfl ?_
        refine e_iconst dX3_armForSide_68 kci_m1 ?_
        refine e_icmp_eq 79 dX3_armForSide_69 rfl (fun c_m => ?_) (fun c_m => ?_)
        · refine e_iinc (v := nI (t + 1)) dX3_armForSide_79 rfl (fx_inc _) (by decide) rfl ?_
          refine e_goto 8 dX3_armForSide_82 rfl ?_
          refine e_weak (lv2 := [some (fx_rf Γ 53), some (.int d), some (.int e), some (.int (nI s)), some (.int (nI (t + 1))), none]) ⟨rfl, rfl, rfl, rfl, rfl, trivial⟩ ?_
          rw [show p_afs (m.1 61) (m.1 54) (m.1 58) (m.1 59) ab np (m.1 57) d e (j + 1) t s = p_afs (m.1 61) (m.1 54) (m.1 58) (m.1 59) ab np (m.1 57) d e j (t + 1) s from by rw [p_afs, if_neg (by rintro ⟨h1, h2⟩; first | exact c_d h1 | exact c_e h2), (p_oi_ne (fun x hx => by have := (p_fp_lt hx).1; omega)).mp c_m]]
          exact ih (t + 1) _ (by omega) hs
        · obtain ⟨y, hy0⟩ : ∃ y, p_fp (m.1 61) (m.1 54) (ab t) np t s = some y := Option.ne_none_iff_exists'.mp (fun h => c_m (by rw [h]; rfl))
          have hy := p_fp_lt hy0
          rw [hy0]
          refine e_iload_n dX3_armForSide_72 rfl ?_
          refine e_iconst dX3_armForSide_73 kci_1 ?_
          refine e_iload dX3_armForSide_74 rfl ?_
          refine e_ishl dX3_armForSide_76 ?_
          refine e_ixor dX3_armForSide_77 ?_
          refine e_istore_n dX3_armForSide_78 (by decide) rfl ?_
          refine e_iinc (v := nI (t + 1)) dX3_armForSide_79 rfl (fx_inc _) (by decide) rfl ?_
          refine e_goto 8 dX3_armForSide_82 rfl ?_
          rw [show p_oi (some y) = nI y from rfl, i_shl1 (by omega), i_xor]
          refine e_weak (lv2 := [some (fx_rf Γ 53), some (.int d), some (.int e), some (.int (nI (s ^^^ 2 ^ y))), some (.int (nI (t + 1))), none]) ⟨rfl, rfl, rfl, rfl, rfl, trivial⟩ ?_
          rw [show p_afs (m.1 61) (m.1 54) (m.1 58) (m.1 59) ab np (m.1 57) d e (j + 1) t s = p_afs (m.1 61) (m.1 54) (m.1 58) (m.1 59) ab np (m.1 57) d e j (t + 1) (s ^^^ 2 ^ y) from by rw [p_afs, if_neg (by rintro ⟨h1, h2⟩; first | exact c_d h1 | exact c_e h2), hy0]]
          exact ih (t + 1) _ (by omega) (p_xor_lt hs hy.1)
      · refine e_aload_n dX3_armForSide_37 rfl ?_
        refine e_getr (o2 := 59) dX3_armForSide_38 ff_X3_29 rfl (fx_pi_lt (by decide)) (by decide) rfl (hL _ _ _ rfl) ?_
        refine e_iload dX3_armForSide_41 rfl ?_
        refine e_iald (j := t) dX3_armForSide_43 rfl (fx_pi_lt (by decide)) rfl (by omega) (by decide) ?_
        refine e_iload_n dX3_armForSide_44 rfl ?_
        refine e_icmp_ne 66 dX3_armForSide_45 rfl (fun c_e => ?_) (fun c_e => ?_)
        · refine e_iload dX3_armForSide_66 rfl ?_
          refine e_iconst dX3_armForSide_68 kci_m1 ?_
          refine e_icmp_eq 79 dX3_armForSide_69 rfl (fun c_m => ?_) (fun c_m => ?_)
          · refine e_iinc (v := nI (t + 1)) dX3_armForSide_79 rfl (fx_inc _) (by decide) rfl ?_
            refine e_goto 8 dX3_armForSide_82 rfl ?_
            refine e_weak (lv2 := [some (fx_rf Γ 53), some (.int d), some (.int e), some (.int (nI s)), some (.int (nI (t + 1))), none]) ⟨rfl, rfl, rfl, rfl, rfl, trivial⟩ ?_
            rw [show p_afs (m.1 61) (m.1 54) (m.1 58) (m.1 59) ab np (m.1 57) d e (j + 1) t s = p_afs (m.1 61) (m.1 54) (m.1 58) (m.1 59) ab np (m.1 57) d e j (t + 1) s from by rw [p_afs, if_neg (by rintro ⟨h1, h2⟩; first | exact c_d h1 | exact c_e h2), (p_oi_ne (fun x hx => by have := (p_fp_lt hx).1; omega)).mp c_m]]
            exact ih (t + 1) _ (by omega) hs
          · obtain ⟨y, hy0⟩ : ∃ y, p_fp (m.1 61) (m.1 54) (ab t) np t s = some y := Option.ne_none_iff_exists'.mp (fun h => c_m (by rw [h]; rfl))
            have hy := p_fp_lt hy0
            rw [hy0]
            refine e_iload_n dX3_armForSide_72 rfl ?_
            refine e_iconst dX3_armForSide_73 kci_1 ?_
            refine e_iload dX3_armForSide_74 rfl ?_
            refine e_ishl dX3_armForSide_76 ?_
            refine e_ixor dX3_armForSide_77 ?_
            refine e_istore_n dX3_armForSide_78 (by decide) rfl ?_
            refine e_iinc (v := nI (t + 1)) dX3_armForSide_79 rfl (fx_inc _) (by decide) rfl ?_
            refine e_goto 8 dX3_armForSide_82 rfl ?_
            rw [show p_oi (some y) = nI y from rfl, i_shl1 (by omega), i_xor]
            refine e_weak (lv2 := [some (fx_rf Γ 53), some (.int d), some (.int e), some (.int (nI (s ^^^ 2 ^ y))), some (.int (nI (t + 1))), none]) ⟨rfl, rfl, rfl, rfl, rfl, trivial⟩ ?_
            rw [show p_afs (m.1 61) (m.1 54) (m.1 58) (m.1 59) ab np (m.1 57) d e (j + 1) t s = p_afs (m.1 61) (m.1 54) (m.1 58) (m.1 59) ab np (m.1 57) d e j (t + 1) (s ^^^ 2 ^ y) from by rw [p_afs, if_neg (by rintro ⟨h1, h2⟩; first | exact c_d h1 | exact c_e h2), hy0]]
            exact ih (t + 1) _ (by omega) (p_xor_lt hs hy.1)
        · refine e_iload dX3_armForSide_48 rfl ?_
          refine e_iconst dX3_armForSide_50 kci_m1 ?_
          refine e_icmp_ne 58 dX3_armForSide_51 rfl (fun c_n => ?_) (fun c_n => ?_)
          · obtain ⟨y, hy0⟩ : ∃ y, p_fp (m.1 61) (m.1 54) (ab t) np t s = some y := Option.ne_none_iff_exists'.mp (fun h => c_n (by rw [h]; rfl))
            have hy := p_fp_lt hy0
            rw [hy0]
            refine e_aload_n dX3_armForSide_58 rfl ?_
            refine e_getr (o2 := 57) dX3_armForSide_59 ff_X3_23 rfl (fx_pi_lt (by decide)) (by decide) rfl (hL _ _ _ rfl) ?_
            refine e_iload dX3_armForSide_62 rfl ?_
            refine e_iald (j := y) dX3_armForSide_64 rfl (fx_pi_lt (by decide)) rfl (by omega) (by decide) ?_
            exact e_iret dX3_armForSide_65 rfl rfl rfl ⟨by rw [p_afs, if_pos ⟨c_d, c_e⟩, hy0]; rfl, rfl⟩
          · refine e_iconst dX3_armForSide_54 kci_m1 ?_
            refine e_goto 65 dX3_armForSide_55 rfl ?_
            exact e_iret dX3_armForSide_65 rfl rfl rfl ⟨by first | rfl | (rw [p_afs, if_pos ⟨c_d, c_e⟩, (p_oi_ne (fun x hx => by have := (p_fp_lt hx).1; omega)).mp c_n]; rfl), rfl⟩
  refine e_aload_n dX3_armForSide_0 rfl ?_
  refine e_callV1 (μ' := mX3_all) (ci := 3) (As := []) dX3_armForSide_1 wl_X3_63 ok_X3_all rfl rfl (fx_pi_lt (by decide)) (by decide) (Nat.le_of_ble_eq_true rfl) fx_n1 (s_X3_all (m := m) hL hnp h8) rfl ?_
  refine e_istore_n dX3_armForSide_4 (by decide) rfl ?_
  refine e_iconst dX3_armForSide_5 kci_0 ?_
  refine e_istore dX3_armForSide_6 (by decide) rfl ?_
  have : 0 < 2 ^ np := Nat.two_pow_pos np
  exact lp ns 0 _ (by omega) (by omega)
