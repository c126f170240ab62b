/-! the parting: what goes without an arm, what comes with a new one -/
theorem p_oa_ne {a : Nat → Int32} {o : Option Nat} (h : ∀ x, o = some x → a x ≠ -1) (h1 : p_oa a o = -1) : o = none := by
  cases o with
  | none => rfl
  | some x => exact absurd h1 (h x rfl)
set_option maxRecDepth 100000 in
set_option maxHeartbeats 600000 in
theorem s_X3_mostMissed {Γ : fx_G} {m : fx_M} (hL : fx_Lay m) {np : Nat} (hnp : m.1 53 9 = nI np) (h8 : np ≤ 8) (hap : ∀ p, p < np → m.1 57 p ≠ -1) : fx_Ct Γ mX3_mostMissed 2 119 119 [fx_rf Γ 53] m (fx_is (some (.int (p_oa (m.1 57) (p_fold (p_bst (fun _ => True) (fun p => m.1 54 ((2 ^ np - 1) ^^^ 2 ^ p))) np 0 none)))) m) := by
  refine fx_Ct.of (j := 4) (by decide) (Nat.le_of_ble_eq_true rfl) (Nat.le_of_ble_eq_true rfl) ?_
  show fx_E Γ mX3_mostMissed 2 119 119 _ 119 m 0 [some (fx_rf Γ 53), none, none, none, none] []
  have lp : ∀ (j : Nat) (k : Nat) (o : Option Nat) (b l : Int32), k + j = np → b = p_oa (m.1 57) o → (∀ x, o = some x → x < np ∧ l = (fun p => m.1 54 ((2 ^ np - 1) ^^^ 2 ^ p)) x) → fx_E Γ mX3_mostMissed 2 119 119 (fx_is (some (.int (p_oa (m.1 57) (p_fold (p_bst (fun _ => True) (fun p => m.1 54 ((2 ^ np - 1) ^^^ 2 ^ p))) j k o)))) m) 119 m 6 [some (fx_rf Γ 53), some (.int b), some (.int l), some (.int (nI k)), none] [] := by
    intro j
    induction j with
    | zero =>
      intro k o b l hk hb hl
      have h2 := p_256 h8
      have h20 : 0 < 2 ^ np := Nat.two_pow_pos np
      refine e_iload_n dX3_mostMissed_6 rfl ?_
      refine e_aload_n dX3_mostMissed_7 rfl ?_
      refine e_getv (v := nI np) dX3_mostMissed_8 ff_X3_45 rfl (fx_pi_lt (by decide)) (by decide) rfl hnp ?_
      refine e_icmp_ge 56 dX3_mostMissed_11 rfl (fun _ => ?_) (fun h => absurd (nI_le (by omega) (by omega)) h)
      refine e_iload_n dX3_mostMissed_56 rfl ?_
      exact e_iret dX3_mostMissed_57 rfl rfl rfl ⟨by rw [hb]; rfl, rfl⟩
    | succ j ih =>
      intro k o b l hk hb hl
      have h2 := p_256 h8
      have h20 : 0 < 2 ^ np := Nat.two_pow_pos np
      refine e_iload_n dX3_mostMissed_6 rfl ?_
      refine e_aload_n dX3_mostMissed_7 rfl ?_
      refine e_getv (v := nI np) dX3_mostMissed_8 ff_X3_45 rfl (fx_pi_lt (by decide)) (by decide) rfl hnp ?_
      refine e_icmp_ge 56 dX3_mostMissed_11 rfl (fun h => absurd h (nI_ge (by omega) (by omega))) (fun _ => ?_)
      refine e_aload_n dX3_mostMissed_14 rfl ?_
      refine e_getr (o2 := 54) dX3_mostMissed_15 ff_X3_13 rfl (fx_pi_lt (by decide)) (by decide) rfl (hL _ _ _ rfl) ?_
      refine e_aload_n dX3_mostMissed_18 rfl ?_
      refine e_callV1 (μ' := mX3_all) (ci := 3) (As := []) dX3_mostMissed_19 wl_X3_63 ok_X3_all rfl rfl (fx_pi_lt (by decide)) (by decide) (Nat.le_of_ble_eq_true rfl) fx_n1 (s_X3_all (m := m) hL hnp h8) rfl ?_
      refine e_iconst dX3_mostMissed_22 kci_1 ?_
      refine e_iload_n dX3_mostMissed_23 rfl ?_
      refine e_ishl dX3_mostMissed_24 ?_
      refine e_ixor dX3_mostMissed_25 ?_
      rw [i_shl1 (by omega), i_xor]
      have hxl := p_xor_lt (s := 2 ^ np - 1) (p := k) (n := np) (by omega) (by omega)
      refine e_iald (j := (2 ^ np - 1) ^^^ 2 ^ k) dX3_mostMissed_26 rfl (fx_pi_lt (by decide)) rfl (by omega) (by decide) ?_
      refine e_istore dX3_mostMissed_27 (by decide) rfl ?_
      refine e_iload_n dX3_mostMissed_29 rfl ?_
      refine e_iconst dX3_mostMissed_30 kci_m1 ?_
      refine e_icmp_eq 40 dX3_mostMissed_31 rfl (fun c_n => ?_) (fun c_n => ?_)
      · refine e_aload_n dX3_mostMissed_40 rfl ?_
        refine e_getr (o2 := 57) dX3_mostMissed_41 ff_X3_23 rfl (fx_pi_lt (by decide)) (by decide) rfl (hL _ _ _ rfl) ?_
        refine e_iload_n dX3_mostMissed_44 rfl ?_
        refine e_iald (j := k) dX3_mostMissed_45 rfl (fx_pi_lt (by decide)) rfl (by omega) (by decide) ?_
        refine e_istore_n dX3_mostMissed_46 (by decide) rfl ?_
        refine e_iload dX3_mostMissed_47 rfl ?_
        refine e_istore_n dX3_mostMissed_49 (by decide) rfl ?_
        refine e_iinc (v := nI (k + 1)) dX3_mostMissed_50 rfl (fx_inc _) (by decide) rfl ?_
        refine e_goto 6 dX3_mostMissed_53 rfl ?_
        refine e_weak (lv2 := [some (fx_rf Γ 53), some (.int (m.1 57 k)), some (.int (m.1 54 ((2 ^ np - 1) ^^^ 2 ^ k))), some (.int (nI (k + 1))), none]) ⟨rfl, rfl, rfl, rfl, trivial⟩ ?_
        first
          | (rw [p_fold_s (p_bs_none (P := fun _ => True) (f := (fun p => m.1 54 ((2 ^ np - 1) ^^^ 2 ^ p))) trivial (p_oa_ne (fun x hx => hap x (hl x hx).1) (hb.symm.trans c_n)))]; exact ih (k + 1) (some k) _ _ (by omega) rfl (fun x hx => by cases hx; exact ⟨by omega, rfl⟩))
          | (obtain ⟨y, hy⟩ : ∃ y, o = some y := Option.ne_none_iff_exists'.mp (fun h => c_n (by rw [hb, h]; rfl)); rw [p_fold_s (p_bs_lt (P := fun _ => True) (f := (fun p => m.1 54 ((2 ^ np - 1) ^^^ 2 ^ p))) trivial hy (by rw [show m.1 54 ((2 ^ np - 1) ^^^ 2 ^ y) = l from (hl y hy).2.symm]; exact Int32.not_le.mp c_l))]; exact ih (k + 1) (some k) _ _ (by omega) rfl (fun x hx => by cases hx; exact ⟨by omega, rfl⟩))
      · refine e_iload dX3_mostMissed_34 rfl ?_
        refine e_iload_n dX3_mostMissed_36 rfl ?_
        refine e_icmp_ge 50 dX3_mostMissed_37 rfl (fun c_l => ?_) (fun c_l => ?_)
        · refine e_iinc (v := nI (k + 1)) dX3_mostMissed_50 rfl (fx_inc _) (by decide) rfl ?_
          refine e_goto 6 dX3_mostMissed_53 rfl ?_
          refine e_weak (lv2 := [some (fx_rf Γ 53), some (.int b), some (.int l), some (.int (nI (k + 1))), none]) ⟨rfl, rfl, rfl, rfl, trivial⟩ ?_
          obtain ⟨y, hy⟩ : ∃ y, o = some y := Option.ne_none_iff_exists'.mp (fun h => c_n (by rw [hb, h]; rfl))
          rw [p_fold_s (p_bs_ge (P := fun _ => True) (f := (fun p => m.1 54 ((2 ^ np - 1) ^^^ 2 ^ p))) trivial hy (by rw [show m.1 54 ((2 ^ np - 1) ^^^ 2 ^ y) = l from (hl y hy).2.symm]; exact Int32.not_lt.mpr c_l)), ← hy]
          exact ih (k + 1) o _ _ (by omega) hb (fun x hx => ⟨(hl x hx).1, (hl x hx).2⟩)
        · refine e_aload_n dX3_mostMissed_40 rfl ?_
          refine e_getr (o2 := 57) dX3_mostMissed_41 ff_X3_23 rfl (fx_pi_lt (by decide)) (by decide) rfl (hL _ _ _ rfl) ?_
          refine e_iload_n dX3_mostMissed_44 rfl ?_
          refine e_iald (j := k) dX3_mostMissed_45 rfl (fx_pi_lt (by decide)) rfl (by omega) (by decide) ?_
          refine e_istore_n dX3_mostMissed_46 (by decide) rfl ?_
          refine e_iload dX3_mostMissed_47 rfl ?_
          refine e_istore_n dX3_mostMissed_49 (by decide) rfl ?_
          refine e_iinc (v := nI (k + 1)) dX3_mostMissed_50 rfl (fx_inc _) (by decide) rfl ?_
          refine e_goto 6 dX3_mostMissed_53 rfl ?_
          refine e_weak (lv2 := [some (fx_rf Γ 53), some (.int (m.1 57 k)), some (.int (m.1 54 ((2 ^ np - 1) ^^^ 2 ^ k))), some (.int (nI (k + 1))), none]) ⟨rfl, rfl, rfl, rfl, trivial⟩ ?_
          first
            | (rw [p_fold_s (p_bs_none (P := fun _ => True) (f := (fun p => m.1 54 ((2 ^ np - 1) ^^^ 2 ^ p))) trivial (p_oa_ne (fun x hx => hap x (hl x hx).1) (hb.symm.trans c_n)))]; exact ih (k + 1) (some k) _ _ (by omega) rfl (fun x hx => by cases hx; exact ⟨by omega, rfl⟩))
            | (obtain ⟨y, hy⟩ : ∃ y, o = some y := Option.ne_none_iff_exists'.mp (fun h => c_n (by rw [hb, h]; rfl)); rw [p_fold_s (p_bs_lt (P := fun _ => True) (f := (fun p => m.1 54 ((2 ^ np - 1) ^^^ 2 ^ p))) trivial hy (by rw [show m.1 54 ((2 ^ np - 1) ^^^ 2 ^ y) = l from (hl y hy).2.symm]; exact Int32.not_le.mp c_l))]; exact ih (k + 1) (some k) _ _ (by omega) rfl (fun x hx => by cases hx; exact ⟨by omega, rfl⟩))
  refine e_iconst dX3_mostMissed_0 kci_m1 ?_
  refine e_istore_n dX3_mostMissed_1 (by decide) rfl ?_
  refine e_iconst dX3_mostMissed_2 kci_0 ?_
  refine e_istore_n dX3_mostMissed_3 (by decide) rfl ?_
  refine e_iconst dX3_mostMissed_4 kci_0 ?_
  refine e_istore_n dX3_mostMissed_5 (by decide) rfl ?_
  have h2 := p_256 h8
  have h20 : 0 < 2 ^ np := Nat.two_pow_pos np
  exact lp np 0 none _ _ (by omega) rfl (fun x hx => by cases hx)
/-- with the new arm N: D the dolls' records, dl and sd the slots' dolls and sides, Wo the best without each slot -/
def p_bwa1 (N : Nat → Int32) (D : Nat → Nat → Int32) (dl : Nat → Nat) (sd Wo : Nat → Int32) (t : Nat) (z : Int32) : Int32 := if p_fit N (D (dl t)) (sd t) then p_max z (Wo t + 1000 - p_far N (D (dl t)) (N 4) (N 5)) else z
theorem p_bwa1_y {N : Nat → Int32} {D : Nat → Nat → Int32} {dl : Nat → Nat} {sd Wo : Nat → Int32} {t : Nat} {z : Int32} (h : p_fit N (D (dl t)) (sd t)) : p_bwa1 N D dl sd Wo t z = p_max z (Wo t + 1000 - p_far N (D (dl t)) (N 4) (N 5)) := if_pos h
theorem p_bwa1_n {N : Nat → Int32} {D : Nat → Nat → Int32} {dl : Nat → Nat} {sd Wo : Nat → Int32} {t : Nat} {z : Int32} (h : ¬ p_fit N (D (dl t)) (sd t)) : p_bwa1 N D dl sd Wo t z = z := if_neg h
set_option maxRecDepth 100000 in
set_option maxHeartbeats 600000 in
theorem s_X3_bestWithAnew {Γ : fx_G} {m : fx_M} (hL : fx_Lay m) {np : Nat} (hnp : m.1 53 9 = nI np) (h8 : np ≤ 8) {ns : Nat} (hns : m.1 53 10 = nI ns) (h10 : ns ≤ 10) (S : Nat) (HS : fx_St S) {dl : Nat → Nat} (hdl : ∀ t, t < ns → m.1 58 t = nI (dl t) ∧ dl t < 5) : fx_Ct Γ mX3_bestWithAnew 4 119 119 [fx_rf Γ 53, fx_rf Γ S] m (fx_is (some (.int (p_fold (p_bwa1 (m.1 62) (fx_dr m S) dl (m.1 59) (m.1 56)) ns 0 (m.1 54 (2 ^ np - 1))))) m) := by
  refine fx_Ct.of (j := 3) (by decide) (Nat.le_of_ble_eq_true rfl) (Nat.le_of_ble_eq_true rfl) ?_
  show fx_E Γ mX3_bestWithAnew 4 119 119 _ 119 m 0 [some (fx_rf Γ 53), some (fx_rf Γ S), none, none, none] []
  have h2 := p_256 h8
  have h20 : 0 < 2 ^ np := Nat.two_pow_pos np
  have lp : ∀ (j : Nat) (k : Nat) (z : Int32), k + j = ns → fx_E Γ mX3_bestWithAnew 4 119 119 (fx_is (some (.int (p_fold (p_bwa1 (m.1 62) (fx_dr m S) dl (m.1 59) (m.1 56)) j k z))) m) 119 m 12 [some (fx_rf Γ 53), some (fx_rf Γ S), some (.int z), some (.int (nI k)), none] [] := by
    intro j
    induction j with
    | zero =>
      intro k z hk
      refine e_iload_n dX3_bestWithAnew_12 rfl ?_
      refine e_aload_n dX3_bestWithAnew_13 rfl ?_
      refine e_getv (v := nI ns) dX3_bestWithAnew_14 ff_X3_49 rfl (fx_pi_lt (by decide)) (by decide) rfl hns ?_
      refine e_icmp_ge 82 dX3_bestWithAnew_17 rfl (fun _ => ?_) (fun h => absurd (nI_le (by omega) (by omega)) h)
      refine e_iload_n dX3_bestWithAnew_82 rfl ?_
      exact e_iret dX3_bestWithAnew_83 rfl rfl rfl ⟨rfl, rfl⟩
    | succ j ih =>
      intro k z hk
      have hdk := (hdl k (by omega)).2
      refine e_iload_n dX3_bestWithAnew_12 rfl ?_
      refine e_aload_n dX3_bestWithAnew_13 rfl ?_
      refine e_getv (v := nI ns) dX3_bestWithAnew_14 ff_X3_49 rfl (fx_pi_lt (by decide)) (by decide) rfl hns ?_
      refine e_icmp_ge 82 dX3_bestWithAnew_17 rfl (fun h => absurd h (nI_ge (by omega) (by omega))) (fun _ => ?_)
      refine e_aload_n dX3_bestWithAnew_20 rfl ?_
      refine e_getr (o2 := S + 2) dX3_bestWithAnew_21 ff_X3_97 HS.sh (fx_pi_lt HS.lt) (by decide) rfl (HS.r1 hL) ?_
      refine e_aload_n dX3_bestWithAnew_24 rfl ?_
      refine e_getr (o2 := 58) dX3_bestWithAnew_25 ff_X3_26 rfl (fx_pi_lt (by decide)) (by decide) rfl (hL _ _ _ rfl) ?_
      refine e_iload_n dX3_bestWithAnew_28 rfl ?_
      refine e_ialdv (j := k) (v := nI (dl k)) dX3_bestWithAnew_29 rfl (fx_pi_lt (by decide)) rfl (by omega) (by decide) (hdl k (by omega)).1 ?_
      refine e_aald (j := dl k) (o2 := S + 11 + (dl k)) dX3_bestWithAnew_30 HS.s2 (Or.inr (Or.inl rfl)) (fx_pi_lt HS.l2) rfl (by omega) (by decide) (HS.rd hL (by omega)) ?_
      refine e_astore dX3_bestWithAnew_31 (by decide) rfl ?_
      refine e_aload_n dX3_bestWithAnew_33 rfl ?_
      refine e_getr (o2 := 62) dX3_bestWithAnew_34 ff_X3_41 rfl (fx_pi_lt (by decide)) (by decide) rfl (hL _ _ _ rfl) ?_
      refine e_aload dX3_bestWithAnew_37 rfl ?_
      refine e_aload_n dX3_bestWithAnew_39 rfl ?_
      refine e_getr (o2 := 59) dX3_bestWithAnew_40 ff_X3_29 rfl (fx_pi_lt (by decide)) (by decide) rfl (hL _ _ _ rfl) ?_
      refine e_iload_n dX3_bestWithAnew_43 rfl ?_
      refine e_iald (j := k) dX3_bestWithAnew_44 rfl (fx_pi_lt (by decide)) rfl (by omega) (by decide) ?_
      refine e_callV1 (μ' := mX0_suits) (ci := 0) (As := [fx_rf Γ (S + 11 + (dl k)), .int (m.1 59 k)]) dX3_bestWithAnew_45 wl_X3_101 ok_X0_suits rfl rfl (fx_pi_lt (by decide)) (by decide) (Nat.le_of_ble_eq_true rfl) fx_n1 (s_X0_suits (m := m) 62 rfl (by decide) (S + 11 + (dl k)) (HS.sd (by omega)) (HS.ld (by omega)) (m.1 59 k)) rfl ?_
      refine e_if_eqB 76 dX3_bestWithAnew_48 rfl (fun c_f => ?_) (fun c_f => ?_)
      · refine e_iinc (v := nI (k + 1)) dX3_bestWithAnew_76 rfl (fx_inc _) (by decide) rfl ?_
        refine e_goto 12 dX3_bestWithAnew_79 rfl ?_
        refine e_weak (lv2 := [some (fx_rf Γ 53), some (fx_rf Γ S), some (.int z), some (.int (nI (k + 1))), none]) ⟨rfl, rfl, rfl, rfl, trivial⟩ ?_
        rw [p_fold_s (p_bwa1_n (N := m.1 62) (D := fx_dr m S) (dl := dl) (sd := m.1 59) (Wo := m.1 56) c_f)]
        exact ih (k + 1) _ (by omega)
      · refine e_iload_n dX3_bestWithAnew_51 rfl ?_
        refine e_aload_n dX3_bestWithAnew_52 rfl ?_
        refine e_getr (o2 := 56) dX3_bestWithAnew_53 ff_X3_20 rfl (fx_pi_lt (by decide)) (by decide) rfl (hL _ _ _ rfl) ?_
        refine e_iload_n dX3_bestWithAnew_56 rfl ?_
        refine e_iald (j := k) dX3_bestWithAnew_57 rfl (fx_pi_lt (by decide)) rfl (by omega) (by decide) ?_
        refine e_sipush dX3_bestWithAnew_58 kcs_1000 ?_
        refine e_iadd dX3_bestWithAnew_61 ?_
        refine e_aload_n dX3_bestWithAnew_62 rfl ?_
        refine e_getr (o2 := 62) dX3_bestWithAnew_63 ff_X3_41 rfl (fx_pi_lt (by decide)) (by decide) rfl (hL _ _ _ rfl) ?_
        refine e_aload dX3_bestWithAnew_66 rfl ?_
        refine e_callV1 (μ' := mX0_farFrom) (ci := 0) (As := [fx_rf Γ (S + 11 + (dl k))]) dX3_bestWithAnew_68 wl_X3_105 ok_X0_farFrom rfl rfl (fx_pi_lt (by decide)) (by decide) (Nat.le_of_ble_eq_true rfl) fx_n1 (s_X0_farFrom (m := m) 62 rfl (by decide) (S + 11 + (dl k)) (HS.sd (by omega)) (HS.ld (by omega)) ) rfl ?_
        refine e_isub dX3_bestWithAnew_71 ?_
        refine e_maxP dX3_bestWithAnew_72 wl_X3_109 wt_J9_max_7cf53 wz_Math fx_wmax (by decide) (Nat.le_of_ble_eq_true rfl) ?_
        refine e_istore_n dX3_bestWithAnew_75 (by decide) rfl ?_
        refine e_iinc (v := nI (k + 1)) dX3_bestWithAnew_76 rfl (fx_inc _) (by decide) rfl ?_
        refine e_goto 12 dX3_bestWithAnew_79 rfl ?_
        refine e_weak (lv2 := [some (fx_rf Γ 53), some (fx_rf Γ S), some (.int (p_max z (((m.1 56 k) + 1000) - (p_far (m.1 62) (m.1 (S + 11 + (dl k))) (m.1 62 4) (m.1 62 5))))), some (.int (nI (k + 1))), none]) ⟨rfl, rfl, rfl, rfl, trivial⟩ ?_
        rw [p_fold_s (p_bwa1_y (N := m.1 62) (D := fx_dr m S) (dl := dl) (sd := m.1 59) (Wo := m.1 56) c_f)]
        exact ih (k + 1) _ (by omega)
  refine e_aload_n dX3_bestWithAnew_0 rfl ?_
  refine e_getr (o2 := 54) dX3_bestWithAnew_1 ff_X3_13 rfl (fx_pi_lt (by decide)) (by decide) rfl (hL _ _ _ rfl) ?_
  refine e_aload_n dX3_bestWithAnew_4 rfl ?_
  refine e_callV1 (μ' := mX3_all) (ci := 3) (As := []) dX3_bestWithAnew_5 wl_X3_63 ok_X3_all rfl rfl (fx_pi_lt (by decide)) (by decide) (Nat.le_of_ble_eq_true rfl) fx_n1 (s_X3_all (m := m) hL hnp h8) rfl ?_
  refine e_iald (j := 2 ^ np - 1) dX3_bestWithAnew_8 rfl (fx_pi_lt (by decide)) rfl (by omega) (by decide) ?_
  refine e_istore_n dX3_bestWithAnew_9 (by decide) rfl ?_
  refine e_iconst dX3_bestWithAnew_10 kci_0 ?_
  refine e_istore_n dX3_bestWithAnew_11 (by decide) rfl ?_
  exact lp ns 0 _ (by omega)
/-- the cells of P alone have changed -/
def fx_oP (P : Nat → Prop) (m m' : fx_M) : Prop := m'.2 = m.2 ∧ ∀ o, ¬ P o → m'.1 o = m.1 o
theorem fx_oP.refl (P : Nat → Prop) (m : fx_M) : fx_oP P m m := ⟨rfl, fun _ _ => rfl⟩
theorem fx_oP.sI {P : Nat → Prop} {L k : Nat} {v : Int32} {m m' : fx_M} (h : fx_oP P m m') (hP : P L) : fx_oP P m (fx_sI m' L k v) := ⟨h.1, fun o ho => by rw [fx_sI_n m' _ _ (fun e => by subst e; exact ho hP)]; exact h.2 o ho⟩
theorem fx_oP.lay {P : Nat → Prop} {m m' : fx_M} (h : fx_oP P m m') (hL : fx_Lay m) : fx_Lay m' := by
  intro o k v hv
  rw [h.1]
  exact hL o k v hv
/-- the best that the slots before t do with the set s -/
def p_ahs (wt : Nat → Nat → Int32) (ab : Nat → Nat) (np : Nat) : Nat → Nat → Int32
  | 0, _ => 0
  | t + 1, s => p_bw (p_ahs wt ab np t) (wt t) 0 s (ab t) np
def p_mx (f : Nat → Int32) : Nat → Int32 → Int32
  | 0, z => z
  | j + 1, z => p_mx f j (p_max z (f j))
def p_woF (wt : Nat → Nat → Int32) (ab : Nat → Nat) (np : Nat) (B : Nat → Int32) (t s : Nat) : Int32 := p_ahs wt ab np t s + B ((t + 1) * 256 + ((2 ^ np - 1) ^^^ s))
def p_wo (wt : Nat → Nat → Int32) (ab : Nat → Nat) (np : Nat) (B : Nat → Int32) (t : Nat) : Int32 := p_mx (p_woF wt ab np B t) (2 ^ np) 0
theorem p_xor_le {s p : Nat} (h : s.testBit p = true) : s ^^^ 2 ^ p < s := by
  have e : (s ^^^ 2 ^ p) ||| 2 ^ p = s := by
    refine Nat.eq_of_testBit_eq fun i => ?_
    rw [Nat.testBit_or, Nat.testBit_xor]
    by_cases hi : p = i
    · subst hi; rw [h, Nat.testBit_two_pow_self]; rfl
    · rw [Nat.testBit_two_pow_of_ne hi]; simp
  have h1 : s ^^^ 2 ^ p ≤ (s ^^^ 2 ^ p) ||| 2 ^ p := Nat.left_le_or
  rw [e] at h1
  refine Nat.lt_of_le_of_ne h1 (fun h2 => ?_)
  have h3 := congrArg (fun x => x.testBit p) h2
  simp only [Nat.testBit_xor, h, Nat.testBit_two_pow_self] at h3
  exact absurd h3 (by decide)
theorem p_bw_congr {R R' w w' : Nat → Int32} {b s a np : Nat} (hR : ∀ x, x ≤ s → R (b + x) = R' (b + x)) (hw : ∀ p, p < np → w p = w' p) : p_bw R w b s a np = p_bw R' w' b s a np := by
  unfold p_bw
  rw [hR s (Nat.le_refl _)]
  refine p_fold_congr np 0 _ (fun p z _ hp => ?_)
  by_cases h : (s &&& a).testBit p = true
  · rw [p_bw1_y h, p_bw1_y h, hw p (by omega), hR _ (Nat.le_of_lt (p_xor_le (by rw [Nat.testBit_and] at h; exact (Bool.and_eq_true _ _ ▸ h).1)))]
  · rw [Bool.not_eq_true] at h
    rw [p_bw1_n h, p_bw1_n h]
theorem p_wt_55 {m : fx_M} {k k' : Nat} {v v' : Int32} {C : Nat} : (fx_sI (fx_sI m 56 k v) 55 k' v').1 55 C = if C = k' then v' else m.1 55 C := by simp [fx_sI]
theorem p_wt_56 {m : fx_M} {k k' : Nat} {v v' : Int32} {C : Nat} : (fx_sI (fx_sI m 56 k v) 55 k' v').1 56 C = if C = k then v else m.1 56 C := by simp [fx_sI]
