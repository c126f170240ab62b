/-! the parting: the places and the slots found -/
theorem fx_kp_fl5 {m : fx_M} {i : Nat} {v : Int32} (hf : fx_fl m) (hi : i ≠ 11) : fx_fl (fx_kp m 53 i v) := by
  unfold fx_fl fx_kp
  rw [fx_rd2 hi, fx_rd0]
  exact p_or01 hf p_if01
theorem fx_kp_qu5 {m : fx_M} {i : Nat} {v : Int32} (hf : fx_fl m) (hi : i ≠ 11) : fx_qu m (fx_kp m 53 i v) := fun e o k => by
  unfold fx_kp at e ⊢
  rw [fx_rd2 hi, fx_rd0] at e
  have h := p_or0 hf p_if01 e
  have hv : m.1 53 i = v := by
    by_cases hc : m.1 53 i = v
    · exact hc
    · rw [if_neg hc] at h; exact absurd h.2 (by decide)
  by_cases ho : o = 53
  · subst ho
    by_cases hk : k = i
    · subst hk; rw [fx_rd0, hv]
    · rw [fx_rd2 (Ne.symm hk)]
      by_cases hk : k = 11
      · subst hk; rw [fx_rd0, e, h.1]
      · rw [fx_rd2 (Ne.symm hk)]
  · rw [fx_sI_n _ _ _ ho, fx_sI_n _ _ _ ho]
/-- how many below k -/
def p_rk (P : Nat → Prop) [DecidablePred P] : Nat → Nat
  | 0 => 0
  | k + 1 => p_rk P k + if P k then 1 else 0
theorem p_rk_y {P : Nat → Prop} [DecidablePred P] {k : Nat} (h : P k) : p_rk P (k + 1) = p_rk P k + 1 := by rw [p_rk, if_pos h]
theorem p_rk_n {P : Nat → Prop} [DecidablePred P] {k : Nat} (h : ¬ P k) : p_rk P (k + 1) = p_rk P k := by rw [p_rk, if_neg h]; rfl
theorem p_rk_le (P : Nat → Prop) [DecidablePred P] : ∀ k, p_rk P k ≤ k
  | 0 => Nat.le_refl _
  | k + 1 => by
    have := p_rk_le P k
    rw [p_rk]
    split <;> omega
theorem p_rk_mono {P : Nat → Prop} [DecidablePred P] {a : Nat} : ∀ {b : Nat}, a ≤ b → p_rk P a ≤ p_rk P b
  | 0, h => by obtain rfl : a = 0 := by omega
               exact Nat.le_refl _
  | b + 1, h => by
    by_cases e : a = b + 1
    · subst e; exact Nat.le_refl _
    · have := p_rk_mono (P := P) (show a ≤ b by omega)
      rw [p_rk]
      omega
theorem p_rk_lt {P : Nat → Prop} [DecidablePred P] {a b : Nat} (h : a < b) (hP : P a) : p_rk P a < p_rk P b := by
  have := p_rk_mono (P := P) (show a + 1 ≤ b from h)
  rw [p_rk_y hP] at this
  omega
theorem p_fpend {m m1 m2 : fx_M} {S na k : Nat} (HS : fx_St S) (J : fx_oP (fun o => o = 53 ∨ o = 57) m m1 ∧ fx_fl m1 ∧ fx_qu m m1 ∧ (∀ x, x < k → fx_ar m S x 6 = 99 → m1.1 57 (p_rk (fun x => fx_ar m S x 6 = 99) x) = nI x) ∧ m1.1 53 10 = m.1 53 10) (e2 : m2 = fx_kp m1 53 9 (nI (p_rk (fun x => fx_ar m S x 6 = 99) k))) (hk : k = na) : (none : Option Value) = none ∧ (fx_oP (fun o => o = 53 ∨ o = 57) m m2 ∧ fx_fl m2 ∧ fx_qu m m2 ∧ (∀ x, x < na → fx_ar m S x 6 = 99 → m2.1 57 (p_rk (fun x => fx_ar m S x 6 = 99) x) = nI x) ∧ m2.1 53 10 = m.1 53 10) ∧ m2.1 53 9 = nI (p_rk (fun x => fx_ar m S x 6 = 99) na) := by
  subst hk
  rw [e2]
  exact ⟨rfl, ⟨fx_kp_on J.1 (Or.inl rfl) (Or.inl rfl), fx_kp_fl5 J.2.1 (by decide), J.2.2.1.trans (fx_kp_qu5 J.2.1 (by decide)), fun x hx hA => by rw [fx_kp_n (Or.inl (by decide)) (Or.inl (by decide))]; exact J.2.2.2.1 x hx hA, by rw [fx_kp_n (Or.inr (by decide)) (Or.inr (by decide))]; exact J.2.2.2.2⟩, fx_kp_0⟩
set_option maxRecDepth 100000 in
set_option maxHeartbeats 600000 in
theorem s_X3_findPlaces {Γ : fx_G} {m : fx_M} (S : Nat) (HS : fx_St S) (hL : fx_Lay m) {na : Nat} (hna : m.1 S 2 = nI na) (h8 : na ≤ 8) (hf : fx_fl m) : fx_Ct Γ mX3_findPlaces 2 119 119 [fx_rf Γ 53, fx_rf Γ S] m (fun r m' => r = none ∧ (fx_oP (fun o => o = 53 ∨ o = 57) m m' ∧ fx_fl m' ∧ fx_qu m m' ∧ (∀ x, x < na → fx_ar m S x 6 = 99 → m'.1 57 (p_rk (fun x => fx_ar m S x 6 = 99) x) = nI x) ∧ m'.1 53 10 = m.1 53 10) ∧ m'.1 53 9 = nI (p_rk (fun x => fx_ar m S x 6 = 99) na)) := by
  refine fx_Ct.of (j := 2) (by decide) (Nat.le_of_ble_eq_true rfl) (Nat.le_of_ble_eq_true rfl) ?_
  show fx_E Γ mX3_findPlaces 2 119 119 _ 119 m 0 [some (fx_rf Γ 53), some (fx_rf Γ S), none, none] []
  have lp : ∀ (j : Nat) (k : Nat) (m1 : fx_M), k + j = na → (fx_oP (fun o => o = 53 ∨ o = 57) m m1 ∧ fx_fl m1 ∧ fx_qu m m1 ∧ (∀ x, x < k → fx_ar m S x 6 = 99 → m1.1 57 (p_rk (fun x => fx_ar m S x 6 = 99) x) = nI x) ∧ m1.1 53 10 = m.1 53 10) → fx_E Γ mX3_findPlaces 2 119 119 (fun r m' => r = none ∧ (fx_oP (fun o => o = 53 ∨ o = 57) m m' ∧ fx_fl m' ∧ fx_qu m m' ∧ (∀ x, x < na → fx_ar m S x 6 = 99 → m'.1 57 (p_rk (fun x => fx_ar m S x 6 = 99) x) = nI x) ∧ m'.1 53 10 = m.1 53 10) ∧ m'.1 53 9 = nI (p_rk (fun x => fx_ar m S x 6 = 99) na)) 119 m1 4 [some (fx_rf Γ 53), some (fx_rf Γ S), some (.int (nI (p_rk (fun x => fx_ar m S x 6 = 99) k))), some (.int (nI k))] [] := by
    intro j
    induction j with
    | zero =>
      intro k m1 hk J
      have hL1 := J.1.lay hL
      have hrk := p_rk_le (fun x => fx_ar m S x 6 = 99) k
      have hna1 : m1.1 S 2 = nI na := by rw [J.1.2 S (by rcases HS with rfl | rfl | rfl <;> decide)]; exact hna
      have eA : ∀ x, x < 8 → m1.1 (S + 3 + x) = m.1 (S + 3 + x) := fun x hx => J.1.2 _ (by rcases HS with rfl | rfl | rfl <;> omega)
      refine e_iload_n dX3_findPlaces_4 rfl ?_
      refine e_aload_n dX3_findPlaces_5 rfl ?_
      refine e_getv (v := nI na) dX3_findPlaces_6 ff_X3_71 HS.sh (fx_pi_lt HS.lt) (by decide) rfl hna1 ?_
      refine e_icmp_ge 43 dX3_findPlaces_9 rfl (fun _ => ?_) (fun h => absurd (nI_le (by omega) (by omega)) h)
      refine e_aload_n dX3_findPlaces_43 rfl ?_
      refine e_dup dX3_findPlaces_44 rfl ?_
      refine e_get dX3_findPlaces_45 ff_X3_52 rfl (fx_pi_lt (by decide)) (by decide) rfl ?_
      refine e_iload_n dX3_findPlaces_48 rfl ?_
      refine e_aload_n dX3_findPlaces_49 rfl ?_
      refine e_get dX3_findPlaces_50 ff_X3_45 rfl (fx_pi_lt (by decide)) (by decide) rfl ?_
      refine e_icmp_eq 60 dX3_findPlaces_53 rfl (fun c_e => ?_) (fun c_e => ?_)
      · refine e_iconst dX3_findPlaces_60 kci_0 ?_
        refine e_ior dX3_findPlaces_61 ?_
        refine e_putz dX3_findPlaces_62 ff_X3_52 rfl (fx_pi_lt (by decide)) (by decide) rfl (Or.inl rfl) (p_or01 J.2.1 (by first | exact Or.inl rfl | exact Or.inr rfl)) ?_
        refine e_aload_n dX3_findPlaces_65 rfl ?_
        refine e_iload_n dX3_findPlaces_66 rfl ?_
        refine e_put dX3_findPlaces_67 ff_X3_45 rfl (fx_pi_lt (by decide)) (by decide) rfl (Or.inl rfl) ?_
        exact e_vret dX3_findPlaces_70 rfl rfl (p_fpend HS J (by first | (unfold fx_kp; rw [if_pos c_e.symm]; done) | (unfold fx_kp; rw [if_neg (fun h => c_e h.symm)]; done)) (by omega))
      · refine e_iconst dX3_findPlaces_56 kci_1 ?_
        refine e_goto 61 dX3_findPlaces_57 rfl ?_
        refine e_ior dX3_findPlaces_61 ?_
        refine e_putz dX3_findPlaces_62 ff_X3_52 rfl (fx_pi_lt (by decide)) (by decide) rfl (Or.inl rfl) (p_or01 J.2.1 (by first | exact Or.inl rfl | exact Or.inr rfl)) ?_
        refine e_aload_n dX3_findPlaces_65 rfl ?_
        refine e_iload_n dX3_findPlaces_66 rfl ?_
        refine e_put dX3_findPlaces_67 ff_X3_45 rfl (fx_pi_lt (by decide)) (by decide) rfl (Or.inl rfl) ?_
        exact e_vret dX3_findPlaces_70 rfl rfl (p_fpend HS J (by first | (unfold fx_kp; rw [if_pos c_e.symm]; done) | (unfold fx_kp; rw [if_neg (fun h => c_e h.symm)]; done)) (by omega))
    | succ j ih =>
      intro k m1 hk J
      have hL1 := J.1.lay hL
      have hrk := p_rk_le (fun x => fx_ar m S x 6 = 99) k
      have hna1 : m1.1 S 2 = nI na := by rw [J.1.2 S (by rcases HS with rfl | rfl | rfl <;> decide)]; exact hna
      have eA : ∀ x, x < 8 → m1.1 (S + 3 + x) = m.1 (S + 3 + x) := fun x hx => J.1.2 _ (by rcases HS with rfl | rfl | rfl <;> omega)
      refine e_iload_n dX3_findPlaces_4 rfl ?_
      refine e_aload_n dX3_findPlaces_5 rfl ?_
      refine e_getv (v := nI na) dX3_findPlaces_6 ff_X3_71 HS.sh (fx_pi_lt HS.lt) (by decide) rfl hna1 ?_
      refine e_icmp_ge 43 dX3_findPlaces_9 rfl (fun h => absurd h (nI_ge (by omega) (by omega))) (fun _ => ?_)
      refine e_aload_n dX3_findPlaces_12 rfl ?_
      refine e_getr (o2 := S + 1) dX3_findPlaces_13 ff_X3_74 HS.sh (fx_pi_lt HS.lt) (by decide) rfl (HS.r0 hL1) ?_
      refine e_iload_n dX3_findPlaces_16 rfl ?_
      refine e_aald (j := k) (o2 := S + 3 + k) dX3_findPlaces_17 HS.s1 (Or.inl rfl) (fx_pi_lt HS.l1) rfl (by omega) (by decide) (HS.ra hL1 (by omega)) ?_
      refine e_callV1 (μ' := mX0_isInDrawer) (ci := 0) (As := []) dX3_findPlaces_18 wl_X3_78 ok_X0_isInDrawer (HS.sa (by omega)) rfl (fx_pi_lt (HS.la (by omega))) (by decide) (Nat.le_of_ble_eq_true rfl) fx_n1 (s_X0_isInDrawer (m := m1) (S + 3 + k) (HS.sa (by omega)) (HS.la (by omega)) ) rfl ?_
      rw [eA k (by omega)]
      refine e_if_eqB 37 dX3_findPlaces_21 rfl (fun c_p => ?_) (fun c_p => ?_)
      · refine e_iinc (v := nI (k + 1)) dX3_findPlaces_37 rfl (fx_inc _) (by decide) rfl ?_
        refine e_goto 4 dX3_findPlaces_40 rfl ?_
        rw [show nI (p_rk (fun x => fx_ar m S x 6 = 99) k) = nI (p_rk (fun x => fx_ar m S x 6 = 99) (k + 1)) from by rw [p_rk_n (P := fun x => fx_ar m S x 6 = 99) c_p]]
        refine ih (k + 1) m1 (by omega) ⟨J.1, J.2.1, J.2.2.1, fun x hx hA => ?_, J.2.2.2.2⟩
        by_cases e : x = k
        · subst e; exact absurd hA c_p
        · exact J.2.2.2.1 x (by omega) hA
      · refine e_aload_n dX3_findPlaces_24 rfl ?_
        refine e_aload_n dX3_findPlaces_25 rfl ?_
        refine e_getr (o2 := 57) dX3_findPlaces_26 ff_X3_23 rfl (fx_pi_lt (by decide)) (by decide) rfl (hL1 _ _ _ rfl) ?_
        refine e_iload_n dX3_findPlaces_29 rfl ?_
        refine e_iload_n dX3_findPlaces_30 rfl ?_
        refine e_callV (μ' := mX3_keep) (ci := 3) (As := [fx_rf Γ 57, .int (nI (p_rk (fun x => fx_ar m S x 6 = 99) k)), .int (nI k)]) dX3_findPlaces_31 wl_X3_82 ok_X3_keep rfl rfl (fx_pi_lt (by decide)) (by decide) (Nat.le_of_ble_eq_true rfl) fx_n1 (s_X3_keep (m := m1) hL1 (r := 57) (len := 8) (i := (p_rk (fun x => fx_ar m S x 6 = 99) k)) rfl (by decide) (by decide) (by omega) (by decide) J.2.1 (nI k)) rfl (fun r_ m_ hpost => ?_)
        obtain ⟨rfl, e2⟩ := hpost
        have J2 : fx_oP (fun o => o = 53 ∨ o = 57) m m_ ∧ fx_fl m_ ∧ fx_qu m m_ ∧ (∀ x, x < (k + 1) → fx_ar m S x 6 = 99 → m_.1 57 (p_rk (fun x => fx_ar m S x 6 = 99) x) = nI x) ∧ m_.1 53 10 = m.1 53 10 := by rw [e2]; exact ⟨fx_kp_on J.1 (Or.inr rfl) (Or.inl rfl), fx_kp_fl J.2.1 (by decide), J.2.2.1.trans (fx_kp_qu J.2.1 (by decide)), fun x hx hA => by by_cases e : x = k; (subst e; exact fx_kp_0); (rw [fx_kp_n (Or.inr (by have := p_rk_lt (P := fun x => fx_ar m S x 6 = 99) (show x < k by omega) hA; omega)) (Or.inl (by decide))]; exact J.2.2.2.1 x (by omega) hA), by rw [fx_kp_n (Or.inl (by decide)) (Or.inr (by decide))]; exact J.2.2.2.2⟩
        refine e_iinc (v := nI ((p_rk (fun x => fx_ar m S x 6 = 99) k) + 1)) dX3_findPlaces_34 rfl (fx_inc _) (by decide) rfl ?_
        refine e_iinc (v := nI (k + 1)) dX3_findPlaces_37 rfl (fx_inc _) (by decide) rfl ?_
        refine e_goto 4 dX3_findPlaces_40 rfl ?_
        rw [show nI (p_rk (fun x => fx_ar m S x 6 = 99) k + 1) = nI (p_rk (fun x => fx_ar m S x 6 = 99) (k + 1)) from by rw [p_rk_y (P := fun x => fx_ar m S x 6 = 99) c_p]]
        exact ih (k + 1) m_ (by omega) J2
  refine e_iconst dX3_findPlaces_0 kci_0 ?_
  refine e_istore_n dX3_findPlaces_1 (by decide) rfl ?_
  refine e_iconst dX3_findPlaces_2 kci_0 ?_
  refine e_istore_n dX3_findPlaces_3 (by decide) rfl ?_
  exact lp na 0 m (by omega) ⟨fx_oP.refl _ m, hf, fx_qu.refl m, fun x hx => absurd hx (by omega), rfl⟩
