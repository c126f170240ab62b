theorem nI_nm1 {b : Nat} (h : b < 2 ^ 31) : nI b ≠ -1 := fun e => absurd (e ▸ nI_pos' h) (by decide)
set_option maxRecDepth 100000 in
set_option maxHeartbeats 600000 in
theorem s_X8_shop {Γ : fx_G} {m : fx_M} (hL : fx_Lay m) {cn : Nat → Nat} (hcn : ∀ k, k < 8 → m.1 (67 + 2 * k) 2 = nI (cn k) ∧ cn k ≤ 160) {na nd : Nat} (h8 : na ≤ 8) (h5 : nd ≤ 5) {A D : Nat → Nat → Int32} {c : Nat → Int32} (H : fx_HS m 1 na nd A D c) (hJ1 : fx_J 1 m) (hJ33 : fx_J 33 m) {rd : Nat → Nat → Int32} (hrd : ∀ k, k < 8 → ∀ j, j < cn k → (m.2.1 (67 + 2 * k + 1) j).toInt32 = rd k j) (s : Int32) {RES : p_IR} (hRES : RES = p_rA (rd (p_ix s)) (cn (p_ix s)) 160 1 0 na nd (A, D, c)) : fx_Ct Γ mX8_shop 7 119 119 [fx_rf Γ 0, .int s] m (fun r m' => (p_bR (fun k => m.1 (67 + 2 * k) 1) (fun k => m.1 (67 + 2 * k) 3) s ≠ 0 → r = some (.int (-(nI (p_bR (fun k => m.1 (67 + 2 * k) 1) (fun k => m.1 (67 + 2 * k) 3) s)))) ∧ m' = fx_no m (p_bR (fun k => m.1 (67 + 2 * k) 1) (fun k => m.1 (67 + 2 * k) 3) s)) ∧ (p_bR (fun k => m.1 (67 + 2 * k) 1) (fun k => m.1 (67 + 2 * k) 3) s = 0 → fx_J 33 m' ∧ fx_J 1 m' ∧ m'.2.1 = m.2.1 ∧ fx_Lay m' ∧ (∀ o j, ¬ (o = 51 ∧ j = 2) → m'.2.2 o j = m.2.2 o j) ∧ (∀ f, RES.1 = some f → r = some (.int (-(nI 6))) ∧ m'.1 51 0 = nI f ∧ ∀ o, (o < 33 ∨ 49 ≤ o) → o ≠ 51 → o ≠ 52 → m'.1 o = (fx_no m 6).1 o) ∧ (RES.1 = none → r = some (.int (nI RES.2.1)) ∧ m'.1 51 0 = -1 ∧ fx_HT m' 1 RES.2.2.1 RES.2.2.2.1 RES.2.2.2.2 ∧ RES.2.2.1 ≤ 8 ∧ RES.2.2.2.1 ≤ 5 ∧ RES.2.1 ≤ 160 ∧ ∀ o, (o < 1 ∨ 17 ≤ o) → (o < 33 ∨ 49 ≤ o) → o ≠ 51 → o ≠ 52 → m'.1 o = m.1 o))) := by
  refine fx_Ct.of (j := 2) (by decide) (Nat.le_of_ble_eq_true rfl) (Nat.le_of_ble_eq_true rfl) ?_
  show fx_E Γ mX8_shop 7 119 119 _ 119 m 0 [some (fx_rf Γ 0), some (.int s), none, none] []
  refine e_aload_n dX8_shop_0 rfl ?_
  refine e_iload_n dX8_shop_1 rfl ?_
  refine e_callV1 (μ' := mX8_barToRow) (ci := 8) (As := [.int s]) dX8_shop_2 wl_X8_89 ok_X8_barToRow rfl rfl (fx_pi_lt (by decide)) (by decide) (Nat.le_of_ble_eq_true rfl) fx_n1 (s_X8_barToRow (m := m) hL s) rfl ?_
  refine e_istore_n dX8_shop_5 (by decide) rfl ?_
  refine e_iload_n dX8_shop_6 rfl ?_
  refine e_if_eq 16 dX8_shop_7 rfl (fun c_0 => ?_) (fun c_0 => ?_)
  · have hb7 := p_bR_le (fun k => m.1 (67 + 2 * k) 1) (fun k => m.1 (67 + 2 * k) 3) s
    have barz0 := (nI_0i (by omega)).mp c_0
    obtain ⟨k, hk, ek⟩ := p_in_ex7 (p_bR_0 barz0).1
    subst ek
    have barz := barz0
    have hck := hcn k hk
    rw [p_ix_n (show k < 2 ^ 31 by omega)] at hRES
    refine e_aload_n dX8_shop_16 rfl ?_
    refine e_getr (o2 := 33) dX8_shop_17 ff_X8_19 rfl (fx_pi_lt (by decide)) (by decide) rfl (hL _ _ _ rfl) ?_
    refine e_aload_n dX8_shop_20 rfl ?_
    refine e_getr (o2 := 1) dX8_shop_21 ff_X8_10 rfl (fx_pi_lt (by decide)) (by decide) rfl (hL _ _ _ rfl) ?_
    refine e_callV (μ' := mX6_takeFrom) (ci := 6) (As := [fx_rf Γ 1]) dX8_shop_24 wl_X8_203 ok_X6_takeFrom rfl rfl (fx_pi_lt (by decide)) (by decide) (Nat.le_of_ble_eq_true rfl) fx_n1 (s_X6_takeFrom (m := m) 33 fx_s33 hL 1 fx_s1 (by decide) h8 h5 H hJ33 hJ1) rfl (fun r_ m_ hpost => ?_)
    revert m_
    intro m1 hpost
    obtain ⟨rfl, f1, H1⟩ := hpost
    have hL1 := f1.lay hL
    refine e_aload_n dX8_shop_27 rfl ?_
    refine e_getr (o2 := 51) dX8_shop_28 ff_X8_56 rfl (fx_pi_lt (by decide)) (by decide) rfl (hL1 _ _ _ rfl) ?_
    refine e_aload_n dX8_shop_31 rfl ?_
    refine e_getr (o2 := 49) dX8_shop_32 ff_X8_28 rfl (fx_pi_lt (by decide)) (by decide) rfl (hL1 _ _ _ rfl) ?_
    refine e_iload_n dX8_shop_35 rfl ?_
    refine e_aald (j := k) (o2 := 67 + 2 * k) dX8_shop_36 rfl (Or.inr (Or.inr rfl)) (fx_pi_lt (by decide)) rfl (by omega) (by decide) (fx_r49 hL1 (by omega)) ?_
    refine e_callV (μ' := mX4_readAll) (ci := 4) (As := [fx_rf Γ (67 + 2 * k)]) dX8_shop_37 wl_X8_207 ok_X4_readAll rfl rfl (fx_pi_lt (by decide)) (by decide) (Nat.le_of_ble_eq_true rfl) fx_n1 (s_X4_readAll (m := m1) hL1 hk hck.2 (tx := rd k) (by rw [f1.2.1 _ (by omega)]; exact hck.1) (fun j hj => by rw [f1.1]; exact hrd k hk j hj) (t := (A, D, c)) H1 (f1.J hJ33) h8 h5) rfl (fun r_ m_ hpost => ?_)
    revert r_ m_
    intro r_ m2 hpost
    obtain ⟨m0, hm0, hA⟩ := hpost
    rw [← hRES] at hA
    obtain ⟨rfl, F2, J2, fa, fb⟩ := hA
    have e1 : m2.2.1 = m1.2.1 := by have q := congrArg Prod.fst F2.1; rw [hm0] at q; exact q
    have e2 : ∀ o j, ¬ (o = 51 ∧ j = 2) → m2.2.2 o j = m1.2.2 o j := fun o j h => by have q := congrArg Prod.snd F2.1; rw [hm0] at q; rw [show m2.2.2 = (fx_sR m1 51 2 (some (67 + 2 * k))).2.2 from q]; simp only [fx_sR]; by_cases c1 : o = 51; (by_cases c2 : j = 2; exact absurd ⟨c1, c2⟩ h; simp [c1, c2]); simp [c1]
    have e3 : ∀ o, (o < 33 ∨ 49 ≤ o) → o ≠ 51 → o ≠ 52 → m2.1 o = m.1 o := fun o h1 h2 h3 => by rw [F2.2 o h1 h2 h3, hm0, fx_sI_n _ _ _ h2, fx_sI_n _ _ _ h2]; exact f1.2.1 o h1
    have hL2 : fx_Lay m2 := fun o j v h => by rw [e2 o j (fun q => by rcases q with ⟨rfl, rfl⟩; cases h)]; exact hL1 o j v h
    have hJ1b : fx_J 1 m2 := fun a b h => by rw [e3 a (by omega) (by omega) (by omega)]; exact hJ1 a b h
    refine e_istore_n dX8_shop_40 (by decide) rfl ?_
    refine e_iload_n dX8_shop_41 rfl ?_
    refine e_iconst dX8_shop_42 kci_m1 ?_
    refine e_icmp_ne 53 dX8_shop_43 rfl (fun c_r => ?_) (fun c_r => ?_)
    · have hn : RES.1 = none := Decidable.byContradiction (fun q => c_r (if_neg q))
      rw [if_pos hn]
      have fb := fb hn
      refine e_aload_n dX8_shop_53 rfl ?_
      refine e_getr (o2 := 1) dX8_shop_54 ff_X8_10 rfl (fx_pi_lt (by decide)) (by decide) rfl (hL2 _ _ _ rfl) ?_
      refine e_aload_n dX8_shop_57 rfl ?_
      refine e_getr (o2 := 33) dX8_shop_58 ff_X8_19 rfl (fx_pi_lt (by decide)) (by decide) rfl (hL2 _ _ _ rfl) ?_
      refine e_callV (μ' := mX6_takeFrom) (ci := 6) (As := [fx_rf Γ 33]) dX8_shop_61 wl_X8_203 ok_X6_takeFrom rfl rfl (fx_pi_lt (by decide)) (by decide) (Nat.le_of_ble_eq_true rfl) fx_n1 (s_X6_takeFrom (m := m2) 1 fx_s1 hL2 33 fx_s33 (by decide) fb.2.2.1 fb.2.2.2.1 fb.2.1 hJ1b J2) rfl (fun r_ m_ hpost => ?_)
      revert m_
      intro m3 hpost
      obtain ⟨rfl, f3, H3⟩ := hpost
      refine e_iload_n dX8_shop_64 rfl ?_
      have hb := barz
      exact e_iret dX8_shop_65 rfl rfl rfl ⟨fun h => absurd hb h, fun _ => ⟨f3.JJ (by decide) J2, f3.J hJ1b, (congrArg Prod.fst f3.1).trans (e1.trans (congrArg Prod.fst f1.1)), f3.lay hL2, fun o j h => (congrFun (congrFun (congrArg Prod.snd f3.1) o) j).trans ((e2 o j h).trans (congrFun (congrFun (congrArg Prod.snd f1.1) o) j)), fun f hf => (by rw [hf] at hn; cases hn), fun _ => ⟨rfl, by rw [f3.2.1 51 (by decide)]; exact fb.1, H3, fb.2.2.1, fb.2.2.2.1, fb.2.2.2.2.2, fun o h0 h1 h2 h3 => by rw [f3.2.1 o (by omega)]; exact e3 o h1 h2 h3⟩⟩⟩
    · refine e_aload_n dX8_shop_46 rfl ?_
      refine e_bipush dX8_shop_47 kcb_6 ?_
      refine e_callV1 (μ' := mX8_refuse) (ci := 8) (As := [.int 6]) dX8_shop_49 wl_X8_77 ok_X8_refuse rfl rfl (fx_pi_lt (by decide)) (by decide) (Nat.le_of_ble_eq_true rfl) fx_n1 (s_X8_refuse (m := m2) hL2 6 (by first | decide | omega) (by first | decide | omega)) rfl ?_
      have hN : ¬ RES.1 = none := fun hn => by rw [if_pos hn] at c_r; exact nI_nm1 (by have := (fb hn).2.2.2.2.2; omega) c_r
      have hb := barz
      exact e_iret dX8_shop_52 rfl rfl rfl ⟨fun h => absurd hb h, fun _ => ⟨fun a b h => by rw [fx_sI_n _ _ _ (by omega)]; exact J2 a b h, fun a b h => by rw [fx_sI_n _ _ _ (by omega)]; exact hJ1b a b h, e1.trans (congrArg Prod.fst f1.1), hL2, fun o j h => (e2 o j h).trans (congrFun (congrFun (congrArg Prod.snd f1.1) o) j), fun f hf => ⟨rfl, by rw [fx_sI_n _ _ _ (by decide)]; exact fa f hf, fun o h1 h2 h3 => by rw [fx_no_n (by decide)]; by_cases q : o = 50; (subst q; rw [fx_sI_o, fx_sI_o, e3 50 (by decide) (by decide) (by decide)]); rw [fx_sI_n _ _ _ q, fx_sI_n _ _ _ q, e3 o h1 h2 h3]⟩, fun hn => absurd hn hN⟩⟩
  · have hb7 := p_bR_le (fun k => m.1 (67 + 2 * k) 1) (fun k => m.1 (67 + 2 * k) 3) s
    have hb1 : 1 ≤ p_bR (fun k => m.1 (67 + 2 * k) 1) (fun k => m.1 (67 + 2 * k) 3) s := by have q : p_bR (fun k => m.1 (67 + 2 * k) 1) (fun k => m.1 (67 + 2 * k) 3) s ≠ 0 := mt (nI_0i (by omega)).mpr c_0; omega
    refine e_aload_n dX8_shop_10 rfl ?_
    refine e_iload_n dX8_shop_11 rfl ?_
    refine e_callV1 (μ' := mX8_refuse) (ci := 8) (As := [.int (nI (p_bR (fun k => m.1 (67 + 2 * k) 1) (fun k => m.1 (67 + 2 * k) 3) s))]) dX8_shop_12 wl_X8_77 ok_X8_refuse rfl rfl (fx_pi_lt (by decide)) (by decide) (Nat.le_of_ble_eq_true rfl) fx_n1 (s_X8_refuse (m := m) hL (p_bR (fun k => m.1 (67 + 2 * k) 1) (fun k => m.1 (67 + 2 * k) 3) s) (by first | decide | omega) (by first | decide | omega)) rfl ?_
    exact e_iret dX8_shop_15 rfl rfl rfl ⟨fun h => ⟨rfl, (fx_no_n (by omega)).symm⟩, fun h => absurd (by rw [h]; rfl) c_0⟩
