def fx_AR (k n : Nat) (tx : Nat → Int32) (m : fx_M) (res : p_IR) (r : Option Value) (m' : fx_M) : Prop :=
  r = some (.int (if res.1 = none then nI res.2.1 else -1)) ∧ fx_RF m m' ∧ fx_J 33 m' ∧ (∀ f, res.1 = some f → m'.1 51 0 = nI f) ∧ (res.1 = none → m'.1 51 0 = -1 ∧ fx_HT m' 33 res.2.2.1 res.2.2.2.1 res.2.2.2.2 ∧ res.2.2.1 ≤ 8 ∧ res.2.2.2.1 ≤ 5 ∧ 1 ≤ res.2.1 ∧ res.2.1 ≤ 160)
theorem fx_RL2 {m : fx_M} {a : Option Nat} (hL : fx_Lay m) : fx_Lay (fx_sR m 51 2 a) := fun o j v h => by
  simp only [fx_sR]
  by_cases c : o = 51
  · by_cases d : j = 2
    · rw [c, d] at h; cases h
    · simp only [c, d, if_true, if_false]; rw [← c]; exact hL o j v h
  · simp only [c, if_false]; exact hL o j v h
set_option maxRecDepth 100000 in
set_option maxHeartbeats 600000 in
theorem s_X4_readAll {Γ : fx_G} {m : fx_M} (hL : fx_Lay m) {k n : Nat} (hk : k < 8) (hn : n ≤ 160) {tx : Nat → Int32} (hcn : m.1 (67 + 2 * k) 2 = nI n) (htx : ∀ j, j < n → (m.2.1 (67 + 2 * k + 1) j).toInt32 = tx j) {na nd : Nat} {t : p_Sg} (H : fx_HT m 33 na nd t) (hJ : fx_J 33 m) (h8 : na ≤ 8) (h5 : nd ≤ 5) : fx_Ct Γ mX4_readAll 6 119 119 [fx_rf Γ 51, fx_rf Γ (67 + 2 * k)] m (fun r m' => ∃ m0, m0 = fx_sI (fx_sI (fx_sR m 51 2 (some (67 + 2 * k))) 51 3 0) 51 0 (-1) ∧ fx_AR k n tx m0 (p_rA tx n 160 1 0 na nd t) r m') := by
  refine fx_Ct.of (j := 1) (by decide) (Nat.le_of_ble_eq_true rfl) (Nat.le_of_ble_eq_true rfl) ?_
  show fx_E Γ mX4_readAll 6 119 119 _ 119 m 0 [some (fx_rf Γ 51), some (fx_rf Γ (67 + 2 * k)), none] []
  refine e_aload_n dX4_readAll_0 rfl ?_
  refine e_aload_n dX4_readAll_1 rfl ?_
  refine e_putr dX4_readAll_2 ff_X4_32 rfl (fx_pi_lt (by decide)) (by decide) rfl (Or.inl rfl) (fun _ => rfl) (fun _ => rfl) ?_
  refine e_aload_n dX4_readAll_5 rfl ?_
  refine e_iconst dX4_readAll_6 kci_0 ?_
  refine e_put dX4_readAll_7 ff_X4_15 rfl (fx_pi_lt (by decide)) (by decide) rfl (Or.inl rfl) ?_
  refine e_aload_n dX4_readAll_10 rfl ?_
  refine e_iconst dX4_readAll_11 kci_m1 ?_
  refine e_put dX4_readAll_12 ff_X4_9 rfl (fx_pi_lt (by decide)) (by decide) rfl (Or.inl rfl) ?_
  refine e_iconst dX4_readAll_15 kci_1 ?_
  refine e_istore_n dX4_readAll_16 (by decide) rfl ?_
  obtain ⟨m0, hm0⟩ : ∃ z, z = fx_sI (fx_sI (fx_sR m 51 2 (some (67 + 2 * k))) 51 3 0) 51 0 (-1) := ⟨_, rfl⟩
  rw [← hm0]
  have R0 : fx_RS k n tx m0 na nd t 0 := by
    rw [hm0]
    exact ⟨rfl, hL 51 1 33 rfl, by rw [fx_rd2 (by decide), fx_rd0]; rfl, ⟨H.1, H.2.1, fun x hx => by rw [fx_sI_n _ _ _ (by omega), fx_sI_n _ _ _ (by omega)]; exact H.2.2.1 x hx, fun x hx => by rw [fx_sI_n _ _ _ (by omega), fx_sI_n _ _ _ (by omega)]; exact H.2.2.2.1 x hx, H.2.2.2.2⟩, fun o j v h => (fx_RL2 hL o j v h), by rw [fx_sI_n _ _ _ (by omega), fx_sI_n _ _ _ (by omega)]; exact hcn, htx, fun a b h => by rw [fx_sI_n _ _ _ (by omega), fx_sI_n _ _ _ (by omega)]; exact hJ a b h, h8, h5, hk, hn, Nat.zero_le _⟩
  refine fx_E.post (post := fx_AR k n tx m0 (p_rA tx n 160 1 0 na nd t)) (fun r mm h => ⟨m0, rfl, h⟩) ?_
  have lp : ∀ (j : Nat) (it p na nd : Nat) (t : p_Sg) (m1 : fx_M), it + j = 161 → 1 ≤ it → (n - p) / 2 + 1 ≤ j → fx_RS k n tx m1 na nd t p → m1.1 51 0 = -1 → fx_RF m0 m1 → fx_E Γ mX4_readAll 6 119 119 (fx_AR k n tx m0 (p_rA tx n j it p na nd t)) 119 m1 17 [some (fx_rf Γ 51), some (fx_rf Γ (67 + 2 * k)), some (.int (nI it))] [] := by
    intro j
    induction j with
    | zero =>
      intro it p na nd t m1 hit hit1 hfu R1 hf1 F1
      exact absurd hfu (by omega)
    | succ j ih =>
      intro it p na nd t m1 hit hit1 hfu R1 hf1 F1
      have hk : k < 8 := R1.2.2.2.2.2.2.2.2.2.2.1
      have hn : n ≤ 160 := R1.2.2.2.2.2.2.2.2.2.2.2.1
      have hp : p ≤ n := R1.2.2.2.2.2.2.2.2.2.2.2.2
      refine e_iload_n dX4_readAll_17 rfl ?_
      refine e_sipush dX4_readAll_18 kcs_160 ?_
      refine e_icmp_gt 66 dX4_readAll_21 rfl (fun h => absurd h (Int32.not_lt.mpr (show nI it ≤ nI 160 from nI_le (by omega) (by omega)))) (fun _ => ?_)
      refine e_aload_n dX4_readAll_24 rfl ?_
      refine e_callV (μ' := mX4_readItem) (ci := 4) (As := []) dX4_readAll_25 wl_X4_38 ok_X4_readItem rfl rfl (fx_pi_lt (by decide)) (by decide) (Nat.le_of_ble_eq_true rfl) fx_n1 (s_X4_readItem (m := m1) R1) rfl (fun r_ m_ hpost => ?_)
      revert r_ m_
      intro r_ m2 hpost
      obtain ⟨⟨g, p2, na2, nd2, t2⟩, hIT⟩ : ∃ x, x = p_it tx n p na nd t := ⟨_, rfl⟩
      have hadv := p_it_adv (tx := tx) (n := n) (p := p) (na := na) (nd := nd) (t := t)
      rw [← hIT] at hpost hadv
      obtain ⟨rfl, F2, J2, f2, g2⟩ := hpost
      simp only [] at hadv f2 g2 ⊢
      refine e_if_neB 33 dX4_readAll_28 rfl (fun c_i => ?_) (fun c_i => ?_)
      · have g2 := g2 c_i
        have R2 := g2.1
        have hp2 := R2.2.2.2.2.2.2.2.2.2.2.2.2
        have hadv := hadv c_i
        refine e_aload_n dX4_readAll_33 rfl ?_
        refine e_getv (v := nI p2) dX4_readAll_34 ff_X4_15 rfl (fx_pi_lt (by decide)) (by decide) rfl R2.2.2.1 ?_
        refine e_aload_n dX4_readAll_37 rfl ?_
        refine e_getr (o2 := 67 + 2 * k) dX4_readAll_38 ff_X4_32 rfl (fx_pi_lt (by decide)) (by decide) rfl R2.1 ?_
        refine e_getv (v := nI n) dX4_readAll_41 ff_X4_42 (fx_Sf.mk hk).sh (fx_pi_lt (fx_Sf.mk hk).lt) (by decide) rfl R2.2.2.2.2.2.1 ?_
        refine e_icmp_ne 49 dX4_readAll_44 rfl (fun c_n => ?_) (fun c_n => ?_)
        · refine e_aload_n dX4_readAll_49 rfl ?_
          refine e_ldcS (j := 0) dX4_readAll_50 rfl rfl ?_
          refine e_callV (μ' := mX4_spells) (ci := 4) (As := [.ref (Γ.2.2.2 (10 + 0))]) dX4_readAll_52 wl_X4_47 ok_X4_spells rfl rfl (fx_pi_lt (by decide)) (by decide) (Nat.le_of_ble_eq_true rfl) fx_n1 (s_X4_spells (m := m2) R2 (jt := 0) (q := (45, ";", [59])) rfl) rfl (fun r_ m_ hpost => ?_)
          revert r_ m_
          intro r_ m3 hpost
          obtain ⟨rfl, o3, k3, f3, g3⟩ := hpost
          have f3 : ∀ f, p_spI tx n [59] 1 0 p2 = some f → m3.1 51 0 = nI f := f3
          have g3 : p_spI tx n [59] 1 0 p2 = none → m3.1 51 3 = nI (p2 + 1) ∧ p2 + 1 ≤ n ∧ m3.1 51 0 = m2.1 51 0 := g3
          refine e_if_neB 60 dX4_readAll_55 rfl (fun c_s => ?_) (fun c_s => ?_)
          · refine e_iinc (v := nI (it + 1)) dX4_readAll_60 rfl (fx_inc _) (by decide) rfl ?_
            refine e_goto 17 dX4_readAll_63 rfl ?_
            have c_s : p_spI tx n [59] 1 0 p2 = none := c_s
            have e1 : ¬ p2 = n := fun h => c_n (by rw [h])
            rw [show p_rA tx n (j + 1) it p na nd t = p_rA tx n j (it + 1) (p2 + 1) na2 nd2 t2 from by rw [p_rA, ← hIT, c_i]; simp only []; rw [if_neg e1, c_s]]
            have g3 := g3 c_s
            exact ih (it + 1) (p2 + 1) na2 nd2 t2 m3 (by omega) (by omega) (by omega) (R2.on (fx_o51w o3) g3.1 g3.2.1) (g3.2.2.trans (g2.2.trans hf1)) (F1.trans (F2.trans (fx_RF.on (fx_o51w o3))))
          · refine e_iconst dX4_readAll_58 kci_m1 ?_
            have c_s : ¬ p_spI tx n [59] 1 0 p2 = none := c_s
            obtain ⟨f0, hf0⟩ := Option.ne_none_iff_exists'.mp c_s
            have e1 : ¬ p2 = n := fun h => c_n (by rw [h])
            have hE : p_rA tx n (j + 1) it p na nd t = (some f0, it, na2, nd2, t2) := by rw [p_rA, ← hIT]; rw [c_i]; simp only []; rw [if_neg e1, hf0]
            exact e_iret dX4_readAll_59 rfl rfl rfl ⟨by rw [hE]; rfl, F1.trans (F2.trans (fx_RF.on (fx_o51w o3))), fx_Jon J2 (fx_o51w o3), fun f hf => (by rw [hE] at hf; cases hf; exact f3 _ hf0), fun h => (by rw [hE] at h; cases h)⟩
        · refine e_iload_n dX4_readAll_47 rfl ?_
          have e1 : p2 = n := (nI_eq (by omega) (by omega)).mp c_n
          have hE : p_rA tx n (j + 1) it p na nd t = (none, it, na2, nd2, t2) := by rw [p_rA, ← hIT]; rw [c_i]; simp only []; rw [if_pos e1]
          exact e_iret dX4_readAll_48 rfl rfl rfl ⟨by rw [hE]; rfl, F1.trans F2, J2, fun f hf => (by rw [hE] at hf; cases hf), fun _ => by rw [hE]; exact ⟨g2.2.trans hf1, R2.2.2.2.1, R2.2.2.2.2.2.2.2.2.1, R2.2.2.2.2.2.2.2.2.2.1, hit1, by show it ≤ 160; omega⟩⟩
      · refine e_iconst dX4_readAll_31 kci_m1 ?_
        obtain ⟨f0, hf0⟩ := Option.ne_none_iff_exists'.mp c_i
        have hE : p_rA tx n (j + 1) it p na nd t = (some f0, it, na, nd, t) := by rw [p_rA, ← hIT]; rw [hf0]
        exact e_iret dX4_readAll_32 rfl rfl rfl ⟨by rw [hE]; rfl, F1.trans F2, J2, fun f hf => (by rw [hE] at hf; cases hf; exact f2 _ hf0), fun h => (by rw [hE] at h; cases h)⟩
  exact lp 160 1 0 na nd t m0 (by omega) (by omega) (by omega) R0 (by rw [hm0]; exact fx_rd0) (fx_RF.refl m0)
