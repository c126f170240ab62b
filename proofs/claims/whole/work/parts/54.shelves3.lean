theorem fx_MSh.set {m : fx_M} {na k y : Nat} {u : p_Sh} {v : Int64} (H : fx_MSh m na u) (hk : k < 8) (hy : y < u.2.2.1 k) (ho : u.1 k ≠ -1) : fx_MSh (fx_sJ m 104 (160 * k + y) v) na (p_shE u k y v) ∧ fx_KQ m (fx_sJ m 104 (160 * k + y) v) := by
  have hc := ((H k hk).2.1 ho).2.2.2.2.1
  refine ⟨fun j hj => ?_, rfl, fun _ _ => rfl, fun a ha => funext fun b => ?_⟩
  · by_cases c : j = k
    · subst c
      refine ⟨(H j hj).1, fun h => ?_, (H j hj).2.2⟩
      obtain ⟨g1, g2, g3, g4, g5, g6⟩ := (H j hj).2.1 h
      refine ⟨g1, g2, g3, g4, g5, fun i hi => ?_⟩
      show (if (104 : Nat) = 104 then (if 160 * j + i = 160 * j + y then v else m.2.1 104 (160 * j + i)) else m.2.1 104 (160 * j + i)) = (if j = j ∧ i = y then v else u.2.2.2 j i)
      rw [if_pos rfl]
      by_cases d : i = y
      · rw [if_pos (by omega), if_pos ⟨rfl, d⟩]
      · rw [if_neg (by omega), if_neg (fun q => d q.2)]
        exact g6 i hi
    · refine (H j hj).cg (fun _ _ _ => rfl) (fun i hi => ?_) rfl rfl rfl (funext fun b => ?_)
      · show (if (104 : Nat) = 104 then (if 160 * j + i = 160 * k + y then v else m.2.1 104 (160 * j + i)) else m.2.1 104 (160 * j + i)) = m.2.1 104 (160 * j + i)
        rw [if_pos rfl, if_neg (by omega)]
      · show (if j = k ∧ b = y then v else u.2.2.2 j b) = u.2.2.2 j b
        rw [if_neg (fun q => c q.1)]
  · show (if a = 104 then (if b = 160 * k + y then v else m.2.1 a b) else m.2.1 a b) = m.2.1 a b
    rw [if_neg (fun q => ha (Or.inl q))]
def p_shC (u : p_Sh) (k l y z n : Nat) : p_Sh := (u.1, u.2.1, u.2.2.1, fun a b => if a = l ∧ z ≤ b ∧ b < z + n then u.2.2.2 k (y + (b - z)) else u.2.2.2 a b)
def fx_c1 (m : fx_M) (s c : Nat) : fx_M := (m.1, fun a b => if a = 105 ∧ b < c then m.2.1 104 (s + b) else m.2.1 a b, m.2.2)
def fx_c2 (m : fx_M) (s d n c : Nat) : fx_M := (m.1, fun a b => if a = 104 ∧ d ≤ b ∧ b < d + c then m.2.1 104 (s + (b - d)) else if a = 105 ∧ b < n then m.2.1 104 (s + b) else m.2.1 a b, m.2.2)
theorem fx_c1_0 (m : fx_M) (s : Nat) : fx_c1 m s 0 = m := Prod.ext rfl (Prod.ext (funext fun a => funext fun b => if_neg (by omega)) rfl)
theorem fx_c1_s (m : fx_M) (s c : Nat) : fx_sJ (fx_c1 m s c) 105 c ((fx_c1 m s c).2.1 104 (s + c)) = fx_c1 m s (c + 1) := by
  refine Prod.ext rfl (Prod.ext (funext fun a => funext fun b => ?_) rfl)
  show (if a = 105 then (if b = c then (if (104 : Nat) = 105 ∧ s + c < c then m.2.1 104 (s + (s + c)) else m.2.1 104 (s + c)) else (if a = 105 ∧ b < c then m.2.1 104 (s + b) else m.2.1 a b)) else (if a = 105 ∧ b < c then m.2.1 104 (s + b) else m.2.1 a b)) = (if a = 105 ∧ b < c + 1 then m.2.1 104 (s + b) else m.2.1 a b)
  by_cases h : a = 105
  · subst h
    by_cases g : b = c
    · subst g
      rw [if_pos rfl, if_pos rfl, if_neg (by omega), if_pos ⟨rfl, by omega⟩]
    · rw [if_pos rfl, if_neg g]
      by_cases f : b < c
      · rw [if_pos ⟨rfl, f⟩, if_pos ⟨rfl, by omega⟩]
      · rw [if_neg (by omega), if_neg (by omega)]
  · rw [if_neg h, if_neg (fun q => h q.1), if_neg (fun q => h q.1)]
theorem fx_c2_0 (m : fx_M) (s d n : Nat) : fx_c2 m s d n 0 = fx_c1 m s n := Prod.ext rfl (Prod.ext (funext fun a => funext fun b => if_neg (by omega)) rfl)
theorem fx_c2_s (m : fx_M) (s d n c : Nat) (hc : c < n) : fx_sJ (fx_c2 m s d n c) 104 (d + c) ((fx_c2 m s d n c).2.1 105 c) = fx_c2 m s d n (c + 1) := by
  refine Prod.ext rfl (Prod.ext (funext fun a => funext fun b => ?_) rfl)
  have e : (fx_c2 m s d n c).2.1 105 c = m.2.1 104 (s + c) := by
    show (if (105 : Nat) = 104 ∧ d ≤ c ∧ c < d + c then m.2.1 104 (s + (c - d)) else if (105 : Nat) = 105 ∧ c < n then m.2.1 104 (s + c) else m.2.1 105 c) = _
    rw [if_neg (by omega), if_pos ⟨rfl, hc⟩]
  rw [e]
  show (if a = 104 then (if b = d + c then m.2.1 104 (s + c) else (if a = 104 ∧ d ≤ b ∧ b < d + c then m.2.1 104 (s + (b - d)) else if a = 105 ∧ b < n then m.2.1 104 (s + b) else m.2.1 a b)) else (if a = 104 ∧ d ≤ b ∧ b < d + c then m.2.1 104 (s + (b - d)) else if a = 105 ∧ b < n then m.2.1 104 (s + b) else m.2.1 a b)) = (if a = 104 ∧ d ≤ b ∧ b < d + (c + 1) then m.2.1 104 (s + (b - d)) else if a = 105 ∧ b < n then m.2.1 104 (s + b) else m.2.1 a b)
  by_cases h : a = 104
  · subst h
    by_cases g : b = d + c
    · subst g
      rw [if_pos rfl, if_pos rfl, if_pos ⟨rfl, by omega, by omega⟩, show d + c - d = c by omega]
    · rw [if_pos rfl, if_neg g]
      by_cases f : d ≤ b ∧ b < d + c
      · rw [if_pos ⟨rfl, f⟩, if_pos ⟨rfl, f.1, by omega⟩]
      · have g1 : ¬ ((104 : Nat) = 104 ∧ d ≤ b ∧ b < d + c) := fun q => f q.2
        have g2 : ¬ ((104 : Nat) = 104 ∧ d ≤ b ∧ b < d + (c + 1)) := fun q => f ⟨q.2.1, by omega⟩
        rw [if_neg g1, if_neg g2]
  · have g1 : ¬ (a = 104 ∧ d ≤ b ∧ b < d + c) := fun q => h q.1
    have g2 : ¬ (a = 104 ∧ d ≤ b ∧ b < d + (c + 1)) := fun q => h q.1
    rw [if_neg h, if_neg g1, if_neg g2]
theorem fx_MSh.copy {m : fx_M} {na k l y z n : Nat} {u : p_Sh} (H : fx_MSh m na u) (hk : k < 8) (hl : l < 8) (hy : y + n ≤ u.2.2.1 k) (hz : z + n ≤ u.2.2.1 l) (ok : u.1 k ≠ -1) (ol : u.1 l ≠ -1) : fx_MSh (fx_c2 m (160 * k + y) (160 * l + z) n n) na (p_shC u k l y z n) ∧ fx_KQ m (fx_c2 m (160 * k + y) (160 * l + z) n n) := by
  have hc := ((H l hl).2.1 ol).2.2.2.2.1
  obtain ⟨_, _, _, _, k5, k6⟩ := (H k hk).2.1 ok
  have rd : ∀ b, (fx_c2 m (160 * k + y) (160 * l + z) n n).2.1 104 b = if 160 * l + z ≤ b ∧ b < 160 * l + z + n then m.2.1 104 (160 * k + y + (b - (160 * l + z))) else m.2.1 104 b := fun b => by
    show (if (104 : Nat) = 104 ∧ 160 * l + z ≤ b ∧ b < 160 * l + z + n then m.2.1 104 (160 * k + y + (b - (160 * l + z))) else if (104 : Nat) = 105 ∧ b < n then m.2.1 104 (160 * k + y + b) else m.2.1 104 b) = _
    by_cases f : 160 * l + z ≤ b ∧ b < 160 * l + z + n
    · rw [if_pos ⟨rfl, f⟩, if_pos f]
    · rw [if_neg (fun q => f q.2), if_neg (by omega), if_neg f]
  refine ⟨fun j hj => ?_, rfl, fun _ _ => rfl, fun a ha => funext fun b => ?_⟩
  · by_cases c : j = l
    · subst c
      refine ⟨(H j hj).1, fun h => ?_, (H j hj).2.2⟩
      obtain ⟨g1, g2, g3, g4, g5, g6⟩ := (H j hj).2.1 h
      refine ⟨g1, g2, g3, g4, g5, fun i hi => ?_⟩
      rw [rd]
      show _ = (if j = j ∧ z ≤ i ∧ i < z + n then u.2.2.2 k (y + (i - z)) else u.2.2.2 j i)
      by_cases f : z ≤ i ∧ i < z + n
      · rw [if_pos (by omega), if_pos ⟨rfl, f⟩, ← k6 (y + (i - z)) (by omega)]
        exact congrArg (m.2.1 104) (by omega)
      · rw [if_neg (by omega), if_neg (fun q => f q.2)]
        exact g6 i hi
    · refine (H j hj).cg (fun _ _ _ => rfl) (fun i hi => ?_) rfl rfl rfl (funext fun b => ?_)
      · rw [rd, if_neg (by omega)]
      · show (if j = l ∧ z ≤ b ∧ b < z + n then u.2.2.2 k (y + (b - z)) else u.2.2.2 j b) = u.2.2.2 j b
        rw [if_neg (fun q => c q.1)]
  · show (if a = 104 ∧ _ then m.2.1 104 _ else if a = 105 ∧ _ then m.2.1 104 _ else m.2.1 a b) = m.2.1 a b
    rw [if_neg (fun q => ha (Or.inl q.1)), if_neg (fun q => ha (Or.inr q.1))]
theorem p_bC_k {so sa : Nat → Int32} {k l : Nat} (h1 : p_in (nI k) 0 7) (h2 : p_in (nI l) 0 7) (hk : k < 8) (hl : l < 8) : p_bC so sa (nI k) (nI l) = if sa k ≠ -1 then 2 else if sa l ≠ -1 then 2 else if ¬ so k ≠ -1 then 3 else if ¬ so l ≠ -1 then 3 else if so k = so l then 0 else 2 := by
  unfold p_bC
  rw [if_neg (Decidable.not_not.mpr h1), if_neg (Decidable.not_not.mpr h2), p_ix_n (show k < 2 ^ 31 by omega), p_ix_n (show l < 2 ^ 31 by omega)]
theorem p_bC_i {m : fx_M} {na k l : Nat} {u : p_Sh} (H : fx_MSh m na u) (h1 : p_in (nI k) 0 7) (h2 : p_in (nI l) 0 7) (hk : k < 8) (hl : l < 8) :
    (p_hld (u.1 k) (u.2.1 k) = 2 ∨ p_hld (u.1 l) (u.2.1 l) = 2 ∨ (p_hld (u.1 k) (u.2.1 k) = 1 ∧ p_hld (u.1 l) (u.2.1 l) = 1 ∧ ¬ u.1 k = u.1 l) → p_bC u.1 u.2.1 (nI k) (nI l) = 2) ∧
    (¬ p_hld (u.1 k) (u.2.1 k) = 2 → ¬ p_hld (u.1 l) (u.2.1 l) = 2 → (p_hld (u.1 k) (u.2.1 k) = 0 ∨ p_hld (u.1 l) (u.2.1 l) = 0) → p_bC u.1 u.2.1 (nI k) (nI l) = 3) ∧
    (p_hld (u.1 k) (u.2.1 k) = 1 → p_hld (u.1 l) (u.2.1 l) = 1 → u.1 k = u.1 l → p_bC u.1 u.2.1 (nI k) (nI l) = 0) := by
  have I1 : u.1 k ≠ -1 → u.2.1 k = -1 := fun h => ((H k hk).2.1 h).1
  have I2 : u.1 l ≠ -1 → u.2.1 l = -1 := fun h => ((H l hl).2.1 h).1
  rw [p_bC_k h1 h2 hk hl]
  simp only [p_hld2, p_hld0, p_hld1]
  clear H
  revert I1 I2
  generalize u.1 k = a
  generalize u.1 l = b
  generalize u.2.1 k = c
  generalize u.2.1 l = d
  intro I1 I2
  by_cases e1 : a = -1 <;> by_cases e2 : c = -1 <;> by_cases e3 : b = -1 <;> by_cases e4 : d = -1 <;> simp_all
theorem i_cell3 (k y c : Nat) : 160 * nI k + nI y + nI c = nI (160 * k + y + c) := by rw [i_cell, nI_add]
set_option maxRecDepth 100000 in
set_option maxHeartbeats 600000 in
theorem s_X9_set {Γ : fx_G} {m : fx_M} (hL : fx_Lay m) {na : Nat} {u : p_Sh} (HS : fx_MSh m na u) (s i : Int32) (v : Int64) : fx_Ct Γ mX9_set 1 119 119 [fx_rf Γ 83, .int s, .int i, .long v] m (fun r m' => r = some (.int (q_set u.1 u.2.1 u.2.2.1 s i).2) ∧ ((q_set u.1 u.2.1 u.2.2.1 s i).1 ≠ 0 → m' = fx_mno m (q_set u.1 u.2.1 u.2.2.1 s i).1) ∧ ((q_set u.1 u.2.1 u.2.2.1 s i).1 = 0 → fx_MSh m' na (p_shE u (p_ix s) (p_ix i) (p_nw (u.1 (p_ix s)) v)) ∧ fx_KQ m m')) := by
  refine fx_Ct.of (j := 0) (by decide) (Nat.le_of_ble_eq_true rfl) (Nat.le_of_ble_eq_true rfl) ?_
  show fx_E Γ mX9_set 1 119 119 _ 119 m 0 [some (fx_rf Γ 83), some (.int s), some (.int i), some (.long v), none] []
  refine e_aload_n dX9_set_0 rfl ?_
  refine e_iload_n dX9_set_1 rfl ?_
  refine e_callV1 (μ' := mX9_isShelf) (ci := 9) (As := [.int s]) dX9_set_2 wl_X9_132 ok_X9_isShelf rfl rfl (fx_pi_lt (by decide)) (by decide) (Nat.le_of_ble_eq_true rfl) fx_n1 (s_X9_isShelf (m := m) hL s) rfl ?_
  refine e_if_neB 14 dX9_set_5 rfl (fun c_s => ?_) (fun c_s => ?_)
  · obtain ⟨k, hk, ek⟩ := p_in_ex7 c_s
    subst ek
    refine e_aload_n dX9_set_14 rfl ?_
    refine e_getr (o2 := 100) dX9_set_15 ff_X9_65 rfl (fx_pi_lt (by decide)) (by decide) rfl (hL _ _ _ rfl) ?_
    refine e_iload_n dX9_set_18 rfl ?_
    refine e_ialdv (j := k) (v := p_hld (u.1 k) (u.2.1 k)) dX9_set_19 rfl (fx_pi_lt (by decide)) rfl (by omega) (by decide) (HS _ (by omega)).1 ?_
    refine e_iconst dX9_set_20 kci_2 ?_
    refine e_icmp_ne 31 dX9_set_21 rfl (fun c_2 => ?_) (fun c_2 => ?_)
    · refine e_aload_n dX9_set_31 rfl ?_
      refine e_getr (o2 := 100) dX9_set_32 ff_X9_65 rfl (fx_pi_lt (by decide)) (by decide) rfl (hL _ _ _ rfl) ?_
      refine e_iload_n dX9_set_35 rfl ?_
      refine e_ialdv (j := k) (v := p_hld (u.1 k) (u.2.1 k)) dX9_set_36 rfl (fx_pi_lt (by decide)) rfl (by omega) (by decide) (HS _ (by omega)).1 ?_
      refine e_if_ne 47 dX9_set_37 rfl (fun c_0 => ?_) (fun c_0 => ?_)
      · have sok := p_hldr c_2 c_0
        refine e_iload_n dX9_set_47 rfl ?_
        refine e_if_lt 61 dX9_set_48 rfl (fun a_1 => ?_) (fun a_1 => ?_)
        · refine e_aload_n dX9_set_61 rfl ?_
          refine e_bipush dX9_set_62 kcb_m5 ?_
          refine e_callV1 (μ' := mX9_no) (ci := 9) (As := [.int (-5)]) dX9_set_64 wl_X9_136 ok_X9_no rfl rfl (fx_pi_lt (by decide)) (by decide) (Nat.le_of_ble_eq_true rfl) fx_n1 (s_X9_no (m := m) hL (b := 5) (z := (-5)) (by decide) (by decide)) rfl ?_
          have hb := (HS k hk).b1 c_s hk c_2 c_0
          have hq : q_set u.1 u.2.1 u.2.2.1 (nI k) i = (5, -5) := by unfold q_set; rw [hb, if_pos rfl, p_ix_n (show k < 2 ^ 31 by omega), if_pos (by rintro ⟨h1, h2⟩; first | exact absurd h1 (Int32.not_le.mpr a_1) | exact absurd h2 (Int32.not_lt.mpr a_2) | exact a_2 h2)]; rfl
          exact e_iret dX9_set_67 rfl rfl rfl ⟨by rw [hq], fun _ => by rw [hq]; exact (fx_mno_n (by decide)).symm, fun h => by rw [hq] at h; cases h⟩
        · refine e_iload_n dX9_set_51 rfl ?_
          refine e_aload_n dX9_set_52 rfl ?_
          refine e_getr (o2 := 102) dX9_set_53 ff_X9_71 rfl (fx_pi_lt (by decide)) (by decide) rfl (hL _ _ _ rfl) ?_
          refine e_iload_n dX9_set_56 rfl ?_
          refine e_ialdv (j := k) (v := nI (u.2.2.1 k)) dX9_set_57 rfl (fx_pi_lt (by decide)) rfl (by omega) (by decide) ((HS k (by omega)).2.1 sok).2.2.2.1 ?_
          refine e_icmp_lt 68 dX9_set_58 rfl (fun a_2 => ?_) (fun a_2 => ?_)
          · have hel : p_el i (nI (u.2.2.1 k)) := ⟨Int32.not_lt.mp a_1, a_2⟩
            obtain ⟨y, hy, ey⟩ := p_el_ex hel (by have := ((HS k hk).2.1 sok).2.2.2.2.1; omega)
            subst ey
            have hb := (HS k hk).b1 c_s hk c_2 c_0
            have hc160 := ((HS k hk).2.1 sok).2.2.2.2.1
            refine e_aload_n dX9_set_68 rfl ?_
            refine e_getr (o2 := 104) dX9_set_69 ff_X9_77 rfl (fx_pi_lt (by decide)) (by decide) rfl (hL _ _ _ rfl) ?_
            refine e_sipush dX9_set_72 kcs_160 ?_
            refine e_iload_n dX9_set_75 rfl ?_
            refine e_imul dX9_set_76 ?_
            refine e_iload_n dX9_set_77 rfl ?_
            refine e_iadd dX9_set_78 ?_
            refine e_aload_n dX9_set_79 rfl ?_
            refine e_getr (o2 := 101) dX9_set_80 ff_X9_68 rfl (fx_pi_lt (by decide)) (by decide) rfl (hL _ _ _ rfl) ?_
            refine e_iload_n dX9_set_83 rfl ?_
            refine e_ialdv (j := k) (v := u.1 k) dX9_set_84 rfl (fx_pi_lt (by decide)) rfl (by omega) (by decide) ((HS k (by omega)).2.1 sok).2.2.1 ?_
            refine e_if_ne 95 dX9_set_85 rfl (fun c_b => ?_) (fun c_b => ?_)
            · refine e_aload_n dX9_set_95 rfl ?_
              refine e_getr (o2 := 101) dX9_set_96 ff_X9_68 rfl (fx_pi_lt (by decide)) (by decide) rfl (hL _ _ _ rfl) ?_
              refine e_iload_n dX9_set_99 rfl ?_
              refine e_ialdv (j := k) (v := u.1 k) dX9_set_100 rfl (fx_pi_lt (by decide)) rfl (by omega) (by decide) ((HS k (by omega)).2.1 sok).2.2.1 ?_
              refine e_iconst dX9_set_101 kci_1 ?_
              refine e_icmp_ne 112 dX9_set_102 rfl (fun c_h => ?_) (fun c_h => ?_)
              · refine e_aload_n dX9_set_112 rfl ?_
                refine e_getr (o2 := 101) dX9_set_113 ff_X9_68 rfl (fx_pi_lt (by decide)) (by decide) rfl (hL _ _ _ rfl) ?_
                refine e_iload_n dX9_set_116 rfl ?_
                refine e_ialdv (j := k) (v := u.1 k) dX9_set_117 rfl (fx_pi_lt (by decide)) rfl (by omega) (by decide) ((HS k (by omega)).2.1 sok).2.2.1 ?_
                refine e_iconst dX9_set_118 kci_2 ?_
                refine e_icmp_ne 128 dX9_set_119 rfl (fun c_i => ?_) (fun c_i => ?_)
                · refine e_lload_n dX9_set_128 rfl ?_
                  have ev2 : p_nw (u.1 k) v = v := by unfold p_nw; rw [if_neg c_b, if_neg c_h, if_neg c_i]
                  refine e_last (j := 160 * k + y) dX9_set_129 rfl (fx_pi_lt (by decide)) (i_cell k y) (by omega) (by decide) ?_
                  refine e_iconst dX9_set_130 kci_1 ?_
                  have hq : q_set u.1 u.2.1 u.2.2.1 (nI k) (nI y) = (0, 1) := by unfold q_set; rw [hb, if_pos rfl, p_ix_n (show k < 2 ^ 31 by omega), if_neg (Decidable.not_not.mpr hel)]
                  exact e_iret dX9_set_131 rfl rfl rfl ⟨by rw [hq], fun h => absurd (congrArg Prod.fst hq) h, fun _ => by rw [p_ix_n (show k < 2 ^ 31 by omega), p_ix_n (show y < 2 ^ 31 by omega)]; rw [ev2]; exact HS.set hk hy sok⟩
                · refine e_lload_n dX9_set_122 rfl ?_
                  refine e_l2i dX9_set_123 ?_
                  refine e_i2l dX9_set_124 ?_
                  refine e_goto 129 dX9_set_125 rfl ?_
                  have ev : v.toInt32.toInt64 = p_nw (u.1 k) v := by unfold p_nw; (first | rw [if_pos c_b] | (rw [if_neg c_b]; first | rw [if_pos c_h] | (rw [if_neg c_h]; first | rw [if_pos c_i] | rw [if_neg c_i])))
                  rw [ev]
                  refine e_last (j := 160 * k + y) dX9_set_129 rfl (fx_pi_lt (by decide)) (i_cell k y) (by omega) (by decide) ?_
                  refine e_iconst dX9_set_130 kci_1 ?_
                  have hq : q_set u.1 u.2.1 u.2.2.1 (nI k) (nI y) = (0, 1) := by unfold q_set; rw [hb, if_pos rfl, p_ix_n (show k < 2 ^ 31 by omega), if_neg (Decidable.not_not.mpr hel)]
                  exact e_iret dX9_set_131 rfl rfl rfl ⟨by rw [hq], fun h => absurd (congrArg Prod.fst hq) h, fun _ => by rw [p_ix_n (show k < 2 ^ 31 by omega), p_ix_n (show y < 2 ^ 31 by omega)]; exact HS.set hk hy sok⟩
              · refine e_lload_n dX9_set_105 rfl ?_
                refine e_l2i dX9_set_106 ?_
                refine e_i2s dX9_set_107 ?_
                refine e_i2l dX9_set_108 ?_
                refine e_goto 129 dX9_set_109 rfl ?_
                have ev : v.toInt32.toInt16.toInt32.toInt64 = p_nw (u.1 k) v := by unfold p_nw; (first | rw [if_pos c_b] | (rw [if_neg c_b]; first | rw [if_pos c_h] | (rw [if_neg c_h]; first | rw [if_pos c_i] | rw [if_neg c_i])))
                rw [ev]
                refine e_last (j := 160 * k + y) dX9_set_129 rfl (fx_pi_lt (by decide)) (i_cell k y) (by omega) (by decide) ?_
                refine e_iconst dX9_set_130 kci_1 ?_
                have hq : q_set u.1 u.2.1 u.2.2.1 (nI k) (nI y) = (0, 1) := by unfold q_set; rw [hb, if_pos rfl, p_ix_n (show k < 2 ^ 31 by omega), if_neg (Decidable.not_not.mpr hel)]
                exact e_iret dX9_set_131 rfl rfl rfl ⟨by rw [hq], fun h => absurd (congrArg Prod.fst hq) h, fun _ => by rw [p_ix_n (show k < 2 ^ 31 by omega), p_ix_n (show y < 2 ^ 31 by omega)]; exact HS.set hk hy sok⟩
            · refine e_lload_n dX9_set_88 rfl ?_
              refine e_l2i dX9_set_89 ?_
              refine e_i2b dX9_set_90 ?_
              refine e_i2l dX9_set_91 ?_
              refine e_goto 129 dX9_set_92 rfl ?_
              have ev : v.toInt32.toInt8.toInt32.toInt64 = p_nw (u.1 k) v := by unfold p_nw; (first | rw [if_pos c_b] | (rw [if_neg c_b]; first | rw [if_pos c_h] | (rw [if_neg c_h]; first | rw [if_pos c_i] | rw [if_neg c_i])))
              rw [ev]
              refine e_last (j := 160 * k + y) dX9_set_129 rfl (fx_pi_lt (by decide)) (i_cell k y) (by omega) (by decide) ?_
              refine e_iconst dX9_set_130 kci_1 ?_
              have hq : q_set u.1 u.2.1 u.2.2.1 (nI k) (nI y) = (0, 1) := by unfold q_set; rw [hb, if_pos rfl, p_ix_n (show k < 2 ^ 31 by omega), if_neg (Decidable.not_not.mpr hel)]
              exact e_iret dX9_set_131 rfl rfl rfl ⟨by rw [hq], fun h => absurd (congrArg Prod.fst hq) h, fun _ => by rw [p_ix_n (show k < 2 ^ 31 by omega), p_ix_n (show y < 2 ^ 31 by omega)]; exact HS.set hk hy sok⟩
          · refine e_aload_n dX9_set_61 rfl ?_
            refine e_bipush dX9_set_62 kcb_m5 ?_
            refine e_callV1 (μ' := mX9_no) (ci := 9) (As := [.int (-5)]) dX9_set_64 wl_X9_136 ok_X9_no rfl rfl (fx_pi_lt (by decide)) (by decide) (Nat.le_of_ble_eq_true rfl) fx_n1 (s_X9_no (m := m) hL (b := 5) (z := (-5)) (by decide) (by decide)) rfl ?_
            have hb := (HS k hk).b1 c_s hk c_2 c_0
            have hq : q_set u.1 u.2.1 u.2.2.1 (nI k) i = (5, -5) := by unfold q_set; rw [hb, if_pos rfl, p_ix_n (show k < 2 ^ 31 by omega), if_pos (by rintro ⟨h1, h2⟩; first | exact absurd h1 (Int32.not_le.mpr a_1) | exact absurd h2 (Int32.not_lt.mpr a_2) | exact a_2 h2)]; rfl
            exact e_iret dX9_set_67 rfl rfl rfl ⟨by rw [hq], fun _ => by rw [hq]; exact (fx_mno_n (by decide)).symm, fun h => by rw [hq] at h; cases h⟩
      · refine e_aload_n dX9_set_40 rfl ?_
        refine e_bipush dX9_set_41 kcb_m3 ?_
        refine e_callV1 (μ' := mX9_no) (ci := 9) (As := [.int (-3)]) dX9_set_43 wl_X9_136 ok_X9_no rfl rfl (fx_pi_lt (by decide)) (by decide) (Nat.le_of_ble_eq_true rfl) fx_n1 (s_X9_no (m := m) hL (b := 3) (z := (-3)) (by decide) (by decide)) rfl ?_
        have hb := (HS k hk).b0 c_s hk c_0
        have hq : q_set u.1 u.2.1 u.2.2.1 (nI k) i = (3, -3) := by unfold q_set; rw [hb]; rfl
        exact e_iret dX9_set_46 rfl rfl rfl ⟨by rw [hq], fun _ => by rw [hq]; exact (fx_mno_n (by decide)).symm, fun h => by rw [hq] at h; cases h⟩
    · refine e_aload_n dX9_set_24 rfl ?_
      refine e_bipush dX9_set_25 kcb_m2 ?_
      refine e_callV1 (μ' := mX9_no) (ci := 9) (As := [.int (-2)]) dX9_set_27 wl_X9_136 ok_X9_no rfl rfl (fx_pi_lt (by decide)) (by decide) (Nat.le_of_ble_eq_true rfl) fx_n1 (s_X9_no (m := m) hL (b := 2) (z := (-2)) (by decide) (by decide)) rfl ?_
      have hb := (HS k hk).b2 c_s hk c_2
      have hq : q_set u.1 u.2.1 u.2.2.1 (nI k) i = (2, -2) := by unfold q_set; rw [hb]; rfl
      exact e_iret dX9_set_30 rfl rfl rfl ⟨by rw [hq], fun _ => by rw [hq]; exact (fx_mno_n (by decide)).symm, fun h => by rw [hq] at h; cases h⟩
  · refine e_aload_n dX9_set_8 rfl ?_
    refine e_iconst dX9_set_9 kci_m1 ?_
    refine e_callV1 (μ' := mX9_no) (ci := 9) (As := [.int (-1)]) dX9_set_10 wl_X9_136 ok_X9_no rfl rfl (fx_pi_lt (by decide)) (by decide) (Nat.le_of_ble_eq_true rfl) fx_n1 (s_X9_no (m := m) hL (b := 1) (z := (-1)) (by decide) (by decide)) rfl ?_
    have hb := p_bR_1 (so := u.1) (sa := u.2.1) c_s
    have hq : q_set u.1 u.2.1 u.2.2.1 s i = (1, -1) := by unfold q_set; rw [hb]; rfl
    exact e_iret dX9_set_13 rfl rfl rfl ⟨by rw [hq], fun _ => by rw [hq]; exact (fx_mno_n (by decide)).symm, fun h => by rw [hq] at h; cases h⟩
set_option maxRecDepth 100000 in
set_option maxHeartbeats 600000 in
theorem s_X9_copy {Γ : fx_G} {m : fx_M} (hL : fx_Lay m) {na : Nat} {u : p_Sh} (HS : fx_MSh m na u) (p q i j n : Int32) : fx_Ct Γ mX9_copy 1 119 119 [fx_rf Γ 83, .int p, .int q, .int i, .int j, .int n] m (fun r m' => r = some (.int (q_copy u.1 u.2.1 u.2.2.1 p q i j n).2) ∧ ((q_copy u.1 u.2.1 u.2.2.1 p q i j n).1 ≠ 0 → m' = fx_mno m (q_copy u.1 u.2.1 u.2.2.1 p q i j n).1) ∧ ((q_copy u.1 u.2.1 u.2.2.1 p q i j n).1 = 0 → fx_MSh m' na (p_shC u (p_ix p) (p_ix q) (p_ix i) (p_ix j) (p_ix n)) ∧ fx_KQ m m')) := by
  refine fx_Ct.of (j := 1) (by decide) (Nat.le_of_ble_eq_true rfl) (Nat.le_of_ble_eq_true rfl) ?_
  show fx_E Γ mX9_copy 1 119 119 _ 119 m 0 [some (fx_rf Γ 83), some (.int p), some (.int q), some (.int i), some (.int j), some (.int n), none] []
  refine e_aload_n dX9_copy_0 rfl ?_
  refine e_iload_n dX9_copy_1 rfl ?_
  refine e_callV1 (μ' := mX9_isShelf) (ci := 9) (As := [.int p]) dX9_copy_2 wl_X9_132 ok_X9_isShelf rfl rfl (fx_pi_lt (by decide)) (by decide) (Nat.le_of_ble_eq_true rfl) fx_n1 (s_X9_isShelf (m := m) hL p) rfl ?_
  refine e_if_eqB 16 dX9_copy_5 rfl (fun c_s => ?_) (fun c_s => ?_)
  · refine e_aload_n dX9_copy_16 rfl ?_
    refine e_iconst dX9_copy_17 kci_m1 ?_
    refine e_callV1 (μ' := mX9_no) (ci := 9) (As := [.int (-1)]) dX9_copy_18 wl_X9_136 ok_X9_no rfl rfl (fx_pi_lt (by decide)) (by decide) (Nat.le_of_ble_eq_true rfl) fx_n1 (s_X9_no (m := m) hL (b := 1) (z := (-1)) (by decide) (by decide)) rfl ?_
    have hb : p_bC u.1 u.2.1 p q = 1 := by unfold p_bC; first | exact if_pos c_s | (rw [if_neg (Decidable.not_not.mpr c_s)]; exact if_pos c_t)
    have hq : q_copy u.1 u.2.1 u.2.2.1 p q i j n = (1, -1) := by unfold q_copy; rw [hb]; rfl
    exact e_iret dX9_copy_21 rfl rfl rfl ⟨by rw [hq], fun _ => by rw [hq]; exact (fx_mno_n (by decide)).symm, fun h => by rw [hq] at h; cases h⟩
  · obtain ⟨k, hk, ek⟩ := p_in_ex7 c_s
    subst ek
    refine e_aload_n dX9_copy_8 rfl ?_
    refine e_iload_n dX9_copy_9 rfl ?_
    refine e_callV1 (μ' := mX9_isShelf) (ci := 9) (As := [.int q]) dX9_copy_10 wl_X9_132 ok_X9_isShelf rfl rfl (fx_pi_lt (by decide)) (by decide) (Nat.le_of_ble_eq_true rfl) fx_n1 (s_X9_isShelf (m := m) hL q) rfl ?_
    refine e_if_neB 22 dX9_copy_13 rfl (fun c_t => ?_) (fun c_t => ?_)
    · obtain ⟨l, hl, el⟩ := p_in_ex7 c_t
      subst el
      refine e_aload_n dX9_copy_22 rfl ?_
      refine e_getr (o2 := 100) dX9_copy_23 ff_X9_65 rfl (fx_pi_lt (by decide)) (by decide) rfl (hL _ _ _ rfl) ?_
      refine e_iload_n dX9_copy_26 rfl ?_
      refine e_ialdv (j := k) (v := p_hld (u.1 k) (u.2.1 k)) dX9_copy_27 rfl (fx_pi_lt (by decide)) rfl (by omega) (by decide) (HS _ (by omega)).1 ?_
      refine e_iconst dX9_copy_28 kci_2 ?_
      refine e_icmp_eq 77 dX9_copy_29 rfl (fun h1 => ?_) (fun h1 => ?_)
      · refine e_aload_n dX9_copy_77 rfl ?_
        refine e_bipush dX9_copy_78 kcb_m2 ?_
        refine e_callV1 (μ' := mX9_no) (ci := 9) (As := [.int (-2)]) dX9_copy_80 wl_X9_136 ok_X9_no rfl rfl (fx_pi_lt (by decide)) (by decide) (Nat.le_of_ble_eq_true rfl) fx_n1 (s_X9_no (m := m) hL (b := 2) (z := (-2)) (by decide) (by decide)) rfl ?_
        have hb : p_bC u.1 u.2.1 (nI k) (nI l) = 2 := (by have G := p_bC_i HS c_s c_t hk hl; first | exact G.1 (Or.inl h1) | exact G.1 (Or.inr (Or.inl h2)) | exact G.1 (Or.inr (Or.inr ⟨h3, h4, hs⟩)) | exact G.2.1 h1 h2 (Or.inl h6) | exact G.2.1 h1 h2 (Or.inr h7) | exact G.2.2 h3 h4 hs)
        have hq : q_copy u.1 u.2.1 u.2.2.1 (nI k) (nI l) i j n = (2, -2) := by unfold q_copy; rw [hb]; rfl
        exact e_iret dX9_copy_83 rfl rfl rfl ⟨by rw [hq], fun _ => by rw [hq]; exact (fx_mno_n (by decide)).symm, fun h => by rw [hq] at h; cases h⟩
      · refine e_aload_n dX9_copy_32 rfl ?_
        refine e_getr (o2 := 100) dX9_copy_33 ff_X9_65 rfl (fx_pi_lt (by decide)) (by decide) rfl (hL _ _ _ rfl) ?_
        refine e_iload_n dX9_copy_36 rfl ?_
        refine e_ialdv (j := l) (v := p_hld (u.1 l) (u.2.1 l)) dX9_copy_37 rfl (fx_pi_lt (by decide)) rfl (by omega) (by decide) (HS _ (by omega)).1 ?_
        refine e_iconst dX9_copy_38 kci_2 ?_
        refine e_icmp_eq 77 dX9_copy_39 rfl (fun h2 => ?_) (fun h2 => ?_)
        · refine e_aload_n dX9_copy_77 rfl ?_
          refine e_bipush dX9_copy_78 kcb_m2 ?_
          refine e_callV1 (μ' := mX9_no) (ci := 9) (As := [.int (-2)]) dX9_copy_80 wl_X9_136 ok_X9_no rfl rfl (fx_pi_lt (by decide)) (by decide) (Nat.le_of_ble_eq_true rfl) fx_n1 (s_X9_no (m := m) hL (b := 2) (z := (-2)) (by decide) (by decide)) rfl ?_
          have hb : p_bC u.1 u.2.1 (nI k) (nI l) = 2 := (by have G := p_bC_i HS c_s c_t hk hl; first | exact G.1 (Or.inl h1) | exact G.1 (Or.inr (Or.inl h2)) | exact G.1 (Or.inr (Or.inr ⟨h3, h4, hs⟩)) | exact G.2.1 h1 h2 (Or.inl h6) | exact G.2.1 h1 h2 (Or.inr h7) | exact G.2.2 h3 h4 hs)
          have hq : q_copy u.1 u.2.1 u.2.2.1 (nI k) (nI l) i j n = (2, -2) := by unfold q_copy; rw [hb]; rfl
          exact e_iret dX9_copy_83 rfl rfl rfl ⟨by rw [hq], fun _ => by rw [hq]; exact (fx_mno_n (by decide)).symm, fun h => by rw [hq] at h; cases h⟩
        · refine e_aload_n dX9_copy_42 rfl ?_
          refine e_getr (o2 := 100) dX9_copy_43 ff_X9_65 rfl (fx_pi_lt (by decide)) (by decide) rfl (hL _ _ _ rfl) ?_
          refine e_iload_n dX9_copy_46 rfl ?_
          refine e_ialdv (j := k) (v := p_hld (u.1 k) (u.2.1 k)) dX9_copy_47 rfl (fx_pi_lt (by decide)) rfl (by omega) (by decide) (HS _ (by omega)).1 ?_
          refine e_iconst dX9_copy_48 kci_1 ?_
          refine e_icmp_ne 84 dX9_copy_49 rfl (fun h3 => ?_) (fun h3 => ?_)
          · refine e_aload_n dX9_copy_84 rfl ?_
            refine e_getr (o2 := 100) dX9_copy_85 ff_X9_65 rfl (fx_pi_lt (by decide)) (by decide) rfl (hL _ _ _ rfl) ?_
            refine e_iload_n dX9_copy_88 rfl ?_
            refine e_ialdv (j := k) (v := p_hld (u.1 k) (u.2.1 k)) dX9_copy_89 rfl (fx_pi_lt (by decide)) rfl (by omega) (by decide) (HS _ (by omega)).1 ?_
            refine e_if_eq 102 dX9_copy_90 rfl (fun h6 => ?_) (fun h6 => ?_)
            · refine e_aload_n dX9_copy_102 rfl ?_
              refine e_bipush dX9_copy_103 kcb_m3 ?_
              refine e_callV1 (μ' := mX9_no) (ci := 9) (As := [.int (-3)]) dX9_copy_105 wl_X9_136 ok_X9_no rfl rfl (fx_pi_lt (by decide)) (by decide) (Nat.le_of_ble_eq_true rfl) fx_n1 (s_X9_no (m := m) hL (b := 3) (z := (-3)) (by decide) (by decide)) rfl ?_
              have hb : p_bC u.1 u.2.1 (nI k) (nI l) = 3 := (by have G := p_bC_i HS c_s c_t hk hl; first | exact G.1 (Or.inl h1) | exact G.1 (Or.inr (Or.inl h2)) | exact G.1 (Or.inr (Or.inr ⟨h3, h4, hs⟩)) | exact G.2.1 h1 h2 (Or.inl h6) | exact G.2.1 h1 h2 (Or.inr h7) | exact G.2.2 h3 h4 hs)
              have hq : q_copy u.1 u.2.1 u.2.2.1 (nI k) (nI l) i j n = (3, -3) := by unfold q_copy; rw [hb]; rfl
              exact e_iret dX9_copy_108 rfl rfl rfl ⟨by rw [hq], fun _ => by rw [hq]; exact (fx_mno_n (by decide)).symm, fun h => by rw [hq] at h; cases h⟩
            · refine e_aload_n dX9_copy_93 rfl ?_
              refine e_getr (o2 := 100) dX9_copy_94 ff_X9_65 rfl (fx_pi_lt (by decide)) (by decide) rfl (hL _ _ _ rfl) ?_
              refine e_iload_n dX9_copy_97 rfl ?_
              refine e_ialdv (j := l) (v := p_hld (u.1 l) (u.2.1 l)) dX9_copy_98 rfl (fx_pi_lt (by decide)) rfl (by omega) (by decide) (HS _ (by omega)).1 ?_
              refine e_if_ne 109 dX9_copy_99 rfl (fun h7 => ?_) (fun h7 => ?_)
              · exact absurd (p_hld1.mpr (p_hldr h1 h6)) h3
              · refine e_aload_n dX9_copy_102 rfl ?_
                refine e_bipush dX9_copy_103 kcb_m3 ?_
                refine e_callV1 (μ' := mX9_no) (ci := 9) (As := [.int (-3)]) dX9_copy_105 wl_X9_136 ok_X9_no rfl rfl (fx_pi_lt (by decide)) (by decide) (Nat.le_of_ble_eq_true rfl) fx_n1 (s_X9_no (m := m) hL (b := 3) (z := (-3)) (by decide) (by decide)) rfl ?_
                have hb : p_bC u.1 u.2.1 (nI k) (nI l) = 3 := (by have G := p_bC_i HS c_s c_t hk hl; first | exact G.1 (Or.inl h1) | exact G.1 (Or.inr (Or.inl h2)) | exact G.1 (Or.inr (Or.inr ⟨h3, h4, hs⟩)) | exact G.2.1 h1 h2 (Or.inl h6) | exact G.2.1 h1 h2 (Or.inr h7) | exact G.2.2 h3 h4 hs)
                have hq : q_copy u.1 u.2.1 u.2.2.1 (nI k) (nI l) i j n = (3, -3) := by unfold q_copy; rw [hb]; rfl
                exact e_iret dX9_copy_108 rfl rfl rfl ⟨by rw [hq], fun _ => by rw [hq]; exact (fx_mno_n (by decide)).symm, fun h => by rw [hq] at h; cases h⟩
          · refine e_aload_n dX9_copy_52 rfl ?_
            refine e_getr (o2 := 100) dX9_copy_53 ff_X9_65 rfl (fx_pi_lt (by decide)) (by decide) rfl (hL _ _ _ rfl) ?_
            refine e_iload_n dX9_copy_56 rfl ?_
            refine e_ialdv (j := l) (v := p_hld (u.1 l) (u.2.1 l)) dX9_copy_57 rfl (fx_pi_lt (by decide)) rfl (by omega) (by decide) (HS _ (by omega)).1 ?_
            refine e_iconst dX9_copy_58 kci_1 ?_
            refine e_icmp_ne 84 dX9_copy_59 rfl (fun h4 => ?_) (fun h4 => ?_)
            · refine e_aload_n dX9_copy_84 rfl ?_
              refine e_getr (o2 := 100) dX9_copy_85 ff_X9_65 rfl (fx_pi_lt (by decide)) (by decide) rfl (hL _ _ _ rfl) ?_
              refine e_iload_n dX9_copy_88 rfl ?_
              refine e_ialdv (j := k) (v := p_hld (u.1 k) (u.2.1 k)) dX9_copy_89 rfl (fx_pi_lt (by decide)) rfl (by omega) (by decide) (HS _ (by omega)).1 ?_
              refine e_if_eq 102 dX9_copy_90 rfl (fun h6 => ?_) (fun h6 => ?_)
              · refine e_aload_n dX9_copy_102 rfl ?_
                refine e_bipush dX9_copy_103 kcb_m3 ?_
                refine e_callV1 (μ' := mX9_no) (ci := 9) (As := [.int (-3)]) dX9_copy_105 wl_X9_136 ok_X9_no rfl rfl (fx_pi_lt (by decide)) (by decide) (Nat.le_of_ble_eq_true rfl) fx_n1 (s_X9_no (m := m) hL (b := 3) (z := (-3)) (by decide) (by decide)) rfl ?_
                have hb : p_bC u.1 u.2.1 (nI k) (nI l) = 3 := (by have G := p_bC_i HS c_s c_t hk hl; first | exact G.1 (Or.inl h1) | exact G.1 (Or.inr (Or.inl h2)) | exact G.1 (Or.inr (Or.inr ⟨h3, h4, hs⟩)) | exact G.2.1 h1 h2 (Or.inl h6) | exact G.2.1 h1 h2 (Or.inr h7) | exact G.2.2 h3 h4 hs)
                have hq : q_copy u.1 u.2.1 u.2.2.1 (nI k) (nI l) i j n = (3, -3) := by unfold q_copy; rw [hb]; rfl
                exact e_iret dX9_copy_108 rfl rfl rfl ⟨by rw [hq], fun _ => by rw [hq]; exact (fx_mno_n (by decide)).symm, fun h => by rw [hq] at h; cases h⟩
              · refine e_aload_n dX9_copy_93 rfl ?_
                refine e_getr (o2 := 100) dX9_copy_94 ff_X9_65 rfl (fx_pi_lt (by decide)) (by decide) rfl (hL _ _ _ rfl) ?_
                refine e_iload_n dX9_copy_97 rfl ?_
                refine e_ialdv (j := l) (v := p_hld (u.1 l) (u.2.1 l)) dX9_copy_98 rfl (fx_pi_lt (by decide)) rfl (by omega) (by decide) (HS _ (by omega)).1 ?_
                refine e_if_ne 109 dX9_copy_99 rfl (fun h7 => ?_) (fun h7 => ?_)
                · exact absurd (p_hld1.mpr (p_hldr h2 h7)) h4
                · refine e_aload_n dX9_copy_102 rfl ?_
                  refine e_bipush dX9_copy_103 kcb_m3 ?_
                  refine e_callV1 (μ' := mX9_no) (ci := 9) (As := [.int (-3)]) dX9_copy_105 wl_X9_136 ok_X9_no rfl rfl (fx_pi_lt (by decide)) (by decide) (Nat.le_of_ble_eq_true rfl) fx_n1 (s_X9_no (m := m) hL (b := 3) (z := (-3)) (by decide) (by decide)) rfl ?_
                  have hb : p_bC u.1 u.2.1 (nI k) (nI l) = 3 := (by have G := p_bC_i HS c_s c_t hk hl; first | exact G.1 (Or.inl h1) | exact G.1 (Or.inr (Or.inl h2)) | exact G.1 (Or.inr (Or.inr ⟨h3, h4, hs⟩)) | exact G.2.1 h1 h2 (Or.inl h6) | exact G.2.1 h1 h2 (Or.inr h7) | exact G.2.2 h3 h4 hs)
                  have hq : q_copy u.1 u.2.1 u.2.2.1 (nI k) (nI l) i j n = (3, -3) := by unfold q_copy; rw [hb]; rfl
                  exact e_iret dX9_copy_108 rfl rfl rfl ⟨by rw [hq], fun _ => by rw [hq]; exact (fx_mno_n (by decide)).symm, fun h => by rw [hq] at h; cases h⟩
            · have sok := p_hld1.mp h3
              have sol := p_hld1.mp h4
              refine e_aload_n dX9_copy_62 rfl ?_
              refine e_getr (o2 := 101) dX9_copy_63 ff_X9_68 rfl (fx_pi_lt (by decide)) (by decide) rfl (hL _ _ _ rfl) ?_
              refine e_iload_n dX9_copy_66 rfl ?_
              refine e_ialdv (j := k) (v := u.1 k) dX9_copy_67 rfl (fx_pi_lt (by decide)) rfl (by omega) (by decide) ((HS k (by omega)).2.1 sok).2.2.1 ?_
              refine e_aload_n dX9_copy_68 rfl ?_
              refine e_getr (o2 := 101) dX9_copy_69 ff_X9_68 rfl (fx_pi_lt (by decide)) (by decide) rfl (hL _ _ _ rfl) ?_
              refine e_iload_n dX9_copy_72 rfl ?_
              refine e_ialdv (j := l) (v := u.1 l) dX9_copy_73 rfl (fx_pi_lt (by decide)) rfl (by omega) (by decide) ((HS l (by omega)).2.1 sol).2.2.1 ?_
              refine e_icmp_eq 84 dX9_copy_74 rfl (fun hs => ?_) (fun hs => ?_)
              · refine e_aload_n dX9_copy_84 rfl ?_
                refine e_getr (o2 := 100) dX9_copy_85 ff_X9_65 rfl (fx_pi_lt (by decide)) (by decide) rfl (hL _ _ _ rfl) ?_
                refine e_iload_n dX9_copy_88 rfl ?_
                refine e_ialdv (j := k) (v := p_hld (u.1 k) (u.2.1 k)) dX9_copy_89 rfl (fx_pi_lt (by decide)) rfl (by omega) (by decide) (HS _ (by omega)).1 ?_
                refine e_if_eq 102 dX9_copy_90 rfl (fun h6 => ?_) (fun h6 => ?_)
                · refine e_aload_n dX9_copy_102 rfl ?_
                  refine e_bipush dX9_copy_103 kcb_m3 ?_
                  refine e_callV1 (μ' := mX9_no) (ci := 9) (As := [.int (-3)]) dX9_copy_105 wl_X9_136 ok_X9_no rfl rfl (fx_pi_lt (by decide)) (by decide) (Nat.le_of_ble_eq_true rfl) fx_n1 (s_X9_no (m := m) hL (b := 3) (z := (-3)) (by decide) (by decide)) rfl ?_
                  have hb : p_bC u.1 u.2.1 (nI k) (nI l) = 3 := (by have G := p_bC_i HS c_s c_t hk hl; first | exact G.1 (Or.inl h1) | exact G.1 (Or.inr (Or.inl h2)) | exact G.1 (Or.inr (Or.inr ⟨h3, h4, hs⟩)) | exact G.2.1 h1 h2 (Or.inl h6) | exact G.2.1 h1 h2 (Or.inr h7) | exact G.2.2 h3 h4 hs)
                  have hq : q_copy u.1 u.2.1 u.2.2.1 (nI k) (nI l) i j n = (3, -3) := by unfold q_copy; rw [hb]; rfl
                  exact e_iret dX9_copy_108 rfl rfl rfl ⟨by rw [hq], fun _ => by rw [hq]; exact (fx_mno_n (by decide)).symm, fun h => by rw [hq] at h; cases h⟩
                · refine e_aload_n dX9_copy_93 rfl ?_
                  refine e_getr (o2 := 100) dX9_copy_94 ff_X9_65 rfl (fx_pi_lt (by decide)) (by decide) rfl (hL _ _ _ rfl) ?_
                  refine e_iload_n dX9_copy_97 rfl ?_
                  refine e_ialdv (j := l) (v := p_hld (u.1 l) (u.2.1 l)) dX9_copy_98 rfl (fx_pi_lt (by decide)) rfl (by omega) (by decide) (HS _ (by omega)).1 ?_
                  refine e_if_ne 109 dX9_copy_99 rfl (fun h7 => ?_) (fun h7 => ?_)
                  · have hb0 : p_bC u.1 u.2.1 (nI k) (nI l) = 0 := (by have G := p_bC_i HS c_s c_t hk hl; first | exact G.1 (Or.inl h1) | exact G.1 (Or.inr (Or.inl h2)) | exact G.1 (Or.inr (Or.inr ⟨h3, h4, hs⟩)) | exact G.2.1 h1 h2 (Or.inl h6) | exact G.2.1 h1 h2 (Or.inr h7) | exact G.2.2 h3 h4 hs)
                    refine e_iload dX9_copy_109 rfl ?_
                    refine e_if_ge 121 dX9_copy_111 rfl (fun c_n => ?_) (fun c_n => ?_)
                    · refine e_iload_n dX9_copy_121 rfl ?_
                      refine e_if_lt 157 dX9_copy_122 rfl (fun a_1 => ?_) (fun a_1 => ?_)
                      · refine e_aload_n dX9_copy_157 rfl ?_
                        refine e_bipush dX9_copy_158 kcb_m5 ?_
                        refine e_callV1 (μ' := mX9_no) (ci := 9) (As := [.int (-5)]) dX9_copy_160 wl_X9_136 ok_X9_no rfl rfl (fx_pi_lt (by decide)) (by decide) (Nat.le_of_ble_eq_true rfl) fx_n1 (s_X9_no (m := m) hL (b := 5) (z := (-5)) (by decide) (by decide)) rfl ?_
                        have hq : q_copy u.1 u.2.1 u.2.2.1 (nI k) (nI l) i j n = (5, -5) := by unfold q_copy p_stP; rw [hb0, if_pos rfl, if_neg (Decidable.not_not.mpr c_n), p_ix_n (show k < 2 ^ 31 by omega), p_ix_n (show l < 2 ^ 31 by omega)]; rw [if_pos (by rintro ⟨g1, g2⟩; exact absurd g1 (Int32.not_le.mpr a_1))]; rfl
                        exact e_iret dX9_copy_163 rfl rfl rfl ⟨by rw [hq], fun _ => by rw [hq]; exact (fx_mno_n (by decide)).symm, fun h => by rw [hq] at h; cases h⟩
                      · refine e_iload dX9_copy_125 rfl ?_
                        refine e_if_lt 157 dX9_copy_127 rfl (fun a_2 => ?_) (fun a_2 => ?_)
                        · refine e_aload_n dX9_copy_157 rfl ?_
                          refine e_bipush dX9_copy_158 kcb_m5 ?_
                          refine e_callV1 (μ' := mX9_no) (ci := 9) (As := [.int (-5)]) dX9_copy_160 wl_X9_136 ok_X9_no rfl rfl (fx_pi_lt (by decide)) (by decide) (Nat.le_of_ble_eq_true rfl) fx_n1 (s_X9_no (m := m) hL (b := 5) (z := (-5)) (by decide) (by decide)) rfl ?_
                          have hq : q_copy u.1 u.2.1 u.2.2.1 (nI k) (nI l) i j n = (5, -5) := by unfold q_copy p_stP; rw [hb0, if_pos rfl, if_neg (Decidable.not_not.mpr c_n), p_ix_n (show k < 2 ^ 31 by omega), p_ix_n (show l < 2 ^ 31 by omega)]; split; rfl; rw [if_pos (by rintro ⟨g1, g2⟩; exact absurd g1 (Int32.not_le.mpr a_2))]; rfl
                          exact e_iret dX9_copy_163 rfl rfl rfl ⟨by rw [hq], fun _ => by rw [hq]; exact (fx_mno_n (by decide)).symm, fun h => by rw [hq] at h; cases h⟩
                        · refine e_iload_n dX9_copy_130 rfl ?_
                          refine e_aload_n dX9_copy_131 rfl ?_
                          refine e_getr (o2 := 102) dX9_copy_132 ff_X9_71 rfl (fx_pi_lt (by decide)) (by decide) rfl (hL _ _ _ rfl) ?_
                          refine e_iload_n dX9_copy_135 rfl ?_
                          refine e_ialdv (j := k) (v := nI (u.2.2.1 k)) dX9_copy_136 rfl (fx_pi_lt (by decide)) rfl (by omega) (by decide) ((HS k (by omega)).2.1 sok).2.2.2.1 ?_
                          refine e_iload dX9_copy_137 rfl ?_
                          refine e_isub dX9_copy_139 ?_
                          refine e_icmp_gt 157 dX9_copy_140 rfl (fun a_3 => ?_) (fun a_3 => ?_)
                          · refine e_aload_n dX9_copy_157 rfl ?_
                            refine e_bipush dX9_copy_158 kcb_m5 ?_
                            refine e_callV1 (μ' := mX9_no) (ci := 9) (As := [.int (-5)]) dX9_copy_160 wl_X9_136 ok_X9_no rfl rfl (fx_pi_lt (by decide)) (by decide) (Nat.le_of_ble_eq_true rfl) fx_n1 (s_X9_no (m := m) hL (b := 5) (z := (-5)) (by decide) (by decide)) rfl ?_
                            have hq : q_copy u.1 u.2.1 u.2.2.1 (nI k) (nI l) i j n = (5, -5) := by unfold q_copy p_stP; rw [hb0, if_pos rfl, if_neg (Decidable.not_not.mpr c_n), p_ix_n (show k < 2 ^ 31 by omega), p_ix_n (show l < 2 ^ 31 by omega)]; rw [if_pos (by rintro ⟨g1, g2⟩; first | exact absurd g2 (Int32.not_le.mpr a_3) | exact a_3 g2)]; rfl
                            exact e_iret dX9_copy_163 rfl rfl rfl ⟨by rw [hq], fun _ => by rw [hq]; exact (fx_mno_n (by decide)).symm, fun h => by rw [hq] at h; cases h⟩
                          · refine e_iload dX9_copy_143 rfl ?_
                            refine e_aload_n dX9_copy_145 rfl ?_
                            refine e_getr (o2 := 102) dX9_copy_146 ff_X9_71 rfl (fx_pi_lt (by decide)) (by decide) rfl (hL _ _ _ rfl) ?_
                            refine e_iload_n dX9_copy_149 rfl ?_
                            refine e_ialdv (j := l) (v := nI (u.2.2.1 l)) dX9_copy_150 rfl (fx_pi_lt (by decide)) rfl (by omega) (by decide) ((HS l (by omega)).2.1 sol).2.2.2.1 ?_
                            refine e_iload dX9_copy_151 rfl ?_
                            refine e_isub dX9_copy_153 ?_
                            refine e_icmp_le 164 dX9_copy_154 rfl (fun a_4 => ?_) (fun a_4 => ?_)
                            · refine e_iconst dX9_copy_164 kci_0 ?_
                              refine e_istore dX9_copy_165 (by decide) rfl ?_
                              have c_i : p_stP i n (u.2.2.1 k) := ⟨Int32.not_lt.mp a_1, Int32.not_lt.mp a_3⟩
                              have c_j : p_stP j n (u.2.2.1 l) := ⟨Int32.not_lt.mp a_2, a_4⟩
                              have hck := ((HS k hk).2.1 sok).2.2.2.2.1
                              have hcl := ((HS l hl).2.1 sol).2.2.2.2.1
                              obtain ⟨w, hw, ew⟩ := nI_of (Int32.not_lt.mpr c_n)
                              subst ew
                              obtain ⟨y, hy, ey⟩ := p_str hw hck c_i
                              subst ey
                              obtain ⟨z, hz, ez⟩ := p_str hw hcl c_j
                              subst ez
                              have lp2 : ∀ (b : Nat) (c : Nat), c + b = w → fx_E Γ mX9_copy 1 119 119 (fun r m' => r = some (.int (q_copy u.1 u.2.1 u.2.2.1 (nI k) (nI l) (nI y) (nI z) (nI w)).2) ∧ ((q_copy u.1 u.2.1 u.2.2.1 (nI k) (nI l) (nI y) (nI z) (nI w)).1 ≠ 0 → m' = fx_mno m (q_copy u.1 u.2.1 u.2.2.1 (nI k) (nI l) (nI y) (nI z) (nI w)).1) ∧ ((q_copy u.1 u.2.1 u.2.2.1 (nI k) (nI l) (nI y) (nI z) (nI w)).1 = 0 → fx_MSh m' na (p_shC u (p_ix (nI k)) (p_ix (nI l)) (p_ix (nI y)) (p_ix (nI z)) (p_ix (nI w))) ∧ fx_KQ m m')) 119 (fx_c2 m (160 * k + y) (160 * l + z) w c) 205 [some (fx_rf Γ 83), some (.int (nI k)), some (.int (nI l)), some (.int (nI y)), some (.int (nI z)), some (.int (nI w)), some (.int (nI c))] [] := by
                                intro b
                                induction b with
                                | zero =>
                                  intro c hc
                                  refine e_iload dX9_copy_205 rfl ?_
                                  refine e_iload dX9_copy_207 rfl ?_
                                  refine e_icmp_ge 241 dX9_copy_209 rfl (fun _ => ?_) (fun h => absurd (nI_le (by omega) (by omega)) h)
                                  refine e_iconst dX9_copy_241 kci_1 ?_
                                  obtain rfl : c = w := by omega
                                  have hq : q_copy u.1 u.2.1 u.2.2.1 (nI k) (nI l) (nI y) (nI z) (nI c) = (0, 1) := by unfold q_copy; rw [hb0, if_pos rfl, if_neg (Decidable.not_not.mpr c_n), p_ix_n (show k < 2 ^ 31 by omega), p_ix_n (show l < 2 ^ 31 by omega), if_neg (Decidable.not_not.mpr c_i), if_neg (Decidable.not_not.mpr c_j)]
                                  exact e_iret dX9_copy_242 rfl rfl rfl ⟨by rw [hq], fun h => absurd (congrArg Prod.fst hq) h, fun _ => by rw [p_ix_n (show k < 2 ^ 31 by omega), p_ix_n (show l < 2 ^ 31 by omega), p_ix_n (show y < 2 ^ 31 by omega), p_ix_n (show z < 2 ^ 31 by omega), p_ix_n (show c < 2 ^ 31 by omega)]; exact HS.copy hk hl hy hz sok sol⟩
                                | succ b ih =>
                                  intro c hc
                                  refine e_iload dX9_copy_205 rfl ?_
                                  refine e_iload dX9_copy_207 rfl ?_
                                  refine e_icmp_ge 241 dX9_copy_209 rfl (fun h => absurd h (nI_ge (by omega) (by omega))) (fun _ => ?_)
                                  refine e_aload_n dX9_copy_212 rfl ?_
                                  refine e_getr (o2 := 104) dX9_copy_213 ff_X9_77 rfl (fx_pi_lt (by decide)) (by decide) rfl (hL _ _ _ rfl) ?_
                                  refine e_sipush dX9_copy_216 kcs_160 ?_
                                  refine e_iload_n dX9_copy_219 rfl ?_
                                  refine e_imul dX9_copy_220 ?_
                                  refine e_iload dX9_copy_221 rfl ?_
                                  refine e_iadd dX9_copy_223 ?_
                                  refine e_iload dX9_copy_224 rfl ?_
                                  refine e_iadd dX9_copy_226 ?_
                                  refine e_aload_n dX9_copy_227 rfl ?_
                                  refine e_getr (o2 := 105) dX9_copy_228 ff_X9_81 rfl (fx_pi_lt (by decide)) (by decide) rfl (hL _ _ _ rfl) ?_
                                  refine e_iload dX9_copy_231 rfl ?_
                                  refine e_lald (j := c) dX9_copy_233 rfl (fx_pi_lt (by decide)) rfl (by omega) (by decide) ?_
                                  refine e_last (j := 160 * l + z + c) dX9_copy_234 rfl (fx_pi_lt (by decide)) (i_cell3 l z c) (by omega) (by decide) ?_
                                  refine e_iinc (v := nI (c + 1)) dX9_copy_235 rfl (fx_inc _) (by decide) rfl ?_
                                  refine e_goto 205 dX9_copy_238 rfl ?_
                                  rw [fx_c2_s m _ _ _ _ (by omega)]
                                  exact ih (c + 1) (by omega)
                              have lp1 : ∀ (b : Nat) (c : Nat), c + b = w → fx_E Γ mX9_copy 1 119 119 (fun r m' => r = some (.int (q_copy u.1 u.2.1 u.2.2.1 (nI k) (nI l) (nI y) (nI z) (nI w)).2) ∧ ((q_copy u.1 u.2.1 u.2.2.1 (nI k) (nI l) (nI y) (nI z) (nI w)).1 ≠ 0 → m' = fx_mno m (q_copy u.1 u.2.1 u.2.2.1 (nI k) (nI l) (nI y) (nI z) (nI w)).1) ∧ ((q_copy u.1 u.2.1 u.2.2.1 (nI k) (nI l) (nI y) (nI z) (nI w)).1 = 0 → fx_MSh m' na (p_shC u (p_ix (nI k)) (p_ix (nI l)) (p_ix (nI y)) (p_ix (nI z)) (p_ix (nI w))) ∧ fx_KQ m m')) 119 (fx_c1 m (160 * k + y) c) 167 [some (fx_rf Γ 83), some (.int (nI k)), some (.int (nI l)), some (.int (nI y)), some (.int (nI z)), some (.int (nI w)), some (.int (nI c))] [] := by
                                intro b
                                induction b with
                                | zero =>
                                  intro c hc
                                  refine e_iload dX9_copy_167 rfl ?_
                                  refine e_iload dX9_copy_169 rfl ?_
                                  refine e_icmp_ge 202 dX9_copy_171 rfl (fun _ => ?_) (fun h => absurd (nI_le (by omega) (by omega)) h)
                                  refine e_iconst dX9_copy_202 kci_0 ?_
                                  refine e_istore dX9_copy_203 (by decide) rfl ?_
                                  obtain rfl : c = w := by omega
                                  have e0 := lp2 c 0 (by omega)
                                  rw [fx_c2_0] at e0
                                  exact e0
                                | succ b ih =>
                                  intro c hc
                                  refine e_iload dX9_copy_167 rfl ?_
                                  refine e_iload dX9_copy_169 rfl ?_
                                  refine e_icmp_ge 202 dX9_copy_171 rfl (fun h => absurd h (nI_ge (by omega) (by omega))) (fun _ => ?_)
                                  refine e_aload_n dX9_copy_174 rfl ?_
                                  refine e_getr (o2 := 105) dX9_copy_175 ff_X9_81 rfl (fx_pi_lt (by decide)) (by decide) rfl (hL _ _ _ rfl) ?_
                                  refine e_iload dX9_copy_178 rfl ?_
                                  refine e_aload_n dX9_copy_180 rfl ?_
                                  refine e_getr (o2 := 104) dX9_copy_181 ff_X9_77 rfl (fx_pi_lt (by decide)) (by decide) rfl (hL _ _ _ rfl) ?_
                                  refine e_sipush dX9_copy_184 kcs_160 ?_
                                  refine e_iload_n dX9_copy_187 rfl ?_
                                  refine e_imul dX9_copy_188 ?_
                                  refine e_iload_n dX9_copy_189 rfl ?_
                                  refine e_iadd dX9_copy_190 ?_
                                  refine e_iload dX9_copy_191 rfl ?_
                                  refine e_iadd dX9_copy_193 ?_
                                  refine e_lald (j := 160 * k + y + c) dX9_copy_194 rfl (fx_pi_lt (by decide)) (i_cell3 k y c) (by omega) (by decide) ?_
                                  refine e_last (j := c) dX9_copy_195 rfl (fx_pi_lt (by decide)) rfl (by omega) (by decide) ?_
                                  refine e_iinc (v := nI (c + 1)) dX9_copy_196 rfl (fx_inc _) (by decide) rfl ?_
                                  refine e_goto 167 dX9_copy_199 rfl ?_
                                  rw [fx_c1_s]
                                  exact ih (c + 1) (by omega)
                              have e0 := lp1 w 0 (by omega)
                              rw [fx_c1_0] at e0
                              exact e0
                            · refine e_aload_n dX9_copy_157 rfl ?_
                              refine e_bipush dX9_copy_158 kcb_m5 ?_
                              refine e_callV1 (μ' := mX9_no) (ci := 9) (As := [.int (-5)]) dX9_copy_160 wl_X9_136 ok_X9_no rfl rfl (fx_pi_lt (by decide)) (by decide) (Nat.le_of_ble_eq_true rfl) fx_n1 (s_X9_no (m := m) hL (b := 5) (z := (-5)) (by decide) (by decide)) rfl ?_
                              have hq : q_copy u.1 u.2.1 u.2.2.1 (nI k) (nI l) i j n = (5, -5) := by unfold q_copy p_stP; rw [hb0, if_pos rfl, if_neg (Decidable.not_not.mpr c_n), p_ix_n (show k < 2 ^ 31 by omega), p_ix_n (show l < 2 ^ 31 by omega)]; rw [if_neg (Decidable.not_not.mpr ⟨Int32.not_lt.mp a_1, Int32.not_lt.mp a_3⟩), if_pos (by rintro ⟨g1, g2⟩; first | exact a_4 g2 | exact absurd g2 (Int32.not_le.mpr a_4))]; rfl
                              exact e_iret dX9_copy_163 rfl rfl rfl ⟨by rw [hq], fun _ => by rw [hq]; exact (fx_mno_n (by decide)).symm, fun h => by rw [hq] at h; cases h⟩
                    · refine e_aload_n dX9_copy_114 rfl ?_
                      refine e_bipush dX9_copy_115 kcb_m4 ?_
                      refine e_callV1 (μ' := mX9_no) (ci := 9) (As := [.int (-4)]) dX9_copy_117 wl_X9_136 ok_X9_no rfl rfl (fx_pi_lt (by decide)) (by decide) (Nat.le_of_ble_eq_true rfl) fx_n1 (s_X9_no (m := m) hL (b := 4) (z := (-4)) (by decide) (by decide)) rfl ?_
                      have hq : q_copy u.1 u.2.1 u.2.2.1 (nI k) (nI l) i j n = (4, -4) := by unfold q_copy; rw [hb0, if_pos rfl, if_pos c_n]; rfl
                      exact e_iret dX9_copy_120 rfl rfl rfl ⟨by rw [hq], fun _ => by rw [hq]; exact (fx_mno_n (by decide)).symm, fun h => by rw [hq] at h; cases h⟩
                  · refine e_aload_n dX9_copy_102 rfl ?_
                    refine e_bipush dX9_copy_103 kcb_m3 ?_
                    refine e_callV1 (μ' := mX9_no) (ci := 9) (As := [.int (-3)]) dX9_copy_105 wl_X9_136 ok_X9_no rfl rfl (fx_pi_lt (by decide)) (by decide) (Nat.le_of_ble_eq_true rfl) fx_n1 (s_X9_no (m := m) hL (b := 3) (z := (-3)) (by decide) (by decide)) rfl ?_
                    have hb : p_bC u.1 u.2.1 (nI k) (nI l) = 3 := (by have G := p_bC_i HS c_s c_t hk hl; first | exact G.1 (Or.inl h1) | exact G.1 (Or.inr (Or.inl h2)) | exact G.1 (Or.inr (Or.inr ⟨h3, h4, hs⟩)) | exact G.2.1 h1 h2 (Or.inl h6) | exact G.2.1 h1 h2 (Or.inr h7) | exact G.2.2 h3 h4 hs)
                    have hq : q_copy u.1 u.2.1 u.2.2.1 (nI k) (nI l) i j n = (3, -3) := by unfold q_copy; rw [hb]; rfl
                    exact e_iret dX9_copy_108 rfl rfl rfl ⟨by rw [hq], fun _ => by rw [hq]; exact (fx_mno_n (by decide)).symm, fun h => by rw [hq] at h; cases h⟩
              · refine e_aload_n dX9_copy_77 rfl ?_
                refine e_bipush dX9_copy_78 kcb_m2 ?_
                refine e_callV1 (μ' := mX9_no) (ci := 9) (As := [.int (-2)]) dX9_copy_80 wl_X9_136 ok_X9_no rfl rfl (fx_pi_lt (by decide)) (by decide) (Nat.le_of_ble_eq_true rfl) fx_n1 (s_X9_no (m := m) hL (b := 2) (z := (-2)) (by decide) (by decide)) rfl ?_
                have hb : p_bC u.1 u.2.1 (nI k) (nI l) = 2 := (by have G := p_bC_i HS c_s c_t hk hl; first | exact G.1 (Or.inl h1) | exact G.1 (Or.inr (Or.inl h2)) | exact G.1 (Or.inr (Or.inr ⟨h3, h4, hs⟩)) | exact G.2.1 h1 h2 (Or.inl h6) | exact G.2.1 h1 h2 (Or.inr h7) | exact G.2.2 h3 h4 hs)
                have hq : q_copy u.1 u.2.1 u.2.2.1 (nI k) (nI l) i j n = (2, -2) := by unfold q_copy; rw [hb]; rfl
                exact e_iret dX9_copy_83 rfl rfl rfl ⟨by rw [hq], fun _ => by rw [hq]; exact (fx_mno_n (by decide)).symm, fun h => by rw [hq] at h; cases h⟩
    · refine e_aload_n dX9_copy_16 rfl ?_
      refine e_iconst dX9_copy_17 kci_m1 ?_
      refine e_callV1 (μ' := mX9_no) (ci := 9) (As := [.int (-1)]) dX9_copy_18 wl_X9_136 ok_X9_no rfl rfl (fx_pi_lt (by decide)) (by decide) (Nat.le_of_ble_eq_true rfl) fx_n1 (s_X9_no (m := m) hL (b := 1) (z := (-1)) (by decide) (by decide)) rfl ?_
      have hb : p_bC u.1 u.2.1 (nI k) q = 1 := by unfold p_bC; first | exact if_pos c_s | (rw [if_neg (Decidable.not_not.mpr c_s)]; exact if_pos c_t)
      have hq : q_copy u.1 u.2.1 u.2.2.1 (nI k) q i j n = (1, -1) := by unfold q_copy; rw [hb]; rfl
      exact e_iret dX9_copy_21 rfl rfl rfl ⟨by rw [hq], fun _ => by rw [hq]; exact (fx_mno_n (by decide)).symm, fun h => by rw [hq] at h; cases h⟩
