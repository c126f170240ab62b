/-! the parting: keeping what is found -/
/-- if the flag is down at the end, it was down before and no number is another -/
def fx_qu (m m' : fx_M) : Prop := m'.1 53 11 = 0 → ∀ o k, m'.1 o k = m.1 o k
theorem fx_qu.refl (m : fx_M) : fx_qu m m := fun _ _ _ => rfl
theorem fx_qu.trans {a b c : fx_M} (h : fx_qu a b) (g : fx_qu b c) : fx_qu a c := fun e o k => by
  have h1 := g e
  rw [h1, h ((h1 53 11).symm.trans e)]
abbrev fx_fl (m : fx_M) : Prop := m.1 53 11 = 0 ∨ m.1 53 11 = 1
theorem p_or0 {a b : Int32} (ha : a = 0 ∨ a = 1) (hb : b = 0 ∨ b = 1) (h : a ||| b = 0) : a = 0 ∧ b = 0 := by
  rcases ha with rfl | rfl <;> rcases hb with rfl | rfl <;> first | exact ⟨rfl, rfl⟩ | exact absurd h (by decide)
theorem p_or01 {a b : Int32} (ha : a = 0 ∨ a = 1) (hb : b = 0 ∨ b = 1) : a ||| b = 0 ∨ a ||| b = 1 := by
  rcases ha with rfl | rfl <;> rcases hb with rfl | rfl <;> decide
theorem p_if01 {c : Prop} [Decidable c] : (if c then (0 : Int32) else 1) = 0 ∨ (if c then (0 : Int32) else 1) = 1 := by split; exact Or.inl rfl; exact Or.inr rfl
def fx_kp (m : fx_M) (r i : Nat) (v : Int32) : fx_M := fx_sI (fx_sI m 53 11 (m.1 53 11 ||| if m.1 r i = v then 0 else 1)) r i v
theorem fx_kp_fl {m : fx_M} {r i : Nat} {v : Int32} (hf : fx_fl m) (hr : r ≠ 53) : fx_fl (fx_kp m r i v) := by
  unfold fx_fl fx_kp
  rw [fx_sI_n _ _ _ (Ne.symm hr), fx_rd0]
  exact p_or01 hf p_if01
theorem fx_kp_qu {m : fx_M} {r i : Nat} {v : Int32} (hf : fx_fl m) (hr : r ≠ 53) : fx_qu m (fx_kp m r i v) := fun e o k => by
  unfold fx_kp at e ⊢
  rw [fx_sI_n _ _ _ (Ne.symm hr), fx_rd0] at e
  have h := p_or0 hf p_if01 e
  have hv : m.1 r i = v := by
    by_cases hc : m.1 r i = v
    · exact hc
    · rw [if_neg hc] at h; exact absurd h.2 (by decide)
  by_cases ho : o = r
  · subst ho
    by_cases hk : k = i
    · subst hk; rw [fx_rd0, hv]
    · rw [fx_rd2 (Ne.symm hk), fx_sI_n _ _ _ hr]
  · rw [fx_sI_n _ _ _ ho]
    by_cases h3 : o = 53
    · subst h3
      by_cases hk : k = 11
      · subst hk; rw [fx_rd0, e, h.1]
      · rw [fx_rd2 (Ne.symm hk)]
    · rw [fx_sI_n _ _ _ h3]
theorem fx_kp_0 {m : fx_M} {r i : Nat} {v : Int32} : (fx_kp m r i v).1 r i = v := fx_rd0
theorem fx_kp_n {m : fx_M} {r i o k : Nat} {v : Int32} (h : o ≠ r ∨ k ≠ i) (h2 : o ≠ 53 ∨ k ≠ 11) : (fx_kp m r i v).1 o k = m.1 o k := by
  unfold fx_kp
  simp only [fx_sI]
  rcases h with h | h <;> rcases h2 with h2 | h2 <;> simp [h, h2]
theorem fx_kp_on {P : Nat → Prop} {m m' : fx_M} {r i : Nat} {v : Int32} (h : fx_oP P m m') (h1 : P r) (h2 : P 53) : fx_oP P m (fx_kp m' r i v) := (h.sI h2).sI h1
set_option maxRecDepth 100000 in
set_option maxHeartbeats 600000 in
theorem s_X3_keep {Γ : fx_G} {m : fx_M} (hL : fx_Lay m) {r len i : Nat} (hr : fx_shapes[r]? = some (0, len)) (hrl : r < 119) (hlen : len < 10000) (hi : i < len) (hne : r ≠ 53) (hf : fx_fl m) (v : Int32) : fx_Ct Γ mX3_keep 0 119 119 [fx_rf Γ 53, fx_rf Γ r, .int (nI i), .int v] m (fx_is none (fx_kp m r i v)) := by
  refine fx_Ct.of (j := 0) (by decide) (Nat.le_of_ble_eq_true rfl) (Nat.le_of_ble_eq_true rfl) ?_
  show fx_E Γ mX3_keep 0 119 119 _ 119 m 0 [some (fx_rf Γ 53), some (fx_rf Γ r), some (.int (nI i)), some (.int v)] []
  refine e_aload_n dX3_keep_0 rfl ?_
  refine e_dup dX3_keep_1 rfl ?_
  refine e_get dX3_keep_2 ff_X3_52 rfl (fx_pi_lt (by decide)) (by decide) rfl ?_
  refine e_aload_n dX3_keep_5 rfl ?_
  refine e_iload_n dX3_keep_6 rfl ?_
  refine e_iald (j := i) dX3_keep_7 hr (fx_pi_lt hrl) rfl (by omega) (by omega) ?_
  refine e_iload_n dX3_keep_8 rfl ?_
  refine e_icmp_eq 16 dX3_keep_9 rfl (fun c_e => ?_) (fun c_e => ?_)
  · refine e_iconst dX3_keep_16 kci_0 ?_
    refine e_ior dX3_keep_17 ?_
    refine e_putz dX3_keep_18 ff_X3_52 rfl (fx_pi_lt (by decide)) (by decide) rfl (Or.inl rfl) (p_or01 hf (by first | exact Or.inl rfl | exact Or.inr rfl)) ?_
    refine e_aload_n dX3_keep_21 rfl ?_
    refine e_iload_n dX3_keep_22 rfl ?_
    refine e_iload_n dX3_keep_23 rfl ?_
    refine e_iast (j := i) dX3_keep_24 hr (fx_pi_lt hrl) rfl (by omega) (by omega) ?_
    exact e_vret dX3_keep_25 rfl rfl ⟨rfl, by first | (unfold fx_kp; rw [if_pos c_e]; done) | (unfold fx_kp; rw [if_neg c_e]; done)⟩
  · refine e_iconst dX3_keep_12 kci_1 ?_
    refine e_goto 17 dX3_keep_13 rfl ?_
    refine e_ior dX3_keep_17 ?_
    refine e_putz dX3_keep_18 ff_X3_52 rfl (fx_pi_lt (by decide)) (by decide) rfl (Or.inl rfl) (p_or01 hf (by first | exact Or.inl rfl | exact Or.inr rfl)) ?_
    refine e_aload_n dX3_keep_21 rfl ?_
    refine e_iload_n dX3_keep_22 rfl ?_
    refine e_iload_n dX3_keep_23 rfl ?_
    refine e_iast (j := i) dX3_keep_24 hr (fx_pi_lt hrl) rfl (by omega) (by omega) ?_
    exact e_vret dX3_keep_25 rfl rfl ⟨rfl, by first | (unfold fx_kp; rw [if_pos c_e]; done) | (unfold fx_kp; rw [if_neg c_e]; done)⟩
