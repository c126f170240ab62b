def p_Gs (P : Nat → Prop) [DecidablePred P] (g : Nat → Int32) (s x : Nat) (z : Int32) : Int32 := if P x ∧ s.testBit x = false then (if g x ≤ z then z else g x) else z
def p_Gd (P : Nat → Nat → Prop) [∀ t, DecidablePred (P t)] (f : Nat → Nat → Int32) (na : Nat) : Nat → Nat → Nat → Int32
  | 0, _, _ => 0
  | j + 1, t, s => p_fold (p_Gs (P t) (fun x => 1000 - f x t + p_Gd P f na j (t + 1) (s + 2 ^ x)) s) na 0 (p_Gd P f na j (t + 1) s)
/-- what may stand at side i, but for the arm that is left out -/
abbrev p_PC (A D : Nat → Nat → Int32) (na i x : Nat) : Prop := p_can A D na x (i / 2) (nI (i % 2))
abbrev p_PD (A D : Nat → Nat → Int32) (na : Nat) (o : Option Nat) (i x : Nat) : Prop := p_PC A D na i x ∧ o ≠ some x
def p_mG (A D : Nat → Nat → Int32) (na nd : Nat) (o : Option Nat) (i s : Nat) : Int32 := p_Gd (p_PD A D na o) (fun x i => p_farA A D x (i / 2)) na (2 * nd - i) i s
theorem p_sN_rm {P : Nat → Prop} [DecidablePred P] {w : Nat} : ∀ {n : Nat}, (w < n → P w → p_sN (fun x => P x ∧ some w ≠ some x) n + 2 ^ w = p_sN P n) ∧ ((n ≤ w ∨ ¬ P w) → p_sN (fun x => P x ∧ some w ≠ some x) n = p_sN P n)
  | 0 => ⟨fun h => absurd h (Nat.not_lt_zero _), fun _ => rfl⟩
  | n + 1 => by
    obtain ⟨h1, h2⟩ := p_sN_rm (P := P) (w := w) (n := n)
    refine ⟨fun h hw => ?_, fun h => ?_⟩
    · by_cases c : w = n
      · subst c
        rw [p_sN_no (P := fun x => P x ∧ some w ≠ some x) (fun q => q.2 rfl), p_sN_y hw, h2 (Or.inl (Nat.le_refl _))]
      · by_cases d : P n
        · rw [p_sN_y (P := fun x => P x ∧ some w ≠ some x) ⟨d, fun e => c (Option.some.inj e)⟩, p_sN_y d, ← h1 (by omega) hw]; omega
        · rw [p_sN_no (P := fun x => P x ∧ some w ≠ some x) (fun q => d q.1), p_sN_no d, h1 (by omega) hw]
    · have g := h2 (by rcases h with h | h; exact Or.inl (by omega); exact Or.inr h)
      by_cases d : P n
      · have c : w ≠ n := fun e => by subst e; rcases h with h | h; omega; exact h d
        rw [p_sN_y (P := fun x => P x ∧ some w ≠ some x) ⟨d, fun e => c (Option.some.inj e)⟩, p_sN_y d, g]
      · rw [p_sN_no (P := fun x => P x ∧ some w ≠ some x) (fun q => d q.1), p_sN_no d, g]
theorem p_div2 (n : Nat) (h : n < 2 ^ 31) : nI n / 2 = nI (n / 2) := by rw [show (2 : Int32) = nI 2 from rfl, pk_div h (by decide) (by decide)]
theorem p_rem2 (n : Nat) (h : n < 2 ^ 31) : nI n - nI (n / 2) * 2 = nI (n % 2) := by rw [← p_div2 n h]; exact pk_rem (d := 2) h (by decide) (by decide)
theorem p_subN {a b : Nat} (h : b ≤ a) (ha : a < 2 ^ 31) : nI a - nI b = nI (a - b) := by
  refine Int32.toInt_inj.mp ?_
  rw [fb_subI (by rw [nI_toInt ha, nI_toInt (by omega)]; omega) (by rw [nI_toInt ha, nI_toInt (by omega)]; omega), nI_toInt ha, nI_toInt (by omega), nI_toInt (by omega)]
  omega
def fx_KP (m m' : fx_M) : Prop := m'.2 = m.2 ∧ ∀ o, o ≠ 114 → o ≠ 115 → m'.1 o = m.1 o
theorem fx_KP.refl (m : fx_M) : fx_KP m m := ⟨rfl, fun _ _ _ => rfl⟩
theorem fx_KP.sI {m m' : fx_M} {o k : Nat} {v : Int32} (h : fx_KP m m') (ho : o = 114 ∨ o = 115) : fx_KP m (fx_sI m' o k v) := ⟨h.1, fun a h1 h2 => by rw [fx_sI_n _ _ _ (by omega)]; exact h.2 a h1 h2⟩
theorem fx_KP.lay {m m' : fx_M} (h : fx_KP m m') (hL : fx_Lay m) : fx_Lay m' := fun o k v hv => by rw [h.1]; exact hL o k v hv
theorem fx_KP.ms {m m' : fx_M} {na nd : Nat} {t : p_Sg} (h : fx_KP m m') (H : fx_MS m na nd t) : fx_MS m' na nd t := H.cg (fun o ho => h.2 o (by omega) (by omega)) (fun j _ => by rw [h.2 83 (by decide) (by decide)])
def fx_p1 (m : fx_M) (t : p_Sg) (na : Nat) (o : Option Nat) (i : Nat) : Prop := ∀ j, j < i → m.1 115 j = nI (p_sN (p_PD t.1 t.2.1 na o j) na)
def fx_p3 (m : fx_M) (t : p_Sg) (na nd : Nat) (o : Option Nat) (i : Nat) : Prop := ∀ j, i ≤ j → j ≤ 2 * nd → ∀ s, s < 2 ^ na → m.1 114 (512 * j + s) = p_mG t.1 t.2.1 na nd o j s
theorem p_pow9 {n : Nat} (h : n ≤ 9) : 2 ^ n ≤ 512 := Nat.pow_le_pow_right (n := 2) (by decide) h
theorem i_512 (a b : Nat) : 512 * nI a + nI b = nI (512 * a + b) := by rw [show (512 : Int32) = nI 512 from rfl, i_mulc, nI_add]
theorem i_1024 (a b : Nat) : 1024 * nI a + nI b = nI (1024 * a + b) := by rw [show (1024 : Int32) = nI 1024 from rfl, i_mulc, nI_add]
theorem p_adlt {s x n : Nat} (hs : s < 2 ^ n) (hx : x < n) (h : s.testBit x = false) : s + 2 ^ x < 2 ^ n := by
  obtain ⟨k, rfl⟩ : ∃ k, n = k + 1 + x := ⟨n - 1 - x, by omega⟩
  have e : 2 ^ (k + 1 + x) = 2 * 2 ^ k * 2 ^ x := by rw [Nat.pow_add, Nat.pow_succ, Nat.mul_comm (2 ^ k) 2]
  rw [e] at hs ⊢
  have hb : s / 2 ^ x % 2 ≠ 1 := by rw [Nat.testBit_eq_decide_div_mod_eq] at h; simpa using h
  have hp := Nat.two_pow_pos x
  have h1 : s / 2 ^ x < 2 * 2 ^ k := Nat.div_lt_of_lt_mul (by rw [Nat.mul_comm]; exact hs)
  have h2 : s < 2 ^ x * (s / 2 ^ x + 1) := Nat.lt_mul_div_succ s hp
  have h3 : s / 2 ^ x + 2 ≤ 2 * 2 ^ k := by omega
  have h4 : 2 ^ x * (s / 2 ^ x + 2) ≤ 2 ^ x * (2 * 2 ^ k) := Nat.mul_le_mul_left _ h3
  rw [Nat.mul_add] at h2 h4
  rw [Nat.mul_comm (2 * 2 ^ k)]
  omega
set_option maxRecDepth 100000 in
set_option maxHeartbeats 600000 in
theorem s_X9_goodFrom {Γ : fx_G} {m : fx_M} (hL : fx_Lay m) {a b : Nat} (hab : 512 * a + b < 5632) : fx_Ct Γ mX9_goodFrom 0 119 119 [fx_rf Γ 83, .int (nI a), .int (nI b)] m (fx_is (some (.int (m.1 114 (512 * a + b)))) m) := by
  refine fx_Ct.of (j := 0) (by decide) (Nat.le_of_ble_eq_true rfl) (Nat.le_of_ble_eq_true rfl) ?_
  show fx_E Γ mX9_goodFrom 0 119 119 _ 119 m 0 [some (fx_rf Γ 83), some (.int (nI a)), some (.int (nI b))] []
  refine e_aload_n dX9_goodFrom_0 rfl ?_
  refine e_getr (o2 := 114) dX9_goodFrom_1 ff_X9_108 rfl (fx_pi_lt (by decide)) (by decide) rfl (hL _ _ _ rfl) ?_
  refine e_sipush dX9_goodFrom_4 kcs_512 ?_
  refine e_iload_n dX9_goodFrom_7 rfl ?_
  refine e_imul dX9_goodFrom_8 ?_
  refine e_iload_n dX9_goodFrom_9 rfl ?_
  refine e_iadd dX9_goodFrom_10 ?_
  refine e_iald (j := 512 * a + b) dX9_goodFrom_11 rfl (fx_pi_lt (by decide)) (i_512 a b) (by omega) (by decide) ?_
  exact e_iret dX9_goodFrom_12 rfl rfl rfl ⟨rfl, rfl⟩
