def fx_w (m : fx_M) (o s src d c : Nat) : fx_M := (fun x k => if x = o ∧ d ≤ k ∧ k < d + c then m.1 src (s + (k - d)) else m.1 x k, m.2)
theorem fx_w_0 (m : fx_M) (o s src d : Nat) : fx_w m o s src d 0 = m := Prod.ext (funext fun _ => funext fun _ => if_neg (by omega)) rfl
theorem fx_w_i {m : fx_M} {o s src d c k : Nat} (h1 : d ≤ k) (h2 : k < d + c) : (fx_w m o s src d c).1 o k = m.1 src (s + (k - d)) := if_pos ⟨rfl, h1, h2⟩
theorem fx_w_o {m : fx_M} {o s src d c x k : Nat} (h : ¬ (x = o ∧ d ≤ k ∧ k < d + c)) : (fx_w m o s src d c).1 x k = m.1 x k := if_neg h
theorem fx_w_s (m : fx_M) {o src : Nat} (s d c : Nat) (h : src ≠ o) : fx_sI (fx_w m o s src d c) o (d + c) ((fx_w m o s src d c).1 src (s + c)) = fx_w m o s src d (c + 1) := by
  refine Prod.ext (funext fun x => funext fun k => ?_) rfl
  rw [fx_w_o (fun q => h q.1)]
  show (if x = o then (if k = d + c then m.1 src (s + c) else (fx_w m o s src d c).1 x k) else (fx_w m o s src d c).1 x k) = (fx_w m o s src d (c + 1)).1 x k
  by_cases g : x = o
  · subst g
    rw [if_pos rfl]
    by_cases f : k = d + c
    · subst f
      rw [if_pos rfl, fx_w_i (by omega) (by omega), show d + c - d = c by omega]
    · rw [if_neg f]
      by_cases e : d ≤ k ∧ k < d + c
      · rw [fx_w_i e.1 e.2, fx_w_i e.1 (by omega)]
      · rw [fx_w_o (fun q => e q.2), fx_w_o (fun q => e ⟨q.2.1, by omega⟩)]
  · rw [if_neg g, fx_w_o (fun q => g q.1), fx_w_o (fun q => g q.1)]
def p_ob (k : Nat) : Nat × Nat := if k < 56 then (85 + k / 8, k % 8) else if k < 96 then (92 + (k - 56) / 5, (k - 56) % 5) else (83, k - 96)
theorem p_ob_a {j x : Nat} (hj : j < 7) (hx : x < 8) : p_ob (8 * j + x) = (85 + j, x) := by
  unfold p_ob
  rw [if_pos (by omega), show (8 * j + x) / 8 = j by omega, show (8 * j + x) % 8 = x by omega]
theorem p_ob_d {j d : Nat} (hj : j < 8) (hd : d < 5) : p_ob (56 + 5 * j + d) = (92 + j, d) := by
  unfold p_ob
  rw [if_neg (by omega), if_pos (by omega), show (56 + 5 * j + d - 56) / 5 = j by omega, show (56 + 5 * j + d - 56) % 5 = d by omega]
theorem p_ob_c {j : Nat} : p_ob (96 + j) = (83, j) := by
  unfold p_ob
  rw [if_neg (by omega), if_neg (by omega), show 96 + j - 96 = j by omega]
theorem p_ob_le (k : Nat) : (p_ob k).1 = 83 ∨ (85 ≤ (p_ob k).1 ∧ (p_ob k).1 ≤ 99) ∨ 102 ≤ k := by
  unfold p_ob
  split
  · right; left; show 85 ≤ 85 + k / 8 ∧ 85 + k / 8 ≤ 99; omega
  · split
    · right; left; show 85 ≤ 92 + (k - 56) / 5 ∧ 92 + (k - 56) / 5 ≤ 99; omega
    · left; rfl
def fx_sv (m m' : fx_M) (o p : Nat) : Prop := (∀ k, k < p → m'.1 o k = m.1 (p_ob k).1 (p_ob k).2) ∧ m'.2 = m.2 ∧ ∀ x, x ≠ o → m'.1 x = m.1 x
def fx_ld (m m' : fx_M) (o p : Nat) : Prop := (∀ k, k < p → m'.1 (p_ob k).1 (p_ob k).2 = m.1 o k) ∧ m'.2 = m.2 ∧ ∀ x i, (∀ k, k < p → p_ob k ≠ (x, i)) → m'.1 x i = m.1 x i
theorem fx_sv.w {m m1 : fx_M} {o p n a : Nat} (h : fx_sv m m1 o p) (ho : o ≠ a) (hb : ∀ i, i < n → p_ob (p + i) = (a, i)) : fx_sv m (fx_w m1 o 0 a p n) o (p + n) := by
  refine ⟨fun k hk => ?_, h.2.1, fun x hx => funext fun k => ?_⟩
  · by_cases c : p ≤ k
    · rw [fx_w_i c hk, h.2.2 a (Ne.symm ho)]
      have e := hb (k - p) (by omega)
      rw [show p + (k - p) = k by omega] at e
      rw [e, Nat.zero_add]
    · rw [fx_w_o (by omega)]
      exact h.1 k (by omega)
  · rw [fx_w_o (fun q => hx q.1), h.2.2 x hx]
theorem fx_sv.s {m m1 : fx_M} {o j : Nat} (h : fx_sv m m1 o (96 + j)) (ho : o ≠ 83) : fx_sv m (fx_sI m1 o (96 + j) (m1.1 83 j)) o (96 + (j + 1)) := by
  refine ⟨fun k hk => ?_, h.2.1, fun x hx => ?_⟩
  · by_cases c : k = 96 + j
    · subst c
      rw [fx_rd0, p_ob_c, h.2.2 83 (Ne.symm ho)]
    · rw [fx_rd2 (Ne.symm c)]
      exact h.1 k (by omega)
  · rw [fx_sI_n _ _ _ hx, h.2.2 x hx]
theorem p_ob_inj {k l : Nat} (hk : k < 102) (hl : l < 102) (h : p_ob k = p_ob l) : k = l := by
  unfold p_ob at h
  split at h <;> split at h <;> (try split at h) <;> (try split at h) <;> simp only [Prod.mk.injEq] at h <;> omega
theorem fx_ld.w {m m1 : fx_M} {o p n a : Nat} (h : fx_ld m m1 o p) (hp : p + n ≤ 102) (ho : o ≠ 83 ∧ ¬ (85 ≤ o ∧ o ≤ 99)) (hb : ∀ i, i < n → p_ob (p + i) = (a, i)) : fx_ld m (fx_w m1 a p o 0 n) o (p + n) := by
  have hom : ∀ k, m1.1 o k = m.1 o k := fun k => h.2.2 o k (fun j hj e => by
    have := p_ob_le j
    rw [e] at this
    omega)
  refine ⟨fun k hk => ?_, h.2.1, fun x i hx => ?_⟩
  · by_cases c : p ≤ k
    · have e := hb (k - p) (by omega)
      rw [show p + (k - p) = k by omega] at e
      rw [e, fx_w_i (by omega) (by omega), hom]
      exact congrArg (m.1 o) (by omega)
    · rw [fx_w_o (fun q => ?_)]
      · exact h.1 k (by omega)
      · have e := hb (p_ob k).2 (by omega)
        have e2 : p_ob k = (a, (p_ob k).2) := Prod.ext q.1 rfl
        have := p_ob_inj (k := k) (l := p + (p_ob k).2) (by omega) (by omega) (e2.trans e.symm)
        omega
  · rw [fx_w_o (fun q => hx (p + i) (by omega) (by rw [hb i (by omega), q.1])), h.2.2 x i (fun k hk => hx k (by omega))]
theorem fx_ld.s {m m1 : fx_M} {o j : Nat} (h : fx_ld m m1 o (96 + j)) (hj : j < 6) (ho : o ≠ 83 ∧ ¬ (85 ≤ o ∧ o ≤ 99)) : fx_ld m (fx_sI m1 83 j (m1.1 o (96 + j))) o (96 + (j + 1)) := by
  have hom : ∀ k, m1.1 o k = m.1 o k := fun k => h.2.2 o k (fun j hj e => by
    have := p_ob_le j
    rw [e] at this
    omega)
  refine ⟨fun k hk => ?_, h.2.1, fun x i hx => ?_⟩
  · by_cases c : k = 96 + j
    · subst c
      rw [p_ob_c, fx_rd0, hom]
    · have hn : p_ob k ≠ (83, j) := fun e => c (p_ob_inj (by omega) (by omega) (e.trans p_ob_c.symm))
      have e0 := h.1 k (by omega)
      rw [← e0]
      by_cases f : (p_ob k).1 = 83
      · rw [f, fx_rd2 (fun e => hn (Prod.ext f e.symm))]
      · rw [fx_sI_n _ _ _ f]
  · have hn := hx (96 + j) (by omega)
    rw [p_ob_c] at hn
    by_cases f : x = 83
    · subst f
      rw [fx_rd2 (fun e => hn (by rw [e])), h.2.2 83 i (fun k hk => hx k (by omega))]
    · rw [fx_sI_n _ _ _ f, h.2.2 x i (fun k hk => hx k (by omega))]
set_option maxRecDepth 100000 in
set_option maxHeartbeats 600000 in
theorem s_X9_carries09 {Γ : fx_G} {m : fx_M} (hL : fx_Lay m) {a o n p : Nat} (hsa : fx_shapes[a]? = some (0, 9)) (ha : a < 119) (hso : fx_shapes[o]? = some (0, 110)) (ho : o < 119) (hne : a ≠ o) (hn : n ≤ 9) (hpn : p + n ≤ 102) : fx_Ct Γ mX9_carries 0 119 119 [fx_rf Γ 83, fx_rf Γ a, .int (nI n), fx_rf Γ o, .int (nI p), .int 0] m (fx_is (some (.int (nI (p + n)))) (fx_w m o 0 a p n)) := by
  refine fx_Ct.of (j := 1) (by decide) (Nat.le_of_ble_eq_true rfl) (Nat.le_of_ble_eq_true rfl) ?_
  show fx_E Γ mX9_carries 0 119 119 _ 119 m 0 [some (fx_rf Γ 83), some (fx_rf Γ a), some (.int (nI n)), some (fx_rf Γ o), some (.int (nI p)), some (.int 0), none] []
  have lp : ∀ (j : Nat) (c : Nat), c + j = n → fx_E Γ mX9_carries 0 119 119 (fx_is (some (.int (nI (p + n)))) (fx_w m o 0 a p n)) 119 (fx_w m o 0 a p c) 3 [some (fx_rf Γ 83), some (fx_rf Γ a), some (.int (nI n)), some (fx_rf Γ o), some (.int (nI p)), some (.int 0), some (.int (nI c))] [] := by
    intro j
    induction j with
    | zero =>
      intro c hc
      obtain rfl : c = n := by omega
      refine e_iload dX9_carries_3 rfl ?_
      refine e_iload_n dX9_carries_5 rfl ?_
      refine e_icmp_ge 45 dX9_carries_6 rfl (fun _ => ?_) (fun h => absurd (nI_le (by omega) (by omega)) h)
      refine e_iload dX9_carries_45 rfl ?_
      refine e_iload_n dX9_carries_47 rfl ?_
      refine e_iadd dX9_carries_48 ?_
      exact e_iret dX9_carries_49 rfl rfl rfl ⟨by rw [nI_add], rfl⟩
    | succ j ih =>
      intro c hc
      refine e_iload dX9_carries_3 rfl ?_
      refine e_iload_n dX9_carries_5 rfl ?_
      refine e_icmp_ge 45 dX9_carries_6 rfl (fun h => absurd h (nI_ge (by omega) (by omega))) (fun _ => ?_)
      refine e_iload dX9_carries_9 rfl ?_
      refine e_if_eq 28 dX9_carries_11 rfl (fun _ => ?_) (fun h => absurd (by decide) h)
      refine e_aload_n dX9_carries_28 rfl ?_
      refine e_iload dX9_carries_29 rfl ?_
      refine e_iload dX9_carries_31 rfl ?_
      refine e_iadd dX9_carries_33 ?_
      refine e_aload_n dX9_carries_34 rfl ?_
      refine e_iload dX9_carries_35 rfl ?_
      refine e_iald (j := c) dX9_carries_37 hsa (fx_pi_lt ha) rfl (by omega) (by decide) ?_
      refine e_iast (j := p + c) dX9_carries_38 hso (fx_pi_lt ho) (by rw [nI_add]) (by omega) (by decide) ?_
      refine e_iinc (v := nI (c + 1)) dX9_carries_39 rfl (fx_inc _) (by decide) rfl ?_
      refine e_goto 3 dX9_carries_42 rfl ?_
      rw [show fx_sI (fx_w m o 0 a p c) o (p + c) ((fx_w m o 0 a p c).1 a c) = fx_w m o 0 a p (c + 1) from by have e := fx_w_s m (o := o) (src := a) 0 p c hne; simp only [Nat.zero_add] at e; exact e]
      exact ih (c + 1) (by omega)
  refine e_iconst dX9_carries_0 kci_0 ?_
  refine e_istore dX9_carries_1 (by decide) rfl ?_
  have e0 := lp n 0 (by omega)
  rw [fx_w_0] at e0
  exact e0
set_option maxRecDepth 100000 in
set_option maxHeartbeats 600000 in
theorem s_X9_carries05 {Γ : fx_G} {m : fx_M} (hL : fx_Lay m) {a o n p : Nat} (hsa : fx_shapes[a]? = some (0, 5)) (ha : a < 119) (hso : fx_shapes[o]? = some (0, 110)) (ho : o < 119) (hne : a ≠ o) (hn : n ≤ 5) (hpn : p + n ≤ 102) : fx_Ct Γ mX9_carries 0 119 119 [fx_rf Γ 83, fx_rf Γ a, .int (nI n), fx_rf Γ o, .int (nI p), .int 0] m (fx_is (some (.int (nI (p + n)))) (fx_w m o 0 a p n)) := by
  refine fx_Ct.of (j := 1) (by decide) (Nat.le_of_ble_eq_true rfl) (Nat.le_of_ble_eq_true rfl) ?_
  show fx_E Γ mX9_carries 0 119 119 _ 119 m 0 [some (fx_rf Γ 83), some (fx_rf Γ a), some (.int (nI n)), some (fx_rf Γ o), some (.int (nI p)), some (.int 0), none] []
  have lp : ∀ (j : Nat) (c : Nat), c + j = n → fx_E Γ mX9_carries 0 119 119 (fx_is (some (.int (nI (p + n)))) (fx_w m o 0 a p n)) 119 (fx_w m o 0 a p c) 3 [some (fx_rf Γ 83), some (fx_rf Γ a), some (.int (nI n)), some (fx_rf Γ o), some (.int (nI p)), some (.int 0), some (.int (nI c))] [] := by
    intro j
    induction j with
    | zero =>
      intro c hc
      obtain rfl : c = n := by omega
      refine e_iload dX9_carries_3 rfl ?_
      refine e_iload_n dX9_carries_5 rfl ?_
      refine e_icmp_ge 45 dX9_carries_6 rfl (fun _ => ?_) (fun h => absurd (nI_le (by omega) (by omega)) h)
      refine e_iload dX9_carries_45 rfl ?_
      refine e_iload_n dX9_carries_47 rfl ?_
      refine e_iadd dX9_carries_48 ?_
      exact e_iret dX9_carries_49 rfl rfl rfl ⟨by rw [nI_add], rfl⟩
    | succ j ih =>
      intro c hc
      refine e_iload dX9_carries_3 rfl ?_
      refine e_iload_n dX9_carries_5 rfl ?_
      refine e_icmp_ge 45 dX9_carries_6 rfl (fun h => absurd h (nI_ge (by omega) (by omega))) (fun _ => ?_)
      refine e_iload dX9_carries_9 rfl ?_
      refine e_if_eq 28 dX9_carries_11 rfl (fun _ => ?_) (fun h => absurd (by decide) h)
      refine e_aload_n dX9_carries_28 rfl ?_
      refine e_iload dX9_carries_29 rfl ?_
      refine e_iload dX9_carries_31 rfl ?_
      refine e_iadd dX9_carries_33 ?_
      refine e_aload_n dX9_carries_34 rfl ?_
      refine e_iload dX9_carries_35 rfl ?_
      refine e_iald (j := c) dX9_carries_37 hsa (fx_pi_lt ha) rfl (by omega) (by decide) ?_
      refine e_iast (j := p + c) dX9_carries_38 hso (fx_pi_lt ho) (by rw [nI_add]) (by omega) (by decide) ?_
      refine e_iinc (v := nI (c + 1)) dX9_carries_39 rfl (fx_inc _) (by decide) rfl ?_
      refine e_goto 3 dX9_carries_42 rfl ?_
      rw [show fx_sI (fx_w m o 0 a p c) o (p + c) ((fx_w m o 0 a p c).1 a c) = fx_w m o 0 a p (c + 1) from by have e := fx_w_s m (o := o) (src := a) 0 p c hne; simp only [Nat.zero_add] at e; exact e]
      exact ih (c + 1) (by omega)
  refine e_iconst dX9_carries_0 kci_0 ?_
  refine e_istore dX9_carries_1 (by decide) rfl ?_
  have e0 := lp n 0 (by omega)
  rw [fx_w_0] at e0
  exact e0
set_option maxRecDepth 100000 in
set_option maxHeartbeats 600000 in
theorem s_X9_carries19 {Γ : fx_G} {m : fx_M} (hL : fx_Lay m) {a o n p : Nat} (hsa : fx_shapes[a]? = some (0, 9)) (ha : a < 119) (hso : fx_shapes[o]? = some (0, 110)) (ho : o < 119) (hne : a ≠ o) (hn : n ≤ 9) (hpn : p + n ≤ 102) : fx_Ct Γ mX9_carries 0 119 119 [fx_rf Γ 83, fx_rf Γ a, .int (nI n), fx_rf Γ o, .int (nI p), .int 1] m (fx_is (some (.int (nI (p + n)))) (fx_w m a p o 0 n)) := by
  refine fx_Ct.of (j := 1) (by decide) (Nat.le_of_ble_eq_true rfl) (Nat.le_of_ble_eq_true rfl) ?_
  show fx_E Γ mX9_carries 0 119 119 _ 119 m 0 [some (fx_rf Γ 83), some (fx_rf Γ a), some (.int (nI n)), some (fx_rf Γ o), some (.int (nI p)), some (.int 1), none] []
  have lp : ∀ (j : Nat) (c : Nat), c + j = n → fx_E Γ mX9_carries 0 119 119 (fx_is (some (.int (nI (p + n)))) (fx_w m a p o 0 n)) 119 (fx_w m a p o 0 c) 3 [some (fx_rf Γ 83), some (fx_rf Γ a), some (.int (nI n)), some (fx_rf Γ o), some (.int (nI p)), some (.int 1), some (.int (nI c))] [] := by
    intro j
    induction j with
    | zero =>
      intro c hc
      obtain rfl : c = n := by omega
      refine e_iload dX9_carries_3 rfl ?_
      refine e_iload_n dX9_carries_5 rfl ?_
      refine e_icmp_ge 45 dX9_carries_6 rfl (fun _ => ?_) (fun h => absurd (nI_le (by omega) (by omega)) h)
      refine e_iload dX9_carries_45 rfl ?_
      refine e_iload_n dX9_carries_47 rfl ?_
      refine e_iadd dX9_carries_48 ?_
      exact e_iret dX9_carries_49 rfl rfl rfl ⟨by rw [nI_add], rfl⟩
    | succ j ih =>
      intro c hc
      refine e_iload dX9_carries_3 rfl ?_
      refine e_iload_n dX9_carries_5 rfl ?_
      refine e_icmp_ge 45 dX9_carries_6 rfl (fun h => absurd h (nI_ge (by omega) (by omega))) (fun _ => ?_)
      refine e_iload dX9_carries_9 rfl ?_
      refine e_if_eq 28 dX9_carries_11 rfl (fun h => absurd h (by decide)) (fun _ => ?_)
      refine e_aload_n dX9_carries_14 rfl ?_
      refine e_iload dX9_carries_15 rfl ?_
      refine e_aload_n dX9_carries_17 rfl ?_
      refine e_iload dX9_carries_18 rfl ?_
      refine e_iload dX9_carries_20 rfl ?_
      refine e_iadd dX9_carries_22 ?_
      refine e_iald (j := p + c) dX9_carries_23 hso (fx_pi_lt ho) (by rw [nI_add]) (by omega) (by decide) ?_
      refine e_iast (j := c) dX9_carries_24 hsa (fx_pi_lt ha) rfl (by omega) (by decide) ?_
      refine e_goto 39 dX9_carries_25 rfl ?_
      refine e_iinc (v := nI (c + 1)) dX9_carries_39 rfl (fx_inc _) (by decide) rfl ?_
      refine e_goto 3 dX9_carries_42 rfl ?_
      rw [show fx_sI (fx_w m a p o 0 c) a c ((fx_w m a p o 0 c).1 o (p + c)) = fx_w m a p o 0 (c + 1) from by have e := fx_w_s m (o := a) (src := o) p 0 c (Ne.symm hne); simp only [Nat.zero_add] at e; exact e]
      exact ih (c + 1) (by omega)
  refine e_iconst dX9_carries_0 kci_0 ?_
  refine e_istore dX9_carries_1 (by decide) rfl ?_
  have e0 := lp n 0 (by omega)
  rw [fx_w_0] at e0
  exact e0
set_option maxRecDepth 100000 in
set_option maxHeartbeats 600000 in
theorem s_X9_carries15 {Γ : fx_G} {m : fx_M} (hL : fx_Lay m) {a o n p : Nat} (hsa : fx_shapes[a]? = some (0, 5)) (ha : a < 119) (hso : fx_shapes[o]? = some (0, 110)) (ho : o < 119) (hne : a ≠ o) (hn : n ≤ 5) (hpn : p + n ≤ 102) : fx_Ct Γ mX9_carries 0 119 119 [fx_rf Γ 83, fx_rf Γ a, .int (nI n), fx_rf Γ o, .int (nI p), .int 1] m (fx_is (some (.int (nI (p + n)))) (fx_w m a p o 0 n)) := by
  refine fx_Ct.of (j := 1) (by decide) (Nat.le_of_ble_eq_true rfl) (Nat.le_of_ble_eq_true rfl) ?_
  show fx_E Γ mX9_carries 0 119 119 _ 119 m 0 [some (fx_rf Γ 83), some (fx_rf Γ a), some (.int (nI n)), some (fx_rf Γ o), some (.int (nI p)), some (.int 1), none] []
  have lp : ∀ (j : Nat) (c : Nat), c + j = n → fx_E Γ mX9_carries 0 119 119 (fx_is (some (.int (nI (p + n)))) (fx_w m a p o 0 n)) 119 (fx_w m a p o 0 c) 3 [some (fx_rf Γ 83), some (fx_rf Γ a), some (.int (nI n)), some (fx_rf Γ o), some (.int (nI p)), some (.int 1), some (.int (nI c))] [] := by
    intro j
    induction j with
    | zero =>
      intro c hc
      obtain rfl : c = n := by omega
      refine e_iload dX9_carries_3 rfl ?_
      refine e_iload_n dX9_carries_5 rfl ?_
      refine e_icmp_ge 45 dX9_carries_6 rfl (fun _ => ?_) (fun h => absurd (nI_le (by omega) (by omega)) h)
      refine e_iload dX9_carries_45 rfl ?_
      refine e_iload_n dX9_carries_47 rfl ?_
      refine e_iadd dX9_carries_48 ?_
      exact e_iret dX9_carries_49 rfl rfl rfl ⟨by rw [nI_add], rfl⟩
    | succ j ih =>
      intro c hc
      refine e_iload dX9_carries_3 rfl ?_
      refine e_iload_n dX9_carries_5 rfl ?_
      refine e_icmp_ge 45 dX9_carries_6 rfl (fun h => absurd h (nI_ge (by omega) (by omega))) (fun _ => ?_)
      refine e_iload dX9_carries_9 rfl ?_
      refine e_if_eq 28 dX9_carries_11 rfl (fun h => absurd h (by decide)) (fun _ => ?_)
      refine e_aload_n dX9_carries_14 rfl ?_
      refine e_iload dX9_carries_15 rfl ?_
      refine e_aload_n dX9_carries_17 rfl ?_
      refine e_iload dX9_carries_18 rfl ?_
      refine e_iload dX9_carries_20 rfl ?_
      refine e_iadd dX9_carries_22 ?_
      refine e_iald (j := p + c) dX9_carries_23 hso (fx_pi_lt ho) (by rw [nI_add]) (by omega) (by decide) ?_
      refine e_iast (j := c) dX9_carries_24 hsa (fx_pi_lt ha) rfl (by omega) (by decide) ?_
      refine e_goto 39 dX9_carries_25 rfl ?_
      refine e_iinc (v := nI (c + 1)) dX9_carries_39 rfl (fx_inc _) (by decide) rfl ?_
      refine e_goto 3 dX9_carries_42 rfl ?_
      rw [show fx_sI (fx_w m a p o 0 c) a c ((fx_w m a p o 0 c).1 o (p + c)) = fx_w m a p o 0 (c + 1) from by have e := fx_w_s m (o := a) (src := o) p 0 c (Ne.symm hne); simp only [Nat.zero_add] at e; exact e]
      exact ih (c + 1) (by omega)
  refine e_iconst dX9_carries_0 kci_0 ?_
  refine e_istore dX9_carries_1 (by decide) rfl ?_
  have e0 := lp n 0 (by omega)
  rw [fx_w_0] at e0
  exact e0
