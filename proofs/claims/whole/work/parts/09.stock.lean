/-- a stock's cells: the stock at S, the arms' row, the dolls' row, 8 arms, 5 dolls -/
def fx_St (S : Nat) : Prop := S = 1 ∨ S = 17 ∨ S = 33
theorem fx_St.sh {S : Nat} (H : fx_St S) : fx_shapes[S]? = some (10 + 6, 8) := by rcases H with rfl | rfl | rfl <;> rfl
theorem fx_St.s1 {S : Nat} (H : fx_St S) : fx_shapes[S + 1]? = some (2, 8) := by rcases H with rfl | rfl | rfl <;> rfl
theorem fx_St.s2 {S : Nat} (H : fx_St S) : fx_shapes[S + 2]? = some (3, 5) := by rcases H with rfl | rfl | rfl <;> rfl
theorem fx_St.lt {S : Nat} (H : fx_St S) : S < 119 := by rcases H with rfl | rfl | rfl <;> decide
theorem fx_St.l1 {S : Nat} (H : fx_St S) : S + 1 < 119 := by rcases H with rfl | rfl | rfl <;> decide
theorem fx_St.l2 {S : Nat} (H : fx_St S) : S + 2 < 119 := by rcases H with rfl | rfl | rfl <;> decide
theorem fx_8 {P : Nat → Prop} (h0 : P 0) (h1 : P 1) (h2 : P 2) (h3 : P 3) (h4 : P 4) (h5 : P 5) (h6 : P 6) (h7 : P 7) {x : Nat} (hx : x < 8) : P x := by
  have : x = 0 ∨ x = 1 ∨ x = 2 ∨ x = 3 ∨ x = 4 ∨ x = 5 ∨ x = 6 ∨ x = 7 := by omega
  rcases this with rfl | rfl | rfl | rfl | rfl | rfl | rfl | rfl <;> assumption
theorem fx_5 {P : Nat → Prop} (h0 : P 0) (h1 : P 1) (h2 : P 2) (h3 : P 3) (h4 : P 4) {x : Nat} (hx : x < 5) : P x := by
  have : x = 0 ∨ x = 1 ∨ x = 2 ∨ x = 3 ∨ x = 4 := by omega
  rcases this with rfl | rfl | rfl | rfl | rfl <;> assumption
theorem fx_St.sa {S : Nat} (H : fx_St S) {x : Nat} (hx : x < 8) : fx_shapes[S + 3 + x]? = some (10 + 0, 7) := by
  rcases H with rfl | rfl | rfl <;> exact fx_8 (P := fun x => fx_shapes[_ + 3 + x]? = some (10 + 0, 7)) rfl rfl rfl rfl rfl rfl rfl rfl hx
theorem fx_St.sd {S : Nat} (H : fx_St S) {x : Nat} (hx : x < 5) : fx_shapes[S + 11 + x]? = some (10 + 1, 8) := by
  rcases H with rfl | rfl | rfl <;> exact fx_5 (P := fun x => fx_shapes[_ + 11 + x]? = some (10 + 1, 8)) rfl rfl rfl rfl rfl hx
theorem fx_St.la {S : Nat} (H : fx_St S) {x : Nat} (hx : x < 8) : S + 3 + x < 119 := by rcases H with rfl | rfl | rfl <;> omega
theorem fx_St.ld {S : Nat} (H : fx_St S) {x : Nat} (hx : x < 5) : S + 11 + x < 119 := by rcases H with rfl | rfl | rfl <;> omega
theorem fx_St.r0 {S : Nat} (H : fx_St S) {m : fx_M} (hL : fx_Lay m) : m.2.2 S 0 = some (S + 1) := by rcases H with rfl | rfl | rfl <;> exact hL _ _ _ rfl
theorem fx_St.r1 {S : Nat} (H : fx_St S) {m : fx_M} (hL : fx_Lay m) : m.2.2 S 1 = some (S + 2) := by rcases H with rfl | rfl | rfl <;> exact hL _ _ _ rfl
theorem fx_St.ra {S : Nat} (H : fx_St S) {m : fx_M} (hL : fx_Lay m) {x : Nat} (hx : x < 8) : m.2.2 (S + 1) x = some (S + 3 + x) := by
  rcases H with rfl | rfl | rfl <;> exact fx_8 (P := fun x => m.2.2 (_ + 1) x = some (_ + 3 + x)) (hL _ _ _ rfl) (hL _ _ _ rfl) (hL _ _ _ rfl) (hL _ _ _ rfl) (hL _ _ _ rfl) (hL _ _ _ rfl) (hL _ _ _ rfl) (hL _ _ _ rfl) hx
theorem fx_St.rd {S : Nat} (H : fx_St S) {m : fx_M} (hL : fx_Lay m) {x : Nat} (hx : x < 5) : m.2.2 (S + 2) x = some (S + 11 + x) := by
  rcases H with rfl | rfl | rfl <;> exact fx_5 (P := fun x => m.2.2 (_ + 2) x = some (_ + 11 + x)) (hL _ _ _ rfl) (hL _ _ _ rfl) (hL _ _ _ rfl) (hL _ _ _ rfl) (hL _ _ _ rfl) hx
/-! what loops say -/
def p_oi : Option Nat → Int32 | none => -1 | some k => nI k
def p_fd (P : Nat → Prop) [DecidablePred P] : Nat → Nat → Option Nat
  | 0, _ => none
  | j + 1, k => if P k then some k else p_fd P j (k + 1)
def p_fold {σ : Type} (f : Nat → σ → σ) : Nat → Nat → σ → σ
  | 0, _, s => s
  | j + 1, k, s => p_fold f j (k + 1) (f k s)
theorem p_fd_some {P : Nat → Prop} [DecidablePred P] : ∀ {j k x : Nat}, p_fd P j k = some x → k ≤ x ∧ x < k + j ∧ P x
  | 0, k, x, h => by simp [p_fd] at h
  | j + 1, k, x, h => by
    unfold p_fd at h
    split at h
    · cases h; exact ⟨Nat.le_refl _, by omega, by assumption⟩
    · have := p_fd_some h
      exact ⟨by omega, by omega, this.2.2⟩
theorem p_oi_ne {o : Option Nat} (h : ∀ x, o = some x → x < 2 ^ 31) : p_oi o = -1 ↔ o = none := by
  cases o with
  | none => simp [p_oi]
  | some k =>
    have hk := h k rfl
    simp only [p_oi, reduceCtorEq, iff_false]
    intro h2
    have h3 := nI_pos' hk
    rw [h2] at h3
    exact absurd h3 (by decide)
theorem p_oi_fd {P : Nat → Prop} [DecidablePred P] {j k : Nat} (h : k + j < 2 ^ 31) : p_oi (p_fd P j k) = -1 ↔ p_fd P j k = none := p_oi_ne fun x hx => by have := (p_fd_some hx).2.1; omega
/-! the stock: A the arms' records, D the dolls' -/
abbrev fx_ar (m : fx_M) (S : Nat) : Nat → Nat → Int32 := fun x => m.1 (S + 3 + x)
abbrev fx_dr (m : fx_M) (S : Nat) : Nat → Nat → Int32 := fun x => m.1 (S + 11 + x)
def p_at (A : Nat → Nat → Int32) (na : Nat) (d s : Int32) : Option Nat := p_fd (fun x => A x 6 = 10 * d + s) na 0
abbrev p_can (A D : Nat → Nat → Int32) (na x d : Nat) (s : Int32) : Prop := A x 6 = 99 ∧ p_fit (A x) (D d) s ∧ p_at A na (nI d) s = none
def p_farA (A D : Nat → Nat → Int32) (x d : Nat) : Int32 := p_far (A x) (D d) (A x 4) (A x 5)
set_option maxRecDepth 100000 in
set_option maxHeartbeats 600000 in
theorem s_X6_isArm {Γ : fx_G} {m : fx_M} (S : Nat) (HS : fx_St S) {na : Nat} (hna : m.1 S 2 = nI na) (x : Int32) : fx_Ct Γ mX6_isArm 0 119 119 [fx_rf Γ S, .int x] m (fx_is (some (.int (if p_el x (nI na) then 1 else 0))) m) := by
  refine fx_Ct.of (j := 0) (by decide) (Nat.le_of_ble_eq_true rfl) (Nat.le_of_ble_eq_true rfl) ?_
  show fx_E Γ mX6_isArm 0 119 119 _ 119 m 0 [some (fx_rf Γ S), some (.int x)] []
  refine e_iload_n dX6_isArm_0 rfl ?_
  refine e_if_lt 16 dX6_isArm_1 rfl (fun c_1 => ?_) (fun c_1 => ?_)
  · refine e_iconst dX6_isArm_16 kci_0 ?_
    exact e_iret dX6_isArm_17 rfl rfl rfl ⟨by rw [if_neg (by rintro ⟨h1, h2⟩; first | exact absurd h1 (Int32.not_le.mpr c_1) | exact absurd h2 (Int32.not_lt.mpr c_2))], rfl⟩
  · refine e_iload_n dX6_isArm_4 rfl ?_
    refine e_aload_n dX6_isArm_5 rfl ?_
    refine e_getv (v := nI na) dX6_isArm_6 ff_X6_23 HS.sh (fx_pi_lt HS.lt) (by decide) rfl hna ?_
    refine e_icmp_ge 16 dX6_isArm_9 rfl (fun c_2 => ?_) (fun c_2 => ?_)
    · refine e_iconst dX6_isArm_16 kci_0 ?_
      exact e_iret dX6_isArm_17 rfl rfl rfl ⟨by rw [if_neg (by rintro ⟨h1, h2⟩; first | exact absurd h1 (Int32.not_le.mpr c_1) | exact absurd h2 (Int32.not_lt.mpr c_2))], rfl⟩
    · refine e_iconst dX6_isArm_12 kci_1 ?_
      refine e_goto 17 dX6_isArm_13 rfl ?_
      exact e_iret dX6_isArm_17 rfl rfl rfl ⟨by rw [if_pos ⟨Int32.not_lt.mp c_1, Int32.not_le.mp c_2⟩], rfl⟩
set_option maxRecDepth 100000 in
set_option maxHeartbeats 600000 in
theorem s_X6_isDoll {Γ : fx_G} {m : fx_M} (S : Nat) (HS : fx_St S) {nd : Nat} (hnd : m.1 S 3 = nI nd) (x : Int32) : fx_Ct Γ mX6_isDoll 0 119 119 [fx_rf Γ S, .int x] m (fx_is (some (.int (if p_el x (nI nd) then 1 else 0))) m) := by
  refine fx_Ct.of (j := 0) (by decide) (Nat.le_of_ble_eq_true rfl) (Nat.le_of_ble_eq_true rfl) ?_
  show fx_E Γ mX6_isDoll 0 119 119 _ 119 m 0 [some (fx_rf Γ S), some (.int x)] []
  refine e_iload_n dX6_isDoll_0 rfl ?_
  refine e_if_lt 16 dX6_isDoll_1 rfl (fun c_1 => ?_) (fun c_1 => ?_)
  · refine e_iconst dX6_isDoll_16 kci_0 ?_
    exact e_iret dX6_isDoll_17 rfl rfl rfl ⟨by rw [if_neg (by rintro ⟨h1, h2⟩; first | exact absurd h1 (Int32.not_le.mpr c_1) | exact absurd h2 (Int32.not_lt.mpr c_2))], rfl⟩
  · refine e_iload_n dX6_isDoll_4 rfl ?_
    refine e_aload_n dX6_isDoll_5 rfl ?_
    refine e_getv (v := nI nd) dX6_isDoll_6 ff_X6_27 HS.sh (fx_pi_lt HS.lt) (by decide) rfl hnd ?_
    refine e_icmp_ge 16 dX6_isDoll_9 rfl (fun c_2 => ?_) (fun c_2 => ?_)
    · refine e_iconst dX6_isDoll_16 kci_0 ?_
      exact e_iret dX6_isDoll_17 rfl rfl rfl ⟨by rw [if_neg (by rintro ⟨h1, h2⟩; first | exact absurd h1 (Int32.not_le.mpr c_1) | exact absurd h2 (Int32.not_lt.mpr c_2))], rfl⟩
    · refine e_iconst dX6_isDoll_12 kci_1 ?_
      refine e_goto 17 dX6_isDoll_13 rfl ?_
      exact e_iret dX6_isDoll_17 rfl rfl rfl ⟨by rw [if_pos ⟨Int32.not_lt.mp c_1, Int32.not_le.mp c_2⟩], rfl⟩
set_option maxRecDepth 100000 in
set_option maxHeartbeats 600000 in
theorem s_X6_hasRoomForArm {Γ : fx_G} {m : fx_M} (S : Nat) (HS : fx_St S) {na : Nat} (hna : m.1 S 2 = nI na) (h8 : na ≤ 8) : fx_Ct Γ mX6_hasRoomForArm 0 119 119 [fx_rf Γ S] m (fx_is (some (.int (if na < 8 then 1 else 0))) m) := by
  refine fx_Ct.of (j := 0) (by decide) (Nat.le_of_ble_eq_true rfl) (Nat.le_of_ble_eq_true rfl) ?_
  show fx_E Γ mX6_hasRoomForArm 0 119 119 _ 119 m 0 [some (fx_rf Γ S)] []
  refine e_aload_n dX6_hasRoomForArm_0 rfl ?_
  refine e_getv (v := nI na) dX6_hasRoomForArm_1 ff_X6_23 HS.sh (fx_pi_lt HS.lt) (by decide) rfl hna ?_
  refine e_bipush dX6_hasRoomForArm_4 kcb_8 ?_
  refine e_icmp_ge 13 dX6_hasRoomForArm_6 rfl (fun c_1 => ?_) (fun c_1 => ?_)
  · refine e_iconst dX6_hasRoomForArm_13 kci_0 ?_
    exact e_iret dX6_hasRoomForArm_14 rfl rfl rfl ⟨by rw [if_neg (fun h => absurd c_1 (nI_ge (a := na) (b := 8) h (by decide)))], rfl⟩
  · refine e_iconst dX6_hasRoomForArm_9 kci_1 ?_
    refine e_goto 14 dX6_hasRoomForArm_10 rfl ?_
    exact e_iret dX6_hasRoomForArm_14 rfl rfl rfl ⟨by rw [if_pos (show na < 8 from Decidable.byContradiction fun h => c_1 (nI_le (a := 8) (b := na) (by omega) (by omega)))], rfl⟩
set_option maxRecDepth 100000 in
set_option maxHeartbeats 600000 in
theorem s_X6_hasRoomForDoll {Γ : fx_G} {m : fx_M} (S : Nat) (HS : fx_St S) {nd : Nat} (hnd : m.1 S 3 = nI nd) (h5 : nd ≤ 5) : fx_Ct Γ mX6_hasRoomForDoll 0 119 119 [fx_rf Γ S] m (fx_is (some (.int (if nd < 5 then 1 else 0))) m) := by
  refine fx_Ct.of (j := 0) (by decide) (Nat.le_of_ble_eq_true rfl) (Nat.le_of_ble_eq_true rfl) ?_
  show fx_E Γ mX6_hasRoomForDoll 0 119 119 _ 119 m 0 [some (fx_rf Γ S)] []
  refine e_aload_n dX6_hasRoomForDoll_0 rfl ?_
  refine e_getv (v := nI nd) dX6_hasRoomForDoll_1 ff_X6_27 HS.sh (fx_pi_lt HS.lt) (by decide) rfl hnd ?_
  refine e_iconst dX6_hasRoomForDoll_4 kci_5 ?_
  refine e_icmp_ge 12 dX6_hasRoomForDoll_5 rfl (fun c_1 => ?_) (fun c_1 => ?_)
  · refine e_iconst dX6_hasRoomForDoll_12 kci_0 ?_
    exact e_iret dX6_hasRoomForDoll_13 rfl rfl rfl ⟨by rw [if_neg (fun h => absurd c_1 (nI_ge (a := nd) (b := 5) h (by decide)))], rfl⟩
  · refine e_iconst dX6_hasRoomForDoll_8 kci_1 ?_
    refine e_goto 13 dX6_hasRoomForDoll_9 rfl ?_
    exact e_iret dX6_hasRoomForDoll_13 rfl rfl rfl ⟨by rw [if_pos (show nd < 5 from Decidable.byContradiction fun h => c_1 (nI_le (a := 5) (b := nd) (by omega) (by omega)))], rfl⟩
set_option maxRecDepth 100000 in
set_option maxHeartbeats 600000 in
theorem s_X6_armAt {Γ : fx_G} {m : fx_M} (S : Nat) (HS : fx_St S) (hL : fx_Lay m) {na : Nat} (hna : m.1 S 2 = nI na) (h8 : na ≤ 8) (d s : Int32) : fx_Ct Γ mX6_armAt 1 119 119 [fx_rf Γ S, .int d, .int s] m (fx_is (some (.int (p_oi (p_at (fx_ar m S) na d s)))) m) := by
  refine fx_Ct.of (j := 1) (by decide) (Nat.le_of_ble_eq_true rfl) (Nat.le_of_ble_eq_true rfl) ?_
  show fx_E Γ mX6_armAt 1 119 119 _ 119 m 0 [some (fx_rf Γ S), some (.int d), some (.int s), none] []
  have lp : ∀ (j : Nat) (k : Nat), k + j = na → fx_E Γ mX6_armAt 1 119 119 (fx_is (some (.int (p_oi (p_fd (fun x => m.1 (S + 3 + x) 6 = 10 * d + s) j k)))) m) 119 m 2 [some (fx_rf Γ S), some (.int d), some (.int s), some (.int (nI k))] [] := by
    intro j
    induction j with
    | zero =>
      intro k hk
      refine e_iload_n dX6_armAt_2 rfl ?_
      refine e_aload_n dX6_armAt_3 rfl ?_
      refine e_getv (v := nI na) dX6_armAt_4 ff_X6_23 HS.sh (fx_pi_lt HS.lt) (by decide) rfl hna ?_
      refine e_icmp_ge 32 dX6_armAt_7 rfl (fun _ => ?_) (fun h => absurd (nI_le (by omega) (by omega)) h)
      refine e_iconst dX6_armAt_32 kci_m1 ?_
      exact e_iret dX6_armAt_33 rfl rfl rfl ⟨rfl, rfl⟩
    | succ j ih =>
      intro k hk
      refine e_iload_n dX6_armAt_2 rfl ?_
      refine e_aload_n dX6_armAt_3 rfl ?_
      refine e_getv (v := nI na) dX6_armAt_4 ff_X6_23 HS.sh (fx_pi_lt HS.lt) (by decide) rfl hna ?_
      refine e_icmp_ge 32 dX6_armAt_7 rfl (fun h => absurd h (nI_ge (by omega) (by omega))) (fun _ => ?_)
      refine e_aload_n dX6_armAt_10 rfl ?_
      refine e_getr (o2 := S + 1) dX6_armAt_11 ff_X6_13 HS.sh (fx_pi_lt HS.lt) (by decide) rfl (HS.r0 hL) ?_
      refine e_iload_n dX6_armAt_14 rfl ?_
      refine e_aald (j := k) (o2 := S + 3 + k) dX6_armAt_15 HS.s1 (Or.inl rfl) (fx_pi_lt HS.l1) rfl (by omega) (by decide) (HS.ra hL (by omega)) ?_
      refine e_iload_n dX6_armAt_16 rfl ?_
      refine e_iload_n dX6_armAt_17 rfl ?_
      refine e_callV1 (μ' := mX0_isOn) (ci := 0) (As := [.int d, .int s]) dX6_armAt_18 wl_X6_65 ok_X0_isOn (HS.sa (by omega)) rfl (fx_pi_lt (HS.la (by omega))) (by decide) (Nat.le_of_ble_eq_true rfl) fx_n1 (s_X0_isOn (m := m) (S + 3 + k) (HS.sa (by omega)) (HS.la (by omega)) d s) rfl ?_
      refine e_if_eqB 26 dX6_armAt_21 rfl (fun c_p => ?_) (fun c_p => ?_)
      · refine e_iinc (v := nI (k + 1)) dX6_armAt_26 rfl (fx_inc _) (by decide) rfl ?_
        refine e_goto 2 dX6_armAt_29 rfl ?_
        rw [show p_fd (fun x => m.1 (S + 3 + x) 6 = 10 * d + s) (j + 1) k = p_fd (fun x => m.1 (S + 3 + x) 6 = 10 * d + s) j (k + 1) from if_neg c_p]
        exact ih (k + 1) (by omega)
      · refine e_iload_n dX6_armAt_24 rfl ?_
        exact e_iret dX6_armAt_25 rfl rfl rfl ⟨by rw [show p_fd (fun x => m.1 (S + 3 + x) 6 = 10 * d + s) (j + 1) k = some k from if_pos c_p]; rfl, rfl⟩
  refine e_iconst dX6_armAt_0 kci_0 ?_
  refine e_istore_n dX6_armAt_1 (by decide) rfl ?_
  exact lp na 0 (by omega)
theorem p_at_n {A : Nat → Nat → Int32} {na : Nat} {d s : Int32} (h8 : na ≤ 8) : p_at A na d s = none ↔ p_oi (p_at A na d s) = -1 := (p_oi_fd (by omega)).symm
theorem p_at_lt {A : Nat → Nat → Int32} {na x : Nat} {d s : Int32} (h : p_at A na d s = some x) : x < na ∧ A x 6 = 10 * d + s := by
  have := p_fd_some h
  exact ⟨by omega, this.2.2⟩
set_option maxRecDepth 100000 in
set_option maxHeartbeats 600000 in
theorem s_X6_canCome {Γ : fx_G} {m : fx_M} (S : Nat) (HS : fx_St S) (hL : fx_Lay m) {na : Nat} (hna : m.1 S 2 = nI na) (h8 : na ≤ 8) {nd : Nat} (hnd : m.1 S 3 = nI nd) (h5 : nd ≤ 5) {x d : Nat} (hx : x < na) (hd : d < nd) (s : Int32) : fx_Ct Γ mX6_canCome 2 119 119 [fx_rf Γ S, .int (nI x), .int (nI d), .int s] m (fx_is (some (.int (if p_can (fx_ar m S) (fx_dr m S) na x d s then 1 else 0))) m) := by
  refine fx_Ct.of (j := 0) (by decide) (Nat.le_of_ble_eq_true rfl) (Nat.le_of_ble_eq_true rfl) ?_
  show fx_E Γ mX6_canCome 2 119 119 _ 119 m 0 [some (fx_rf Γ S), some (.int (nI x)), some (.int (nI d)), some (.int s)] []
  refine e_aload_n dX6_canCome_0 rfl ?_
  refine e_getr (o2 := S + 1) dX6_canCome_1 ff_X6_13 HS.sh (fx_pi_lt HS.lt) (by decide) rfl (HS.r0 hL) ?_
  refine e_iload_n dX6_canCome_4 rfl ?_
  refine e_aald (j := x) (o2 := S + 3 + x) dX6_canCome_5 HS.s1 (Or.inl rfl) (fx_pi_lt HS.l1) rfl (by omega) (by decide) (HS.ra hL (by omega)) ?_
  refine e_callV1 (μ' := mX0_isInDrawer) (ci := 0) (As := []) dX6_canCome_6 wl_X6_69 ok_X0_isInDrawer (HS.sa (by omega)) rfl (fx_pi_lt (HS.la (by omega))) (by decide) (Nat.le_of_ble_eq_true rfl) fx_n1 (s_X0_isInDrawer (m := m) (S + 3 + x) (HS.sa (by omega)) (HS.la (by omega)) ) rfl ?_
  refine e_if_eqB 45 dX6_canCome_9 rfl (fun c_1 => ?_) (fun c_1 => ?_)
  · refine e_iconst dX6_canCome_45 kci_0 ?_
    exact e_iret dX6_canCome_46 rfl rfl rfl ⟨by simp [p_can, p_at_n h8, *], rfl⟩
  · refine e_aload_n dX6_canCome_12 rfl ?_
    refine e_getr (o2 := S + 1) dX6_canCome_13 ff_X6_13 HS.sh (fx_pi_lt HS.lt) (by decide) rfl (HS.r0 hL) ?_
    refine e_iload_n dX6_canCome_16 rfl ?_
    refine e_aald (j := x) (o2 := S + 3 + x) dX6_canCome_17 HS.s1 (Or.inl rfl) (fx_pi_lt HS.l1) rfl (by omega) (by decide) (HS.ra hL (by omega)) ?_
    refine e_aload_n dX6_canCome_18 rfl ?_
    refine e_getr (o2 := S + 2) dX6_canCome_19 ff_X6_19 HS.sh (fx_pi_lt HS.lt) (by decide) rfl (HS.r1 hL) ?_
    refine e_iload_n dX6_canCome_22 rfl ?_
    refine e_aald (j := d) (o2 := S + 11 + d) dX6_canCome_23 HS.s2 (Or.inr (Or.inl rfl)) (fx_pi_lt HS.l2) rfl (by omega) (by decide) (HS.rd hL (by omega)) ?_
    refine e_iload_n dX6_canCome_24 rfl ?_
    refine e_callV1 (μ' := mX0_suits) (ci := 0) (As := [fx_rf Γ (S + 11 + d), .int s]) dX6_canCome_25 wl_X6_72 ok_X0_suits (HS.sa (by omega)) rfl (fx_pi_lt (HS.la (by omega))) (by decide) (Nat.le_of_ble_eq_true rfl) fx_n1 (s_X0_suits (m := m) (S + 3 + x) (HS.sa (by omega)) (HS.la (by omega)) (S + 11 + d) (HS.sd (by omega)) (HS.ld (by omega)) s) rfl ?_
    refine e_if_eqB 45 dX6_canCome_28 rfl (fun c_2 => ?_) (fun c_2 => ?_)
    · refine e_iconst dX6_canCome_45 kci_0 ?_
      exact e_iret dX6_canCome_46 rfl rfl rfl ⟨by simp [p_can, p_at_n h8, *], rfl⟩
    · refine e_aload_n dX6_canCome_31 rfl ?_
      refine e_iload_n dX6_canCome_32 rfl ?_
      refine e_iload_n dX6_canCome_33 rfl ?_
      refine e_callV1 (μ' := mX6_armAt) (ci := 6) (As := [.int (nI d), .int s]) dX6_canCome_34 wl_X6_76 ok_X6_armAt HS.sh rfl (fx_pi_lt HS.lt) (by decide) (Nat.le_of_ble_eq_true rfl) fx_n1 (s_X6_armAt (m := m) S HS hL hna h8 (nI d) s) rfl ?_
      refine e_iconst dX6_canCome_37 kci_m1 ?_
      refine e_icmp_ne 45 dX6_canCome_38 rfl (fun c_3 => ?_) (fun c_3 => ?_)
      · refine e_iconst dX6_canCome_45 kci_0 ?_
        exact e_iret dX6_canCome_46 rfl rfl rfl ⟨by simp [p_can, p_at_n h8, *], rfl⟩
      · refine e_iconst dX6_canCome_41 kci_1 ?_
        refine e_goto 46 dX6_canCome_42 rfl ?_
        exact e_iret dX6_canCome_46 rfl rfl rfl ⟨by simp [p_can, p_at_n h8, *], rfl⟩
set_option maxRecDepth 100000 in
set_option maxHeartbeats 600000 in
theorem s_X6_mendWith {Γ : fx_G} {m : fx_M} (S : Nat) (HS : fx_St S) (hL : fx_Lay m) {x d : Nat} (hx : x < 8) (hd : d < 5) (s : Int32) : fx_Ct Γ mX6_mendWith 1 119 119 [fx_rf Γ S, .int (nI x), .int (nI d), .int s] m (fx_is none (fx_sI (fx_sI (fx_sI m (S + 3 + x) 6 (10 * nI d + s)) S 5 (m.1 S 5 + m.1 (S + 11 + d) 4)) S 4 (m.1 S 4 + 1))) := by
  refine fx_Ct.of (j := 0) (by decide) (Nat.le_of_ble_eq_true rfl) (Nat.le_of_ble_eq_true rfl) ?_
  show fx_E Γ mX6_mendWith 1 119 119 _ 119 m 0 [some (fx_rf Γ S), some (.int (nI x)), some (.int (nI d)), some (.int s)] []
  refine e_aload_n dX6_mendWith_0 rfl ?_
  refine e_getr (o2 := S + 1) dX6_mendWith_1 ff_X6_13 HS.sh (fx_pi_lt HS.lt) (by decide) rfl (HS.r0 hL) ?_
  refine e_iload_n dX6_mendWith_4 rfl ?_
  refine e_aald (j := x) (o2 := S + 3 + x) dX6_mendWith_5 HS.s1 (Or.inl rfl) (fx_pi_lt HS.l1) rfl (by omega) (by decide) (HS.ra hL (by omega)) ?_
  refine e_iload_n dX6_mendWith_6 rfl ?_
  refine e_iload_n dX6_mendWith_7 rfl ?_
  refine e_callV1 (μ' := mX0_comeOn) (ci := 0) (As := [.int (nI d), .int s]) dX6_mendWith_8 wl_X6_80 ok_X0_comeOn (HS.sa (by omega)) rfl (fx_pi_lt (HS.la (by omega))) (by decide) (Nat.le_of_ble_eq_true rfl) fx_n1 (s_X0_comeOn (m := m) (S + 3 + x) (HS.sa (by omega)) (HS.la (by omega)) (nI d) s) rfl ?_
  refine e_aload_n dX6_mendWith_11 rfl ?_
  refine e_dup dX6_mendWith_12 rfl ?_
  refine e_getv (v := m.1 S 5) dX6_mendWith_13 ff_X6_33 HS.sh (fx_pi_lt HS.lt) (by decide) rfl (fx_rd1 (by omega)) ?_
  refine e_aload_n dX6_mendWith_16 rfl ?_
  refine e_getr (o2 := S + 2) dX6_mendWith_17 ff_X6_19 HS.sh (fx_pi_lt HS.lt) (by decide) rfl (HS.r1 hL) ?_
  refine e_iload_n dX6_mendWith_20 rfl ?_
  refine e_aald (j := d) (o2 := S + 11 + d) dX6_mendWith_21 HS.s2 (Or.inr (Or.inl rfl)) (fx_pi_lt HS.l2) rfl (by omega) (by decide) (HS.rd hL (by omega)) ?_
  refine e_getv (v := m.1 (S + 11 + d) 4) dX6_mendWith_22 ff_X6_84 (HS.sd (by omega)) (fx_pi_lt (HS.ld (by omega))) (by decide) rfl (fx_rd1 (by omega)) ?_
  refine e_iadd dX6_mendWith_25 ?_
  refine e_put dX6_mendWith_26 ff_X6_33 HS.sh (fx_pi_lt HS.lt) (by decide) rfl (Or.inl rfl) ?_
  refine e_aload_n dX6_mendWith_29 rfl ?_
  refine e_dup dX6_mendWith_30 rfl ?_
  refine e_getv (v := m.1 S 4) dX6_mendWith_31 ff_X6_30 HS.sh (fx_pi_lt HS.lt) (by decide) rfl ((fx_rd2 (by decide)).trans (fx_rd1 (by omega))) ?_
  refine e_iconst dX6_mendWith_34 kci_1 ?_
  refine e_iadd dX6_mendWith_35 ?_
  refine e_put dX6_mendWith_36 ff_X6_30 HS.sh (fx_pi_lt HS.lt) (by decide) rfl (Or.inl rfl) ?_
  exact e_vret dX6_mendWith_39 rfl rfl ⟨rfl, rfl⟩
/-- the bits of those below n -/
def p_sN (P : Nat → Prop) [DecidablePred P] : Nat → Nat
  | 0 => 0
  | k + 1 => p_sN P k + if P k then 2 ^ k else 0
theorem p_sN_lt (P : Nat → Prop) [DecidablePred P] : ∀ k, p_sN P k < 2 ^ k
  | 0 => by simp [p_sN]
  | k + 1 => by
    have := p_sN_lt P k
    simp only [p_sN]
    rw [Nat.pow_succ]
    split <;> omega
theorem p_sN_bit (P : Nat → Prop) [DecidablePred P] : ∀ (n k : Nat), (p_sN P n).testBit k = decide (k < n ∧ P k)
  | 0, k => by simp [p_sN]
  | n + 1, k => by
    have h1 := p_sN_lt P n
    have h2 := p_sN_bit P n k
    simp only [p_sN]
    by_cases hP : P n
    · rw [if_pos hP, Nat.add_comm]
      rcases Nat.lt_trichotomy k n with h | h | h
      · rw [Nat.testBit_two_pow_add_gt h, h2]; simp [h, show k < n + 1 by omega]
      · subst h
        rw [Nat.testBit_two_pow_add_eq, Nat.testBit_lt_two_pow h1]; simp [hP]
      · rw [Nat.testBit_lt_two_pow (Nat.lt_of_lt_of_le (show 2 ^ n + p_sN P n < 2 ^ (n + 1) by rw [Nat.pow_succ]; omega) (Nat.pow_le_pow_right (by decide) h))]
        simp; omega
    · rw [if_neg hP, Nat.add_zero, h2]
      have : (k < n + 1 ∧ P k) ↔ (k < n ∧ P k) := ⟨fun ⟨a, b⟩ => ⟨Decidable.byContradiction fun q => hP ((show k = n by omega) ▸ b), b⟩, fun ⟨a, b⟩ => ⟨by omega, b⟩⟩
      simp only [this]
theorem s_l : ∀ n, n < 32 → ((nI n &&& 31).toBitVec.smod 32).toNat = n := by decide +kernel
theorem i_shl1 {k : Nat} (hk : k < 31) : (1 : Int32) <<< (nI k &&& 31) = nI (2 ^ k) := by
  have h := pk_shlN (n := 1) (nI k &&& 31) k (s_l k (by omega)) (by rw [Nat.one_mul]; exact Nat.pow_lt_pow_right (by decide) (by omega))
  rw [Nat.one_mul] at h
  exact h
theorem i_shr {B k : Nat} (hB : B < 2 ^ 31) (hk : k < 32) : nI B >>> (nI k &&& 31) = nI (B / 2 ^ k) := pk_shrN hB _ k (s_l k hk)
theorem i_bit {B k : Nat} (hB : B < 2 ^ 31) (hk : k < 32) : (nI B >>> (nI k &&& 31)) &&& 1 = nI (B / 2 ^ k % 2) := by
  rw [i_shr hB hk]
  exact pk_andN (Nat.lt_of_le_of_lt (Nat.div_le_self _ _) (by omega)) 1 rfl
theorem i_bit0 {B k : Nat} (hB : B < 2 ^ 31) (hk : k < 32) : ((nI B >>> (nI k &&& 31)) &&& 1) = 0 ↔ B.testBit k = false := by
  rw [i_bit hB hk, show (0 : Int32) = nI 0 from rfl, nI_eq (by omega) (by decide), Nat.testBit_eq_decide_div_mod_eq]
  simp
theorem i_or2 {a k : Nat} (h : a < 2 ^ k) : nI a ||| nI (2 ^ k) = nI (a + 2 ^ k) := by
  rw [fa_or]
  congr 1
  rw [Nat.or_comm, Nat.add_comm]
  have := Nat.two_pow_add_eq_or_of_lt h 1
  rw [Nat.mul_one] at this
  exact this.symm
theorem p_sN_or {P : Nat → Prop} [DecidablePred P] {k : Nat} (hk : k < 31) (h : P k) : nI (p_sN P k) ||| ((1 : Int32) <<< (nI k &&& 31)) = nI (p_sN P (k + 1)) := by
  rw [i_shl1 hk, i_or2 (p_sN_lt P k)]
  simp only [p_sN, if_pos h]
theorem p_sN_no {P : Nat → Prop} [DecidablePred P] {k : Nat} (h : ¬ P k) : p_sN P (k + 1) = p_sN P k := by simp only [p_sN, if_neg h, Nat.add_zero]
/-- of those of P the first with the least f -/
def p_bst (P : Nat → Prop) [DecidablePred P] (f : Nat → Int32) (k : Nat) (o : Option Nat) : Option Nat := if P k then (match o with | none => some k | some b => if f k < f b then some k else some b) else o
abbrev p_bs (P : Nat → Prop) [DecidablePred P] (f : Nat → Int32) (j k : Nat) (o : Option Nat) : Option Nat := p_fold (p_bst P f) j k o
theorem p_bs_no {P : Nat → Prop} [DecidablePred P] {f : Nat → Int32} {k : Nat} {o : Option Nat} (h : ¬ P k) : p_bst P f k o = o := if_neg h
theorem p_bs_none {P : Nat → Prop} [DecidablePred P] {f : Nat → Int32} {k : Nat} {o : Option Nat} (h : P k) (ho : o = none) : p_bst P f k o = some k := by subst ho; exact if_pos h
theorem p_bs_lt {P : Nat → Prop} [DecidablePred P] {f : Nat → Int32} {k b : Nat} {o : Option Nat} (h : P k) (ho : o = some b) (hl : f k < f b) : p_bst P f k o = some k := by subst ho; exact (if_pos h).trans (if_pos hl)
theorem p_bs_ge {P : Nat → Prop} [DecidablePred P] {f : Nat → Int32} {k b : Nat} {o : Option Nat} (h : P k) (ho : o = some b) (hl : ¬ f k < f b) : p_bst P f k o = some b := by subst ho; exact (if_pos h).trans (if_neg hl)
theorem p_fold_s {σ : Type} {f : Nat → σ → σ} {j k : Nat} {s s2 : σ} (h : f k s = s2) : p_fold f (j + 1) k s = p_fold f j (k + 1) s2 := by rw [← h]; rfl

set_option maxRecDepth 100000 in
set_option maxHeartbeats 600000 in
theorem s_X6_armsFor {Γ : fx_G} {m : fx_M} (S : Nat) (HS : fx_St S) (hL : fx_Lay m) {na : Nat} (hna : m.1 S 2 = nI na) (h8 : na ≤ 8) {nd : Nat} (hnd : m.1 S 3 = nI nd) (h5 : nd ≤ 5) {d : Nat} (hd : d < nd) (s : Int32) : fx_Ct Γ mX6_armsFor 3 119 119 [fx_rf Γ S, .int (nI d), .int s] m (fx_is (some (.int (nI (p_sN (fun x => p_can (fx_ar m S) (fx_dr m S) na x d s) na)))) m) := by
  refine fx_Ct.of (j := 2) (by decide) (Nat.le_of_ble_eq_true rfl) (Nat.le_of_ble_eq_true rfl) ?_
  show fx_E Γ mX6_armsFor 3 119 119 _ 119 m 0 [some (fx_rf Γ S), some (.int (nI d)), some (.int s), none, none] []
  have lp : ∀ (j : Nat) (k : Nat) (b : Int32), k + j = na → b = nI (p_sN (fun x => p_can (fx_ar m S) (fx_dr m S) na x d s) k) → fx_E Γ mX6_armsFor 3 119 119 (fx_is (some (.int (nI (p_sN (fun x => p_can (fx_ar m S) (fx_dr m S) na x d s) na)))) m) 119 m 5 [some (fx_rf Γ S), some (.int (nI d)), some (.int s), some (.int b), some (.int (nI k))] [] := by
    intro j
    induction j with
    | zero =>
      intro k b hk hb
      refine e_iload dX6_armsFor_5 rfl ?_
      refine e_aload_n dX6_armsFor_7 rfl ?_
      refine e_getv (v := nI na) dX6_armsFor_8 ff_X6_23 HS.sh (fx_pi_lt HS.lt) (by decide) rfl hna ?_
      refine e_icmp_ge 38 dX6_armsFor_11 rfl (fun _ => ?_) (fun h => absurd (nI_le (by omega) (by omega)) h)
      refine e_iload_n dX6_armsFor_38 rfl ?_
      exact e_iret dX6_armsFor_39 rfl rfl rfl ⟨by rw [hb, show k = na by omega], rfl⟩
    | succ j ih =>
      intro k b hk hb
      refine e_iload dX6_armsFor_5 rfl ?_
      refine e_aload_n dX6_armsFor_7 rfl ?_
      refine e_getv (v := nI na) dX6_armsFor_8 ff_X6_23 HS.sh (fx_pi_lt HS.lt) (by decide) rfl hna ?_
      refine e_icmp_ge 38 dX6_armsFor_11 rfl (fun h => absurd h (nI_ge (by omega) (by omega))) (fun _ => ?_)
      refine e_aload_n dX6_armsFor_14 rfl ?_
      refine e_iload dX6_armsFor_15 rfl ?_
      refine e_iload_n dX6_armsFor_17 rfl ?_
      refine e_iload_n dX6_armsFor_18 rfl ?_
      refine e_callV1 (μ' := mX6_canCome) (ci := 6) (As := [.int (nI k), .int (nI d), .int s]) dX6_armsFor_19 wl_X6_87 ok_X6_canCome HS.sh rfl (fx_pi_lt HS.lt) (by decide) (Nat.le_of_ble_eq_true rfl) fx_n1 (s_X6_canCome (m := m) S HS hL hna h8 hnd h5 (x := k) (d := d) (by omega) (by omega) s) rfl ?_
      refine e_if_eqB 32 dX6_armsFor_22 rfl (fun c_p => ?_) (fun c_p => ?_)
      · refine e_iinc (v := nI (k + 1)) dX6_armsFor_32 rfl (fx_inc _) (by decide) rfl ?_
        refine e_goto 5 dX6_armsFor_35 rfl ?_
        exact ih (k + 1) _ (by omega) (by first | (rw [hb, p_sN_or (by omega) c_p]; done) | (rw [hb, p_sN_no c_p]; done))
      · refine e_iload_n dX6_armsFor_25 rfl ?_
        refine e_iconst dX6_armsFor_26 kci_1 ?_
        refine e_iload dX6_armsFor_27 rfl ?_
        refine e_ishl dX6_armsFor_29 ?_
        refine e_ior dX6_armsFor_30 ?_
        refine e_istore_n dX6_armsFor_31 (by decide) rfl ?_
        refine e_iinc (v := nI (k + 1)) dX6_armsFor_32 rfl (fx_inc _) (by decide) rfl ?_
        refine e_goto 5 dX6_armsFor_35 rfl ?_
        exact ih (k + 1) _ (by omega) (by first | (rw [hb, p_sN_or (by omega) c_p]; done) | (rw [hb, p_sN_no c_p]; done))
  refine e_iconst dX6_armsFor_0 kci_0 ?_
  refine e_istore_n dX6_armsFor_1 (by decide) rfl ?_
  refine e_iconst dX6_armsFor_2 kci_0 ?_
  refine e_istore dX6_armsFor_3 (by decide) rfl ?_
  exact lp na 0 0 (by omega) rfl
set_option maxRecDepth 100000 in
set_option maxHeartbeats 600000 in
theorem s_X6_leastUnlike {Γ : fx_G} {m : fx_M} (S : Nat) (HS : fx_St S) (hL : fx_Lay m) {na : Nat} (hna : m.1 S 2 = nI na) (h8 : na ≤ 8) {nd : Nat} (hnd : m.1 S 3 = nI nd) (h5 : nd ≤ 5) {B d : Nat} (hB : B < 2 ^ 31) (hd : d < nd) : fx_Ct Γ mX6_leastUnlike 4 119 119 [fx_rf Γ S, .int (nI B), .int (nI d)] m (fx_is (some (.int (p_oi (p_fold (p_bst (fun k => B.testBit k = true) (fun x => p_farA (fx_ar m S) (fx_dr m S) x d)) na 0 none)))) m) := by
  refine fx_Ct.of (j := 4) (by decide) (Nat.le_of_ble_eq_true rfl) (Nat.le_of_ble_eq_true rfl) ?_
  show fx_E Γ mX6_leastUnlike 4 119 119 _ 119 m 0 [some (fx_rf Γ S), some (.int (nI B)), some (.int (nI d)), none, none, none, none] []
  have lp : ∀ (j : Nat) (k : Nat) (o : Option Nat) (b l : Int32), k + j = na → b = p_oi o → (∀ x, o = some x → x < 8 ∧ l = (fun x => p_farA (fx_ar m S) (fx_dr m S) x d) x) → fx_E Γ mX6_leastUnlike 4 119 119 (fx_is (some (.int (p_oi (p_fold (p_bst (fun k => B.testBit k = true) (fun x => p_farA (fx_ar m S) (fx_dr m S) x d)) j k o)))) m) 119 m 8 [some (fx_rf Γ S), some (.int (nI B)), some (.int (nI d)), some (.int b), some (.int l), some (.int (nI k)), none] [] := by
    intro j
    induction j with
    | zero =>
      intro k o b l hk hb hl
      refine e_iload dX6_leastUnlike_8 rfl ?_
      refine e_aload_n dX6_leastUnlike_10 rfl ?_
      refine e_getv (v := nI na) dX6_leastUnlike_11 ff_X6_23 HS.sh (fx_pi_lt HS.lt) (by decide) rfl hna ?_
      refine e_icmp_ge 69 dX6_leastUnlike_14 rfl (fun _ => ?_) (fun h => absurd (nI_le (by omega) (by omega)) h)
      refine e_iload_n dX6_leastUnlike_69 rfl ?_
      exact e_iret dX6_leastUnlike_70 rfl rfl rfl ⟨by rw [hb]; rfl, rfl⟩
    | succ j ih =>
      intro k o b l hk hb hl
      refine e_iload dX6_leastUnlike_8 rfl ?_
      refine e_aload_n dX6_leastUnlike_10 rfl ?_
      refine e_getv (v := nI na) dX6_leastUnlike_11 ff_X6_23 HS.sh (fx_pi_lt HS.lt) (by decide) rfl hna ?_
      refine e_icmp_ge 69 dX6_leastUnlike_14 rfl (fun h => absurd h (nI_ge (by omega) (by omega))) (fun _ => ?_)
      refine e_iload_n dX6_leastUnlike_17 rfl ?_
      refine e_iload dX6_leastUnlike_18 rfl ?_
      refine e_ishr dX6_leastUnlike_20 ?_
      refine e_iconst dX6_leastUnlike_21 kci_1 ?_
      refine e_iand dX6_leastUnlike_22 ?_
      refine e_if_eq 63 dX6_leastUnlike_23 rfl (fun c_b => ?_) (fun c_b => ?_)
      · refine e_iinc (v := nI (k + 1)) dX6_leastUnlike_63 rfl (fx_inc _) (by decide) rfl ?_
        refine e_goto 8 dX6_leastUnlike_66 rfl ?_
        refine e_weak (lv2 := [some (fx_rf Γ S), some (.int (nI B)), some (.int (nI d)), some (.int b), some (.int l), some (.int (nI (k + 1))), none]) ⟨rfl, rfl, rfl, rfl, rfl, rfl, trivial⟩ ?_
        first
          | (rw [p_fold_s (p_bs_no (by rw [(i_bit0 hB (by omega)).mp c_b]; decide))]; exact ih (k + 1) o _ _ (by omega) hb hl)
          | (obtain ⟨y, hy⟩ : ∃ y, o = some y := Option.ne_none_iff_exists'.mp (fun h => c_n (by rw [hb, h]; rfl)); rw [p_fold_s (p_bs_ge (by have := mt (i_bit0 hB (by omega)).mpr c_b; simpa using this) hy (by rw [show p_farA (fx_ar m S) (fx_dr m S) y d = l from (hl y hy).2.symm]; exact Int32.not_lt.mpr c_l)), ← hy]; exact ih (k + 1) o _ _ (by omega) hb hl)
      · refine e_aload_n dX6_leastUnlike_26 rfl ?_
        refine e_getr (o2 := S + 1) dX6_leastUnlike_27 ff_X6_13 HS.sh (fx_pi_lt HS.lt) (by decide) rfl (HS.r0 hL) ?_
        refine e_iload dX6_leastUnlike_30 rfl ?_
        refine e_aald (j := k) (o2 := S + 3 + k) dX6_leastUnlike_32 HS.s1 (Or.inl rfl) (fx_pi_lt HS.l1) rfl (by omega) (by decide) (HS.ra hL (by omega)) ?_
        refine e_aload_n dX6_leastUnlike_33 rfl ?_
        refine e_getr (o2 := S + 2) dX6_leastUnlike_34 ff_X6_19 HS.sh (fx_pi_lt HS.lt) (by decide) rfl (HS.r1 hL) ?_
        refine e_iload_n dX6_leastUnlike_37 rfl ?_
        refine e_aald (j := d) (o2 := S + 11 + d) dX6_leastUnlike_38 HS.s2 (Or.inr (Or.inl rfl)) (fx_pi_lt HS.l2) rfl (by omega) (by decide) (HS.rd hL (by omega)) ?_
        refine e_callV1 (μ' := mX0_farFrom) (ci := 0) (As := [fx_rf Γ (S + 11 + d)]) dX6_leastUnlike_39 wl_X6_91 ok_X0_farFrom (HS.sa (by omega)) rfl (fx_pi_lt (HS.la (by omega))) (by decide) (Nat.le_of_ble_eq_true rfl) fx_n1 (s_X0_farFrom (m := m) (S + 3 + k) (HS.sa (by omega)) (HS.la (by omega)) (S + 11 + d) (HS.sd (by omega)) (HS.ld (by omega)) ) rfl ?_
        refine e_istore dX6_leastUnlike_42 (by decide) rfl ?_
        refine e_iload_n dX6_leastUnlike_44 rfl ?_
        refine e_iconst dX6_leastUnlike_45 kci_m1 ?_
        refine e_icmp_eq 56 dX6_leastUnlike_46 rfl (fun c_n => ?_) (fun c_n => ?_)
        · refine e_iload dX6_leastUnlike_56 rfl ?_
          refine e_istore_n dX6_leastUnlike_58 (by decide) rfl ?_
          refine e_iload dX6_leastUnlike_59 rfl ?_
          refine e_istore dX6_leastUnlike_61 (by decide) rfl ?_
          refine e_iinc (v := nI (k + 1)) dX6_leastUnlike_63 rfl (fx_inc _) (by decide) rfl ?_
          refine e_goto 8 dX6_leastUnlike_66 rfl ?_
          refine e_weak (lv2 := [some (fx_rf Γ S), some (.int (nI B)), some (.int (nI d)), some (.int (nI k)), some (.int (p_far (m.1 (S + 3 + k)) (m.1 (S + 11 + d)) (m.1 (S + 3 + k) 4) (m.1 (S + 3 + k) 5))), some (.int (nI (k + 1))), none]) ⟨rfl, rfl, rfl, rfl, rfl, rfl, trivial⟩ ?_
          first
            | (rw [p_fold_s (p_bs_none (by have := mt (i_bit0 hB (by omega)).mpr c_b; simpa using this) ((p_oi_ne (fun x hx => by have := (hl x hx).1; omega)).mp (hb.symm.trans c_n)))]; exact ih (k + 1) (some k) _ _ (by omega) rfl (fun x hx => by cases hx; exact ⟨by omega, rfl⟩))
            | (obtain ⟨y, hy⟩ : ∃ y, o = some y := Option.ne_none_iff_exists'.mp (fun h => c_n (by rw [hb, h]; rfl)); rw [p_fold_s (p_bs_lt (by have := mt (i_bit0 hB (by omega)).mpr c_b; simpa using this) hy (by rw [show p_farA (fx_ar m S) (fx_dr m S) y d = l from (hl y hy).2.symm]; exact Int32.not_le.mp c_l))]; exact ih (k + 1) (some k) _ _ (by omega) rfl (fun x hx => by cases hx; exact ⟨by omega, rfl⟩))
        · refine e_iload dX6_leastUnlike_49 rfl ?_
          refine e_iload dX6_leastUnlike_51 rfl ?_
          refine e_icmp_ge 63 dX6_leastUnlike_53 rfl (fun c_l => ?_) (fun c_l => ?_)
          · refine e_iinc (v := nI (k + 1)) dX6_leastUnlike_63 rfl (fx_inc _) (by decide) rfl ?_
            refine e_goto 8 dX6_leastUnlike_66 rfl ?_
            refine e_weak (lv2 := [some (fx_rf Γ S), some (.int (nI B)), some (.int (nI d)), some (.int b), some (.int l), some (.int (nI (k + 1))), none]) ⟨rfl, rfl, rfl, rfl, rfl, rfl, trivial⟩ ?_
            first
              | (rw [p_fold_s (p_bs_no (by rw [(i_bit0 hB (by omega)).mp c_b]; decide))]; exact ih (k + 1) o _ _ (by omega) hb hl)
              | (obtain ⟨y, hy⟩ : ∃ y, o = some y := Option.ne_none_iff_exists'.mp (fun h => c_n (by rw [hb, h]; rfl)); rw [p_fold_s (p_bs_ge (by have := mt (i_bit0 hB (by omega)).mpr c_b; simpa using this) hy (by rw [show p_farA (fx_ar m S) (fx_dr m S) y d = l from (hl y hy).2.symm]; exact Int32.not_lt.mpr c_l)), ← hy]; exact ih (k + 1) o _ _ (by omega) hb hl)
          · refine e_iload dX6_leastUnlike_56 rfl ?_
            refine e_istore_n dX6_leastUnlike_58 (by decide) rfl ?_
            refine e_iload dX6_leastUnlike_59 rfl ?_
            refine e_istore dX6_leastUnlike_61 (by decide) rfl ?_
            refine e_iinc (v := nI (k + 1)) dX6_leastUnlike_63 rfl (fx_inc _) (by decide) rfl ?_
            refine e_goto 8 dX6_leastUnlike_66 rfl ?_
            refine e_weak (lv2 := [some (fx_rf Γ S), some (.int (nI B)), some (.int (nI d)), some (.int (nI k)), some (.int (p_far (m.1 (S + 3 + k)) (m.1 (S + 11 + d)) (m.1 (S + 3 + k) 4) (m.1 (S + 3 + k) 5))), some (.int (nI (k + 1))), none]) ⟨rfl, rfl, rfl, rfl, rfl, rfl, trivial⟩ ?_
            first
              | (rw [p_fold_s (p_bs_none (by have := mt (i_bit0 hB (by omega)).mpr c_b; simpa using this) ((p_oi_ne (fun x hx => by have := (hl x hx).1; omega)).mp (hb.symm.trans c_n)))]; exact ih (k + 1) (some k) _ _ (by omega) rfl (fun x hx => by cases hx; exact ⟨by omega, rfl⟩))
              | (obtain ⟨y, hy⟩ : ∃ y, o = some y := Option.ne_none_iff_exists'.mp (fun h => c_n (by rw [hb, h]; rfl)); rw [p_fold_s (p_bs_lt (by have := mt (i_bit0 hB (by omega)).mpr c_b; simpa using this) hy (by rw [show p_farA (fx_ar m S) (fx_dr m S) y d = l from (hl y hy).2.symm]; exact Int32.not_le.mp c_l))]; exact ih (k + 1) (some k) _ _ (by omega) rfl (fun x hx => by cases hx; exact ⟨by omega, rfl⟩))
  refine e_iconst dX6_leastUnlike_0 kci_m1 ?_
  refine e_istore_n dX6_leastUnlike_1 (by decide) rfl ?_
  refine e_iconst dX6_leastUnlike_2 kci_0 ?_
  refine e_istore dX6_leastUnlike_3 (by decide) rfl ?_
  refine e_iconst dX6_leastUnlike_5 kci_0 ?_
  refine e_istore dX6_leastUnlike_6 (by decide) rfl ?_
  exact lp na 0 none _ _ (by omega) rfl (fun x hx => by cases hx)
def p_ct (P : Nat → Prop) [DecidablePred P] (k : Nat) (s : Int32) : Int32 := if P k then s + 1 else s
theorem p_ct_y {P : Nat → Prop} [DecidablePred P] {k : Nat} {s : Int32} (h : P k) : p_ct P k s = s + 1 := if_pos h
theorem p_ct_n {P : Nat → Prop} [DecidablePred P] {k : Nat} {s : Int32} (h : ¬ P k) : p_ct P k s = s := if_neg h
def p_uo (o : Option Nat) (f : Nat → Int32) (s : Int32) : Int32 := match o with | none => s | some x => s + f x
theorem p_uo_n {A : Nat → Nat → Int32} {na : Nat} {d s z : Int32} {f : Nat → Int32} (h8 : na ≤ 8) (h : p_oi (p_at A na d s) = -1) : p_uo (p_at A na d s) f z = z := by rw [(p_at_n h8).mpr h]; rfl
theorem p_uo_y {o : Option Nat} {x : Nat} {z : Int32} {f : Nat → Int32} (h : o = some x) : p_uo o f z = z + f x := by rw [h]; rfl
def p_unl (A D : Nat → Nat → Int32) (na d : Nat) : Int32 := p_uo (p_at A na (nI d) 1) (fun x => p_farA A D x d) (p_uo (p_at A na (nI d) 0) (fun x => p_farA A D x d) 0)
abbrev p_both (A : Nat → Nat → Int32) (na d : Nat) : Prop := ¬ p_oi (p_at A na (nI d) 0) = -1 ∧ ¬ p_oi (p_at A na (nI d) 1) = -1
theorem p_at_s {A : Nat → Nat → Int32} {na : Nat} {d s : Int32} (h8 : na ≤ 8) (h : ¬ p_oi (p_at A na d s) = -1) : ∃ x, p_at A na d s = some x ∧ x < na := by
  cases e : p_at A na d s with
  | none => rw [e] at h; exact absurd rfl h
  | some x => exact ⟨x, rfl, (p_at_lt e).1⟩
set_option maxRecDepth 100000 in
set_option maxHeartbeats 600000 in
theorem s_X6_armsInDrawer {Γ : fx_G} {m : fx_M} (S : Nat) (HS : fx_St S) (hL : fx_Lay m) {na : Nat} (hna : m.1 S 2 = nI na) (h8 : na ≤ 8) : fx_Ct Γ mX6_armsInDrawer 1 119 119 [fx_rf Γ S] m (fx_is (some (.int (p_fold (p_ct (fun x => fx_ar m S x 6 = 99)) na 0 0))) m) := by
  refine fx_Ct.of (j := 2) (by decide) (Nat.le_of_ble_eq_true rfl) (Nat.le_of_ble_eq_true rfl) ?_
  show fx_E Γ mX6_armsInDrawer 1 119 119 _ 119 m 0 [some (fx_rf Γ S), none, none] []
  have lp : ∀ (j : Nat) (k : Nat) (s : Int32), k + j = na → fx_E Γ mX6_armsInDrawer 1 119 119 (fx_is (some (.int (p_fold (p_ct (fun x => fx_ar m S x 6 = 99)) j k s))) m) 119 m 4 [some (fx_rf Γ S), some (.int s), some (.int (nI k))] [] := by
    intro j
    induction j with
    | zero =>
      intro k s hk
      refine e_iload_n dX6_armsInDrawer_4 rfl ?_
      refine e_aload_n dX6_armsInDrawer_5 rfl ?_
      refine e_getv (v := nI na) dX6_armsInDrawer_6 ff_X6_23 HS.sh (fx_pi_lt HS.lt) (by decide) rfl hna ?_
      refine e_icmp_ge 33 dX6_armsInDrawer_9 rfl (fun _ => ?_) (fun h => absurd (nI_le (by omega) (by omega)) h)
      refine e_iload_n dX6_armsInDrawer_33 rfl ?_
      exact e_iret dX6_armsInDrawer_34 rfl rfl rfl ⟨rfl, rfl⟩
    | succ j ih =>
      intro k s hk
      refine e_iload_n dX6_armsInDrawer_4 rfl ?_
      refine e_aload_n dX6_armsInDrawer_5 rfl ?_
      refine e_getv (v := nI na) dX6_armsInDrawer_6 ff_X6_23 HS.sh (fx_pi_lt HS.lt) (by decide) rfl hna ?_
      refine e_icmp_ge 33 dX6_armsInDrawer_9 rfl (fun h => absurd h (nI_ge (by omega) (by omega))) (fun _ => ?_)
      refine e_aload_n dX6_armsInDrawer_12 rfl ?_
      refine e_getr (o2 := S + 1) dX6_armsInDrawer_13 ff_X6_13 HS.sh (fx_pi_lt HS.lt) (by decide) rfl (HS.r0 hL) ?_
      refine e_iload_n dX6_armsInDrawer_16 rfl ?_
      refine e_aald (j := k) (o2 := S + 3 + k) dX6_armsInDrawer_17 HS.s1 (Or.inl rfl) (fx_pi_lt HS.l1) rfl (by omega) (by decide) (HS.ra hL (by omega)) ?_
      refine e_callV1 (μ' := mX0_isInDrawer) (ci := 0) (As := []) dX6_armsInDrawer_18 wl_X6_69 ok_X0_isInDrawer (HS.sa (by omega)) rfl (fx_pi_lt (HS.la (by omega))) (by decide) (Nat.le_of_ble_eq_true rfl) fx_n1 (s_X0_isInDrawer (m := m) (S + 3 + k) (HS.sa (by omega)) (HS.la (by omega)) ) rfl ?_
      refine e_if_eqB 27 dX6_armsInDrawer_21 rfl (fun c_p => ?_) (fun c_p => ?_)
      · refine e_iinc (v := nI (k + 1)) dX6_armsInDrawer_27 rfl (fx_inc _) (by decide) rfl ?_
        refine e_goto 4 dX6_armsInDrawer_30 rfl ?_
        rw [p_fold_s (p_ct_n (P := (fun x => fx_ar m S x 6 = 99)) (k := k) c_p)]
        exact ih (k + 1) _ (by omega)
      · refine e_iinc (v := s + 1) dX6_armsInDrawer_24 rfl (fx_inc1 _) (by decide) rfl ?_
        refine e_iinc (v := nI (k + 1)) dX6_armsInDrawer_27 rfl (fx_inc _) (by decide) rfl ?_
        refine e_goto 4 dX6_armsInDrawer_30 rfl ?_
        rw [p_fold_s (p_ct_y (P := (fun x => fx_ar m S x 6 = 99)) (k := k) c_p)]
        exact ih (k + 1) _ (by omega)
  refine e_iconst dX6_armsInDrawer_0 kci_0 ?_
  refine e_istore_n dX6_armsInDrawer_1 (by decide) rfl ?_
  refine e_iconst dX6_armsInDrawer_2 kci_0 ?_
  refine e_istore_n dX6_armsInDrawer_3 (by decide) rfl ?_
  exact lp na 0 0 (by omega)
set_option maxRecDepth 100000 in
set_option maxHeartbeats 600000 in
theorem s_X6_dollsWithBoth {Γ : fx_G} {m : fx_M} (S : Nat) (HS : fx_St S) (hL : fx_Lay m) {na : Nat} (hna : m.1 S 2 = nI na) (h8 : na ≤ 8) {nd : Nat} (hnd : m.1 S 3 = nI nd) (h5 : nd ≤ 5) : fx_Ct Γ mX6_dollsWithBoth 2 119 119 [fx_rf Γ S] m (fx_is (some (.int (p_fold (p_ct (p_both (fx_ar m S) na)) nd 0 0))) m) := by
  refine fx_Ct.of (j := 2) (by decide) (Nat.le_of_ble_eq_true rfl) (Nat.le_of_ble_eq_true rfl) ?_
  show fx_E Γ mX6_dollsWithBoth 2 119 119 _ 119 m 0 [some (fx_rf Γ S), none, none] []
  have lp : ∀ (j : Nat) (k : Nat) (s : Int32), k + j = nd → fx_E Γ mX6_dollsWithBoth 2 119 119 (fx_is (some (.int (p_fold (p_ct (p_both (fx_ar m S) na)) j k s))) m) 119 m 4 [some (fx_rf Γ S), some (.int s), some (.int (nI k))] [] := by
    intro j
    induction j with
    | zero =>
      intro k s hk
      refine e_iload_n dX6_dollsWithBoth_4 rfl ?_
      refine e_aload_n dX6_dollsWithBoth_5 rfl ?_
      refine e_getv (v := nI nd) dX6_dollsWithBoth_6 ff_X6_27 HS.sh (fx_pi_lt HS.lt) (by decide) rfl hnd ?_
      refine e_icmp_ge 41 dX6_dollsWithBoth_9 rfl (fun _ => ?_) (fun h => absurd (nI_le (by omega) (by omega)) h)
      refine e_iload_n dX6_dollsWithBoth_41 rfl ?_
      exact e_iret dX6_dollsWithBoth_42 rfl rfl rfl ⟨rfl, rfl⟩
    | succ j ih =>
      intro k s hk
      refine e_iload_n dX6_dollsWithBoth_4 rfl ?_
      refine e_aload_n dX6_dollsWithBoth_5 rfl ?_
      refine e_getv (v := nI nd) dX6_dollsWithBoth_6 ff_X6_27 HS.sh (fx_pi_lt HS.lt) (by decide) rfl hnd ?_
      refine e_icmp_ge 41 dX6_dollsWithBoth_9 rfl (fun h => absurd h (nI_ge (by omega) (by omega))) (fun _ => ?_)
      refine e_aload_n dX6_dollsWithBoth_12 rfl ?_
      refine e_iload_n dX6_dollsWithBoth_13 rfl ?_
      refine e_iconst dX6_dollsWithBoth_14 kci_0 ?_
      refine e_callV1 (μ' := mX6_armAt) (ci := 6) (As := [.int (nI k), .int 0]) dX6_dollsWithBoth_15 wl_X6_76 ok_X6_armAt HS.sh rfl (fx_pi_lt HS.lt) (by decide) (Nat.le_of_ble_eq_true rfl) fx_n1 (s_X6_armAt (m := m) S HS hL hna h8 (nI k) 0) rfl ?_
      refine e_iconst dX6_dollsWithBoth_18 kci_m1 ?_
      refine e_icmp_eq 35 dX6_dollsWithBoth_19 rfl (fun c_p => ?_) (fun c_p => ?_)
      · refine e_iinc (v := nI (k + 1)) dX6_dollsWithBoth_35 rfl (fx_inc _) (by decide) rfl ?_
        refine e_goto 4 dX6_dollsWithBoth_38 rfl ?_
        rw [p_fold_s (p_ct_n (P := (p_both (fx_ar m S) na)) (k := k) (fun h => by first | exact h.1 c_p | exact h.2 c_q))]
        exact ih (k + 1) _ (by omega)
      · refine e_aload_n dX6_dollsWithBoth_22 rfl ?_
        refine e_iload_n dX6_dollsWithBoth_23 rfl ?_
        refine e_iconst dX6_dollsWithBoth_24 kci_1 ?_
        refine e_callV1 (μ' := mX6_armAt) (ci := 6) (As := [.int (nI k), .int 1]) dX6_dollsWithBoth_25 wl_X6_76 ok_X6_armAt HS.sh rfl (fx_pi_lt HS.lt) (by decide) (Nat.le_of_ble_eq_true rfl) fx_n1 (s_X6_armAt (m := m) S HS hL hna h8 (nI k) 1) rfl ?_
        refine e_iconst dX6_dollsWithBoth_28 kci_m1 ?_
        refine e_icmp_eq 35 dX6_dollsWithBoth_29 rfl (fun c_q => ?_) (fun c_q => ?_)
        · refine e_iinc (v := nI (k + 1)) dX6_dollsWithBoth_35 rfl (fx_inc _) (by decide) rfl ?_
          refine e_goto 4 dX6_dollsWithBoth_38 rfl ?_
          rw [p_fold_s (p_ct_n (P := (p_both (fx_ar m S) na)) (k := k) (fun h => by first | exact h.1 c_p | exact h.2 c_q))]
          exact ih (k + 1) _ (by omega)
        · refine e_iinc (v := s + 1) dX6_dollsWithBoth_32 rfl (fx_inc1 _) (by decide) rfl ?_
          refine e_iinc (v := nI (k + 1)) dX6_dollsWithBoth_35 rfl (fx_inc _) (by decide) rfl ?_
          refine e_goto 4 dX6_dollsWithBoth_38 rfl ?_
          rw [p_fold_s (p_ct_y (P := (p_both (fx_ar m S) na)) (k := k) ⟨c_p, c_q⟩)]
          exact ih (k + 1) _ (by omega)
  refine e_iconst dX6_dollsWithBoth_0 kci_0 ?_
  refine e_istore_n dX6_dollsWithBoth_1 (by decide) rfl ?_
  refine e_iconst dX6_dollsWithBoth_2 kci_0 ?_
  refine e_istore_n dX6_dollsWithBoth_3 (by decide) rfl ?_
  exact lp nd 0 0 (by omega)
set_option maxRecDepth 100000 in
set_option maxHeartbeats 600000 in
theorem s_X6_unlikeOn {Γ : fx_G} {m : fx_M} (S : Nat) (HS : fx_St S) (hL : fx_Lay m) {na : Nat} (hna : m.1 S 2 = nI na) (h8 : na ≤ 8) {nd : Nat} (hnd : m.1 S 3 = nI nd) (h5 : nd ≤ 5) {d : Nat} (hd : d < nd) : fx_Ct Γ mX6_unlikeOn 4 119 119 [fx_rf Γ S, .int (nI d)] m (fx_is (some (.int (p_unl (fx_ar m S) (fx_dr m S) na d))) m) := by
  refine fx_Ct.of (j := 3) (by decide) (Nat.le_of_ble_eq_true rfl) (Nat.le_of_ble_eq_true rfl) ?_
  show fx_E Γ mX6_unlikeOn 4 119 119 _ 119 m 0 [some (fx_rf Γ S), some (.int (nI d)), none, none, none] []
  refine e_iconst dX6_unlikeOn_0 kci_0 ?_
  refine e_istore_n dX6_unlikeOn_1 (by decide) rfl ?_
  refine e_iconst dX6_unlikeOn_2 kci_0 ?_
  refine e_istore_n dX6_unlikeOn_3 (by decide) rfl ?_
  refine e_iload_n dX6_unlikeOn_4 rfl ?_
  refine e_iconst dX6_unlikeOn_5 kci_1 ?_
  refine e_icmp_gt 48 dX6_unlikeOn_6 rfl (fun h => absurd h (by decide)) (fun _ => ?_)
  refine e_aload_n dX6_unlikeOn_9 rfl ?_
  refine e_iload_n dX6_unlikeOn_10 rfl ?_
  refine e_iload_n dX6_unlikeOn_11 rfl ?_
  refine e_callV1 (μ' := mX6_armAt) (ci := 6) (As := [.int (nI d), .int 0]) dX6_unlikeOn_12 wl_X6_76 ok_X6_armAt HS.sh rfl (fx_pi_lt HS.lt) (by decide) (Nat.le_of_ble_eq_true rfl) fx_n1 (s_X6_armAt (m := m) S HS hL hna h8 (nI d) 0) rfl ?_
  refine e_istore dX6_unlikeOn_15 (by decide) rfl ?_
  refine e_iload dX6_unlikeOn_17 rfl ?_
  refine e_iconst dX6_unlikeOn_19 kci_m1 ?_
  refine e_icmp_eq 42 dX6_unlikeOn_20 rfl (fun c_1 => ?_) (fun c_1 => ?_)
  · refine e_iinc (v := 1) dX6_unlikeOn_42 rfl (by decide) (by decide) rfl ?_
    refine e_goto 4 dX6_unlikeOn_45 rfl ?_
    refine e_iload_n dX6_unlikeOn_4 rfl ?_
    refine e_iconst dX6_unlikeOn_5 kci_1 ?_
    refine e_icmp_gt 48 dX6_unlikeOn_6 rfl (fun h => absurd h (by decide)) (fun _ => ?_)
    refine e_aload_n dX6_unlikeOn_9 rfl ?_
    refine e_iload_n dX6_unlikeOn_10 rfl ?_
    refine e_iload_n dX6_unlikeOn_11 rfl ?_
    refine e_callV1 (μ' := mX6_armAt) (ci := 6) (As := [.int (nI d), .int 1]) dX6_unlikeOn_12 wl_X6_76 ok_X6_armAt HS.sh rfl (fx_pi_lt HS.lt) (by decide) (Nat.le_of_ble_eq_true rfl) fx_n1 (s_X6_armAt (m := m) S HS hL hna h8 (nI d) 1) rfl ?_
    refine e_istore dX6_unlikeOn_15 (by decide) rfl ?_
    refine e_iload dX6_unlikeOn_17 rfl ?_
    refine e_iconst dX6_unlikeOn_19 kci_m1 ?_
    refine e_icmp_eq 42 dX6_unlikeOn_20 rfl (fun c_2 => ?_) (fun c_2 => ?_)
    · refine e_iinc (v := 2) dX6_unlikeOn_42 rfl (by decide) (by decide) rfl ?_
      refine e_goto 4 dX6_unlikeOn_45 rfl ?_
      refine e_iload_n dX6_unlikeOn_4 rfl ?_
      refine e_iconst dX6_unlikeOn_5 kci_1 ?_
      refine e_icmp_gt 48 dX6_unlikeOn_6 rfl (fun _ => ?_) (fun h => absurd (by decide) h)
      refine e_iload_n dX6_unlikeOn_48 rfl ?_
      exact e_iret dX6_unlikeOn_49 rfl rfl rfl ⟨by rw [p_unl]; first | rw [p_uo_n h8 c_2, p_uo_n h8 c_1] | (rw [p_uo_y hx1, p_uo_n h8 c_1]; rfl) | (rw [p_uo_n h8 c_3, p_uo_y hx2]; rfl) | (rw [p_uo_y hx3, p_uo_y hx2]; rfl), rfl⟩
    · obtain ⟨x1, hx1, lx1⟩ := p_at_s h8 c_2
      rw [hx1]
      refine e_iload_n dX6_unlikeOn_23 rfl ?_
      refine e_aload_n dX6_unlikeOn_24 rfl ?_
      refine e_getr (o2 := S + 1) dX6_unlikeOn_25 ff_X6_13 HS.sh (fx_pi_lt HS.lt) (by decide) rfl (HS.r0 hL) ?_
      refine e_iload dX6_unlikeOn_28 rfl ?_
      refine e_aald (j := x1) (o2 := S + 3 + x1) dX6_unlikeOn_30 HS.s1 (Or.inl rfl) (fx_pi_lt HS.l1) rfl (by omega) (by decide) (HS.ra hL (by omega)) ?_
      refine e_aload_n dX6_unlikeOn_31 rfl ?_
      refine e_getr (o2 := S + 2) dX6_unlikeOn_32 ff_X6_19 HS.sh (fx_pi_lt HS.lt) (by decide) rfl (HS.r1 hL) ?_
      refine e_iload_n dX6_unlikeOn_35 rfl ?_
      refine e_aald (j := d) (o2 := S + 11 + d) dX6_unlikeOn_36 HS.s2 (Or.inr (Or.inl rfl)) (fx_pi_lt HS.l2) rfl (by omega) (by decide) (HS.rd hL (by omega)) ?_
      refine e_callV1 (μ' := mX0_farFrom) (ci := 0) (As := [fx_rf Γ (S + 11 + d)]) dX6_unlikeOn_37 wl_X6_91 ok_X0_farFrom (HS.sa (by omega)) rfl (fx_pi_lt (HS.la (by omega))) (by decide) (Nat.le_of_ble_eq_true rfl) fx_n1 (s_X0_farFrom (m := m) (S + 3 + x1) (HS.sa (by omega)) (HS.la (by omega)) (S + 11 + d) (HS.sd (by omega)) (HS.ld (by omega)) ) rfl ?_
      refine e_iadd dX6_unlikeOn_40 ?_
      refine e_istore_n dX6_unlikeOn_41 (by decide) rfl ?_
      refine e_iinc (v := 2) dX6_unlikeOn_42 rfl (by decide) (by decide) rfl ?_
      refine e_goto 4 dX6_unlikeOn_45 rfl ?_
      refine e_iload_n dX6_unlikeOn_4 rfl ?_
      refine e_iconst dX6_unlikeOn_5 kci_1 ?_
      refine e_icmp_gt 48 dX6_unlikeOn_6 rfl (fun _ => ?_) (fun h => absurd (by decide) h)
      refine e_iload_n dX6_unlikeOn_48 rfl ?_
      exact e_iret dX6_unlikeOn_49 rfl rfl rfl ⟨by rw [p_unl]; first | rw [p_uo_n h8 c_2, p_uo_n h8 c_1] | (rw [p_uo_y hx1, p_uo_n h8 c_1]; rfl) | (rw [p_uo_n h8 c_3, p_uo_y hx2]; rfl) | (rw [p_uo_y hx3, p_uo_y hx2]; rfl), rfl⟩
  · obtain ⟨x2, hx2, lx2⟩ := p_at_s h8 c_1
    rw [hx2]
    refine e_iload_n dX6_unlikeOn_23 rfl ?_
    refine e_aload_n dX6_unlikeOn_24 rfl ?_
    refine e_getr (o2 := S + 1) dX6_unlikeOn_25 ff_X6_13 HS.sh (fx_pi_lt HS.lt) (by decide) rfl (HS.r0 hL) ?_
    refine e_iload dX6_unlikeOn_28 rfl ?_
    refine e_aald (j := x2) (o2 := S + 3 + x2) dX6_unlikeOn_30 HS.s1 (Or.inl rfl) (fx_pi_lt HS.l1) rfl (by omega) (by decide) (HS.ra hL (by omega)) ?_
    refine e_aload_n dX6_unlikeOn_31 rfl ?_
    refine e_getr (o2 := S + 2) dX6_unlikeOn_32 ff_X6_19 HS.sh (fx_pi_lt HS.lt) (by decide) rfl (HS.r1 hL) ?_
    refine e_iload_n dX6_unlikeOn_35 rfl ?_
    refine e_aald (j := d) (o2 := S + 11 + d) dX6_unlikeOn_36 HS.s2 (Or.inr (Or.inl rfl)) (fx_pi_lt HS.l2) rfl (by omega) (by decide) (HS.rd hL (by omega)) ?_
    refine e_callV1 (μ' := mX0_farFrom) (ci := 0) (As := [fx_rf Γ (S + 11 + d)]) dX6_unlikeOn_37 wl_X6_91 ok_X0_farFrom (HS.sa (by omega)) rfl (fx_pi_lt (HS.la (by omega))) (by decide) (Nat.le_of_ble_eq_true rfl) fx_n1 (s_X0_farFrom (m := m) (S + 3 + x2) (HS.sa (by omega)) (HS.la (by omega)) (S + 11 + d) (HS.sd (by omega)) (HS.ld (by omega)) ) rfl ?_
    refine e_iadd dX6_unlikeOn_40 ?_
    refine e_istore_n dX6_unlikeOn_41 (by decide) rfl ?_
    refine e_iinc (v := 1) dX6_unlikeOn_42 rfl (by decide) (by decide) rfl ?_
    refine e_goto 4 dX6_unlikeOn_45 rfl ?_
    refine e_iload_n dX6_unlikeOn_4 rfl ?_
    refine e_iconst dX6_unlikeOn_5 kci_1 ?_
    refine e_icmp_gt 48 dX6_unlikeOn_6 rfl (fun h => absurd h (by decide)) (fun _ => ?_)
    refine e_aload_n dX6_unlikeOn_9 rfl ?_
    refine e_iload_n dX6_unlikeOn_10 rfl ?_
    refine e_iload_n dX6_unlikeOn_11 rfl ?_
    refine e_callV1 (μ' := mX6_armAt) (ci := 6) (As := [.int (nI d), .int 1]) dX6_unlikeOn_12 wl_X6_76 ok_X6_armAt HS.sh rfl (fx_pi_lt HS.lt) (by decide) (Nat.le_of_ble_eq_true rfl) fx_n1 (s_X6_armAt (m := m) S HS hL hna h8 (nI d) 1) rfl ?_
    refine e_istore dX6_unlikeOn_15 (by decide) rfl ?_
    refine e_iload dX6_unlikeOn_17 rfl ?_
    refine e_iconst dX6_unlikeOn_19 kci_m1 ?_
    refine e_icmp_eq 42 dX6_unlikeOn_20 rfl (fun c_3 => ?_) (fun c_3 => ?_)
    · refine e_iinc (v := 2) dX6_unlikeOn_42 rfl (by decide) (by decide) rfl ?_
      refine e_goto 4 dX6_unlikeOn_45 rfl ?_
      refine e_iload_n dX6_unlikeOn_4 rfl ?_
      refine e_iconst dX6_unlikeOn_5 kci_1 ?_
      refine e_icmp_gt 48 dX6_unlikeOn_6 rfl (fun _ => ?_) (fun h => absurd (by decide) h)
      refine e_iload_n dX6_unlikeOn_48 rfl ?_
      exact e_iret dX6_unlikeOn_49 rfl rfl rfl ⟨by rw [p_unl]; first | rw [p_uo_n h8 c_2, p_uo_n h8 c_1] | (rw [p_uo_y hx1, p_uo_n h8 c_1]; rfl) | (rw [p_uo_n h8 c_3, p_uo_y hx2]; rfl) | (rw [p_uo_y hx3, p_uo_y hx2]; rfl), rfl⟩
    · obtain ⟨x3, hx3, lx3⟩ := p_at_s h8 c_3
      rw [hx3]
      refine e_iload_n dX6_unlikeOn_23 rfl ?_
      refine e_aload_n dX6_unlikeOn_24 rfl ?_
      refine e_getr (o2 := S + 1) dX6_unlikeOn_25 ff_X6_13 HS.sh (fx_pi_lt HS.lt) (by decide) rfl (HS.r0 hL) ?_
      refine e_iload dX6_unlikeOn_28 rfl ?_
      refine e_aald (j := x3) (o2 := S + 3 + x3) dX6_unlikeOn_30 HS.s1 (Or.inl rfl) (fx_pi_lt HS.l1) rfl (by omega) (by decide) (HS.ra hL (by omega)) ?_
      refine e_aload_n dX6_unlikeOn_31 rfl ?_
      refine e_getr (o2 := S + 2) dX6_unlikeOn_32 ff_X6_19 HS.sh (fx_pi_lt HS.lt) (by decide) rfl (HS.r1 hL) ?_
      refine e_iload_n dX6_unlikeOn_35 rfl ?_
      refine e_aald (j := d) (o2 := S + 11 + d) dX6_unlikeOn_36 HS.s2 (Or.inr (Or.inl rfl)) (fx_pi_lt HS.l2) rfl (by omega) (by decide) (HS.rd hL (by omega)) ?_
      refine e_callV1 (μ' := mX0_farFrom) (ci := 0) (As := [fx_rf Γ (S + 11 + d)]) dX6_unlikeOn_37 wl_X6_91 ok_X0_farFrom (HS.sa (by omega)) rfl (fx_pi_lt (HS.la (by omega))) (by decide) (Nat.le_of_ble_eq_true rfl) fx_n1 (s_X0_farFrom (m := m) (S + 3 + x3) (HS.sa (by omega)) (HS.la (by omega)) (S + 11 + d) (HS.sd (by omega)) (HS.ld (by omega)) ) rfl ?_
      refine e_iadd dX6_unlikeOn_40 ?_
      refine e_istore_n dX6_unlikeOn_41 (by decide) rfl ?_
      refine e_iinc (v := 2) dX6_unlikeOn_42 rfl (by decide) (by decide) rfl ?_
      refine e_goto 4 dX6_unlikeOn_45 rfl ?_
      refine e_iload_n dX6_unlikeOn_4 rfl ?_
      refine e_iconst dX6_unlikeOn_5 kci_1 ?_
      refine e_icmp_gt 48 dX6_unlikeOn_6 rfl (fun _ => ?_) (fun h => absurd (by decide) h)
      refine e_iload_n dX6_unlikeOn_48 rfl ?_
      exact e_iret dX6_unlikeOn_49 rfl rfl rfl ⟨by rw [p_unl]; first | rw [p_uo_n h8 c_2, p_uo_n h8 c_1] | (rw [p_uo_y hx1, p_uo_n h8 c_1]; rfl) | (rw [p_uo_n h8 c_3, p_uo_y hx2]; rfl) | (rw [p_uo_y hx3, p_uo_y hx2]; rfl), rfl⟩
def p_sm (f : Nat → Int32) (k : Nat) (s : Int32) : Int32 := s + f k
abbrev p_her (A D : Nat → Nat → Int32) (na d : Nat) : Prop := p_unl A D na d ≤ D d 6
set_option maxRecDepth 100000 in
set_option maxHeartbeats 600000 in
theorem s_X6_unlikeOfAllOn {Γ : fx_G} {m : fx_M} (S : Nat) (HS : fx_St S) (hL : fx_Lay m) {na : Nat} (hna : m.1 S 2 = nI na) (h8 : na ≤ 8) {nd : Nat} (hnd : m.1 S 3 = nI nd) (h5 : nd ≤ 5) : fx_Ct Γ mX6_unlikeOfAllOn 5 119 119 [fx_rf Γ S] m (fx_is (some (.int (p_fold (p_sm (p_unl (fx_ar m S) (fx_dr m S) na)) nd 0 0))) m) := by
  refine fx_Ct.of (j := 2) (by decide) (Nat.le_of_ble_eq_true rfl) (Nat.le_of_ble_eq_true rfl) ?_
  show fx_E Γ mX6_unlikeOfAllOn 5 119 119 _ 119 m 0 [some (fx_rf Γ S), none, none] []
  have lp : ∀ (j : Nat) (k : Nat) (s : Int32), k + j = nd → fx_E Γ mX6_unlikeOfAllOn 5 119 119 (fx_is (some (.int (p_fold (p_sm (p_unl (fx_ar m S) (fx_dr m S) na)) j k s))) m) 119 m 4 [some (fx_rf Γ S), some (.int s), some (.int (nI k))] [] := by
    intro j
    induction j with
    | zero =>
      intro k s hk
      refine e_iload_n dX6_unlikeOfAllOn_4 rfl ?_
      refine e_aload_n dX6_unlikeOfAllOn_5 rfl ?_
      refine e_getv (v := nI nd) dX6_unlikeOfAllOn_6 ff_X6_27 HS.sh (fx_pi_lt HS.lt) (by decide) rfl hnd ?_
      refine e_icmp_ge 26 dX6_unlikeOfAllOn_9 rfl (fun _ => ?_) (fun h => absurd (nI_le (by omega) (by omega)) h)
      refine e_iload_n dX6_unlikeOfAllOn_26 rfl ?_
      exact e_iret dX6_unlikeOfAllOn_27 rfl rfl rfl ⟨rfl, rfl⟩
    | succ j ih =>
      intro k s hk
      refine e_iload_n dX6_unlikeOfAllOn_4 rfl ?_
      refine e_aload_n dX6_unlikeOfAllOn_5 rfl ?_
      refine e_getv (v := nI nd) dX6_unlikeOfAllOn_6 ff_X6_27 HS.sh (fx_pi_lt HS.lt) (by decide) rfl hnd ?_
      refine e_icmp_ge 26 dX6_unlikeOfAllOn_9 rfl (fun h => absurd h (nI_ge (by omega) (by omega))) (fun _ => ?_)
      refine e_iload_n dX6_unlikeOfAllOn_12 rfl ?_
      refine e_aload_n dX6_unlikeOfAllOn_13 rfl ?_
      refine e_iload_n dX6_unlikeOfAllOn_14 rfl ?_
      refine e_callV1 (μ' := mX6_unlikeOn) (ci := 6) (As := [.int (nI k)]) dX6_unlikeOfAllOn_15 wl_X6_95 ok_X6_unlikeOn HS.sh rfl (fx_pi_lt HS.lt) (by decide) (Nat.le_of_ble_eq_true rfl) fx_n1 (s_X6_unlikeOn (m := m) S HS hL hna h8 hnd h5 (d := k) (by omega)) rfl ?_
      refine e_iadd dX6_unlikeOfAllOn_18 ?_
      refine e_istore_n dX6_unlikeOfAllOn_19 (by decide) rfl ?_
      refine e_iinc (v := nI (k + 1)) dX6_unlikeOfAllOn_20 rfl (fx_inc _) (by decide) rfl ?_
      refine e_goto 4 dX6_unlikeOfAllOn_23 rfl ?_
      exact ih (k + 1) _ (by omega)
  refine e_iconst dX6_unlikeOfAllOn_0 kci_0 ?_
  refine e_istore_n dX6_unlikeOfAllOn_1 (by decide) rfl ?_
  refine e_iconst dX6_unlikeOfAllOn_2 kci_0 ?_
  refine e_istore_n dX6_unlikeOfAllOn_3 (by decide) rfl ?_
  exact lp nd 0 0 (by omega)
set_option maxRecDepth 100000 in
set_option maxHeartbeats 600000 in
theorem s_X6_isHer {Γ : fx_G} {m : fx_M} (S : Nat) (HS : fx_St S) (hL : fx_Lay m) {na : Nat} (hna : m.1 S 2 = nI na) (h8 : na ≤ 8) {nd : Nat} (hnd : m.1 S 3 = nI nd) (h5 : nd ≤ 5) {d : Nat} (hd : d < nd) : fx_Ct Γ mX6_isHer 5 119 119 [fx_rf Γ S, .int (nI d)] m (fx_is (some (.int (if p_her (fx_ar m S) (fx_dr m S) na d then 1 else 0))) m) := by
  refine fx_Ct.of (j := 0) (by decide) (Nat.le_of_ble_eq_true rfl) (Nat.le_of_ble_eq_true rfl) ?_
  show fx_E Γ mX6_isHer 5 119 119 _ 119 m 0 [some (fx_rf Γ S), some (.int (nI d))] []
  refine e_aload_n dX6_isHer_0 rfl ?_
  refine e_iload_n dX6_isHer_1 rfl ?_
  refine e_callV1 (μ' := mX6_unlikeOn) (ci := 6) (As := [.int (nI d)]) dX6_isHer_2 wl_X6_95 ok_X6_unlikeOn HS.sh rfl (fx_pi_lt HS.lt) (by decide) (Nat.le_of_ble_eq_true rfl) fx_n1 (s_X6_unlikeOn (m := m) S HS hL hna h8 hnd h5 (d := d) (by omega)) rfl ?_
  refine e_aload_n dX6_isHer_5 rfl ?_
  refine e_getr (o2 := S + 2) dX6_isHer_6 ff_X6_19 HS.sh (fx_pi_lt HS.lt) (by decide) rfl (HS.r1 hL) ?_
  refine e_iload_n dX6_isHer_9 rfl ?_
  refine e_aald (j := d) (o2 := S + 11 + d) dX6_isHer_10 HS.s2 (Or.inr (Or.inl rfl)) (fx_pi_lt HS.l2) rfl (by omega) (by decide) (HS.rd hL (by omega)) ?_
  refine e_get dX6_isHer_11 ff_X6_99 (HS.sd (by omega)) (fx_pi_lt (HS.ld (by omega))) (by decide) rfl ?_
  refine e_icmp_gt 21 dX6_isHer_14 rfl (fun c_1 => ?_) (fun c_1 => ?_)
  · refine e_iconst dX6_isHer_21 kci_0 ?_
    exact e_iret dX6_isHer_22 rfl rfl rfl ⟨by rw [if_neg (Int32.not_le.mpr c_1)], rfl⟩
  · refine e_iconst dX6_isHer_17 kci_1 ?_
    refine e_goto 22 dX6_isHer_18 rfl ?_
    exact e_iret dX6_isHer_22 rfl rfl rfl ⟨by rw [if_pos (Int32.not_lt.mp c_1)], rfl⟩
set_option maxRecDepth 100000 in
set_option maxHeartbeats 600000 in
theorem s_X6_dollsHerself {Γ : fx_G} {m : fx_M} (S : Nat) (HS : fx_St S) (hL : fx_Lay m) {na : Nat} (hna : m.1 S 2 = nI na) (h8 : na ≤ 8) {nd : Nat} (hnd : m.1 S 3 = nI nd) (h5 : nd ≤ 5) : fx_Ct Γ mX6_dollsHerself 6 119 119 [fx_rf Γ S] m (fx_is (some (.int (p_fold (p_ct (p_her (fx_ar m S) (fx_dr m S) na)) nd 0 0))) m) := by
  refine fx_Ct.of (j := 2) (by decide) (Nat.le_of_ble_eq_true rfl) (Nat.le_of_ble_eq_true rfl) ?_
  show fx_E Γ mX6_dollsHerself 6 119 119 _ 119 m 0 [some (fx_rf Γ S), none, none] []
  have lp : ∀ (j : Nat) (k : Nat) (s : Int32), k + j = nd → fx_E Γ mX6_dollsHerself 6 119 119 (fx_is (some (.int (p_fold (p_ct (p_her (fx_ar m S) (fx_dr m S) na)) j k s))) m) 119 m 4 [some (fx_rf Γ S), some (.int s), some (.int (nI k))] [] := by
    intro j
    induction j with
    | zero =>
      intro k s hk
      refine e_iload_n dX6_dollsHerself_4 rfl ?_
      refine e_aload_n dX6_dollsHerself_5 rfl ?_
      refine e_getv (v := nI nd) dX6_dollsHerself_6 ff_X6_27 HS.sh (fx_pi_lt HS.lt) (by decide) rfl hnd ?_
      refine e_icmp_ge 29 dX6_dollsHerself_9 rfl (fun _ => ?_) (fun h => absurd (nI_le (by omega) (by omega)) h)
      refine e_iload_n dX6_dollsHerself_29 rfl ?_
      exact e_iret dX6_dollsHerself_30 rfl rfl rfl ⟨rfl, rfl⟩
    | succ j ih =>
      intro k s hk
      refine e_iload_n dX6_dollsHerself_4 rfl ?_
      refine e_aload_n dX6_dollsHerself_5 rfl ?_
      refine e_getv (v := nI nd) dX6_dollsHerself_6 ff_X6_27 HS.sh (fx_pi_lt HS.lt) (by decide) rfl hnd ?_
      refine e_icmp_ge 29 dX6_dollsHerself_9 rfl (fun h => absurd h (nI_ge (by omega) (by omega))) (fun _ => ?_)
      refine e_aload_n dX6_dollsHerself_12 rfl ?_
      refine e_iload_n dX6_dollsHerself_13 rfl ?_
      refine e_callV1 (μ' := mX6_isHer) (ci := 6) (As := [.int (nI k)]) dX6_dollsHerself_14 wl_X6_102 ok_X6_isHer HS.sh rfl (fx_pi_lt HS.lt) (by decide) (Nat.le_of_ble_eq_true rfl) fx_n1 (s_X6_isHer (m := m) S HS hL hna h8 hnd h5 (d := k) (by omega)) rfl ?_
      refine e_if_eqB 23 dX6_dollsHerself_17 rfl (fun c_p => ?_) (fun c_p => ?_)
      · refine e_iinc (v := nI (k + 1)) dX6_dollsHerself_23 rfl (fx_inc _) (by decide) rfl ?_
        refine e_goto 4 dX6_dollsHerself_26 rfl ?_
        rw [p_fold_s (p_ct_n (P := (p_her (fx_ar m S) (fx_dr m S) na)) (k := k) c_p)]
        exact ih (k + 1) _ (by omega)
      · refine e_iinc (v := s + 1) dX6_dollsHerself_20 rfl (fx_inc1 _) (by decide) rfl ?_
        refine e_iinc (v := nI (k + 1)) dX6_dollsHerself_23 rfl (fx_inc _) (by decide) rfl ?_
        refine e_goto 4 dX6_dollsHerself_26 rfl ?_
        rw [p_fold_s (p_ct_y (P := (p_her (fx_ar m S) (fx_dr m S) na)) (k := k) c_p)]
        exact ih (k + 1) _ (by omega)
  refine e_iconst dX6_dollsHerself_0 kci_0 ?_
  refine e_istore_n dX6_dollsHerself_1 (by decide) rfl ?_
  refine e_iconst dX6_dollsHerself_2 kci_0 ?_
  refine e_istore_n dX6_dollsHerself_3 (by decide) rfl ?_
  exact lp nd 0 0 (by omega)
/-- where an arm may be: in the drawer, or on a doll's side -/
def p_spot (nd : Nat) (v : Int32) : Prop := v = 99 ∨ ∃ d s : Nat, d < nd ∧ s ≤ 1 ∧ v = nI (10 * d + s)
abbrev p_sd (v : Int32) : Int32 := v - v / 10 * 10
abbrev p_dd (v : Int32) : Nat := (v / 10).toNatClampNeg
theorem p_spot_on {nd : Nat} {v : Int32} (h : p_spot nd v) (hv : ¬ v = 99) (h5 : nd ≤ 5) : v / 10 = nI (p_dd v) ∧ p_dd v < nd := by
  rcases h with h | ⟨d, s, hd, hs, rfl⟩
  · exact absurd h hv
  · have e : nI (10 * d + s) / 10 = nI d := by
      rw [show (10 : Int32) = nI 10 from rfl, pk_div (by omega) (by decide) (by decide)]
      congr 1
      omega
    rw [p_dd, e, nI_clamp (by omega)]
    exact ⟨rfl, hd⟩
def p_gain (a b : Nat → Int32) (D : Nat → Nat → Int32) : Int32 :=
  if a 6 = 99 ∨ b 6 = 99 ∨ ¬ p_sd (a 6) = p_sd (b 6) then 0
  else if p_fit a (D (p_dd (b 6))) (p_sd (a 6)) ∧ p_fit b (D (p_dd (a 6))) (p_sd (a 6)) then
    p_far a (D (p_dd (a 6))) (a 4) (a 5) + p_far b (D (p_dd (b 6))) (b 4) (b 5) - p_far a (D (p_dd (b 6))) (a 4) (a 5) - p_far b (D (p_dd (a 6))) (b 4) (b 5)
  else 0
set_option maxRecDepth 100000 in
set_option maxHeartbeats 600000 in
theorem s_X6_gainOfSwap {Γ : fx_G} {m : fx_M} (S : Nat) (HS : fx_St S) (hL : fx_Lay m) {nd : Nat} (hnd : m.1 S 3 = nI nd) (h5 : nd ≤ 5) {x y : Nat} (hx : x < 8) (hy : y < 8) (hsx : p_spot nd (m.1 (S + 3 + x) 6)) (hsy : p_spot nd (m.1 (S + 3 + y) 6)) : fx_Ct Γ mX6_gainOfSwap 4 119 119 [fx_rf Γ S, fx_rf Γ (S + 3 + x), fx_rf Γ (S + 3 + y)] m (fx_is (some (.int (p_gain (m.1 (S + 3 + x)) (m.1 (S + 3 + y)) (fx_dr m S)))) m) := by
  refine fx_Ct.of (j := 3) (by decide) (Nat.le_of_ble_eq_true rfl) (Nat.le_of_ble_eq_true rfl) ?_
  show fx_E Γ mX6_gainOfSwap 4 119 119 _ 119 m 0 [some (fx_rf Γ S), some (fx_rf Γ (S + 3 + x)), some (fx_rf Γ (S + 3 + y)), none, none, none] []
  refine e_aload_n dX6_gainOfSwap_0 rfl ?_
  refine e_get dX6_gainOfSwap_1 ff_X6_110 (HS.sa (by omega)) (fx_pi_lt (HS.la (by omega))) (by decide) rfl ?_
  refine e_bipush dX6_gainOfSwap_4 kcb_10 ?_
  refine e_irem dX6_gainOfSwap_6 (by decide) ?_
  refine e_istore_n dX6_gainOfSwap_7 (by decide) rfl ?_
  refine e_aload_n dX6_gainOfSwap_8 rfl ?_
  refine e_callV1 (μ' := mX0_isInDrawer) (ci := 0) (As := []) dX6_gainOfSwap_9 wl_X6_69 ok_X0_isInDrawer (HS.sa (by omega)) rfl (fx_pi_lt (HS.la (by omega))) (by decide) (Nat.le_of_ble_eq_true rfl) fx_n1 (s_X0_isInDrawer (m := m) (S + 3 + x) (HS.sa (by omega)) (HS.la (by omega)) ) rfl ?_
  refine e_if_neB 33 dX6_gainOfSwap_12 rfl (fun c_x => ?_) (fun c_x => ?_)
  · refine e_iconst dX6_gainOfSwap_33 kci_0 ?_
    exact e_iret dX6_gainOfSwap_34 rfl rfl rfl ⟨by rw [p_gain]; first | (rw [if_pos (Or.inl c_x)]; done) | (rw [if_pos (Or.inr (Or.inl c_y))]; done) | (rw [if_pos (Or.inr (Or.inr c_s))]; done) | (rw [if_neg (by rintro (h | h | h); exact c_x h; exact c_y h; exact h c_s), if_neg (by rintro ⟨h1, h2⟩; first | exact c_f h1 | exact c_g h2)]; done), rfl⟩
  · refine e_aload_n dX6_gainOfSwap_15 rfl ?_
    refine e_callV1 (μ' := mX0_isInDrawer) (ci := 0) (As := []) dX6_gainOfSwap_16 wl_X6_69 ok_X0_isInDrawer (HS.sa (by omega)) rfl (fx_pi_lt (HS.la (by omega))) (by decide) (Nat.le_of_ble_eq_true rfl) fx_n1 (s_X0_isInDrawer (m := m) (S + 3 + y) (HS.sa (by omega)) (HS.la (by omega)) ) rfl ?_
    refine e_if_neB 33 dX6_gainOfSwap_19 rfl (fun c_y => ?_) (fun c_y => ?_)
    · refine e_iconst dX6_gainOfSwap_33 kci_0 ?_
      exact e_iret dX6_gainOfSwap_34 rfl rfl rfl ⟨by rw [p_gain]; first | (rw [if_pos (Or.inl c_x)]; done) | (rw [if_pos (Or.inr (Or.inl c_y))]; done) | (rw [if_pos (Or.inr (Or.inr c_s))]; done) | (rw [if_neg (by rintro (h | h | h); exact c_x h; exact c_y h; exact h c_s), if_neg (by rintro ⟨h1, h2⟩; first | exact c_f h1 | exact c_g h2)]; done), rfl⟩
    · refine e_iload_n dX6_gainOfSwap_22 rfl ?_
      refine e_aload_n dX6_gainOfSwap_23 rfl ?_
      refine e_get dX6_gainOfSwap_24 ff_X6_110 (HS.sa (by omega)) (fx_pi_lt (HS.la (by omega))) (by decide) rfl ?_
      refine e_bipush dX6_gainOfSwap_27 kcb_10 ?_
      refine e_irem dX6_gainOfSwap_29 (by decide) ?_
      refine e_icmp_eq 35 dX6_gainOfSwap_30 rfl (fun c_s => ?_) (fun c_s => ?_)
      · have hX := p_spot_on hsx c_x h5
        have hY := p_spot_on hsy c_y h5
        refine e_aload_n dX6_gainOfSwap_35 rfl ?_
        refine e_get dX6_gainOfSwap_36 ff_X6_110 (HS.sa (by omega)) (fx_pi_lt (HS.la (by omega))) (by decide) rfl ?_
        refine e_bipush dX6_gainOfSwap_39 kcb_10 ?_
        refine e_idiv dX6_gainOfSwap_41 (by decide) ?_
        refine e_istore dX6_gainOfSwap_42 (by decide) rfl ?_
        refine e_aload_n dX6_gainOfSwap_44 rfl ?_
        refine e_get dX6_gainOfSwap_45 ff_X6_110 (HS.sa (by omega)) (fx_pi_lt (HS.la (by omega))) (by decide) rfl ?_
        refine e_bipush dX6_gainOfSwap_48 kcb_10 ?_
        refine e_idiv dX6_gainOfSwap_50 (by decide) ?_
        refine e_istore dX6_gainOfSwap_51 (by decide) rfl ?_
        refine e_aload_n dX6_gainOfSwap_53 rfl ?_
        refine e_iload dX6_gainOfSwap_54 rfl ?_
        refine e_callV1 (μ' := mX6_isDoll) (ci := 6) (As := [.int ((m.1 (S + 3 + x) 6) / 10)]) dX6_gainOfSwap_56 wl_X6_113 ok_X6_isDoll HS.sh rfl (fx_pi_lt HS.lt) (by decide) (Nat.le_of_ble_eq_true rfl) fx_n1 (s_X6_isDoll (m := m) S HS hnd ((m.1 (S + 3 + x) 6) / 10)) rfl ?_
        refine e_if_eqB 101 dX6_gainOfSwap_59 rfl (fun h => absurd h (not_not_intro (⟨by rw [hX.1]; exact nI_pos' (by have := hX.2; omega), by rw [hX.1]; exact nI_lt hX.2 (by omega)⟩))) (fun _ => ?_)
        refine e_aload_n dX6_gainOfSwap_62 rfl ?_
        refine e_iload dX6_gainOfSwap_63 rfl ?_
        refine e_callV1 (μ' := mX6_isDoll) (ci := 6) (As := [.int ((m.1 (S + 3 + y) 6) / 10)]) dX6_gainOfSwap_65 wl_X6_113 ok_X6_isDoll HS.sh rfl (fx_pi_lt HS.lt) (by decide) (Nat.le_of_ble_eq_true rfl) fx_n1 (s_X6_isDoll (m := m) S HS hnd ((m.1 (S + 3 + y) 6) / 10)) rfl ?_
        refine e_if_eqB 101 dX6_gainOfSwap_68 rfl (fun h => absurd h (not_not_intro (⟨by rw [hY.1]; exact nI_pos' (by have := hY.2; omega), by rw [hY.1]; exact nI_lt hY.2 (by omega)⟩))) (fun _ => ?_)
        refine e_aload_n dX6_gainOfSwap_71 rfl ?_
        refine e_aload_n dX6_gainOfSwap_72 rfl ?_
        refine e_getr (o2 := S + 2) dX6_gainOfSwap_73 ff_X6_19 HS.sh (fx_pi_lt HS.lt) (by decide) rfl (HS.r1 hL) ?_
        refine e_iload dX6_gainOfSwap_76 rfl ?_
        refine e_aald (j := p_dd (m.1 (S + 3 + y) 6)) (o2 := S + 11 + (p_dd (m.1 (S + 3 + y) 6))) dX6_gainOfSwap_78 HS.s2 (Or.inr (Or.inl rfl)) (fx_pi_lt HS.l2) hY.1 (by have := hY.2; omega) (by decide) (HS.rd hL (by have := hY.2; omega)) ?_
        refine e_iload_n dX6_gainOfSwap_79 rfl ?_
        refine e_callV1 (μ' := mX0_suits) (ci := 0) (As := [fx_rf Γ (S + 11 + (p_dd (m.1 (S + 3 + y) 6))), .int ((m.1 (S + 3 + x) 6) - (m.1 (S + 3 + x) 6) / 10 * 10)]) dX6_gainOfSwap_80 wl_X6_72 ok_X0_suits (HS.sa (by omega)) rfl (fx_pi_lt (HS.la (by omega))) (by decide) (Nat.le_of_ble_eq_true rfl) fx_n1 (s_X0_suits (m := m) (S + 3 + x) (HS.sa (by omega)) (HS.la (by omega)) (S + 11 + (p_dd (m.1 (S + 3 + y) 6))) (HS.sd (by have := hY.2; omega)) (HS.ld (by have := hY.2; omega)) ((m.1 (S + 3 + x) 6) - (m.1 (S + 3 + x) 6) / 10 * 10)) rfl ?_
        refine e_if_eqB 101 dX6_gainOfSwap_83 rfl (fun c_f => ?_) (fun c_f => ?_)
        · refine e_iconst dX6_gainOfSwap_101 kci_0 ?_
          exact e_iret dX6_gainOfSwap_102 rfl rfl rfl ⟨by rw [p_gain]; first | (rw [if_pos (Or.inl c_x)]; done) | (rw [if_pos (Or.inr (Or.inl c_y))]; done) | (rw [if_pos (Or.inr (Or.inr c_s))]; done) | (rw [if_neg (by rintro (h | h | h); exact c_x h; exact c_y h; exact h c_s), if_neg (by rintro ⟨h1, h2⟩; first | exact c_f h1 | exact c_g h2)]; done), rfl⟩
        · refine e_aload_n dX6_gainOfSwap_86 rfl ?_
          refine e_aload_n dX6_gainOfSwap_87 rfl ?_
          refine e_getr (o2 := S + 2) dX6_gainOfSwap_88 ff_X6_19 HS.sh (fx_pi_lt HS.lt) (by decide) rfl (HS.r1 hL) ?_
          refine e_iload dX6_gainOfSwap_91 rfl ?_
          refine e_aald (j := p_dd (m.1 (S + 3 + x) 6)) (o2 := S + 11 + (p_dd (m.1 (S + 3 + x) 6))) dX6_gainOfSwap_93 HS.s2 (Or.inr (Or.inl rfl)) (fx_pi_lt HS.l2) hX.1 (by have := hX.2; omega) (by decide) (HS.rd hL (by have := hX.2; omega)) ?_
          refine e_iload_n dX6_gainOfSwap_94 rfl ?_
          refine e_callV1 (μ' := mX0_suits) (ci := 0) (As := [fx_rf Γ (S + 11 + (p_dd (m.1 (S + 3 + x) 6))), .int ((m.1 (S + 3 + x) 6) - (m.1 (S + 3 + x) 6) / 10 * 10)]) dX6_gainOfSwap_95 wl_X6_72 ok_X0_suits (HS.sa (by omega)) rfl (fx_pi_lt (HS.la (by omega))) (by decide) (Nat.le_of_ble_eq_true rfl) fx_n1 (s_X0_suits (m := m) (S + 3 + y) (HS.sa (by omega)) (HS.la (by omega)) (S + 11 + (p_dd (m.1 (S + 3 + x) 6))) (HS.sd (by have := hX.2; omega)) (HS.ld (by have := hX.2; omega)) ((m.1 (S + 3 + x) 6) - (m.1 (S + 3 + x) 6) / 10 * 10)) rfl ?_
          refine e_if_neB 103 dX6_gainOfSwap_98 rfl (fun c_g => ?_) (fun c_g => ?_)
          · refine e_aload_n dX6_gainOfSwap_103 rfl ?_
            refine e_aload_n dX6_gainOfSwap_104 rfl ?_
            refine e_getr (o2 := S + 2) dX6_gainOfSwap_105 ff_X6_19 HS.sh (fx_pi_lt HS.lt) (by decide) rfl (HS.r1 hL) ?_
            refine e_iload dX6_gainOfSwap_108 rfl ?_
            refine e_aald (j := p_dd (m.1 (S + 3 + x) 6)) (o2 := S + 11 + (p_dd (m.1 (S + 3 + x) 6))) dX6_gainOfSwap_110 HS.s2 (Or.inr (Or.inl rfl)) (fx_pi_lt HS.l2) hX.1 (by have := hX.2; omega) (by decide) (HS.rd hL (by have := hX.2; omega)) ?_
            refine e_callV1 (μ' := mX0_farFrom) (ci := 0) (As := [fx_rf Γ (S + 11 + (p_dd (m.1 (S + 3 + x) 6)))]) dX6_gainOfSwap_111 wl_X6_91 ok_X0_farFrom (HS.sa (by omega)) rfl (fx_pi_lt (HS.la (by omega))) (by decide) (Nat.le_of_ble_eq_true rfl) fx_n1 (s_X0_farFrom (m := m) (S + 3 + x) (HS.sa (by omega)) (HS.la (by omega)) (S + 11 + (p_dd (m.1 (S + 3 + x) 6))) (HS.sd (by have := hX.2; omega)) (HS.ld (by have := hX.2; omega)) ) rfl ?_
            refine e_aload_n dX6_gainOfSwap_114 rfl ?_
            refine e_aload_n dX6_gainOfSwap_115 rfl ?_
            refine e_getr (o2 := S + 2) dX6_gainOfSwap_116 ff_X6_19 HS.sh (fx_pi_lt HS.lt) (by decide) rfl (HS.r1 hL) ?_
            refine e_iload dX6_gainOfSwap_119 rfl ?_
            refine e_aald (j := p_dd (m.1 (S + 3 + y) 6)) (o2 := S + 11 + (p_dd (m.1 (S + 3 + y) 6))) dX6_gainOfSwap_121 HS.s2 (Or.inr (Or.inl rfl)) (fx_pi_lt HS.l2) hY.1 (by have := hY.2; omega) (by decide) (HS.rd hL (by have := hY.2; omega)) ?_
            refine e_callV1 (μ' := mX0_farFrom) (ci := 0) (As := [fx_rf Γ (S + 11 + (p_dd (m.1 (S + 3 + y) 6)))]) dX6_gainOfSwap_122 wl_X6_91 ok_X0_farFrom (HS.sa (by omega)) rfl (fx_pi_lt (HS.la (by omega))) (by decide) (Nat.le_of_ble_eq_true rfl) fx_n1 (s_X0_farFrom (m := m) (S + 3 + y) (HS.sa (by omega)) (HS.la (by omega)) (S + 11 + (p_dd (m.1 (S + 3 + y) 6))) (HS.sd (by have := hY.2; omega)) (HS.ld (by have := hY.2; omega)) ) rfl ?_
            refine e_iadd dX6_gainOfSwap_125 ?_
            refine e_aload_n dX6_gainOfSwap_126 rfl ?_
            refine e_aload_n dX6_gainOfSwap_127 rfl ?_
            refine e_getr (o2 := S + 2) dX6_gainOfSwap_128 ff_X6_19 HS.sh (fx_pi_lt HS.lt) (by decide) rfl (HS.r1 hL) ?_
            refine e_iload dX6_gainOfSwap_131 rfl ?_
            refine e_aald (j := p_dd (m.1 (S + 3 + y) 6)) (o2 := S + 11 + (p_dd (m.1 (S + 3 + y) 6))) dX6_gainOfSwap_133 HS.s2 (Or.inr (Or.inl rfl)) (fx_pi_lt HS.l2) hY.1 (by have := hY.2; omega) (by decide) (HS.rd hL (by have := hY.2; omega)) ?_
            refine e_callV1 (μ' := mX0_farFrom) (ci := 0) (As := [fx_rf Γ (S + 11 + (p_dd (m.1 (S + 3 + y) 6)))]) dX6_gainOfSwap_134 wl_X6_91 ok_X0_farFrom (HS.sa (by omega)) rfl (fx_pi_lt (HS.la (by omega))) (by decide) (Nat.le_of_ble_eq_true rfl) fx_n1 (s_X0_farFrom (m := m) (S + 3 + x) (HS.sa (by omega)) (HS.la (by omega)) (S + 11 + (p_dd (m.1 (S + 3 + y) 6))) (HS.sd (by have := hY.2; omega)) (HS.ld (by have := hY.2; omega)) ) rfl ?_
            refine e_isub dX6_gainOfSwap_137 ?_
            refine e_aload_n dX6_gainOfSwap_138 rfl ?_
            refine e_aload_n dX6_gainOfSwap_139 rfl ?_
            refine e_getr (o2 := S + 2) dX6_gainOfSwap_140 ff_X6_19 HS.sh (fx_pi_lt HS.lt) (by decide) rfl (HS.r1 hL) ?_
            refine e_iload dX6_gainOfSwap_143 rfl ?_
            refine e_aald (j := p_dd (m.1 (S + 3 + x) 6)) (o2 := S + 11 + (p_dd (m.1 (S + 3 + x) 6))) dX6_gainOfSwap_145 HS.s2 (Or.inr (Or.inl rfl)) (fx_pi_lt HS.l2) hX.1 (by have := hX.2; omega) (by decide) (HS.rd hL (by have := hX.2; omega)) ?_
            refine e_callV1 (μ' := mX0_farFrom) (ci := 0) (As := [fx_rf Γ (S + 11 + (p_dd (m.1 (S + 3 + x) 6)))]) dX6_gainOfSwap_146 wl_X6_91 ok_X0_farFrom (HS.sa (by omega)) rfl (fx_pi_lt (HS.la (by omega))) (by decide) (Nat.le_of_ble_eq_true rfl) fx_n1 (s_X0_farFrom (m := m) (S + 3 + y) (HS.sa (by omega)) (HS.la (by omega)) (S + 11 + (p_dd (m.1 (S + 3 + x) 6))) (HS.sd (by have := hX.2; omega)) (HS.ld (by have := hX.2; omega)) ) rfl ?_
            refine e_isub dX6_gainOfSwap_149 ?_
            exact e_iret dX6_gainOfSwap_150 rfl rfl rfl ⟨by rw [p_gain, if_neg (by rintro (h | h | h); exact c_x h; exact c_y h; exact h c_s), if_pos ⟨c_f, c_g⟩], rfl⟩
          · refine e_iconst dX6_gainOfSwap_101 kci_0 ?_
            exact e_iret dX6_gainOfSwap_102 rfl rfl rfl ⟨by rw [p_gain]; first | (rw [if_pos (Or.inl c_x)]; done) | (rw [if_pos (Or.inr (Or.inl c_y))]; done) | (rw [if_pos (Or.inr (Or.inr c_s))]; done) | (rw [if_neg (by rintro (h | h | h); exact c_x h; exact c_y h; exact h c_s), if_neg (by rintro ⟨h1, h2⟩; first | exact c_f h1 | exact c_g h2)]; done), rfl⟩
      · refine e_iconst dX6_gainOfSwap_33 kci_0 ?_
        exact e_iret dX6_gainOfSwap_34 rfl rfl rfl ⟨by rw [p_gain]; first | (rw [if_pos (Or.inl c_x)]; done) | (rw [if_pos (Or.inr (Or.inl c_y))]; done) | (rw [if_pos (Or.inr (Or.inr c_s))]; done) | (rw [if_neg (by rintro (h | h | h); exact c_x h; exact c_y h; exact h c_s), if_neg (by rintro ⟨h1, h2⟩; first | exact c_f h1 | exact c_g h2)]; done), rfl⟩
def p_sw1 (g : Nat → Nat → Int32) (i k : Nat) (s : Int32 × Int32) : Int32 × Int32 := if s.2 < g i k then (10 * nI i + nI k, g i k) else s
def p_sw (g : Nat → Nat → Int32) (na i : Nat) (s : Int32 × Int32) : Int32 × Int32 := p_fold (p_sw1 g i) (na - (i + 1)) (i + 1) s
def p_swap (g : Nat → Nat → Int32) (na : Nat) : Int32 := (p_fold (p_sw g na) na 0 (-1, 0)).1
theorem p_sw1_y {g : Nat → Nat → Int32} {i k : Nat} {s : Int32 × Int32} (h : s.2 < g i k) : p_sw1 g i k s = (10 * nI i + nI k, g i k) := if_pos h
theorem p_sw1_n {g : Nat → Nat → Int32} {i k : Nat} {s : Int32 × Int32} (h : ¬ s.2 < g i k) : p_sw1 g i k s = s := if_neg h
set_option maxRecDepth 100000 in
set_option maxHeartbeats 600000 in
theorem s_X6_bestSwap {Γ : fx_G} {m : fx_M} (S : Nat) (HS : fx_St S) (hL : fx_Lay m) {na : Nat} (hna : m.1 S 2 = nI na) (h8 : na ≤ 8) {nd : Nat} (hnd : m.1 S 3 = nI nd) (h5 : nd ≤ 5) (hsp : ∀ x, x < na → p_spot nd (m.1 (S + 3 + x) 6)) : fx_Ct Γ mX6_bestSwap 5 119 119 [fx_rf Γ S] m (fx_is (some (.int (p_swap (fun x y => p_gain (fx_ar m S x) (fx_ar m S y) (fx_dr m S)) na))) m) := by
  refine fx_Ct.of (j := 5) (by decide) (Nat.le_of_ble_eq_true rfl) (Nat.le_of_ble_eq_true rfl) ?_
  show fx_E Γ mX6_bestSwap 5 119 119 _ 119 m 0 [some (fx_rf Γ S), none, none, none, none, none] []
  have lpo : ∀ (jo : Nat) (i : Nat) (s : Int32 × Int32), i + jo = na → fx_E Γ mX6_bestSwap 5 119 119 (fx_is (some (.int (p_fold (p_sw (fun x y => p_gain (fx_ar m S x) (fx_ar m S y) (fx_dr m S)) na) jo i s).1)) m) 119 m 6 [some (fx_rf Γ S), some (.int s.1), some (.int s.2), some (.int (nI i)), none, none] [] := by
    intro jo
    induction jo with
    | zero =>
      intro i s hi
      refine e_iload_n dX6_bestSwap_6 rfl ?_
      refine e_aload_n dX6_bestSwap_7 rfl ?_
      refine e_getv (v := nI na) dX6_bestSwap_8 ff_X6_23 HS.sh (fx_pi_lt HS.lt) (by decide) rfl hna ?_
      refine e_icmp_ge 76 dX6_bestSwap_11 rfl (fun _ => ?_) (fun h => absurd (nI_le (by omega) (by omega)) h)
      refine e_iload_n dX6_bestSwap_76 rfl ?_
      exact e_iret dX6_bestSwap_77 rfl rfl rfl ⟨rfl, rfl⟩
    | succ jo ihO =>
      intro i s hi
      refine e_iload_n dX6_bestSwap_6 rfl ?_
      refine e_aload_n dX6_bestSwap_7 rfl ?_
      refine e_getv (v := nI na) dX6_bestSwap_8 ff_X6_23 HS.sh (fx_pi_lt HS.lt) (by decide) rfl hna ?_
      refine e_icmp_ge 76 dX6_bestSwap_11 rfl (fun h => absurd h (nI_ge (by omega) (by omega))) (fun _ => ?_)
      refine e_iload_n dX6_bestSwap_14 rfl ?_
      refine e_iconst dX6_bestSwap_15 kci_1 ?_
      refine e_iadd dX6_bestSwap_16 ?_
      rw [nI_1]
      refine e_istore dX6_bestSwap_17 (by decide) rfl ?_
      have lpi : ∀ (j : Nat) (k : Nat) (t : Int32 × Int32), k + j = na → fx_E Γ mX6_bestSwap 5 119 119 (fx_is (some (.int (p_fold (p_sw (fun x y => p_gain (fx_ar m S x) (fx_ar m S y) (fx_dr m S)) na) jo (i + 1) (p_fold (p_sw1 (fun x y => p_gain (fx_ar m S x) (fx_ar m S y) (fx_dr m S)) i) j k t)).1)) m) 119 m 19 [some (fx_rf Γ S), some (.int t.1), some (.int t.2), some (.int (nI i)), some (.int (nI k)), none] [] := by
        intro j
        induction j with
        | zero =>
          intro k t hk
          refine e_iload dX6_bestSwap_19 rfl ?_
          refine e_aload_n dX6_bestSwap_21 rfl ?_
          refine e_getv (v := nI na) dX6_bestSwap_22 ff_X6_23 HS.sh (fx_pi_lt HS.lt) (by decide) rfl hna ?_
          refine e_icmp_ge 70 dX6_bestSwap_25 rfl (fun _ => ?_) (fun h => absurd (nI_le (by omega) (by omega)) h)
          refine e_iinc (v := nI (i + 1)) dX6_bestSwap_70 rfl (fx_inc _) (by decide) rfl ?_
          refine e_goto 6 dX6_bestSwap_73 rfl ?_
          refine e_weak (lv2 := [some (fx_rf Γ S), some (.int t.1), some (.int t.2), some (.int (nI (i + 1))), none, none]) ⟨rfl, rfl, rfl, rfl, trivial⟩ ?_
          exact ihO (i + 1) _ (by omega)
        | succ j ih =>
          intro k t hk
          refine e_iload dX6_bestSwap_19 rfl ?_
          refine e_aload_n dX6_bestSwap_21 rfl ?_
          refine e_getv (v := nI na) dX6_bestSwap_22 ff_X6_23 HS.sh (fx_pi_lt HS.lt) (by decide) rfl hna ?_
          refine e_icmp_ge 70 dX6_bestSwap_25 rfl (fun h => absurd h (nI_ge (by omega) (by omega))) (fun _ => ?_)
          refine e_aload_n dX6_bestSwap_28 rfl ?_
          refine e_aload_n dX6_bestSwap_29 rfl ?_
          refine e_getr (o2 := S + 1) dX6_bestSwap_30 ff_X6_13 HS.sh (fx_pi_lt HS.lt) (by decide) rfl (HS.r0 hL) ?_
          refine e_iload_n dX6_bestSwap_33 rfl ?_
          refine e_aald (j := i) (o2 := S + 3 + i) dX6_bestSwap_34 HS.s1 (Or.inl rfl) (fx_pi_lt HS.l1) rfl (by omega) (by decide) (HS.ra hL (by omega)) ?_
          refine e_aload_n dX6_bestSwap_35 rfl ?_
          refine e_getr (o2 := S + 1) dX6_bestSwap_36 ff_X6_13 HS.sh (fx_pi_lt HS.lt) (by decide) rfl (HS.r0 hL) ?_
          refine e_iload dX6_bestSwap_39 rfl ?_
          refine e_aald (j := k) (o2 := S + 3 + k) dX6_bestSwap_41 HS.s1 (Or.inl rfl) (fx_pi_lt HS.l1) rfl (by omega) (by decide) (HS.ra hL (by omega)) ?_
          refine e_callV1 (μ' := mX6_gainOfSwap) (ci := 6) (As := [fx_rf Γ (S + 3 + i), fx_rf Γ (S + 3 + k)]) dX6_bestSwap_42 wl_X6_106 ok_X6_gainOfSwap HS.sh rfl (fx_pi_lt HS.lt) (by decide) (Nat.le_of_ble_eq_true rfl) fx_n1 (s_X6_gainOfSwap (m := m) S HS hL hnd h5 (x := i) (y := k) (by omega) (by omega) (hsp i (by omega)) (hsp k (by omega))) rfl ?_
          refine e_istore dX6_bestSwap_45 (by decide) rfl ?_
          refine e_iload dX6_bestSwap_47 rfl ?_
          refine e_iload_n dX6_bestSwap_49 rfl ?_
          refine e_icmp_le 64 dX6_bestSwap_50 rfl (fun c_g => ?_) (fun c_g => ?_)
          · refine e_iinc (v := nI (k + 1)) dX6_bestSwap_64 rfl (fx_inc _) (by decide) rfl ?_
            refine e_goto 19 dX6_bestSwap_67 rfl ?_
            refine e_weak (lv2 := [some (fx_rf Γ S), some (.int t.1), some (.int t.2), some (.int (nI i)), some (.int (nI (k + 1))), none]) ⟨rfl, rfl, rfl, rfl, rfl, trivial⟩ ?_
            rw [p_fold_s (p_sw1_n (g := (fun x y => p_gain (fx_ar m S x) (fx_ar m S y) (fx_dr m S))) (i := i) (k := k) (s := t) (Int32.not_lt.mpr c_g))]
            exact ih (k + 1) t (by omega)
          · refine e_iload dX6_bestSwap_53 rfl ?_
            refine e_istore_n dX6_bestSwap_55 (by decide) rfl ?_
            refine e_bipush dX6_bestSwap_56 kcb_10 ?_
            refine e_iload_n dX6_bestSwap_58 rfl ?_
            refine e_imul dX6_bestSwap_59 ?_
            refine e_iload dX6_bestSwap_60 rfl ?_
            refine e_iadd dX6_bestSwap_62 ?_
            refine e_istore_n dX6_bestSwap_63 (by decide) rfl ?_
            refine e_iinc (v := nI (k + 1)) dX6_bestSwap_64 rfl (fx_inc _) (by decide) rfl ?_
            refine e_goto 19 dX6_bestSwap_67 rfl ?_
            refine e_weak (lv2 := [some (fx_rf Γ S), some (.int ((10 * (nI i)) + (nI k))), some (.int (p_gain (m.1 (S + 3 + i)) (m.1 (S + 3 + k)) (fx_dr m S))), some (.int (nI i)), some (.int (nI (k + 1))), none]) ⟨rfl, rfl, rfl, rfl, rfl, trivial⟩ ?_
            rw [p_fold_s (p_sw1_y (g := (fun x y => p_gain (fx_ar m S x) (fx_ar m S y) (fx_dr m S))) (i := i) (k := k) (s := t) (Int32.not_le.mp c_g))]
            exact ih (k + 1) (10 * nI i + nI k, _) (by omega)
      exact lpi (na - (i + 1)) (i + 1) s (by omega)
  refine e_iconst dX6_bestSwap_0 kci_m1 ?_
  refine e_istore_n dX6_bestSwap_1 (by decide) rfl ?_
  refine e_iconst dX6_bestSwap_2 kci_0 ?_
  refine e_istore_n dX6_bestSwap_3 (by decide) rfl ?_
  refine e_iconst dX6_bestSwap_4 kci_0 ?_
  refine e_istore_n dX6_bestSwap_5 (by decide) rfl ?_
  exact lpo na 0 (-1, 0) (by omega)
