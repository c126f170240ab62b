/-- a stock's cells: the stock at S, the arms' row, the dolls' row, 8 arms, 5 dolls -/
def fx_St (S : Nat) : Prop := S = 1 ∨ S = 17 ∨ S = 33
theorem fx_St.sh {S : Nat} (H : fx_St S) : fx_shapes[S]? = some (10 + 6, 8) := by rcases H with rfl | rfl | rfl <;> rfl
theorem fx_St.s1 {S : Nat} (H : fx_St S) : fx_shapes[S + 1]? = some (2, 8) := by rcases H with rfl | rfl | rfl <;> rfl
theorem fx_St.s2 {S : Nat} (H : fx_St S) : fx_shapes[S + 2]? = some (3, 5) := by rcases H with rfl | rfl | rfl <;> rfl
theorem fx_St.lt {S : Nat} (H : fx_St S) : S < 119 := by rcases H with rfl | rfl | rfl <;> decide
theorem fx_St.l1 {S : Nat} (H : fx_St S) : S + 1 < 119 := by rcases H with rfl | rfl | rfl <;> decide
theorem fx_St.l2 {S : Nat} (H : fx_St S) : S + 2 < 119 := by rcases H with rfl | rfl | rfl <;> decide
theorem fx_8 {P : Nat → Prop} (h0 : P 0) (h1 : P 1) (h2 : P 2) (h3 : P 3) (h4 : P 4) (h5 : P 5) (h6 : P 6) (h7 : P 7) {x : Nat} (hx : x < 8) : P x := by
  have : x = 0 ∨ x = 1 ∨ x = 2 ∨ x = 3 ∨ x = 4 ∨ x = 5 ∨ x = 6 ∨ x = 7 := by omega
  rcases this with rfl | rfl | rfl | rfl | rfl | rfl | rfl | rfl <;> assumption
theorem fx_5 {P : Nat → Prop} (h0 : P 0) (h1 : P 1) (h2 : P 2) (h3 : P 3) (h4 : P 4) {x : Nat} (hx : x < 5) : P x := by
  have : x = 0 ∨ x = 1 ∨ x = 2 ∨ x = 3 ∨ x = 4 := by omega
  rcases this with rfl | rfl | rfl | rfl | rfl <;> assumption
theorem fx_St.sa {S : Nat} (H : fx_St S) {x : Nat} (hx : x < 8) : fx_shapes[S + 3 + x]? = some (10 + 0, 7) := by
  rcases H with rfl | rfl | rfl <;> exact fx_8 (P := fun x => fx_shapes[_ + 3 + x]? = some (10 + 0, 7)) rfl rfl rfl rfl rfl rfl rfl rfl hx
theorem fx_St.sd {S : Nat} (H : fx_St S) {x : Nat} (hx : x < 5) : fx_shapes[S + 11 + x]? = some (10 + 1, 8) := by
  rcases H with rfl | rfl | rfl <;> exact fx_5 (P := fun x => fx_shapes[_ + 11 + x]? = some (10 + 1, 8)) rfl rfl rfl rfl rfl hx
theorem fx_St.la {S : Nat} (H : fx_St S) {x : Nat} (hx : x < 8) : S + 3 + x < 119 := by rcases H with rfl | rfl | rfl <;> omega
theorem fx_St.ld {S : Nat} (H : fx_St S) {x : Nat} (hx : x < 5) : S + 11 + x < 119 := by rcases H with rfl | rfl | rfl <;> omega
theorem fx_St.r0 {S : Nat} (H : fx_St S) {m : fx_M} (hL : fx_Lay m) : m.2.2 S 0 = some (S + 1) := by rcases H with rfl | rfl | rfl <;> exact hL _ _ _ rfl
theorem fx_St.r1 {S : Nat} (H : fx_St S) {m : fx_M} (hL : fx_Lay m) : m.2.2 S 1 = some (S + 2) := by rcases H with rfl | rfl | rfl <;> exact hL _ _ _ rfl
theorem fx_St.ra {S : Nat} (H : fx_St S) {m : fx_M} (hL : fx_Lay m) {x : Nat} (hx : x < 8) : m.2.2 (S + 1) x = some (S + 3 + x) := by
  rcases H with rfl | rfl | rfl <;> exact fx_8 (P := fun x => m.2.2 (_ + 1) x = some (_ + 3 + x)) (hL _ _ _ rfl) (hL _ _ _ rfl) (hL _ _ _ rfl) (hL _ _ _ rfl) (hL _ _ _ rfl) (hL _ _ _ rfl) (hL _ _ _ rfl) (hL _ _ _ rfl) hx
theorem fx_St.rd {S : Nat} (H : fx_St S) {m : fx_M} (hL : fx_Lay m) {x : Nat} (hx : x < 5) : m.2.2 (S + 2) x = some (S + 11 + x) := by
  rcases H with rfl | rfl | rfl <;> exact fx_5 (P := fun x => m.2.2 (_ + 2) x = some (_ + 11 + x)) (hL _ _ _ rfl) (hL _ _ _ rfl) (hL _ _ _ rfl) (hL _ _ _ rfl) (hL _ _ _ rfl) hx
/-! what loops say -/
def p_oi : Option Nat → Int32 | none => -1 | some k => nI k
def p_fd (P : Nat → Prop) [DecidablePred P] : Nat → Nat → Option Nat
  | 0, _ => none
  | j + 1, k => if P k then some k else p_fd P j (k + 1)
def p_fold {σ : Type} (f : Nat → σ → σ) : Nat → Nat → σ → σ
  | 0, _, s => s
  | j + 1, k, s => p_fold f j (k + 1) (f k s)
theorem p_fd_some {P : Nat → Prop} [DecidablePred P] : ∀ {j k x : Nat}, p_fd P j k = some x → k ≤ x ∧ x < k + j ∧ P x
  | 0, k, x, h => by simp [p_fd] at h
  | j + 1, k, x, h => by
    unfold p_fd at h
    split at h
    · cases h; exact ⟨Nat.le_refl _, by omega, by assumption⟩
    · have := p_fd_some h
      exact ⟨by omega, by omega, this.2.2⟩
theorem p_oi_ne {o : Option Nat} (h : ∀ x, o = some x → x < 2 ^ 31) : p_oi o = -1 ↔ o = none := by
  cases o with
  | none => simp [p_oi]
  | some k =>
    have hk := h k rfl
    simp only [p_oi, reduceCtorEq, iff_false]
    intro h2
    have h3 := nI_pos' hk
    rw [h2] at h3
    exact absurd h3 (by decide)
theorem p_oi_fd {P : Nat → Prop} [DecidablePred P] {j k : Nat} (h : k + j < 2 ^ 31) : p_oi (p_fd P j k) = -1 ↔ p_fd P j k = none := p_oi_ne fun x hx => by have := (p_fd_some hx).2.1; omega
/-! the stock: A the arms' records, D the dolls' -/
abbrev fx_ar (m : fx_M) (S : Nat) : Nat → Nat → Int32 := fun x => m.1 (S + 3 + x)
abbrev fx_dr (m : fx_M) (S : Nat) : Nat → Nat → Int32 := fun x => m.1 (S + 11 + x)
def p_at (A : Nat → Nat → Int32) (na : Nat) (d s : Int32) : Option Nat := p_fd (fun x => A x 6 = 10 * d + s) na 0
abbrev p_can (A D : Nat → Nat → Int32) (na x d : Nat) (s : Int32) : Prop := A x 6 = 99 ∧ p_fit (A x) (D d) s ∧ p_at A na (nI d) s = none
def p_farA (A D : Nat → Nat → Int32) (x d : Nat) : Int32 := p_far (A x) (D d) (A x 4) (A x 5)
set_option maxRecDepth 100000 in
set_option maxHeartbeats 4000000 in
theorem s_X6_isArm {Γ : fx_G} {m : fx_M} (S : Nat) (HS : fx_St S) {na : Nat} (hna : m.1 S 2 = nI na) (x : Int32) : fx_Ct Γ mX6_isArm 0 119 119 [fx_rf Γ S, .int x] m (fx_is (some (.int (if p_el x (nI na) then 1 else 0))) m) := by
  refine fx_Ct.of (j := 0) (by decide) (Nat.le_of_ble_eq_true rfl) (Nat.le_of_ble_eq_true rfl) ?_
  show fx_E Γ mX6_isArm 0 119 119 _ 119 m 0 [some (fx_rf Γ S), some (.int x)] []
  refine e_iload_n dX6_isArm_0 rfl ?_
  refine e_if_lt 16 dX6_isArm_1 rfl (fun c_1 => ?_) (fun c_1 => ?_)
  · refine e_iconst dX6_isArm_16 kci_0 ?_
    exact e_iret dX6_isArm_17 rfl rfl rfl ⟨by rw [if_neg (by rintro ⟨h1, h2⟩; first | exact absurd h1 (Int32.not_le.mpr c_1) | exact absurd h2 (Int32.not_lt.mpr c_2))], rfl⟩
  · refine e_iload_n dX6_isArm_4 rfl ?_
    refine e_aload_n dX6_isArm_5 rfl ?_
    refine e_getv (v := nI na) dX6_isArm_6 ff_X6_23 HS.sh HS.lt (by decide) rfl hna ?_
    refine e_icmp_ge 16 dX6_isArm_9 rfl (fun c_2 => ?_) (fun c_2 => ?_)
    · refine e_iconst dX6_isArm_16 kci_0 ?_
      exact e_iret dX6_isArm_17 rfl rfl rfl ⟨by rw [if_neg (by rintro ⟨h1, h2⟩; first | exact absurd h1 (Int32.not_le.mpr c_1) | exact absurd h2 (Int32.not_lt.mpr c_2))], rfl⟩
    · refine e_iconst dX6_isArm_12 kci_1 ?_
      refine e_goto 17 dX6_isArm_13 rfl ?_
      exact e_iret dX6_isArm_17 rfl rfl rfl ⟨by rw [if_pos ⟨Int32.not_lt.mp c_1, Int32.not_le.mp c_2⟩], rfl⟩
set_option maxRecDepth 100000 in
set_option maxHeartbeats 4000000 in
theorem s_X6_isDoll {Γ : fx_G} {m : fx_M} (S : Nat) (HS : fx_St S) {nd : Nat} (hnd : m.1 S 3 = nI nd) (x : Int32) : fx_Ct Γ mX6_isDoll 0 119 119 [fx_rf Γ S, .int x] m (fx_is (some (.int (if p_el x (nI nd) then 1 else 0))) m) := by
  refine fx_Ct.of (j := 0) (by decide) (Nat.le_of_ble_eq_true rfl) (Nat.le_of_ble_eq_true rfl) ?_
  show fx_E Γ mX6_isDoll 0 119 119 _ 119 m 0 [some (fx_rf Γ S), some (.int x)] []
  refine e_iload_n dX6_isDoll_0 rfl ?_
  refine e_if_lt 16 dX6_isDoll_1 rfl (fun c_1 => ?_) (fun c_1 => ?_)
  · refine e_iconst dX6_isDoll_16 kci_0 ?_
    exact e_iret dX6_isDoll_17 rfl rfl rfl ⟨by rw [if_neg (by rintro ⟨h1, h2⟩; first | exact absurd h1 (Int32.not_le.mpr c_1) | exact absurd h2 (Int32.not_lt.mpr c_2))], rfl⟩
  · refine e_iload_n dX6_isDoll_4 rfl ?_
    refine e_aload_n dX6_isDoll_5 rfl ?_
    refine e_getv (v := nI nd) dX6_isDoll_6 ff_X6_27 HS.sh HS.lt (by decide) rfl hnd ?_
    refine e_icmp_ge 16 dX6_isDoll_9 rfl (fun c_2 => ?_) (fun c_2 => ?_)
    · refine e_iconst dX6_isDoll_16 kci_0 ?_
      exact e_iret dX6_isDoll_17 rfl rfl rfl ⟨by rw [if_neg (by rintro ⟨h1, h2⟩; first | exact absurd h1 (Int32.not_le.mpr c_1) | exact absurd h2 (Int32.not_lt.mpr c_2))], rfl⟩
    · refine e_iconst dX6_isDoll_12 kci_1 ?_
      refine e_goto 17 dX6_isDoll_13 rfl ?_
      exact e_iret dX6_isDoll_17 rfl rfl rfl ⟨by rw [if_pos ⟨Int32.not_lt.mp c_1, Int32.not_le.mp c_2⟩], rfl⟩
set_option maxRecDepth 100000 in
set_option maxHeartbeats 4000000 in
theorem s_X6_hasRoomForArm {Γ : fx_G} {m : fx_M} (S : Nat) (HS : fx_St S) {na : Nat} (hna : m.1 S 2 = nI na) (h8 : na ≤ 8) : fx_Ct Γ mX6_hasRoomForArm 0 119 119 [fx_rf Γ S] m (fx_is (some (.int (if na < 8 then 1 else 0))) m) := by
  refine fx_Ct.of (j := 0) (by decide) (Nat.le_of_ble_eq_true rfl) (Nat.le_of_ble_eq_true rfl) ?_
  show fx_E Γ mX6_hasRoomForArm 0 119 119 _ 119 m 0 [some (fx_rf Γ S)] []
  refine e_aload_n dX6_hasRoomForArm_0 rfl ?_
  refine e_getv (v := nI na) dX6_hasRoomForArm_1 ff_X6_23 HS.sh HS.lt (by decide) rfl hna ?_
  refine e_bipush dX6_hasRoomForArm_4 kcb_8 ?_
  refine e_icmp_ge 13 dX6_hasRoomForArm_6 rfl (fun c_1 => ?_) (fun c_1 => ?_)
  · refine e_iconst dX6_hasRoomForArm_13 kci_0 ?_
    exact e_iret dX6_hasRoomForArm_14 rfl rfl rfl ⟨by rw [if_neg (fun h => absurd c_1 (nI_ge (a := na) (b := 8) h (by decide)))], rfl⟩
  · refine e_iconst dX6_hasRoomForArm_9 kci_1 ?_
    refine e_goto 14 dX6_hasRoomForArm_10 rfl ?_
    exact e_iret dX6_hasRoomForArm_14 rfl rfl rfl ⟨by rw [if_pos (show na < 8 from Decidable.byContradiction fun h => c_1 (nI_le (a := 8) (b := na) (by omega) (by omega)))], rfl⟩
set_option maxRecDepth 100000 in
set_option maxHeartbeats 4000000 in
theorem s_X6_hasRoomForDoll {Γ : fx_G} {m : fx_M} (S : Nat) (HS : fx_St S) {nd : Nat} (hnd : m.1 S 3 = nI nd) (h5 : nd ≤ 5) : fx_Ct Γ mX6_hasRoomForDoll 0 119 119 [fx_rf Γ S] m (fx_is (some (.int (if nd < 5 then 1 else 0))) m) := by
  refine fx_Ct.of (j := 0) (by decide) (Nat.le_of_ble_eq_true rfl) (Nat.le_of_ble_eq_true rfl) ?_
  show fx_E Γ mX6_hasRoomForDoll 0 119 119 _ 119 m 0 [some (fx_rf Γ S)] []
  refine e_aload_n dX6_hasRoomForDoll_0 rfl ?_
  refine e_getv (v := nI nd) dX6_hasRoomForDoll_1 ff_X6_27 HS.sh HS.lt (by decide) rfl hnd ?_
  refine e_iconst dX6_hasRoomForDoll_4 kci_5 ?_
  refine e_icmp_ge 12 dX6_hasRoomForDoll_5 rfl (fun c_1 => ?_) (fun c_1 => ?_)
  · refine e_iconst dX6_hasRoomForDoll_12 kci_0 ?_
    exact e_iret dX6_hasRoomForDoll_13 rfl rfl rfl ⟨by rw [if_neg (fun h => absurd c_1 (nI_ge (a := nd) (b := 5) h (by decide)))], rfl⟩
  · refine e_iconst dX6_hasRoomForDoll_8 kci_1 ?_
    refine e_goto 13 dX6_hasRoomForDoll_9 rfl ?_
    exact e_iret dX6_hasRoomForDoll_13 rfl rfl rfl ⟨by rw [if_pos (show nd < 5 from Decidable.byContradiction fun h => c_1 (nI_le (a := 5) (b := nd) (by omega) (by omega)))], rfl⟩
set_option maxRecDepth 100000 in
set_option maxHeartbeats 4000000 in
theorem s_X6_armAt {Γ : fx_G} {m : fx_M} (S : Nat) (HS : fx_St S) (hL : fx_Lay m) {na : Nat} (hna : m.1 S 2 = nI na) (h8 : na ≤ 8) (d s : Int32) : fx_Ct Γ mX6_armAt 1 119 119 [fx_rf Γ S, .int d, .int s] m (fx_is (some (.int (p_oi (p_at (fx_ar m S) na d s)))) m) := by
  refine fx_Ct.of (j := 1) (by decide) (Nat.le_of_ble_eq_true rfl) (Nat.le_of_ble_eq_true rfl) ?_
  show fx_E Γ mX6_armAt 1 119 119 _ 119 m 0 [some (fx_rf Γ S), some (.int d), some (.int s), none] []
  have lp : ∀ (j : Nat) (k : Nat), k + j = na → fx_E Γ mX6_armAt 1 119 119 (fx_is (some (.int (p_oi (p_fd (fun x => m.1 (S + 3 + x) 6 = 10 * d + s) j k)))) m) 119 m 2 [some (fx_rf Γ S), some (.int d), some (.int s), some (.int (nI k))] [] := by
    intro j
    induction j with
    | zero =>
      intro k hk
      refine e_iload_n dX6_armAt_2 rfl ?_
      refine e_aload_n dX6_armAt_3 rfl ?_
      refine e_getv (v := nI na) dX6_armAt_4 ff_X6_23 HS.sh HS.lt (by decide) rfl hna ?_
      refine e_icmp_ge 32 dX6_armAt_7 rfl (fun _ => ?_) (fun h => absurd (nI_le (by omega) (by omega)) h)
      refine e_iconst dX6_armAt_32 kci_m1 ?_
      exact e_iret dX6_armAt_33 rfl rfl rfl ⟨rfl, rfl⟩
    | succ j ih =>
      intro k hk
      refine e_iload_n dX6_armAt_2 rfl ?_
      refine e_aload_n dX6_armAt_3 rfl ?_
      refine e_getv (v := nI na) dX6_armAt_4 ff_X6_23 HS.sh HS.lt (by decide) rfl hna ?_
      refine e_icmp_ge 32 dX6_armAt_7 rfl (fun h => absurd h (nI_ge (by omega) (by omega))) (fun _ => ?_)
      refine e_aload_n dX6_armAt_10 rfl ?_
      refine e_getr (o2 := S + 1) dX6_armAt_11 ff_X6_13 HS.sh HS.lt (by decide) rfl (HS.r0 hL) ?_
      refine e_iload_n dX6_armAt_14 rfl ?_
      refine e_aald (j := k) (o2 := S + 3 + k) dX6_armAt_15 HS.s1 (Or.inl rfl) HS.l1 rfl (by omega) (by decide) (HS.ra hL (by omega)) ?_
      refine e_iload_n dX6_armAt_16 rfl ?_
      refine e_iload_n dX6_armAt_17 rfl ?_
      refine e_callV1 (μ' := mX0_isOn) (ci := 0) (As := [.int d, .int s]) dX6_armAt_18 wl_X6_65 ok_X0_isOn (HS.sa (by omega)) rfl (HS.la (by omega)) (by decide) (Nat.le_of_ble_eq_true rfl) fx_n1 (s_X0_isOn (S + 3 + k) (HS.sa (by omega)) (HS.la (by omega)) d s) rfl ?_
      refine e_if_eqB 26 dX6_armAt_21 rfl (fun c_p => ?_) (fun c_p => ?_)
      · refine e_iinc (v := nI (k + 1)) dX6_armAt_26 rfl (fx_inc _) (by decide) rfl ?_
        refine e_goto 2 dX6_armAt_29 rfl ?_
        rw [show p_fd (fun x => m.1 (S + 3 + x) 6 = 10 * d + s) (j + 1) k = p_fd (fun x => m.1 (S + 3 + x) 6 = 10 * d + s) j (k + 1) from if_neg c_p]
        exact ih (k + 1) (by omega)
      · refine e_iload_n dX6_armAt_24 rfl ?_
        exact e_iret dX6_armAt_25 rfl rfl rfl ⟨by rw [show p_fd (fun x => m.1 (S + 3 + x) 6 = 10 * d + s) (j + 1) k = some k from if_pos c_p]; rfl, rfl⟩
  refine e_iconst dX6_armAt_0 kci_0 ?_
  refine e_istore_n dX6_armAt_1 (by decide) rfl ?_
  exact lp na 0 (by omega)
theorem p_at_n {A : Nat → Nat → Int32} {na : Nat} {d s : Int32} (h8 : na ≤ 8) : p_at A na d s = none ↔ p_oi (p_at A na d s) = -1 := (p_oi_fd (by omega)).symm
theorem p_at_lt {A : Nat → Nat → Int32} {na x : Nat} {d s : Int32} (h : p_at A na d s = some x) : x < na ∧ A x 6 = 10 * d + s := by
  have := p_fd_some h
  exact ⟨by omega, this.2.2⟩
set_option maxRecDepth 100000 in
set_option maxHeartbeats 4000000 in
theorem s_X6_canCome {Γ : fx_G} {m : fx_M} (S : Nat) (HS : fx_St S) (hL : fx_Lay m) {na : Nat} (hna : m.1 S 2 = nI na) (h8 : na ≤ 8) {nd : Nat} (hnd : m.1 S 3 = nI nd) (h5 : nd ≤ 5) {x d : Nat} (hx : x < na) (hd : d < nd) (s : Int32) : fx_Ct Γ mX6_canCome 2 119 119 [fx_rf Γ S, .int (nI x), .int (nI d), .int s] m (fx_is (some (.int (if p_can (fx_ar m S) (fx_dr m S) na x d s then 1 else 0))) m) := by
  refine fx_Ct.of (j := 0) (by decide) (Nat.le_of_ble_eq_true rfl) (Nat.le_of_ble_eq_true rfl) ?_
  show fx_E Γ mX6_canCome 2 119 119 _ 119 m 0 [some (fx_rf Γ S), some (.int (nI x)), some (.int (nI d)), some (.int s)] []
  refine e_aload_n dX6_canCome_0 rfl ?_
  refine e_getr (o2 := S + 1) dX6_canCome_1 ff_X6_13 HS.sh HS.lt (by decide) rfl (HS.r0 hL) ?_
  refine e_iload_n dX6_canCome_4 rfl ?_
  refine e_aald (j := x) (o2 := S + 3 + x) dX6_canCome_5 HS.s1 (Or.inl rfl) HS.l1 rfl (by omega) (by decide) (HS.ra hL (by omega)) ?_
  refine e_callV1 (μ' := mX0_isInDrawer) (ci := 0) (As := []) dX6_canCome_6 wl_X6_69 ok_X0_isInDrawer (HS.sa (by omega)) rfl (HS.la (by omega)) (by decide) (Nat.le_of_ble_eq_true rfl) fx_n1 (s_X0_isInDrawer (S + 3 + x) (HS.sa (by omega)) (HS.la (by omega)) ) rfl ?_
  refine e_if_eqB 45 dX6_canCome_9 rfl (fun c_1 => ?_) (fun c_1 => ?_)
  · refine e_iconst dX6_canCome_45 kci_0 ?_
    exact e_iret dX6_canCome_46 rfl rfl rfl ⟨by simp [p_can, p_at_n h8, *], rfl⟩
  · refine e_aload_n dX6_canCome_12 rfl ?_
    refine e_getr (o2 := S + 1) dX6_canCome_13 ff_X6_13 HS.sh HS.lt (by decide) rfl (HS.r0 hL) ?_
    refine e_iload_n dX6_canCome_16 rfl ?_
    refine e_aald (j := x) (o2 := S + 3 + x) dX6_canCome_17 HS.s1 (Or.inl rfl) HS.l1 rfl (by omega) (by decide) (HS.ra hL (by omega)) ?_
    refine e_aload_n dX6_canCome_18 rfl ?_
    refine e_getr (o2 := S + 2) dX6_canCome_19 ff_X6_19 HS.sh HS.lt (by decide) rfl (HS.r1 hL) ?_
    refine e_iload_n dX6_canCome_22 rfl ?_
    refine e_aald (j := d) (o2 := S + 11 + d) dX6_canCome_23 HS.s2 (Or.inr (Or.inl rfl)) HS.l2 rfl (by omega) (by decide) (HS.rd hL (by omega)) ?_
    refine e_iload_n dX6_canCome_24 rfl ?_
    refine e_callV1 (μ' := mX0_suits) (ci := 0) (As := [fx_rf Γ (S + 11 + d), .int s]) dX6_canCome_25 wl_X6_72 ok_X0_suits (HS.sa (by omega)) rfl (HS.la (by omega)) (by decide) (Nat.le_of_ble_eq_true rfl) fx_n1 (s_X0_suits (S + 3 + x) (HS.sa (by omega)) (HS.la (by omega)) (S + 11 + d) (HS.sd (by omega)) (HS.ld (by omega)) s) rfl ?_
    refine e_if_eqB 45 dX6_canCome_28 rfl (fun c_2 => ?_) (fun c_2 => ?_)
    · refine e_iconst dX6_canCome_45 kci_0 ?_
      exact e_iret dX6_canCome_46 rfl rfl rfl ⟨by simp [p_can, p_at_n h8, *], rfl⟩
    · refine e_aload_n dX6_canCome_31 rfl ?_
      refine e_iload_n dX6_canCome_32 rfl ?_
      refine e_iload_n dX6_canCome_33 rfl ?_
      refine e_callV1 (μ' := mX6_armAt) (ci := 6) (As := [.int (nI d), .int s]) dX6_canCome_34 wl_X6_76 ok_X6_armAt HS.sh rfl HS.lt (by decide) (Nat.le_of_ble_eq_true rfl) fx_n1 (s_X6_armAt S HS hL hna h8 (nI d) s) rfl ?_
      refine e_iconst dX6_canCome_37 kci_m1 ?_
      refine e_icmp_ne 45 dX6_canCome_38 rfl (fun c_3 => ?_) (fun c_3 => ?_)
      · refine e_iconst dX6_canCome_45 kci_0 ?_
        exact e_iret dX6_canCome_46 rfl rfl rfl ⟨by simp [p_can, p_at_n h8, *], rfl⟩
      · refine e_iconst dX6_canCome_41 kci_1 ?_
        refine e_goto 46 dX6_canCome_42 rfl ?_
        exact e_iret dX6_canCome_46 rfl rfl rfl ⟨by simp [p_can, p_at_n h8, *], rfl⟩
set_option maxRecDepth 100000 in
set_option maxHeartbeats 4000000 in
theorem s_X6_mendWith {Γ : fx_G} {m : fx_M} (S : Nat) (HS : fx_St S) (hL : fx_Lay m) {x d : Nat} (hx : x < 8) (hd : d < 5) (s : Int32) : fx_Ct Γ mX6_mendWith 1 119 119 [fx_rf Γ S, .int (nI x), .int (nI d), .int s] m (fx_is none (fx_sI (fx_sI (fx_sI m (S + 3 + x) 6 (10 * nI d + s)) S 5 (m.1 S 5 + m.1 (S + 11 + d) 4)) S 4 (m.1 S 4 + 1))) := by
  refine fx_Ct.of (j := 0) (by decide) (Nat.le_of_ble_eq_true rfl) (Nat.le_of_ble_eq_true rfl) ?_
  show fx_E Γ mX6_mendWith 1 119 119 _ 119 m 0 [some (fx_rf Γ S), some (.int (nI x)), some (.int (nI d)), some (.int s)] []
  refine e_aload_n dX6_mendWith_0 rfl ?_
  refine e_getr (o2 := S + 1) dX6_mendWith_1 ff_X6_13 HS.sh HS.lt (by decide) rfl (HS.r0 hL) ?_
  refine e_iload_n dX6_mendWith_4 rfl ?_
  refine e_aald (j := x) (o2 := S + 3 + x) dX6_mendWith_5 HS.s1 (Or.inl rfl) HS.l1 rfl (by omega) (by decide) (HS.ra hL (by omega)) ?_
  refine e_iload_n dX6_mendWith_6 rfl ?_
  refine e_iload_n dX6_mendWith_7 rfl ?_
  refine e_callV1 (μ' := mX0_comeOn) (ci := 0) (As := [.int (nI d), .int s]) dX6_mendWith_8 wl_X6_80 ok_X0_comeOn (HS.sa (by omega)) rfl (HS.la (by omega)) (by decide) (Nat.le_of_ble_eq_true rfl) fx_n1 (s_X0_comeOn (S + 3 + x) (HS.sa (by omega)) (HS.la (by omega)) (nI d) s) rfl ?_
  refine e_aload_n dX6_mendWith_11 rfl ?_
  refine e_dup dX6_mendWith_12 rfl ?_
  refine e_getv (v := m.1 S 5) dX6_mendWith_13 ff_X6_33 HS.sh HS.lt (by decide) rfl (fx_rd1 (by omega)) ?_
  refine e_aload_n dX6_mendWith_16 rfl ?_
  refine e_getr (o2 := S + 2) dX6_mendWith_17 ff_X6_19 HS.sh HS.lt (by decide) rfl (HS.r1 hL) ?_
  refine e_iload_n dX6_mendWith_20 rfl ?_
  refine e_aald (j := d) (o2 := S + 11 + d) dX6_mendWith_21 HS.s2 (Or.inr (Or.inl rfl)) HS.l2 rfl (by omega) (by decide) (HS.rd hL (by omega)) ?_
  refine e_getv (v := m.1 (S + 11 + d) 4) dX6_mendWith_22 ff_X6_84 (HS.sd (by omega)) (HS.ld (by omega)) (by decide) rfl (fx_rd1 (by omega)) ?_
  refine e_iadd dX6_mendWith_25 ?_
  refine e_put dX6_mendWith_26 ff_X6_33 HS.sh HS.lt (by decide) rfl (Or.inl rfl) ?_
  refine e_aload_n dX6_mendWith_29 rfl ?_
  refine e_dup dX6_mendWith_30 rfl ?_
  refine e_getv (v := m.1 S 4) dX6_mendWith_31 ff_X6_30 HS.sh HS.lt (by decide) rfl ((fx_rd2 (by decide)).trans (fx_rd1 (by omega))) ?_
  refine e_iconst dX6_mendWith_34 kci_1 ?_
  refine e_iadd dX6_mendWith_35 ?_
  refine e_put dX6_mendWith_36 ff_X6_30 HS.sh HS.lt (by decide) rfl (Or.inl rfl) ?_
  exact e_vret dX6_mendWith_39 rfl rfl ⟨rfl, rfl⟩
