/-! the parting: weighed -/
/-- the one that has rank p -/
def p_kt (P : Nat → Prop) [DecidablePred P] (n p : Nat) : Nat := (p_fd (fun x => P x ∧ p_rk P x = p) n 0).getD 0
theorem p_fd_ex {P : Nat → Prop} [DecidablePred P] : ∀ {j k x : Nat}, k ≤ x → x < k + j → P x → ∃ y, p_fd P j k = some y
  | 0, k, x, h1, h2, _ => absurd h2 (by omega)
  | j + 1, k, x, h1, h2, hP => by
    by_cases c : P k
    · exact ⟨k, p_fd_y c⟩
    · rw [p_fd_n c]
      have : k ≠ x := fun e => c (e ▸ hP)
      exact p_fd_ex (by omega) (by omega) hP
theorem p_rk_ex {P : Nat → Prop} [DecidablePred P] : ∀ {n p : Nat}, p < p_rk P n → ∃ x, x < n ∧ P x ∧ p_rk P x = p
  | 0, p, h => absurd h (Nat.not_lt_zero _)
  | n + 1, p, h => by
    by_cases c : p < p_rk P n
    · obtain ⟨x, h1, h2⟩ := p_rk_ex c
      exact ⟨x, by omega, h2⟩
    · by_cases d : P n
      · rw [p_rk_y d] at h
        exact ⟨n, by omega, d, by omega⟩
      · rw [p_rk_n d] at h
        exact absurd h c
theorem p_kt_spec {P : Nat → Prop} [DecidablePred P] {n p : Nat} (h : p < p_rk P n) : p_kt P n p < n ∧ P (p_kt P n p) ∧ p_rk P (p_kt P n p) = p := by
  obtain ⟨x, h1, h2⟩ := p_rk_ex h
  obtain ⟨y, hy⟩ := p_fd_ex (P := fun x => P x ∧ p_rk P x = p) (j := n) (k := 0) (x := x) (by omega) (by omega) h2
  have hs := p_fd_some hy
  rw [p_kt, hy]
  exact ⟨by have := hs.2.1; show y < n; omega, hs.2.2⟩
theorem p_rk_inj {P : Nat → Prop} [DecidablePred P] {a b : Nat} (ha : P a) (hb : P b) (h : p_rk P a = p_rk P b) : a = b := by
  by_cases c : a < b
  · have := p_rk_lt c ha; omega
  · by_cases d : b < a
    · have := p_rk_lt d hb; omega
    · omega
theorem p_kt_rk {P : Nat → Prop} [DecidablePred P] {n x : Nat} (hx : x < n) (hP : P x) : p_kt P n (p_rk P x) = x := by
  have h := p_kt_spec (P := P) (n := n) (p_rk_lt hx hP)
  exact p_rk_inj h.2.1 hP h.2.2
/-- what the parting has weighed: np places, ns slots, pl the arms of places, sl the sides of slots (twice the doll and the side), ab the able places, wt the worths -/
def fx_PT (m : fx_M) (np ns : Nat) (pl sl ab : Nat → Nat) (wt : Nat → Nat → Int32) : Prop :=
  m.1 53 9 = nI np ∧ m.1 53 10 = nI ns ∧ (∀ p, p < np → m.1 57 p = nI (pl p)) ∧ (∀ t, t < ns → m.1 58 t = nI (sl t / 2) ∧ m.1 59 t = nI (sl t % 2) ∧ m.1 60 t = nI (ab t) ∧ ∀ p, p < np → m.1 61 (t * 8 + p) = wt t p) ∧
  ∀ t, t ≤ ns → ∀ s, s < 2 ^ np → m.1 54 (t * 256 + s) = p_tb wt ab np (ns - t) t s
def fx_memo (m : fx_M) : Prop := ∃ (np ns : Nat) (ab : Nat → Nat), np ≤ 8 ∧ ns ≤ 10 ∧ m.1 53 9 = nI np ∧ m.1 53 10 = nI ns ∧ (∀ t, t < ns → m.1 60 t = nI (ab t) ∧ ab t < 256) ∧ fx_tb m np ns ab
def fx_TBp (m2 m1 : fx_M) (np ns : Nat) (ab : Nat → Nat) (t k : Nat) : Prop := fx_oP (fun o => o = 54) m2 m1 ∧ (∀ u, t < u → u ≤ ns → ∀ s, s < 2 ^ np → m1.1 54 (u * 256 + s) = p_tb (fun t p => m2.1 61 (t * 8 + p)) ab np (ns - u) u s) ∧ ∀ s, s < k → m1.1 54 (t * 256 + s) = p_tb (fun t p => m2.1 61 (t * 8 + p)) ab np (ns - t) t s
theorem fx_TBp.step {m2 m1 : fx_M} {np ns t k : Nat} {ab : Nat → Nat} {v : Int32} (J : fx_TBp m2 m1 np ns ab t k) (h8 : np ≤ 8) (hk : k < 2 ^ np) (hv : v = p_tb (fun t p => m2.1 61 (t * 8 + p)) ab np (ns - t) t k) : fx_TBp m2 (fx_sI m1 54 (t * 256 + k) v) np ns ab t (k + 1) := by
  have h2 := p_256 h8
  refine ⟨J.1.sI rfl, fun u h1 h3 s hs => ?_, fun s hs => ?_⟩
  · rw [fx_rd2 (by omega)]
    exact J.2.1 u h1 h3 s hs
  · by_cases e : s = k
    · subst e
      rw [fx_rd0, hv]
    · rw [fx_rd2 (by omega)]
      exact J.2.2 s (by omega)
theorem fx_TBp.down {m2 m1 : fx_M} {np ns t : Nat} {ab : Nat → Nat} (J : fx_TBp m2 m1 np ns ab (t + 1) (2 ^ np)) : fx_TBp m2 m1 np ns ab t 0 := by
  refine ⟨J.1, fun u h1 h3 s hs => ?_, fun s hs => absurd hs (Nat.not_lt_zero _)⟩
  by_cases e : u = t + 1
  · subst e
    exact J.2.2 s hs
  · exact J.2.1 u (by omega) h3 s hs
theorem fx_TBp.val {m2 m1 : fx_M} {np ns t k a : Nat} {ab : Nat → Nat} (J : fx_TBp m2 m1 np ns ab t k) (ht : t < ns) (hk : k < 2 ^ np) (ha : a = ab t) : p_bw (m1.1 54) (fun p => m1.1 61 (t * 8 + p)) ((t + 1) * 256) k a np = p_tb (fun t p => m2.1 61 (t * 8 + p)) ab np (ns - t) t k := by
  subst ha
  rw [show ns - t = (ns - (t + 1)) + 1 by omega, p_bw_shift]
  show _ = p_bw _ _ _ _ _ _
  refine p_bw_congr (fun x hx => ?_) (fun p hp => ?_)
  · show m1.1 54 _ = _
    rw [Nat.zero_add, J.2.1 (t + 1) (by omega) (by omega) x (by omega)]
  · show m1.1 61 _ = m2.1 61 _
    rw [J.1.2 61 (by decide)]
theorem fx_TBp.tb {m2 m1 : fx_M} {np ns : Nat} {ab : Nat → Nat} (J : fx_TBp m2 m1 np ns ab 0 (2 ^ np)) : fx_tb m1 np ns ab := fun t ht s hs => by
  rw [J.1.2 61 (by decide)]
  by_cases e : t = 0
  · subst e
    exact J.2.2 s hs
  · exact J.2.1 t (by omega) ht s hs
abbrev p_Pf (A : Nat → Nat → Int32) : Nat → Prop := fun x => A x 6 = 99
abbrev p_Qf (A : Nat → Nat → Int32) (na : Nat) : Nat → Prop := fun x => p_at A na (nI (x / 2)) (nI (x % 2)) = none
def p_np (A : Nat → Nat → Int32) (na : Nat) : Nat := p_rk (p_Pf A) na
def p_pl (A : Nat → Nat → Int32) (na : Nat) : Nat → Nat := p_kt (p_Pf A) na
def p_ns (A : Nat → Nat → Int32) (na nd : Nat) : Nat := p_rk (p_Qf A na) (2 * nd)
def p_sl (A : Nat → Nat → Int32) (na nd : Nat) : Nat → Nat := p_kt (p_Qf A na) (2 * nd)
def p_ab (A D : Nat → Nat → Int32) (na nd t : Nat) : Nat := p_slV A D (p_pl A na) (p_np A na) (p_sl A na nd t)
def p_wt (A D : Nat → Nat → Int32) (na nd t p : Nat) : Int32 := p_slW A D (p_pl A na) (p_sl A na nd t) p
theorem p_np_le (A : Nat → Nat → Int32) (na : Nat) : p_np A na ≤ na := p_rk_le _ _
theorem p_ns_le (A : Nat → Nat → Int32) (na nd : Nat) : p_ns A na nd ≤ 2 * nd := p_rk_le _ _
theorem p_pl_lt {A : Nat → Nat → Int32} {na p : Nat} (h : p < p_np A na) : p_pl A na p < na ∧ A (p_pl A na p) 6 = 99 ∧ p_rk (p_Pf A) (p_pl A na p) = p := p_kt_spec h
theorem p_sl_lt {A : Nat → Nat → Int32} {na nd t : Nat} (h : t < p_ns A na nd) : p_sl A na nd t < 2 * nd ∧ p_Qf A na (p_sl A na nd t) ∧ p_rk (p_Qf A na) (p_sl A na nd t) = t := p_kt_spec (P := p_Qf A na) h
theorem p_ab_lt {A D : Nat → Nat → Int32} {na nd t : Nat} (h8 : na ≤ 8) : p_ab A D na nd t < 256 :=
  Nat.lt_of_lt_of_le (p_sN_lt _ _) (p_256 (Nat.le_trans (p_np_le A na) h8))
theorem p_rk_congr {P P' : Nat → Prop} [DecidablePred P] [DecidablePred P'] : ∀ {n : Nat}, (∀ k, k < n → (P k ↔ P' k)) → p_rk P n = p_rk P' n
  | 0, _ => rfl
  | n + 1, h => by
    have h1 := p_rk_congr (n := n) (fun k hk => h k (by omega))
    by_cases c : P n
    · rw [p_rk_y c, p_rk_y ((h n (by omega)).mp c), h1]
    · rw [p_rk_n c, p_rk_n (mt (h n (by omega)).mpr c), h1]
theorem p_fitD_congr {A A' D D' : Nat → Int32} {s : Int32} (h : ∀ k, k < 7 → A k = A' k) (h2 : ∀ k, k < 8 → D k = D' k) : p_fit A D s ↔ p_fit A' D' s := by
  have h0 := h2 0 (by decide)
  rw [p_fit_congr h]
  simp only [p_fit, h0]
theorem p_farD_congr {A A' D D' : Nat → Int32} {x y : Int32} (h : ∀ k, k < 7 → A k = A' k) (h2 : ∀ k, k < 8 → D k = D' k) : p_far A D x y = p_far A' D' x y := by
  have a0 := h2 0 (by decide)
  have a1 := h2 1 (by decide)
  have a2 := h2 2 (by decide)
  have a3 := h2 3 (by decide)
  rw [p_far_congr h]
  simp only [p_far, a0, a1, a2, a3]
theorem fx_FS.cg {m m1 : fx_M} {A D A' D' : Nat → Nat → Int32} {pl : Nat → Nat} {np q : Nat} {Q Q' : Nat → Prop} [DecidablePred Q] [DecidablePred Q'] (h : fx_FS m A D pl np Q q m1) (hQ : ∀ x, Q x ↔ Q' x) (hV : ∀ x, x < q → p_slV A D pl np x = p_slV A' D' pl np x) (hW : ∀ x, x < q → ∀ p, p < np → p_slW A D pl x p = p_slW A' D' pl x p) : fx_FS m A' D' pl np Q' q m1 :=
  ⟨h.1, h.2.1, h.2.2.1, h.2.2.2.1, fun x hx hq => by
    have h1 := h.2.2.2.2 x hx ((hQ x).mpr hq)
    rw [p_rk_congr (P' := Q') (fun k _ => hQ k), hV x hx] at h1
    exact ⟨h1.1, h1.2.1, h1.2.2.1, fun p hp => (h1.2.2.2 p hp).trans (hW x hx p hp)⟩⟩
theorem p_slV_congr {A D A' D' : Nat → Nat → Int32} {pl : Nat → Nat} {np na nd x : Nat} (hA : ∀ x, x < na → A x = A' x) (hD : ∀ d, d < nd → D d = D' d) (hpl : ∀ p, p < np → pl p < na) (hx : x < 2 * nd) : p_slV A D pl np x = p_slV A' D' pl np x :=
  p_sN_congr fun p hp => by rw [hA _ (hpl p hp), hD (x / 2) (by omega)]
theorem p_slW_congr {A D A' D' : Nat → Nat → Int32} {pl : Nat → Nat} {np na nd x p : Nat} (hA : ∀ x, x < na → A x = A' x) (hD : ∀ d, d < nd → D d = D' d) (hpl : ∀ p, p < np → pl p < na) (hx : x < 2 * nd) (hp : p < np) : p_slW A D pl x p = p_slW A' D' pl x p := by
  rw [p_slW, p_slW, p_farA, p_farA, hA _ (hpl p hp), hD (x / 2) (by omega)]
theorem fx_memo.tb {m m2 : fx_M} {np ns : Nat} {ab : Nat → Nat} (h : fx_memo m) (e : ∀ o k, (o ≠ 53 ∨ k ≠ 11) → m2.1 o k = m.1 o k) (hnp : m2.1 53 9 = nI np) (hns : m2.1 53 10 = nI ns) (h8 : np ≤ 8) (h10 : ns ≤ 10) (hab : ∀ t, t < ns → m2.1 60 t = nI (ab t) ∧ ab t < 256) : fx_tb m2 np ns ab := by
  obtain ⟨np', ns', ab', g8, g10, gp, gs, ga, gt⟩ := h
  have e1 : np' = np := (nI_eq (by omega) (by omega)).mp (gp.symm.trans ((e 53 9 (Or.inr (by decide))).symm.trans hnp))
  have e2 : ns' = ns := (nI_eq (by omega) (by omega)).mp (gs.symm.trans ((e 53 10 (Or.inr (by decide))).symm.trans hns))
  subst e1
  subst e2
  intro t ht s hs
  rw [e 54 _ (Or.inl (by decide)), gt t ht s hs]
  refine p_tb_congr _ _ _ (fun u h1 h2 => ⟨?_, fun p hp => (e 61 _ (Or.inl (by decide))).symm⟩)
  have a1 := ga u (by omega)
  have a2 := hab u (by omega)
  exact (nI_eq (by omega) (by omega)).mp (a1.1.symm.trans ((e 60 u (Or.inl (by decide))).symm.trans a2.1))
theorem fx_PT.of {m1 m2 m3 : fx_M} {A D : Nat → Nat → Int32} {na nd : Nat} (h8 : na ≤ 8) (h5 : nd ≤ 5) (FS : fx_FS m1 A D (p_pl A na) (p_np A na) (p_Qf A na) (2 * nd) m2) (h57 : ∀ p, p < p_np A na → m1.1 57 p = nI (p_pl A na p)) (h9 : m2.1 53 9 = nI (p_np A na)) (hn : m2.1 53 10 = nI (p_ns A na nd)) (o : fx_oP (fun o => o = 54) m2 m3) (T : fx_tb m3 (p_np A na) (p_ns A na nd) (p_ab A D na nd)) :
    fx_PT m3 (p_np A na) (p_ns A na nd) (p_pl A na) (p_sl A na nd) (p_ab A D na nd) (p_wt A D na nd) ∧ fx_memo m3 := by
  have l1 := p_np_le A na
  have l2 := p_ns_le A na nd
  have k9 : m3.1 53 9 = nI (p_np A na) := by rw [o.2 53 (by decide)]; exact h9
  have k10 : m3.1 53 10 = nI (p_ns A na nd) := by rw [o.2 53 (by decide)]; exact hn
  have ks : ∀ t, t < p_ns A na nd → m3.1 58 t = nI (p_sl A na nd t / 2) ∧ m3.1 59 t = nI (p_sl A na nd t % 2) ∧ m3.1 60 t = nI (p_ab A D na nd t) ∧ ∀ p, p < p_np A na → m3.1 61 (t * 8 + p) = p_wt A D na nd t p := fun t ht => by
    have hs := p_sl_lt ht
    have h1 := FS.2.2.2.2 _ hs.1 hs.2.1
    rw [hs.2.2] at h1
    rw [o.2 58 (by decide), o.2 59 (by decide), o.2 60 (by decide), o.2 61 (by decide)]
    exact h1
  refine ⟨⟨k9, k10, fun p hp => ?_, ks, fun t ht s hs => ?_⟩, p_np A na, p_ns A na nd, p_ab A D na nd, by omega, by omega, k9, k10, fun t ht => ⟨(ks t ht).2.2.1, p_ab_lt h8⟩, T⟩
  · rw [o.2 57 (by decide), FS.1.2 57 (by decide)]
    exact h57 p hp
  · rw [T t ht s hs]
    exact p_tb_congr _ _ _ (fun u h1 h2 => ⟨rfl, fun p hp => (ks u (by omega)).2.2.2 p hp⟩)
theorem fx_weighed {m m1 : fx_M} {S na nd : Nat} {A D : Nat → Nat → Int32} (HS : fx_St S) (h8 : na ≤ 8) (h5 : nd ≤ 5) (hA : ∀ x, x < na → m.1 (S + 3 + x) = A x) (hD : ∀ d, d < nd → m.1 (S + 11 + d) = D d)
    (J : fx_oP (fun o => o = 53 ∨ o = 57) m m1 ∧ fx_fl m1 ∧ fx_qu m m1 ∧ (∀ x, x < na → fx_ar m S x 6 = 99 → m1.1 57 (p_rk (fun x => fx_ar m S x 6 = 99) x) = nI x) ∧ m1.1 53 10 = m.1 53 10) (h9 : m1.1 53 9 = nI (p_rk (fun x => fx_ar m S x 6 = 99) na)) :
    p_rk (fun x => fx_ar m S x 6 = 99) na = p_np A na ∧ (∀ p, p < p_np A na → m1.1 57 p = nI (p_pl A na p) ∧ p_pl A na p < 8) ∧ (∀ x, x < na → m1.1 (S + 3 + x) = A x) ∧ (∀ d, d < nd → m1.1 (S + 11 + d) = D d) := by
  have e1 : ∀ x, x < na → (fx_ar m S x 6 = 99 ↔ p_Pf A x) := fun x hx => by show m.1 (S + 3 + x) 6 = 99 ↔ A x 6 = 99; rw [hA x hx]
  have e2 : p_rk (fun x => fx_ar m S x 6 = 99) na = p_np A na := p_rk_congr e1
  refine ⟨e2, fun p hp => ?_, fun x hx => ?_, fun d hd => ?_⟩
  · have h := p_pl_lt hp
    have h1 := J.2.2.2.1 _ h.1 ((e1 _ h.1).mpr h.2.1)
    rw [p_rk_congr (P' := p_Pf A) (fun k hk => e1 k (by omega)), h.2.2] at h1
    exact ⟨h1, by omega⟩
  · rw [J.1.2 _ (by rcases HS with rfl | rfl | rfl <;> omega)]; exact hA x hx
  · rw [J.1.2 _ (by rcases HS with rfl | rfl | rfl <;> omega)]; exact hD d hd
set_option maxRecDepth 100000 in
set_option maxHeartbeats 600000 in
theorem s_X3_weigh {Γ : fx_G} {m : fx_M} (S : Nat) (HS : fx_St S) (hL : fx_Lay m) {na nd : Nat} (hna : m.1 S 2 = nI na) (h8 : na ≤ 8) (hnd : m.1 S 3 = nI nd) (h5 : nd ≤ 5) {A D : Nat → Nat → Int32} (hA : ∀ x, x < na → m.1 (S + 3 + x) = A x) (hD : ∀ d, d < nd → m.1 (S + 11 + d) = D d) (hM : fx_memo m) : fx_Ct Γ mX3_weigh 6 119 119 [fx_rf Γ 53, fx_rf Γ S] m (fun r m' => r = none ∧ fx_oP (fun o => o = 53 ∨ o = 54 ∨ o = 57 ∨ o = 58 ∨ o = 59 ∨ o = 60 ∨ o = 61) m m' ∧ (fx_PT m' (p_np A na) (p_ns A na nd) (p_pl A na) (p_sl A na nd) (p_ab A D na nd) (p_wt A D na nd) ∧ fx_memo m')) := by
  refine fx_Ct.of (j := 2) (by decide) (Nat.le_of_ble_eq_true rfl) (Nat.le_of_ble_eq_true rfl) ?_
  show fx_E Γ mX3_weigh 6 119 119 _ 119 m 0 [some (fx_rf Γ 53), some (fx_rf Γ S), none, none] []
  refine e_aload_n dX3_weigh_0 rfl ?_
  refine e_iconst dX3_weigh_1 kci_0 ?_
  refine e_putz dX3_weigh_2 ff_X3_52 rfl (fx_pi_lt (by decide)) (by decide) rfl (Or.inl rfl) (Or.inl rfl) ?_
  refine e_aload_n dX3_weigh_5 rfl ?_
  refine e_aload_n dX3_weigh_6 rfl ?_
  refine e_callV (μ' := mX3_findPlaces) (ci := 3) (As := [fx_rf Γ S]) dX3_weigh_7 wl_X3_56 ok_X3_findPlaces rfl rfl (fx_pi_lt (by decide)) (by decide) (Nat.le_of_ble_eq_true rfl) fx_n1 (s_X3_findPlaces (m := fx_sI m 53 11 0) S HS hL (na := na) (by rw [fx_sI_n m _ _ (by rcases HS with rfl | rfl | rfl <;> decide)]; exact hna) h8 (Or.inl fx_rd0)) rfl (fun r_ m_ hpost => ?_)
  revert m_
  intro m1 hpost
  obtain ⟨rfl, J, h9⟩ := hpost
  have W := fx_weighed (A := A) (D := D) HS h8 h5 (fun x hx => by rw [fx_sI_n m _ _ (by rcases HS with rfl | rfl | rfl <;> omega)]; exact hA x hx) (fun d hd => by rw [fx_sI_n m _ _ (by rcases HS with rfl | rfl | rfl <;> omega)]; exact hD d hd) J h9
  rw [W.1] at h9
  have hL1 := J.1.lay (show fx_Lay (fx_sI m 53 11 0) from hL)
  have l1 := p_np_le A na
  have l2 := p_ns_le A na nd
  have hS1 : m1.1 S = m.1 S := by rw [J.1.2 S (by rcases HS with rfl | rfl | rfl <;> decide), fx_sI_n m _ _ (by rcases HS with rfl | rfl | rfl <;> decide)]
  refine e_aload_n dX3_weigh_10 rfl ?_
  refine e_aload_n dX3_weigh_11 rfl ?_
  refine e_callV (μ' := mX3_findSlots) (ci := 3) (As := [fx_rf Γ S]) dX3_weigh_12 wl_X3_60 ok_X3_findSlots rfl rfl (fx_pi_lt (by decide)) (by decide) (Nat.le_of_ble_eq_true rfl) fx_n1 (s_X3_findSlots (m := m1) S HS hL1 (na := na) (nd := nd) (np := p_np A na) (by rw [hS1]; exact hna) h8 (by rw [hS1]; exact hnd) h5 h9 (by omega) (pl := p_pl A na) W.2.1 J.2.1) rfl (fun r_ m_ hpost => ?_)
  revert m_
  intro m2 hpost
  obtain ⟨rfl, FS0, h10⟩ := hpost
  have eQ : ∀ x, ((fun x => p_at (fx_ar m1 S) na (nI (x / 2)) (nI (x % 2)) = none) x) ↔ p_Qf A na x := fun x => by show p_at (fx_ar m1 S) na _ _ = none ↔ p_at A na _ _ = none; rw [p_at_congr (A := fx_ar m1 S) (B := A) W.2.2.1]
  rw [p_rk_congr (P' := p_Qf A na) (fun k _ => eQ k)] at h10
  have FS := FS0.cg (A' := A) (D' := D) (Q' := p_Qf A na) eQ (fun x hx => p_slV_congr W.2.2.1 W.2.2.2 (fun p hp => (p_pl_lt hp).1) hx) (fun x hx p hp => p_slW_congr W.2.2.1 W.2.2.2 (fun p hp => (p_pl_lt hp).1) hx hp)
  have hL2 := FS.1.lay hL1
  have h9b : m2.1 53 9 = nI (p_np A na) := FS.2.2.2.1.trans h9
  have h57 : ∀ p, p < p_np A na → m1.1 57 p = nI (p_pl A na p) := fun p hp => (W.2.1 p hp).1
  have hab : ∀ t, t < p_ns A na nd → m2.1 60 t = nI (p_ab A D na nd t) ∧ p_ab A D na nd t < 256 := fun t ht => by have hs := p_sl_lt ht; have h1 := FS.2.2.2.2 _ hs.1 hs.2.1; rw [hs.2.2] at h1; exact ⟨h1.2.2.1, p_ab_lt h8⟩
  have hon : fx_oP (fun o => o = 53 ∨ o = 54 ∨ o = 57 ∨ o = 58 ∨ o = 59 ∨ o = 60 ∨ o = 61) m m2 := ⟨FS.1.1.trans J.1.1, fun o ho => by rw [FS.1.2 o (fun h => ho (by omega)), J.1.2 o (fun h => ho (by omega)), fx_sI_n m _ _ (fun h => ho (by omega))]⟩
  have h2 := p_256 (show p_np A na ≤ 8 by omega)
  have h20 := Nat.two_pow_pos (p_np A na)
  refine e_aload_n dX3_weigh_15 rfl ?_
  refine e_get dX3_weigh_16 ff_X3_52 rfl (fx_pi_lt (by decide)) (by decide) rfl ?_
  refine e_if_ne 23 dX3_weigh_19 rfl (fun c_f => ?_) (fun c_f => ?_)
  · refine e_iconst dX3_weigh_23 kci_0 ?_
    refine e_istore_n dX3_weigh_24 (by decide) rfl ?_
    have lp2 : ∀ (t : Nat) (m3 : fx_M), t ≤ p_ns A na nd → fx_TBp m2 m3 (p_np A na) (p_ns A na nd) (p_ab A D na nd) t (2 ^ (p_np A na)) → fx_E Γ mX3_weigh 6 119 119 (fun r m' => r = none ∧ fx_oP (fun o => o = 53 ∨ o = 54 ∨ o = 57 ∨ o = 58 ∨ o = 59 ∨ o = 60 ∨ o = 61) m m' ∧ (fx_PT m' (p_np A na) (p_ns A na nd) (p_pl A na) (p_sl A na nd) (p_ab A D na nd) (p_wt A D na nd) ∧ fx_memo m')) 119 m3 62 [some (fx_rf Γ 53), some (fx_rf Γ S), some (.int (p_pm t)), none] [] := by
      intro t
      induction t with
      | zero =>
        intro m3 hj J3
        have hL3 := J3.1.lay hL2
        have hnp3 : m3.1 53 9 = nI (p_np A na) := by rw [J3.1.2 53 (by decide)]; exact h9b
        have hns3 : m3.1 53 10 = nI (p_ns A na nd) := by rw [J3.1.2 53 (by decide)]; exact h10
        refine e_iload_n dX3_weigh_62 rfl ?_
        refine e_if_lt 117 dX3_weigh_63 rfl (fun _ => ?_) (fun h => absurd (by decide) h)
        exact e_vret dX3_weigh_117 rfl rfl ⟨rfl, ⟨J3.1.1.trans hon.1, fun o ho => by rw [J3.1.2 o (fun h => ho (by omega))]; exact hon.2 o ho⟩, fx_PT.of h8 h5 FS h57 h9b h10 J3.1 J3.tb⟩
      | succ t ih2 =>
        intro m3 hj J3
        have hL3 := J3.1.lay hL2
        have hnp3 : m3.1 53 9 = nI (p_np A na) := by rw [J3.1.2 53 (by decide)]; exact h9b
        have hns3 : m3.1 53 10 = nI (p_ns A na nd) := by rw [J3.1.2 53 (by decide)]; exact h10
        rw [show p_pm (t + 1) = nI t from rfl]
        refine e_iload_n dX3_weigh_62 rfl ?_
        refine e_if_lt 117 dX3_weigh_63 rfl (fun h => absurd h (nI_pos (by omega))) (fun _ => ?_)
        refine e_iconst dX3_weigh_66 kci_0 ?_
        refine e_istore_n dX3_weigh_67 (by decide) rfl ?_
        have lpi : ∀ (ji : Nat) (k : Nat) (m3 : fx_M), k + ji = 2 ^ (p_np A na) → fx_TBp m2 m3 (p_np A na) (p_ns A na nd) (p_ab A D na nd) t k → fx_E Γ mX3_weigh 6 119 119 (fun r m' => r = none ∧ fx_oP (fun o => o = 53 ∨ o = 54 ∨ o = 57 ∨ o = 58 ∨ o = 59 ∨ o = 60 ∨ o = 61) m m' ∧ (fx_PT m' (p_np A na) (p_ns A na nd) (p_pl A na) (p_sl A na nd) (p_ab A D na nd) (p_wt A D na nd) ∧ fx_memo m')) 119 m3 68 [some (fx_rf Γ 53), some (fx_rf Γ S), some (.int (nI t)), some (.int (nI k))] [] := by
          intro ji
          induction ji with
          | zero =>
            intro k m3 hk J3
            have hL3 := J3.1.lay hL2
            have hnp3 : m3.1 53 9 = nI (p_np A na) := by rw [J3.1.2 53 (by decide)]; exact h9b
            have hns3 : m3.1 53 10 = nI (p_ns A na nd) := by rw [J3.1.2 53 (by decide)]; exact h10
            refine e_iload_n dX3_weigh_68 rfl ?_
            refine e_aload_n dX3_weigh_69 rfl ?_
            refine e_callV1 (μ' := mX3_all) (ci := 3) (As := []) dX3_weigh_70 wl_X3_63 ok_X3_all rfl rfl (fx_pi_lt (by decide)) (by decide) (Nat.le_of_ble_eq_true rfl) fx_n1 (s_X3_all (m := m3) (np := p_np A na) hL3 hnp3 (by omega)) rfl ?_
            refine e_icmp_gt 111 dX3_weigh_73 rfl (fun _ => ?_) (fun h => absurd (nI_lt (by omega) (by omega)) h)
            refine e_iinc dX3_weigh_111 rfl rfl (by decide) rfl ?_
            refine e_goto 62 dX3_weigh_114 rfl ?_
            obtain rfl : k = 2 ^ (p_np A na) := by omega
            rw [show nI t + Int32.ofInt (-1) = p_pm t from p_pm_dec t]
            refine e_weak (lv2 := [some (fx_rf Γ 53), some (fx_rf Γ S), some (.int (p_pm t)), none]) ⟨rfl, rfl, rfl, trivial⟩ ?_
            exact ih2 m3 (by omega) J3
          | succ ji ihi =>
            intro k m3 hk J3
            have hL3 := J3.1.lay hL2
            have hnp3 : m3.1 53 9 = nI (p_np A na) := by rw [J3.1.2 53 (by decide)]; exact h9b
            have hns3 : m3.1 53 10 = nI (p_ns A na nd) := by rw [J3.1.2 53 (by decide)]; exact h10
            refine e_iload_n dX3_weigh_68 rfl ?_
            refine e_aload_n dX3_weigh_69 rfl ?_
            refine e_callV1 (μ' := mX3_all) (ci := 3) (As := []) dX3_weigh_70 wl_X3_63 ok_X3_all rfl rfl (fx_pi_lt (by decide)) (by decide) (Nat.le_of_ble_eq_true rfl) fx_n1 (s_X3_all (m := m3) (np := p_np A na) hL3 hnp3 (by omega)) rfl ?_
            refine e_icmp_gt 111 dX3_weigh_73 rfl (fun h => absurd h (Int32.not_lt.mpr (nI_le (by omega) (by omega)))) (fun _ => ?_)
            refine e_aload_n dX3_weigh_76 rfl ?_
            refine e_getr (o2 := 54) dX3_weigh_77 ff_X3_13 rfl (fx_pi_lt (by decide)) (by decide) rfl (hL3 _ _ _ rfl) ?_
            refine e_iload_n dX3_weigh_80 rfl ?_
            refine e_sipush dX3_weigh_81 kcs_256 ?_
            refine e_imul dX3_weigh_84 ?_
            refine e_iload_n dX3_weigh_85 rfl ?_
            refine e_iadd dX3_weigh_86 ?_
            rw [i_256]
            refine e_aload_n dX3_weigh_87 rfl ?_
            refine e_aload_n dX3_weigh_88 rfl ?_
            refine e_getr (o2 := 54) dX3_weigh_89 ff_X3_13 rfl (fx_pi_lt (by decide)) (by decide) rfl (hL3 _ _ _ rfl) ?_
            refine e_iload_n dX3_weigh_92 rfl ?_
            refine e_iconst dX3_weigh_93 kci_1 ?_
            refine e_iadd dX3_weigh_94 ?_
            rw [nI_1]
            refine e_sipush dX3_weigh_95 kcs_256 ?_
            refine e_imul dX3_weigh_98 ?_
            rw [show nI (t + 1) * 256 = nI ((t + 1) * 256) from i_mulc _ _]
            refine e_iload_n dX3_weigh_99 rfl ?_
            refine e_iload_n dX3_weigh_100 rfl ?_
            refine e_callV1 (μ' := mX3_bestWith) (ci := 3) (As := [fx_rf Γ 54, .int (nI ((t + 1) * 256)), .int (nI k), .int (nI t)]) dX3_weigh_101 wl_X3_67 ok_X3_bestWith rfl rfl (fx_pi_lt (by decide)) (by decide) (Nat.le_of_ble_eq_true rfl) fx_n1 (s_X3_bestWith (m := m3) (np := p_np A na) hL3 hnp3 (by omega) (r := 54) (len := 2816) (b := ((t + 1) * 256)) (s := k) (t := t) (ab := p_ab A D na nd t) rfl (by decide) (by decide) (by omega) (by omega) (by omega) (by rw [J3.1.2 60 (by decide)]; exact (hab t (by omega)).1) (hab t (by omega)).2) rfl ?_
            refine e_iast (j := t * 256 + k) dX3_weigh_104 rfl (fx_pi_lt (by decide)) rfl (by omega) (by decide) ?_
            refine e_iinc (v := nI (k + 1)) dX3_weigh_105 rfl (fx_inc _) (by decide) rfl ?_
            refine e_goto 68 dX3_weigh_108 rfl ?_
            exact ihi (k + 1) _ (by omega) (J3.step (by omega) (by omega) (J3.val (by omega) (by omega) rfl))
        exact lpi (2 ^ (p_np A na)) 0 m3 (by omega) J3.down
    have lp1 : ∀ (j : Nat) (k : Nat) (m3 : fx_M), k + j = 2 ^ (p_np A na) → fx_TBp m2 m3 (p_np A na) (p_ns A na nd) (p_ab A D na nd) (p_ns A na nd) k → fx_E Γ mX3_weigh 6 119 119 (fun r m' => r = none ∧ fx_oP (fun o => o = 53 ∨ o = 54 ∨ o = 57 ∨ o = 58 ∨ o = 59 ∨ o = 60 ∨ o = 61) m m' ∧ (fx_PT m' (p_np A na) (p_ns A na nd) (p_pl A na) (p_sl A na nd) (p_ab A D na nd) (p_wt A D na nd) ∧ fx_memo m')) 119 m3 25 [some (fx_rf Γ 53), some (fx_rf Γ S), some (.int (nI k)), none] [] := by
      intro j
      induction j with
      | zero =>
        intro k m3 hk J3
        have hL3 := J3.1.lay hL2
        have hnp3 : m3.1 53 9 = nI (p_np A na) := by rw [J3.1.2 53 (by decide)]; exact h9b
        have hns3 : m3.1 53 10 = nI (p_ns A na nd) := by rw [J3.1.2 53 (by decide)]; exact h10
        refine e_iload_n dX3_weigh_25 rfl ?_
        refine e_aload_n dX3_weigh_26 rfl ?_
        refine e_callV1 (μ' := mX3_all) (ci := 3) (As := []) dX3_weigh_27 wl_X3_63 ok_X3_all rfl rfl (fx_pi_lt (by decide)) (by decide) (Nat.le_of_ble_eq_true rfl) fx_n1 (s_X3_all (m := m3) (np := p_np A na) hL3 hnp3 (by omega)) rfl ?_
        refine e_icmp_gt 55 dX3_weigh_30 rfl (fun _ => ?_) (fun h => absurd (nI_lt (by omega) (by omega)) h)
        refine e_aload_n dX3_weigh_55 rfl ?_
        refine e_getv (v := nI (p_ns A na nd)) dX3_weigh_56 ff_X3_49 rfl (fx_pi_lt (by decide)) (by decide) rfl hns3 ?_
        refine e_iconst dX3_weigh_59 kci_1 ?_
        refine e_isub dX3_weigh_60 ?_
        rw [p_pm_start]
        refine e_istore_n dX3_weigh_61 (by decide) rfl ?_
        obtain rfl : k = 2 ^ (p_np A na) := by omega
        exact lp2 (p_ns A na nd) m3 (Nat.le_refl _) J3
      | succ j ih =>
        intro k m3 hk J3
        have hL3 := J3.1.lay hL2
        have hnp3 : m3.1 53 9 = nI (p_np A na) := by rw [J3.1.2 53 (by decide)]; exact h9b
        have hns3 : m3.1 53 10 = nI (p_ns A na nd) := by rw [J3.1.2 53 (by decide)]; exact h10
        refine e_iload_n dX3_weigh_25 rfl ?_
        refine e_aload_n dX3_weigh_26 rfl ?_
        refine e_callV1 (μ' := mX3_all) (ci := 3) (As := []) dX3_weigh_27 wl_X3_63 ok_X3_all rfl rfl (fx_pi_lt (by decide)) (by decide) (Nat.le_of_ble_eq_true rfl) fx_n1 (s_X3_all (m := m3) (np := p_np A na) hL3 hnp3 (by omega)) rfl ?_
        refine e_icmp_gt 55 dX3_weigh_30 rfl (fun h => absurd h (Int32.not_lt.mpr (nI_le (by omega) (by omega)))) (fun _ => ?_)
        refine e_aload_n dX3_weigh_33 rfl ?_
        refine e_getr (o2 := 54) dX3_weigh_34 ff_X3_13 rfl (fx_pi_lt (by decide)) (by decide) rfl (hL3 _ _ _ rfl) ?_
        refine e_aload_n dX3_weigh_37 rfl ?_
        refine e_getv (v := nI (p_ns A na nd)) dX3_weigh_38 ff_X3_49 rfl (fx_pi_lt (by decide)) (by decide) rfl hns3 ?_
        refine e_sipush dX3_weigh_41 kcs_256 ?_
        refine e_imul dX3_weigh_44 ?_
        refine e_iload_n dX3_weigh_45 rfl ?_
        refine e_iadd dX3_weigh_46 ?_
        rw [i_256]
        refine e_iconst dX3_weigh_47 kci_0 ?_
        refine e_iast (j := (p_ns A na nd) * 256 + k) dX3_weigh_48 rfl (fx_pi_lt (by decide)) rfl (by omega) (by decide) ?_
        refine e_iinc (v := nI (k + 1)) dX3_weigh_49 rfl (fx_inc _) (by decide) rfl ?_
        refine e_goto 25 dX3_weigh_52 rfl ?_
        exact ih (k + 1) _ (by omega) (J3.step (by omega) (by omega) (by rw [Nat.sub_self]; rfl))
    exact lp1 (2 ^ (p_np A na)) 0 m2 (by omega) ⟨fx_oP.refl _ m2, fun u h1 h3 => absurd h1 (by omega), fun s hs => absurd hs (Nat.not_lt_zero _)⟩
  · have hf : m2.1 53 11 = 0 := by first | exact c_f | exact Decidable.not_not.mp c_f
    have e1 := FS.2.2.1 hf
    have e0 := J.2.2.1 ((e1 53 11).symm.trans hf)
    have eT : fx_tb m2 (p_np A na) (p_ns A na nd) (p_ab A D na nd) := hM.tb (fun o k h => by rw [e1, e0]; rcases h with h | h; exact congrFun (fx_sI_n m _ _ h) k; (by_cases c : o = 53; (subst c; exact fx_rd2 (Ne.symm h)); exact congrFun (fx_sI_n m _ _ c) k)) h9b h10 (by omega) (by omega) hab
    exact e_vret dX3_weigh_22 rfl rfl ⟨rfl, hon, fx_PT.of h8 h5 FS h57 h9b h10 (fx_oP.refl _ m2) eT⟩
