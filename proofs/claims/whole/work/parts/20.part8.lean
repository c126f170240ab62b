/-! the parting: all slots are kept -/
theorem p_sN_congr {P P' : Nat → Prop} [DecidablePred P] [DecidablePred P'] : ∀ {n : Nat}, (∀ k, k < n → (P k ↔ P' k)) → p_sN P n = p_sN P' n
  | 0, _ => rfl
  | n + 1, h => by
    have h1 := p_sN_congr (n := n) (fun k hk => h k (by omega))
    by_cases c : P n
    · rw [p_sN, p_sN, if_pos c, if_pos ((h n (by omega)).mp c), h1]
    · rw [p_sN, p_sN, if_neg c, if_neg (mt (h n (by omega)).mpr c), h1]
theorem fx_oP.trans {P : Nat → Prop} {a b c : fx_M} (h : fx_oP P a b) (g : fx_oP P b c) : fx_oP P a c := ⟨g.1.trans h.1, fun o ho => (g.2 o ho).trans (h.2 o ho)⟩
/-- the sides: x is the doll's number twice and the side -/
def p_slV (A D : Nat → Nat → Int32) (pl : Nat → Nat) (np x : Nat) : Nat := p_sN (fun p => p_fit (A (pl p)) (D (x / 2)) (nI (x % 2))) np
def p_slW (A D : Nat → Nat → Int32) (pl : Nat → Nat) (x p : Nat) : Int32 := 1000 - p_farA A D (pl p) (x / 2)
def fx_FS (m : fx_M) (A D : Nat → Nat → Int32) (pl : Nat → Nat) (np : Nat) (Q : Nat → Prop) [DecidablePred Q] (q : Nat) (m1 : fx_M) : Prop :=
  fx_oP (fun o => o = 53 ∨ o = 58 ∨ o = 59 ∨ o = 60 ∨ o = 61) m m1 ∧ fx_fl m1 ∧ fx_qu m m1 ∧ m1.1 53 9 = m.1 53 9 ∧ ∀ x, x < q → Q x → m1.1 58 (p_rk Q x) = nI (x / 2) ∧ m1.1 59 (p_rk Q x) = nI (x % 2) ∧ m1.1 60 (p_rk Q x) = nI (p_slV A D pl np x) ∧ ∀ p, p < np → m1.1 61 (p_rk Q x * 8 + p) = p_slW A D pl x p
theorem fx_FS.stepN {m m1 : fx_M} {A D : Nat → Nat → Int32} {pl : Nat → Nat} {np : Nat} {Q : Nat → Prop} [DecidablePred Q] {q : Nat} (h : fx_FS m A D pl np Q q m1) (hQ : ¬ Q q) : fx_FS m A D pl np Q (q + 1) m1 :=
  ⟨h.1, h.2.1, h.2.2.1, h.2.2.2.1, fun x hx hq => by
    by_cases e : x = q
    · subst e; exact absurd hq hQ
    · exact h.2.2.2.2 x (by omega) hq⟩
theorem fx_FS.step {m m1 : fx_M} {A D : Nat → Nat → Int32} {pl : Nat → Nat} {np : Nat} {Q : Nat → Prop} [DecidablePred Q] {m2 : fx_M} {d e v : Nat} {W : Nat → Int32} (h : fx_FS m A D pl np Q (2 * d + e) m1) (he : e < 2) (h8 : np ≤ 8) (hQ : Q (2 * d + e)) (K : fx_KS m1 (p_rk Q (2 * d + e)) d (nI e) W np m2) (hv : m2.1 60 (p_rk Q (2 * d + e)) = nI v)
    (hW : ∀ p, p < np → W p = 1000 - p_farA A D (pl p) d) (hV : v = p_sN (fun p => p_fit (A (pl p)) (D d) (nI e)) np) : fx_FS m A D pl np Q (2 * d + (e + 1)) m2 := by
  refine ⟨h.1.trans K.on, K.fl, h.2.2.1.trans K.qu, (K.c53 9 (by decide)).trans h.2.2.2.1, fun x hx hq => ?_⟩
  by_cases c : x = 2 * d + e
  · have h2 : x / 2 = d := by omega
    have h3 : x % 2 = e := by omega
    rw [p_slV, h2, h3, c]
    refine ⟨K.dl, K.sd, by rw [hv, hV], fun p hp => ?_⟩
    rw [K.w p hp, hW p hp, p_slW, show (2 * d + e) / 2 = d by omega]
  · have hr := p_rk_lt (P := Q) (show x < 2 * d + e by omega) hq
    have h1 := h.2.2.2.2 x (by omega) hq
    have hb := K.be _ hr
    exact ⟨hb.1.trans h1.1, hb.2.1.trans h1.2.1, hb.2.2.trans h1.2.2.1, fun p hp => (K.wb _ (by omega)).trans (h1.2.2.2 p hp)⟩
theorem p_fsend {m m1 : fx_M} {A D : Nat → Nat → Int32} {pl : Nat → Nat} {np : Nat} {Q : Nat → Prop} [DecidablePred Q] {m2 : fx_M} {q n : Nat} {v : Int32} (h : fx_FS m A D pl np Q q m1) (e2 : m2 = fx_kp m1 53 10 v) (hq : q = n) (hv : v = nI (p_rk Q q)) : (none : Option Value) = none ∧ fx_FS m A D pl np Q n m2 ∧ m2.1 53 10 = nI (p_rk Q n) := by
  subst hq
  rw [e2]
  refine ⟨rfl, ⟨fx_kp_on h.1 (Or.inl rfl) (Or.inl rfl), fx_kp_fl5 h.2.1 (by decide), h.2.2.1.trans (fx_kp_qu5 h.2.1 (by decide)), by rw [fx_kp_n (Or.inr (by decide)) (Or.inr (by decide))]; exact h.2.2.2.1, fun x hx hQ => ?_⟩, by rw [fx_kp_0]; exact hv⟩
  rw [fx_kp_n (Or.inl (by decide)) (Or.inl (by decide)), fx_kp_n (Or.inl (by decide)) (Or.inl (by decide)), fx_kp_n (Or.inl (by decide)) (Or.inl (by decide))]
  exact ⟨(h.2.2.2.2 x hx hQ).1, (h.2.2.2.2 x hx hQ).2.1, (h.2.2.2.2 x hx hQ).2.2.1, fun p hp => by rw [fx_kp_n (Or.inl (by decide)) (Or.inl (by decide))]; exact (h.2.2.2.2 x hx hQ).2.2.2 p hp⟩
set_option maxRecDepth 100000 in
set_option maxHeartbeats 600000 in
theorem s_X3_findSlots {Γ : fx_G} {m : fx_M} (S : Nat) (HS : fx_St S) (hL : fx_Lay m) {na nd np : Nat} (hna : m.1 S 2 = nI na) (h8 : na ≤ 8) (hnd : m.1 S 3 = nI nd) (h5 : nd ≤ 5) (hnp : m.1 53 9 = nI np) (h8n : np ≤ 8) {pl : Nat → Nat} (hpl : ∀ p, p < np → m.1 57 p = nI (pl p) ∧ pl p < 8) (hf : fx_fl m) : fx_Ct Γ mX3_findSlots 5 119 119 [fx_rf Γ 53, fx_rf Γ S] m (fun r m' => r = none ∧ fx_FS m (fx_ar m S) (fx_dr m S) pl np (fun x => p_at (fx_ar m S) na (nI (x / 2)) (nI (x % 2)) = none) (2 * nd) m' ∧ m'.1 53 10 = nI (p_rk (fun x => p_at (fx_ar m S) na (nI (x / 2)) (nI (x % 2)) = none) (2 * nd))) := by
  refine fx_Ct.of (j := 3) (by decide) (Nat.le_of_ble_eq_true rfl) (Nat.le_of_ble_eq_true rfl) ?_
  show fx_E Γ mX3_findSlots 5 119 119 _ 119 m 0 [some (fx_rf Γ 53), some (fx_rf Γ S), none, none, none] []
  have lpo : ∀ (jo : Nat) (d : Nat) (m1 : fx_M), d + jo = nd → fx_FS m (fx_ar m S) (fx_dr m S) pl np (fun x => p_at (fx_ar m S) na (nI (x / 2)) (nI (x % 2)) = none) (2 * d) m1 → fx_E Γ mX3_findSlots 5 119 119 (fun r m' => r = none ∧ fx_FS m (fx_ar m S) (fx_dr m S) pl np (fun x => p_at (fx_ar m S) na (nI (x / 2)) (nI (x % 2)) = none) (2 * nd) m' ∧ m'.1 53 10 = nI (p_rk (fun x => p_at (fx_ar m S) na (nI (x / 2)) (nI (x % 2)) = none) (2 * nd))) 119 m1 4 [some (fx_rf Γ 53), some (fx_rf Γ S), some (.int (nI (p_rk (fun x => p_at (fx_ar m S) na (nI (x / 2)) (nI (x % 2)) = none) (2 * d)))), some (.int (nI d)), none] [] := by
    intro jo
    induction jo with
    | zero =>
      intro d m1 hd J
      have hL1 := J.1.lay hL
      have hnp1 : m1.1 53 9 = nI np := by rw [J.2.2.2.1]; exact hnp
      have hpl1 : ∀ p, p < np → m1.1 57 p = nI (pl p) ∧ pl p < 8 := fun p hp => by rw [J.1.2 57 (by decide)]; exact hpl p hp
      have hS0 : m1.1 S = m.1 S := J.1.2 S (by rcases HS with rfl | rfl | rfl <;> decide)
      have hna1 : m1.1 S 2 = nI na := by rw [hS0]; exact hna
      have hnd1 : m1.1 S 3 = nI nd := by rw [hS0]; exact hnd
      have eA : ∀ x, x < 8 → m1.1 (S + 3 + x) = m.1 (S + 3 + x) := fun x hx => J.1.2 _ (by rcases HS with rfl | rfl | rfl <;> omega)
      refine e_iload_n dX3_findSlots_4 rfl ?_
      refine e_aload_n dX3_findSlots_5 rfl ?_
      refine e_getv (v := nI nd) dX3_findSlots_6 ff_X3_86 HS.sh (fx_pi_lt HS.lt) (by decide) rfl hnd1 ?_
      refine e_icmp_ge 56 dX3_findSlots_9 rfl (fun _ => ?_) (fun h => absurd (nI_le (by omega) (by omega)) h)
      refine e_aload_n dX3_findSlots_56 rfl ?_
      refine e_dup dX3_findSlots_57 rfl ?_
      refine e_get dX3_findSlots_58 ff_X3_52 rfl (fx_pi_lt (by decide)) (by decide) rfl ?_
      refine e_iload_n dX3_findSlots_61 rfl ?_
      refine e_aload_n dX3_findSlots_62 rfl ?_
      refine e_get dX3_findSlots_63 ff_X3_49 rfl (fx_pi_lt (by decide)) (by decide) rfl ?_
      refine e_icmp_eq 73 dX3_findSlots_66 rfl (fun c_e => ?_) (fun c_e => ?_)
      · refine e_iconst dX3_findSlots_73 kci_0 ?_
        refine e_ior dX3_findSlots_74 ?_
        refine e_putz dX3_findSlots_75 ff_X3_52 rfl (fx_pi_lt (by decide)) (by decide) rfl (Or.inl rfl) (p_or01 J.2.1 (by first | exact Or.inl rfl | exact Or.inr rfl)) ?_
        refine e_aload_n dX3_findSlots_78 rfl ?_
        refine e_iload_n dX3_findSlots_79 rfl ?_
        refine e_put dX3_findSlots_80 ff_X3_49 rfl (fx_pi_lt (by decide)) (by decide) rfl (Or.inl rfl) ?_
        exact e_vret dX3_findSlots_83 rfl rfl (p_fsend J (by first | (unfold fx_kp; rw [if_pos c_e.symm]; done) | (unfold fx_kp; rw [if_neg (fun h => c_e h.symm)]; done)) (by omega) rfl)
      · refine e_iconst dX3_findSlots_69 kci_1 ?_
        refine e_goto 74 dX3_findSlots_70 rfl ?_
        refine e_ior dX3_findSlots_74 ?_
        refine e_putz dX3_findSlots_75 ff_X3_52 rfl (fx_pi_lt (by decide)) (by decide) rfl (Or.inl rfl) (p_or01 J.2.1 (by first | exact Or.inl rfl | exact Or.inr rfl)) ?_
        refine e_aload_n dX3_findSlots_78 rfl ?_
        refine e_iload_n dX3_findSlots_79 rfl ?_
        refine e_put dX3_findSlots_80 ff_X3_49 rfl (fx_pi_lt (by decide)) (by decide) rfl (Or.inl rfl) ?_
        exact e_vret dX3_findSlots_83 rfl rfl (p_fsend J (by first | (unfold fx_kp; rw [if_pos c_e.symm]; done) | (unfold fx_kp; rw [if_neg (fun h => c_e h.symm)]; done)) (by omega) rfl)
    | succ jo ihO =>
      intro d m1 hd J
      have hL1 := J.1.lay hL
      have hnp1 : m1.1 53 9 = nI np := by rw [J.2.2.2.1]; exact hnp
      have hpl1 : ∀ p, p < np → m1.1 57 p = nI (pl p) ∧ pl p < 8 := fun p hp => by rw [J.1.2 57 (by decide)]; exact hpl p hp
      have hS0 : m1.1 S = m.1 S := J.1.2 S (by rcases HS with rfl | rfl | rfl <;> decide)
      have hna1 : m1.1 S 2 = nI na := by rw [hS0]; exact hna
      have hnd1 : m1.1 S 3 = nI nd := by rw [hS0]; exact hnd
      have eA : ∀ x, x < 8 → m1.1 (S + 3 + x) = m.1 (S + 3 + x) := fun x hx => J.1.2 _ (by rcases HS with rfl | rfl | rfl <;> omega)
      refine e_iload_n dX3_findSlots_4 rfl ?_
      refine e_aload_n dX3_findSlots_5 rfl ?_
      refine e_getv (v := nI nd) dX3_findSlots_6 ff_X3_86 HS.sh (fx_pi_lt HS.lt) (by decide) rfl hnd1 ?_
      refine e_icmp_ge 56 dX3_findSlots_9 rfl (fun h => absurd h (nI_ge (by omega) (by omega))) (fun _ => ?_)
      refine e_iconst dX3_findSlots_12 kci_0 ?_
      refine e_istore dX3_findSlots_13 (by decide) rfl ?_
      have lpi : ∀ (j : Nat) (e : Nat) (m1 : fx_M), e + j = 2 → fx_FS m (fx_ar m S) (fx_dr m S) pl np (fun x => p_at (fx_ar m S) na (nI (x / 2)) (nI (x % 2)) = none) (2 * d + e) m1 → fx_E Γ mX3_findSlots 5 119 119 (fun r m' => r = none ∧ fx_FS m (fx_ar m S) (fx_dr m S) pl np (fun x => p_at (fx_ar m S) na (nI (x / 2)) (nI (x % 2)) = none) (2 * nd) m' ∧ m'.1 53 10 = nI (p_rk (fun x => p_at (fx_ar m S) na (nI (x / 2)) (nI (x % 2)) = none) (2 * nd))) 119 m1 15 [some (fx_rf Γ 53), some (fx_rf Γ S), some (.int (nI (p_rk (fun x => p_at (fx_ar m S) na (nI (x / 2)) (nI (x % 2)) = none) (2 * d + e)))), some (.int (nI d)), some (.int (nI e))] [] := by
        intro j
        induction j with
        | zero =>
          intro e m1 he0 J
          have hL1 := J.1.lay hL
          have hnp1 : m1.1 53 9 = nI np := by rw [J.2.2.2.1]; exact hnp
          have hpl1 : ∀ p, p < np → m1.1 57 p = nI (pl p) ∧ pl p < 8 := fun p hp => by rw [J.1.2 57 (by decide)]; exact hpl p hp
          have hS0 : m1.1 S = m.1 S := J.1.2 S (by rcases HS with rfl | rfl | rfl <;> decide)
          have hna1 : m1.1 S 2 = nI na := by rw [hS0]; exact hna
          have hnd1 : m1.1 S 3 = nI nd := by rw [hS0]; exact hnd
          have eA : ∀ x, x < 8 → m1.1 (S + 3 + x) = m.1 (S + 3 + x) := fun x hx => J.1.2 _ (by rcases HS with rfl | rfl | rfl <;> omega)
          have hrk := p_rk_le (fun x => p_at (fx_ar m S) na (nI (x / 2)) (nI (x % 2)) = none) (2 * d + e)
          refine e_iload dX3_findSlots_15 rfl ?_
          refine e_iconst dX3_findSlots_17 kci_1 ?_
          refine e_icmp_gt 50 dX3_findSlots_18 rfl (fun _ => ?_) (fun h => absurd (show nI 1 < nI e from nI_lt (by omega) (by omega)) h)
          refine e_iinc (v := nI (d + 1)) dX3_findSlots_50 rfl (fx_inc _) (by decide) rfl ?_
          refine e_goto 4 dX3_findSlots_53 rfl ?_
          obtain rfl : e = 2 := by omega
          refine e_weak (lv2 := [some (fx_rf Γ 53), some (fx_rf Γ S), some (.int (nI (p_rk (fun x => p_at (fx_ar m S) na (nI (x / 2)) (nI (x % 2)) = none) (2 * d + 2)))), some (.int (nI (d + 1))), none]) ⟨rfl, rfl, rfl, rfl, trivial⟩ ?_
          exact ihO (d + 1) m1 (by omega) J
        | succ j ihI =>
          intro e m1 he0 J
          have hL1 := J.1.lay hL
          have hnp1 : m1.1 53 9 = nI np := by rw [J.2.2.2.1]; exact hnp
          have hpl1 : ∀ p, p < np → m1.1 57 p = nI (pl p) ∧ pl p < 8 := fun p hp => by rw [J.1.2 57 (by decide)]; exact hpl p hp
          have hS0 : m1.1 S = m.1 S := J.1.2 S (by rcases HS with rfl | rfl | rfl <;> decide)
          have hna1 : m1.1 S 2 = nI na := by rw [hS0]; exact hna
          have hnd1 : m1.1 S 3 = nI nd := by rw [hS0]; exact hnd
          have eA : ∀ x, x < 8 → m1.1 (S + 3 + x) = m.1 (S + 3 + x) := fun x hx => J.1.2 _ (by rcases HS with rfl | rfl | rfl <;> omega)
          have hrk := p_rk_le (fun x => p_at (fx_ar m S) na (nI (x / 2)) (nI (x % 2)) = none) (2 * d + e)
          have eD : m1.1 (S + 11 + d) = m.1 (S + 11 + d) := J.1.2 _ (by rcases HS with rfl | rfl | rfl <;> omega)
          have he : e < 2 := by omega
          refine e_iload dX3_findSlots_15 rfl ?_
          refine e_iconst dX3_findSlots_17 kci_1 ?_
          refine e_icmp_gt 50 dX3_findSlots_18 rfl (fun h => absurd h (Int32.not_lt.mpr (show nI e ≤ nI 1 from nI_le (by omega) (by omega)))) (fun _ => ?_)
          refine e_aload_n dX3_findSlots_21 rfl ?_
          refine e_iload_n dX3_findSlots_22 rfl ?_
          refine e_iload dX3_findSlots_23 rfl ?_
          refine e_callV1 (μ' := mX6_armAt) (ci := 6) (As := [.int (nI d), .int (nI e)]) dX3_findSlots_25 wl_X3_89 ok_X6_armAt HS.sh rfl (fx_pi_lt HS.lt) (by decide) (Nat.le_of_ble_eq_true rfl) fx_n1 (s_X6_armAt (m := m1) S HS hL1 hna1 h8 (nI d) (nI e)) rfl ?_
          rw [show p_at (fx_ar m1 S) na (nI d) (nI e) = p_at (fx_ar m S) na (nI d) (nI e) from p_at_congr (fun x hx => eA x (by omega))]
          refine e_iconst dX3_findSlots_28 kci_m1 ?_
          refine e_icmp_ne 44 dX3_findSlots_29 rfl (fun c_n => ?_) (fun c_n => ?_)
          · refine e_iinc (v := nI (e + 1)) dX3_findSlots_44 rfl (fx_inc _) (by decide) rfl ?_
            refine e_goto 15 dX3_findSlots_47 rfl ?_
            have hQ : ¬ (fun x => p_at (fx_ar m S) na (nI (x / 2)) (nI (x % 2)) = none) (2 * d + e) := fun h => by have h1 : p_at _ _ _ _ = none := h; rw [show (2 * d + e) / 2 = d by omega, show (2 * d + e) % 2 = e by omega] at h1; first | exact c_n (by rw [h1]; rfl) | exact absurd (by rw [h1]; rfl) c_n
            rw [show nI (p_rk (fun x => p_at (fx_ar m S) na (nI (x / 2)) (nI (x % 2)) = none) (2 * d + e)) = nI (p_rk (fun x => p_at (fx_ar m S) na (nI (x / 2)) (nI (x % 2)) = none) (2 * d + (e + 1))) from by rw [← Nat.add_assoc, p_rk_n (P := (fun x => p_at (fx_ar m S) na (nI (x / 2)) (nI (x % 2)) = none)) hQ]]
            exact ihI (e + 1) m1 (by omega) (J.stepN hQ)
          · have hQ : (fun x => p_at (fx_ar m S) na (nI (x / 2)) (nI (x % 2)) = none) (2 * d + e) := by show p_at _ _ _ _ = none; rw [show (2 * d + e) / 2 = d by omega, show (2 * d + e) % 2 = e by omega]; first | exact (p_oi_ne (fun x hx => by have := (p_fd_some hx).2.1; omega)).mp c_n | exact (p_oi_ne (fun x hx => by have := (p_fd_some hx).2.1; omega)).mp (Decidable.not_not.mp c_n)
            refine e_aload_n dX3_findSlots_32 rfl ?_
            refine e_aload_n dX3_findSlots_33 rfl ?_
            refine e_iload_n dX3_findSlots_34 rfl ?_
            refine e_iload_n dX3_findSlots_35 rfl ?_
            refine e_iload dX3_findSlots_36 rfl ?_
            refine e_callV (μ' := mX3_keepSlot) (ci := 3) (As := [fx_rf Γ S, .int (nI (p_rk (fun x => p_at (fx_ar m S) na (nI (x / 2)) (nI (x % 2)) = none) (2 * d + e))), .int (nI d), .int (nI e)]) dX3_findSlots_38 wl_X3_93 ok_X3_keepSlot rfl rfl (fx_pi_lt (by decide)) (by decide) (Nat.le_of_ble_eq_true rfl) fx_n1 (s_X3_keepSlot (m := m1) S HS hL1 (np := np) (t := p_rk (fun x => p_at (fx_ar m S) na (nI (x / 2)) (nI (x % 2)) = none) (2 * d + e)) (d := d) hnp1 h8n (by omega) (by omega) (pl := pl) hpl1 J.2.1 (nI e)) rfl (fun r_ m_ hpost => ?_)
            obtain ⟨rfl, K, hv⟩ := hpost
            have J2 : fx_FS m (fx_ar m S) (fx_dr m S) pl np (fun x => p_at (fx_ar m S) na (nI (x / 2)) (nI (x % 2)) = none) (2 * d + (e + 1)) m_ := J.step he h8n hQ K hv (fun p hp => by rw [p_farA, p_farA, show fx_ar m1 S (pl p) = fx_ar m S (pl p) from eA _ (hpl p hp).2, show fx_dr m1 S d = fx_dr m S d from eD]) (p_sN_congr (fun p hp => by rw [show fx_ar m1 S (pl p) = fx_ar m S (pl p) from eA _ (hpl p hp).2, show fx_dr m1 S d = fx_dr m S d from eD]))
            refine e_iinc (v := nI ((p_rk (fun x => p_at (fx_ar m S) na (nI (x / 2)) (nI (x % 2)) = none) (2 * d + e)) + 1)) dX3_findSlots_41 rfl (fx_inc _) (by decide) rfl ?_
            refine e_iinc (v := nI (e + 1)) dX3_findSlots_44 rfl (fx_inc _) (by decide) rfl ?_
            refine e_goto 15 dX3_findSlots_47 rfl ?_
            rw [show nI (p_rk (fun x => p_at (fx_ar m S) na (nI (x / 2)) (nI (x % 2)) = none) (2 * d + e) + 1) = nI (p_rk (fun x => p_at (fx_ar m S) na (nI (x / 2)) (nI (x % 2)) = none) (2 * d + (e + 1))) from by rw [← Nat.add_assoc, p_rk_y (P := (fun x => p_at (fx_ar m S) na (nI (x / 2)) (nI (x % 2)) = none)) hQ]]
            exact ihI (e + 1) m_ (by omega) J2
      exact lpi 2 0 m1 (by omega) J
  refine e_iconst dX3_findSlots_0 kci_0 ?_
  refine e_istore_n dX3_findSlots_1 (by decide) rfl ?_
  refine e_iconst dX3_findSlots_2 kci_0 ?_
  refine e_istore_n dX3_findSlots_3 (by decide) rfl ?_
  exact lpo nd 0 m (by omega) ⟨fx_oP.refl _ m, hf, fx_qu.refl m, rfl, fun x hx => absurd hx (by omega)⟩
