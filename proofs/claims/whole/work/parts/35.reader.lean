/-! the reader: tx a text's letters, n how many -/
def p_tc (tx : Nat → Int32) (n p : Nat) : Int32 := if p < n then tx p else -1
abbrev p_dg (c : Int32) : Prop := 48 ≤ c ∧ c ≤ 57
def p_dv (c : Int32) : Nat := p_ix (c - 48)
def p_dgR (c : Int32) : Int32 := if p_dg c then c - 48 else -1
theorem p_dg_v {c : Int32} (h : p_dg c) : c - 48 = nI (p_dv c) ∧ p_dv c ≤ 9 := by
  obtain ⟨j, hj, rfl⟩ := nI_of (x := c) (Int32.not_lt.mpr (Int32.le_trans (by decide) h.1))
  have h1 : 48 ≤ j := (nI_leI (a := 48) (by decide) hj).mp h.1
  have h2 : j ≤ 57 := (nI_leI (b := 57) hj (by decide)).mp h.2
  have e : nI j - 48 = nI (j - 48) := pk_sub (b := 48) h1
  rw [p_dv, e, p_ix_n (by omega)]
  exact ⟨rfl, by omega⟩
theorem p_dgR_y {c : Int32} (h : p_dg c) : p_dgR c = nI (p_dv c) := by rw [p_dgR, if_pos h]; exact (p_dg_v h).1
theorem p_dgR_n {c : Int32} : p_dgR c = -1 ↔ ¬ p_dg c := by
  constructor
  · intro h q
    rw [p_dgR_y q] at h
    have := (p_dg_v q).2
    exact absurd (h ▸ nI_pos' (show p_dv c < 2 ^ 31 by omega)) (by decide)
  · intro h; exact if_neg h
def p_nmF (tx : Nat → Int32) (n p : Nat) : Option Nat := if ¬ p_tc tx n p = 32 then some p else if ¬ p_dg (p_tc tx n (p + 1)) then some (p + 1) else none
def p_nmV (tx : Nat → Int32) (n p : Nat) : Nat := if p_dg (p_tc tx n (p + 2)) then 10 * p_dv (p_tc tx n (p + 1)) + p_dv (p_tc tx n (p + 2)) else p_dv (p_tc tx n (p + 1))
def p_nmP (tx : Nat → Int32) (n p : Nat) : Nat := if p_dg (p_tc tx n (p + 2)) then p + 3 else p + 2
def p_nmR (tx : Nat → Int32) (n p : Nat) : Int32 := match p_nmF tx n p with | none => nI (p_nmV tx n p) | some _ => -1
theorem p_tc_in {tx : Nat → Int32} {n p : Nat} {c : Int32} (h : p_tc tx n p = c) (hc : c ≠ -1) : p < n := by
  unfold p_tc at h
  split at h
  · assumption
  · exact absurd h.symm hc
theorem p_dg_in {tx : Nat → Int32} {n p : Nat} (h : p_dg (p_tc tx n p)) : p < n := p_tc_in rfl (fun e => by rw [e] at h; exact absurd h.1 (by decide))
theorem p_nmF_n {tx : Nat → Int32} {n p : Nat} (h : p_nmF tx n p = none) : p_tc tx n p = 32 ∧ p_dg (p_tc tx n (p + 1)) := by
  unfold p_nmF at h
  split at h
  · cases h
  · split at h
    · cases h
    · exact ⟨Decidable.not_not.mp (by assumption), Decidable.not_not.mp (by assumption)⟩
theorem p_nmV_le {tx : Nat → Int32} {n p : Nat} (h : p_nmF tx n p = none) : p_nmV tx n p ≤ 99 := by
  have h1 := (p_dg_v (p_nmF_n h).2).2
  unfold p_nmV
  split
  · rename_i h2
    have := (p_dg_v h2).2
    omega
  · omega
theorem p_nmP_in {tx : Nat → Int32} {n p : Nat} (h : p_nmF tx n p = none) : p + 2 ≤ p_nmP tx n p ∧ p_nmP tx n p ≤ n := by
  have h1 := p_dg_in (p_nmF_n h).2
  unfold p_nmP
  split
  · rename_i h2
    have := p_dg_in h2
    omega
  · omega
theorem p_nmR_y {tx : Nat → Int32} {n p : Nat} (h : p_nmF tx n p = none) : p_nmR tx n p = nI (p_nmV tx n p) := by rw [p_nmR, h]
theorem p_nmR_n {tx : Nat → Int32} {n p : Nat} : ¬ p_nmR tx n p = -1 ↔ p_nmF tx n p = none := by
  cases h : p_nmF tx n p with
  | none =>
    rw [p_nmR_y h]
    have := p_nmV_le h
    exact ⟨fun _ => rfl, fun _ e => absurd (e ▸ nI_pos' (show p_nmV tx n p < 2 ^ 31 by omega)) (by decide)⟩
  | some f =>
    rw [p_nmR, h]
    exact ⟨fun q => absurd rfl q, fun q => by cases q⟩
def p_spI (tx : Nat → Int32) (n : Nat) (w : List Int32) : Nat → Nat → Nat → Option Nat
  | 0, _, _ => none
  | j + 1, i, p => if p_tc tx n p = w.getD i 0 then p_spI tx n w j (i + 1) (p + 1) else some p
def p_pls (tx : Nat → Int32) (n p : Nat) : Nat → Nat
  | 0 => p
  | i + 1 => p_nmP tx n (p_pls tx n p i)
def p_nmsF (tx : Nat → Int32) (n : Nat) (lo hi : Nat → Int32) (p : Nat) : Nat → Nat → Option Nat
  | 0, _ => none
  | j + 1, i => match p_nmF tx n (p_pls tx n p i) with
    | some f => some f
    | none => if nI (p_nmV tx n (p_pls tx n p i)) < lo i then some (p_pls tx n p i + 1) else if ¬ nI (p_nmV tx n (p_pls tx n p i)) ≤ hi i then some (p_pls tx n p i + 1) else p_nmsF tx n lo hi p j (i + 1)
/-- the reader's state: text in shelf k, told the stock at 33 -/
def fx_RS (k n : Nat) (tx : Nat → Int32) (m : fx_M) (na nd : Nat) (t : p_Sg) (p : Nat) : Prop :=
  m.2.2 51 2 = some (67 + 2 * k) ∧ m.2.2 51 1 = some 33 ∧ m.1 51 3 = nI p ∧ fx_HT m 33 na nd t ∧ fx_Lay m ∧ m.1 (67 + 2 * k) 2 = nI n ∧ (∀ j, j < n → (m.2.1 (67 + 2 * k + 1) j).toInt32 = tx j) ∧ fx_J 33 m ∧ na ≤ 8 ∧ nd ≤ 5 ∧ k < 8 ∧ n ≤ 160 ∧ p ≤ n
theorem fx_RS.on {k n : Nat} {tx : Nat → Int32} {m m' : fx_M} {na nd : Nat} {t : p_Sg} {p p' : Nat} (R : fx_RS k n tx m na nd t p) (o : fx_oP (fun o => o = 51 ∨ o = 52) m m') (h3 : m'.1 51 3 = nI p') (hp : p' ≤ n) : fx_RS k n tx m' na nd t p' := by
  obtain ⟨r1, r2, r3, r4, r5, r6, r7, r8, r9, r10, r11, r12, r13⟩ := R
  refine ⟨by rw [o.1]; exact r1, by rw [o.1]; exact r2, h3, ⟨by rw [o.2 33 (by decide)]; exact r4.1, by rw [o.2 33 (by decide)]; exact r4.2.1, fun x hx => by rw [o.2 _ (by omega)]; exact r4.2.2.1 x hx, fun x hx => by rw [o.2 _ (by omega)]; exact r4.2.2.2.1 x hx, fun j hj => by rw [o.2 33 (by decide)]; exact r4.2.2.2.2 j hj⟩, o.lay r5, by rw [o.2 _ (by omega)]; exact r6, fun j hj => by rw [o.1]; exact r7 j hj, fun a b h => by rw [o.2 a (by omega)]; exact r8 a b h, r9, r10, r11, r12, hp⟩
theorem fx_RS.p3 {k n : Nat} {tx : Nat → Int32} {m : fx_M} {na nd : Nat} {t : p_Sg} {p p' : Nat} (R : fx_RS k n tx m na nd t p) (hp : p' ≤ n) : fx_RS k n tx (fx_sI m 51 3 (nI p')) na nd t p' := R.on ((fx_oP.refl _ m).sI (Or.inl rfl)) fx_rd0 hp
theorem fx_RS.pk {k n : Nat} {tx : Nat → Int32} {m : fx_M} {na nd : Nat} {t : p_Sg} {p j : Nat} {v : Int32} (R : fx_RS k n tx m na nd t p) (hj : j ≠ 3) : fx_RS k n tx (fx_sI m 51 j v) na nd t p := R.on ((fx_oP.refl _ m).sI (Or.inl rfl)) (by rw [fx_rd2 hj]; exact R.2.2.1) R.2.2.2.2.2.2.2.2.2.2.2.2
theorem fx_RS.rd {k n : Nat} {tx : Nat → Int32} {m : fx_M} {na nd : Nat} {t : p_Sg} {p : Nat} (R : fx_RS k n tx m na nd t p) {q : Nat} (hq : q < 2 ^ 31) : p_rd (m.2.1 (67 + 2 * k + 1)) (nI n) (nI q) = p_tc tx n q := by
  have hn : n ≤ 160 := R.2.2.2.2.2.2.2.2.2.2.2.1
  unfold p_tc
  by_cases c : q < n
  · rw [if_pos c, p_rd_in c (by omega), R.2.2.2.2.2.2.1 q c]
  · rw [if_neg c, p_rd_out (fun h => c ((nI_ltI hq (by omega)).mp h.2))]
theorem fx_o51 {m m' : fx_M} {j : Nat} {v : Int32} (h : fx_oP (fun o => o = 51) m m') : fx_oP (fun o => o = 51) m (fx_sI m' 51 j v) := h.sI rfl
/-- the end of a number's reading -/
def fx_NR (n : Nat) (tx : Nat → Int32) (m : fx_M) (p : Nat) (r : Option Value) (m' : fx_M) : Prop :=
  r = some (.int (p_nmR tx n p)) ∧ fx_oP (fun o => o = 51) m m' ∧ m'.1 51 4 = m.1 51 4 ∧ (∀ f, p_nmF tx n p = some f → m'.1 51 0 = nI f) ∧ (p_nmF tx n p = none → m'.1 51 3 = nI (p_nmP tx n p) ∧ m'.1 51 5 = nI (p + 1) ∧ m'.1 51 0 = m.1 51 0)
set_option maxRecDepth 100000 in
set_option maxHeartbeats 600000 in
theorem s_X4_stopAt {Γ : fx_G} {m : fx_M} (f : Int32) : fx_Ct Γ mX4_stopAt 0 119 119 [fx_rf Γ 51, .int f] m (fx_is (some (.int 0)) (fx_sI m 51 0 f)) := by
  refine fx_Ct.of (j := 0) (by decide) (Nat.le_of_ble_eq_true rfl) (Nat.le_of_ble_eq_true rfl) ?_
  show fx_E Γ mX4_stopAt 0 119 119 _ 119 m 0 [some (fx_rf Γ 51), some (.int f)] []
  refine e_aload_n dX4_stopAt_0 rfl ?_
  refine e_iload_n dX4_stopAt_1 rfl ?_
  refine e_put dX4_stopAt_2 ff_X4_9 rfl (fx_pi_lt (by decide)) (by decide) rfl (Or.inl rfl) ?_
  refine e_iconst dX4_stopAt_5 kci_0 ?_
  exact e_iret dX4_stopAt_6 rfl rfl rfl ⟨rfl, rfl⟩
set_option maxRecDepth 100000 in
set_option maxHeartbeats 600000 in
theorem s_X4_digitOf {Γ : fx_G} {m : fx_M} (c : Int32) : fx_Ct Γ mX4_digitOf 0 119 119 [.int c] m (fx_is (some (.int (p_dgR c))) m) := by
  refine fx_Ct.of (j := 0) (by decide) (Nat.le_of_ble_eq_true rfl) (Nat.le_of_ble_eq_true rfl) ?_
  show fx_E Γ mX4_digitOf 0 119 119 _ 119 m 0 [some (.int c)] []
  refine e_iload_n dX4_digitOf_0 rfl ?_
  refine e_bipush dX4_digitOf_1 kcb_48 ?_
  refine e_icmp_lt 19 dX4_digitOf_3 rfl (fun c_1 => ?_) (fun c_1 => ?_)
  · refine e_iconst dX4_digitOf_19 kci_m1 ?_
    exact e_iret dX4_digitOf_20 rfl rfl rfl ⟨by rw [p_dgR, if_neg (by rintro ⟨h1, h2⟩; first | exact absurd h1 (Int32.not_le.mpr c_1) | exact absurd h2 (Int32.not_le.mpr c_2))], rfl⟩
  · refine e_iload_n dX4_digitOf_6 rfl ?_
    refine e_bipush dX4_digitOf_7 kcb_57 ?_
    refine e_icmp_gt 19 dX4_digitOf_9 rfl (fun c_2 => ?_) (fun c_2 => ?_)
    · refine e_iconst dX4_digitOf_19 kci_m1 ?_
      exact e_iret dX4_digitOf_20 rfl rfl rfl ⟨by rw [p_dgR, if_neg (by rintro ⟨h1, h2⟩; first | exact absurd h1 (Int32.not_le.mpr c_1) | exact absurd h2 (Int32.not_le.mpr c_2))], rfl⟩
    · refine e_iload_n dX4_digitOf_12 rfl ?_
      refine e_bipush dX4_digitOf_13 kcb_48 ?_
      refine e_isub dX4_digitOf_15 ?_
      refine e_goto 20 dX4_digitOf_16 rfl ?_
      exact e_iret dX4_digitOf_20 rfl rfl rfl ⟨by rw [p_dgR, if_pos ⟨Int32.not_lt.mp c_1, Int32.not_lt.mp c_2⟩], rfl⟩
set_option maxRecDepth 100000 in
set_option maxHeartbeats 600000 in
theorem s_X4_readNumber {Γ : fx_G} {m : fx_M} {k n : Nat} {tx : Nat → Int32} {na nd : Nat} {t : p_Sg} {p : Nat} (R : fx_RS k n tx m na nd t p) : fx_Ct Γ mX4_readNumber 1 119 119 [fx_rf Γ 51] m (fx_NR n tx m p) := by
  refine fx_Ct.of (j := 2) (by decide) (Nat.le_of_ble_eq_true rfl) (Nat.le_of_ble_eq_true rfl) ?_
  show fx_E Γ mX4_readNumber 1 119 119 _ 119 m 0 [some (fx_rf Γ 51), none, none] []
  have hk : k < 8 := R.2.2.2.2.2.2.2.2.2.2.1
  have hn : n ≤ 160 := R.2.2.2.2.2.2.2.2.2.2.2.1
  have hp : p ≤ n := R.2.2.2.2.2.2.2.2.2.2.2.2
  refine e_aload_n dX4_readNumber_0 rfl ?_
  refine e_getr (o2 := 67 + 2 * k) dX4_readNumber_1 ff_X4_32 rfl (fx_pi_lt (by decide)) (by decide) rfl R.1 ?_
  refine e_aload_n dX4_readNumber_4 rfl ?_
  refine e_getv (v := nI (p)) dX4_readNumber_5 ff_X4_15 rfl (fx_pi_lt (by decide)) (by decide) rfl R.2.2.1 ?_
  refine e_callV (μ' := mX5_read) (ci := 5) (As := [.int (nI (p))]) dX4_readNumber_8 wl_X4_51 ok_X5_read (fx_Sf.mk hk).sh rfl (fx_pi_lt (fx_Sf.mk hk).lt) (by decide) (Nat.le_of_ble_eq_true rfl) fx_n1 (s_X5_read (m := m) (67 + 2 * k) (fx_Sf.mk hk) R.2.2.2.2.1 (c := n) hn R.2.2.2.2.2.1 (nI (p))) rfl (fun r_ m_ hpost => ?_)
  obtain ⟨rfl, e2⟩ := hpost
  have e2 := e2.symm
  subst e2
  rw [R.rd (q := (p)) (by omega)]
  refine e_bipush dX4_readNumber_11 kcb_32 ?_
  refine e_icmp_eq 27 dX4_readNumber_13 rfl (fun c_1 => ?_) (fun c_1 => ?_)
  · have hp1 : p < n := p_tc_in c_1 (by decide)
    refine e_aload_n dX4_readNumber_27 rfl ?_
    refine e_dup dX4_readNumber_28 rfl ?_
    refine e_getv (v := nI (p)) dX4_readNumber_29 ff_X4_15 rfl (fx_pi_lt (by decide)) (by decide) rfl R.2.2.1 ?_
    refine e_iconst dX4_readNumber_32 kci_1 ?_
    refine e_iadd dX4_readNumber_33 ?_
    rw [nI_1]
    refine e_put dX4_readNumber_34 ff_X4_15 rfl (fx_pi_lt (by decide)) (by decide) rfl (Or.inl rfl) ?_
    have R1 := R.p3 (p' := p + 1) (by omega)
    refine e_aload_n dX4_readNumber_37 rfl ?_
    refine e_aload_n dX4_readNumber_38 rfl ?_
    refine e_getv (v := nI (p + 1)) dX4_readNumber_39 ff_X4_15 rfl (fx_pi_lt (by decide)) (by decide) rfl R1.2.2.1 ?_
    refine e_put dX4_readNumber_42 ff_X4_21 rfl (fx_pi_lt (by decide)) (by decide) rfl (Or.inl rfl) ?_
    have R2 := R1.pk (j := 5) (v := nI (p + 1)) (by decide)
    refine e_aload_n dX4_readNumber_45 rfl ?_
    refine e_getr (o2 := 67 + 2 * k) dX4_readNumber_46 ff_X4_32 rfl (fx_pi_lt (by decide)) (by decide) rfl R2.1 ?_
    refine e_aload_n dX4_readNumber_49 rfl ?_
    refine e_getv (v := nI (p + 1)) dX4_readNumber_50 ff_X4_15 rfl (fx_pi_lt (by decide)) (by decide) rfl R2.2.2.1 ?_
    refine e_callV (μ' := mX5_read) (ci := 5) (As := [.int (nI (p + 1))]) dX4_readNumber_53 wl_X4_51 ok_X5_read (fx_Sf.mk hk).sh rfl (fx_pi_lt (fx_Sf.mk hk).lt) (by decide) (Nat.le_of_ble_eq_true rfl) fx_n1 (s_X5_read (m := fx_sI (fx_sI m 51 3 (nI (p + 1))) 51 5 (nI (p + 1))) (67 + 2 * k) (fx_Sf.mk hk) R2.2.2.2.2.1 (c := n) hn R2.2.2.2.2.2.1 (nI (p + 1))) rfl (fun r_ m_ hpost => ?_)
    obtain ⟨rfl, e2⟩ := hpost
    have e2 := e2.symm
    subst e2
    rw [R2.rd (q := (p + 1)) (by omega)]
    refine e_callS1 (μ' := mX4_digitOf) (As := [.int (p_tc tx n (p + 1))]) dX4_readNumber_56 wl_X4_167 ok_X4_digitOf (by decide) (Nat.le_of_ble_eq_true rfl) fx_n1 (s_X4_digitOf (m := fx_sI (fx_sI m 51 3 (nI (p + 1))) 51 5 (nI (p + 1))) (p_tc tx n (p + 1))) rfl ?_
    refine e_istore_n dX4_readNumber_59 (by decide) rfl ?_
    refine e_iload_n dX4_readNumber_60 rfl ?_
    refine e_iconst dX4_readNumber_61 kci_m1 ?_
    refine e_icmp_ne 76 dX4_readNumber_62 rfl (fun c_2 => ?_) (fun c_2 => ?_)
    · have hp2 : p + 1 < n := p_dg_in (Decidable.not_not.mp (mt p_dgR_n.mpr c_2))
      refine e_aload_n dX4_readNumber_76 rfl ?_
      refine e_dup dX4_readNumber_77 rfl ?_
      refine e_getv (v := nI (p + 1)) dX4_readNumber_78 ff_X4_15 rfl (fx_pi_lt (by decide)) (by decide) rfl R2.2.2.1 ?_
      refine e_iconst dX4_readNumber_81 kci_1 ?_
      refine e_iadd dX4_readNumber_82 ?_
      rw [nI_1]
      refine e_put dX4_readNumber_83 ff_X4_15 rfl (fx_pi_lt (by decide)) (by decide) rfl (Or.inl rfl) ?_
      have R3 := R2.p3 (p' := p + 2) (by omega)
      refine e_aload_n dX4_readNumber_86 rfl ?_
      refine e_getr (o2 := 67 + 2 * k) dX4_readNumber_87 ff_X4_32 rfl (fx_pi_lt (by decide)) (by decide) rfl R3.1 ?_
      refine e_aload_n dX4_readNumber_90 rfl ?_
      refine e_getv (v := nI (p + 2)) dX4_readNumber_91 ff_X4_15 rfl (fx_pi_lt (by decide)) (by decide) rfl R3.2.2.1 ?_
      refine e_callV (μ' := mX5_read) (ci := 5) (As := [.int (nI (p + 2))]) dX4_readNumber_94 wl_X4_51 ok_X5_read (fx_Sf.mk hk).sh rfl (fx_pi_lt (fx_Sf.mk hk).lt) (by decide) (Nat.le_of_ble_eq_true rfl) fx_n1 (s_X5_read (m := fx_sI (fx_sI (fx_sI m 51 3 (nI (p + 1))) 51 5 (nI (p + 1))) 51 3 (nI (p + 2))) (67 + 2 * k) (fx_Sf.mk hk) R3.2.2.2.2.1 (c := n) hn R3.2.2.2.2.2.1 (nI (p + 2))) rfl (fun r_ m_ hpost => ?_)
      obtain ⟨rfl, e2⟩ := hpost
      have e2 := e2.symm
      subst e2
      rw [R3.rd (q := (p + 2)) (by omega)]
      refine e_callS1 (μ' := mX4_digitOf) (As := [.int (p_tc tx n (p + 2))]) dX4_readNumber_97 wl_X4_167 ok_X4_digitOf (by decide) (Nat.le_of_ble_eq_true rfl) fx_n1 (s_X4_digitOf (m := fx_sI (fx_sI (fx_sI m 51 3 (nI (p + 1))) 51 5 (nI (p + 1))) 51 3 (nI (p + 2))) (p_tc tx n (p + 2))) rfl ?_
      refine e_istore_n dX4_readNumber_100 (by decide) rfl ?_
      refine e_iload_n dX4_readNumber_101 rfl ?_
      refine e_iconst dX4_readNumber_102 kci_m1 ?_
      refine e_icmp_ne 108 dX4_readNumber_103 rfl (fun c_3 => ?_) (fun c_3 => ?_)
      · have hp3 : p + 2 < n := p_dg_in (Decidable.not_not.mp (mt p_dgR_n.mpr c_3))
        refine e_aload_n dX4_readNumber_108 rfl ?_
        refine e_dup dX4_readNumber_109 rfl ?_
        refine e_getv (v := nI (p + 2)) dX4_readNumber_110 ff_X4_15 rfl (fx_pi_lt (by decide)) (by decide) rfl R3.2.2.1 ?_
        refine e_iconst dX4_readNumber_113 kci_1 ?_
        refine e_iadd dX4_readNumber_114 ?_
        rw [nI_1]
        refine e_put dX4_readNumber_115 ff_X4_15 rfl (fx_pi_lt (by decide)) (by decide) rfl (Or.inl rfl) ?_
        have R4 := R3.p3 (p' := p + 3) (by omega)
        refine e_bipush dX4_readNumber_118 kcb_10 ?_
        refine e_iload_n dX4_readNumber_120 rfl ?_
        refine e_imul dX4_readNumber_121 ?_
        refine e_iload_n dX4_readNumber_122 rfl ?_
        refine e_iadd dX4_readNumber_123 ?_
        have hd1 := Decidable.not_not.mp (mt p_dgR_n.mpr c_2)
        have hF : p_nmF tx n p = none := by rw [p_nmF, if_neg (Decidable.not_not.mpr c_1), if_neg (Decidable.not_not.mpr hd1)]
        have hd2 := Decidable.not_not.mp (mt p_dgR_n.mpr c_3)
        exact e_iret dX4_readNumber_124 rfl rfl rfl ⟨by rw [p_nmR_y hF, p_nmV, if_pos hd2, p_dgR_y hd1, p_dgR_y hd2, show (10 : Int32) = nI 10 from rfl, pk_mul, nI_add], (by first | exact fx_o51 (fx_oP.refl _ m) | exact fx_o51 (fx_o51 (fx_oP.refl _ m)) | exact fx_o51 (fx_o51 (fx_o51 (fx_oP.refl _ m))) | exact fx_o51 (fx_o51 (fx_o51 (fx_o51 (fx_oP.refl _ m))))), (by simp [fx_sI]), fun f hf => (by rw [hF] at hf; cases hf), fun _ => ⟨by rw [p_nmP, if_pos hd2]; exact fx_rd0, by simp [fx_sI], by simp [fx_sI]⟩⟩
      · refine e_iload_n dX4_readNumber_106 rfl ?_
        have hd1 := Decidable.not_not.mp (mt p_dgR_n.mpr c_2)
        have hF : p_nmF tx n p = none := by rw [p_nmF, if_neg (Decidable.not_not.mpr c_1), if_neg (Decidable.not_not.mpr hd1)]
        have hd2 := p_dgR_n.mp c_3
        exact e_iret dX4_readNumber_107 rfl rfl rfl ⟨by rw [p_nmR_y hF, p_nmV, if_neg hd2, p_dgR_y hd1], (by first | exact fx_o51 (fx_oP.refl _ m) | exact fx_o51 (fx_o51 (fx_oP.refl _ m)) | exact fx_o51 (fx_o51 (fx_o51 (fx_oP.refl _ m))) | exact fx_o51 (fx_o51 (fx_o51 (fx_o51 (fx_oP.refl _ m))))), (by simp [fx_sI]), fun f hf => (by rw [hF] at hf; cases hf), fun _ => ⟨by rw [p_nmP, if_neg hd2]; exact fx_rd0, by simp [fx_sI], by simp [fx_sI]⟩⟩
    · refine e_aload_n dX4_readNumber_65 rfl ?_
      refine e_aload_n dX4_readNumber_66 rfl ?_
      refine e_getv (v := nI (p + 1)) dX4_readNumber_67 ff_X4_15 rfl (fx_pi_lt (by decide)) (by decide) rfl R2.2.2.1 ?_
      refine e_callV1 (μ' := mX4_stopAt) (ci := 4) (As := [.int (nI (p + 1))]) dX4_readNumber_70 wl_X4_80 ok_X4_stopAt rfl rfl (fx_pi_lt (by decide)) (by decide) (Nat.le_of_ble_eq_true rfl) fx_n1 (s_X4_stopAt (m := fx_sI (fx_sI m 51 3 (nI (p + 1))) 51 5 (nI (p + 1))) (nI (p + 1))) rfl ?_
      refine e_pop dX4_readNumber_73 rfl ?_
      refine e_iconst dX4_readNumber_74 kci_m1 ?_
      have hF : p_nmF tx n p = some (p + 1) := by rw [p_nmF, if_neg (Decidable.not_not.mpr c_1), if_pos (p_dgR_n.mp c_2)]
      exact e_iret dX4_readNumber_75 rfl rfl rfl ⟨by rw [p_nmR, hF], (by first | exact fx_o51 (fx_oP.refl _ m) | exact fx_o51 (fx_o51 (fx_oP.refl _ m)) | exact fx_o51 (fx_o51 (fx_o51 (fx_oP.refl _ m))) | exact fx_o51 (fx_o51 (fx_o51 (fx_o51 (fx_oP.refl _ m))))), (by simp [fx_sI]), fun f hf => by rw [hF] at hf; cases hf; exact fx_rd0, fun h => by rw [hF] at h; cases h⟩
  · refine e_aload_n dX4_readNumber_16 rfl ?_
    refine e_aload_n dX4_readNumber_17 rfl ?_
    refine e_getv (v := nI (p)) dX4_readNumber_18 ff_X4_15 rfl (fx_pi_lt (by decide)) (by decide) rfl R.2.2.1 ?_
    refine e_callV1 (μ' := mX4_stopAt) (ci := 4) (As := [.int (nI (p))]) dX4_readNumber_21 wl_X4_80 ok_X4_stopAt rfl rfl (fx_pi_lt (by decide)) (by decide) (Nat.le_of_ble_eq_true rfl) fx_n1 (s_X4_stopAt (m := m) (nI (p))) rfl ?_
    refine e_pop dX4_readNumber_24 rfl ?_
    refine e_iconst dX4_readNumber_25 kci_m1 ?_
    have hF : p_nmF tx n p = some p := by rw [p_nmF, if_pos c_1]
    exact e_iret dX4_readNumber_26 rfl rfl rfl ⟨by rw [p_nmR, hF], (by first | exact fx_o51 (fx_oP.refl _ m) | exact fx_o51 (fx_o51 (fx_oP.refl _ m)) | exact fx_o51 (fx_o51 (fx_o51 (fx_oP.refl _ m))) | exact fx_o51 (fx_o51 (fx_o51 (fx_o51 (fx_oP.refl _ m))))), (by simp [fx_sI]), fun f hf => by rw [hF] at hf; cases hf; exact fx_rd0, fun h => by rw [hF] at h; cases h⟩
