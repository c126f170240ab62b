abbrev p_mQ (A D : Nat → Nat → Int32) (na nd : Nat) (o : Option Nat) (j s x : Nat) : Prop := p_PD A D na o j x ∧ s.testBit x = false ∧ 1000 - p_farA A D x (j / 2) + p_mG A D na nd o (j + 1) (s + 2 ^ x) = p_mG A D na nd o j s
def p_mf (A D : Nat → Nat → Int32) (na nd : Nat) (o : Option Nat) (j s : Nat) : Option Nat := p_fd (p_mQ A D na nd o j s) na 0
def p_mgv (A D : Nat → Nat → Int32) (na nd : Nat) (o : Option Nat) : Nat → Nat → Nat → Option Nat
  | 0, j, s => p_mf A D na nd o j s
  | r + 1, j, s => p_mgv A D na nd o r (j + 1) (match p_mf A D na nd o j s with | none => s | some x => s + 2 ^ x)
theorem p_mf_s {A D : Nat → Nat → Int32} {na nd : Nat} {o : Option Nat} {j s x : Nat} (h : p_mf A D na nd o j s = some x) : x < na ∧ s.testBit x = false := by
  have q := p_fd_some h
  exact ⟨by omega, q.2.2.2.1⟩
theorem p_mgv_n {A D : Nat → Nat → Int32} {na nd : Nat} {o : Option Nat} {r j s : Nat} (h : p_mf A D na nd o j s = none) : p_mgv A D na nd o (r + 1) j s = p_mgv A D na nd o r (j + 1) s := by rw [p_mgv, h]
theorem p_mgv_s {A D : Nat → Nat → Int32} {na nd : Nat} {o : Option Nat} {r j s x : Nat} (h : p_mf A D na nd o j s = some x) : p_mgv A D na nd o (r + 1) j s = p_mgv A D na nd o r (j + 1) (s + 2 ^ x) := by rw [p_mgv, h]
def q_mGiv (A D : Nat → Nat → Int32) (na nd : Nat) (x : Int32) : Nat × Int32 := if ¬ p_el x (nI (2 * nd)) then p_no10 5 else (0, p_oi (p_mgv A D na nd none (p_ix x) 0 0))
theorem p_fd_y2 {P : Nat → Prop} [DecidablePred P] {n k : Nat} (h : P k) : p_fd P (n + 1) k = some k := if_pos h
theorem p_fd_n2 {P : Nat → Prop} [DecidablePred P] {n k : Nat} (h : ¬ P k) : p_fd P (n + 1) k = p_fd P n (k + 1) := if_neg h
theorem p_in_el {x : Int32} {n : Nat} (h : n < 2 ^ 31) : p_in x 0 (nI n - 1) ↔ p_el x (nI n) := by
  have e : (nI n - 1).toInt = (n : Int) - 1 := by rw [fb_subI (by rw [nI_toInt h, show (1 : Int32).toInt = 1 from rfl]; omega) (by rw [nI_toInt h, show (1 : Int32).toInt = 1 from rfl]; omega), nI_toInt h]; rfl
  rw [p_inT, e, show (0 : Int32).toInt = 0 from rfl]
  show _ ↔ (0 ≤ x ∧ x < nI n)
  rw [Int32.le_iff_toInt_le, Int32.lt_iff_toInt_lt, nI_toInt h, show (0 : Int32).toInt = 0 from rfl]
  omega
theorem i_mulc2 {a : Nat} : (2 : Int32) * nI a = nI (2 * a) := i_mulc 2 a
set_option maxRecDepth 100000 in
set_option maxHeartbeats 600000 in
theorem s_X9_given {Γ : fx_G} {m : fx_M} (hL : fx_Lay m) {na nd : Nat} {t : p_Sg} (H : fx_MS m na nd t) (hwo : m.1 83 44 = -1) (x : Int32) : fx_Ct Γ mX9_given 6 119 119 [fx_rf Γ 83, .int x] m (fun r m' => r = some (.int (q_mGiv t.1 t.2.1 na nd x).2) ∧ fx_KP (fx_mno m (q_mGiv t.1 t.2.1 na nd x).1) m') := by
  refine fx_Ct.of (j := 4) (by decide) (Nat.le_of_ble_eq_true rfl) (Nat.le_of_ble_eq_true rfl) ?_
  show fx_E Γ mX9_given 6 119 119 _ 119 m 0 [some (fx_rf Γ 83), some (.int x), none, none, none, none] []
  have h9 := H.2.2.2.2.2.1
  have h5 := H.2.2.2.2.2.2.1
  refine e_aload_n dX9_given_0 rfl ?_
  refine e_iload_n dX9_given_1 rfl ?_
  refine e_iconst dX9_given_2 kci_0 ?_
  refine e_iconst dX9_given_3 kci_2 ?_
  refine e_aload_n dX9_given_4 rfl ?_
  refine e_getv (v := nI nd) dX9_given_5 ff_X9_129 rfl (fx_pi_lt (by decide)) (by decide) rfl H.2.1 ?_
  refine e_imul dX9_given_8 ?_
  refine e_iconst dX9_given_9 kci_1 ?_
  refine e_isub dX9_given_10 ?_
  refine e_callV1 (μ' := mX9_isFrom) (ci := 9) (As := [.int x, .int 0, .int ((2 * (nI nd)) - 1)]) dX9_given_11 wl_X9_172 ok_X9_isFrom rfl rfl (fx_pi_lt (by decide)) (by decide) (Nat.le_of_ble_eq_true rfl) fx_n1 (s_X9_isFrom (m := m) hL x 0 ((2 * (nI nd)) - 1)) rfl ?_
  refine e_if_neB 24 dX9_given_14 rfl (fun c_x => ?_) (fun c_x => ?_)
  · rw [i_mulc2, p_in_el (by omega)] at c_x
    obtain ⟨X, hX, eX⟩ := p_el_ex c_x (by omega)
    subst eX
    refine e_aload_n dX9_given_24 rfl ?_
    refine e_callV (μ' := mX9_parts) (ci := 9) (As := []) dX9_given_25 wl_X9_260 ok_X9_parts rfl rfl (fx_pi_lt (by decide)) (by decide) (Nat.le_of_ble_eq_true rfl) fx_n1 (s_X9_parts (m := m) hL H (o := none) hwo (fun w e => by cases e)) rfl (fun r_ m_ hpost => ?_)
    revert r_ m_
    intro r_ m1 hpost
    obtain ⟨rfl, K1, P11, P31⟩ := hpost
    have hL1 := K1.lay hL
    have H1 := K1.ms H
    have hp2 := Nat.two_pow_pos na
    have h512 := p_pow9 h9
    have hq : q_mGiv t.1 t.2.1 na nd (nI X) = (0, p_oi (p_mgv t.1 t.2.1 na nd none X 0 0)) := by unfold q_mGiv; rw [if_neg (Decidable.not_not.mpr c_x), p_ix_n (show X < 2 ^ 31 by omega)]
    refine e_iconst dX9_given_28 kci_0 ?_
    refine e_istore_n dX9_given_29 (by decide) rfl ?_
    refine e_iconst dX9_given_30 kci_0 ?_
    refine e_istore_n dX9_given_31 (by decide) rfl ?_
    have hX2 : X < 2 * nd := hX
    have lp : ∀ (n j s : Nat), j + n = X → s < 2 ^ na → fx_E Γ mX9_given 6 119 119 (fun r m' => r = some (.int (p_oi (p_mgv t.1 t.2.1 na nd none n j s))) ∧ fx_KP m m') 119 m1 32 [some (fx_rf Γ 83), some (.int (nI X)), some (.int (nI s)), some (.int (nI j)), none, none] [] := by
      intro n
      induction n with
      | zero =>
        intro j s hj hs
        have hjX : j = X := by omega
        refine e_iconst dX9_given_32 kci_m1 ?_
        refine e_istore dX9_given_33 (by decide) rfl ?_
        refine e_aload_n dX9_given_35 rfl ?_
        refine e_getv (v := nI na) dX9_given_36 ff_X9_126 rfl (fx_pi_lt (by decide)) (by decide) rfl H1.1 ?_
        refine e_iconst dX9_given_39 kci_1 ?_
        refine e_isub dX9_given_40 ?_
        refine e_istore dX9_given_41 (by decide) rfl ?_
        have lpi : ∀ (b : Nat) (v : Int32) (w : Int32), v + 1 = nI b → b ≤ na → w = p_oi (p_fd (p_mQ t.1 t.2.1 na nd none j s) (na - b) b) → fx_E Γ mX9_given 6 119 119 (fun r m' => r = some (.int (p_oi (p_mgv t.1 t.2.1 na nd none 0 j s))) ∧ fx_KP m m') 119 m1 43 [some (fx_rf Γ 83), some (.int (nI X)), some (.int (nI s)), some (.int (nI j)), some (.int w), some (.int v)] [] := by
          intro b
          induction b with
          | zero =>
            intro v w hv hb hw
            have hw0 : w = p_oi (p_mf t.1 t.2.1 na nd none j s) := hw
            refine e_iload dX9_given_43 rfl ?_
            refine e_if_lt 121 dX9_given_45 rfl (fun _ => ?_) (fun h => absurd (by rw [p_pred0 hv]; decide) h)
            refine e_iload_n dX9_given_121 rfl ?_
            refine e_iload_n dX9_given_122 rfl ?_
            refine e_icmp_ne 129 dX9_given_123 rfl (fun h => absurd h (not_not_intro (by rw [hjX]))) (fun _ => ?_)
            refine e_iload dX9_given_126 rfl ?_
            exact e_iret dX9_given_128 rfl rfl rfl ⟨by rw [hw0]; rfl, K1⟩
          | succ b ihb =>
            intro v w hv hb hw
            obtain rfl := p_pred hv
            refine e_iload dX9_given_43 rfl ?_
            refine e_if_lt 121 dX9_given_45 rfl (fun h => absurd h (Int32.not_lt.mpr (nI_le (a := 0) (by omega) (by omega)))) (fun _ => ?_)
            refine e_aload_n dX9_given_48 rfl ?_
            refine e_getr (o2 := 115) dX9_given_49 ff_X9_111 rfl (fx_pi_lt (by decide)) (by decide) rfl (hL1 _ _ _ rfl) ?_
            refine e_iload_n dX9_given_52 rfl ?_
            refine e_ialdv (j := j) (v := nI (p_sN (p_PD t.1 t.2.1 na none j) na)) dX9_given_53 rfl (fx_pi_lt (by decide)) rfl (by omega) (by decide) (P11 j (by omega)) ?_
            refine e_iload dX9_given_54 rfl ?_
            refine e_ishr dX9_given_56 ?_
            refine e_iconst dX9_given_57 kci_1 ?_
            refine e_iand dX9_given_58 ?_
            refine e_if_eq 115 dX9_given_59 rfl (fun c_b => ?_) (fun c_b => ?_)
            · refine e_iinc dX9_given_115 rfl rfl (by decide) rfl ?_
              refine e_goto 43 dX9_given_118 rfl ?_
              have hB : p_sN (p_PD t.1 t.2.1 na none j) na < 2 ^ 31 := Nat.lt_of_lt_of_le (p_sN_lt _ na) (Nat.pow_le_pow_right (by decide) (by omega))
              have en : na - b = (na - (b + 1)) + 1 := by omega
              have hQ : ¬ (p_mQ t.1 t.2.1 na nd none j s) b := fun q => by have g := (i_bit0 hB (by omega)).mp c_b; rw [p_sN_bit, decide_eq_true (show b < na ∧ _ from ⟨by omega, q.1⟩)] at g; cases g
              refine e_weak (lv2 := [some (fx_rf Γ 83), some (.int (nI X)), some (.int (nI s)), some (.int (nI j)), some (.int w), some (.int (nI b + (-1)))]) ⟨rfl, rfl, rfl, rfl, rfl, rfl, trivial⟩ ?_
              exact ihb _ w (by rw [Int32.add_assoc]; exact Int32.add_zero _) (by omega) (by rw [en, p_fd_n2 hQ]; exact hw)
            · refine e_iload_n dX9_given_62 rfl ?_
              refine e_iload dX9_given_63 rfl ?_
              refine e_ishr dX9_given_65 ?_
              refine e_iconst dX9_given_66 kci_1 ?_
              refine e_iand dX9_given_67 ?_
              refine e_iconst dX9_given_68 kci_1 ?_
              refine e_icmp_ne 75 dX9_given_69 rfl (fun c_s => ?_) (fun c_s => ?_)
              · refine e_sipush dX9_given_75 kcs_1000 ?_
                refine e_aload_n dX9_given_78 rfl ?_
                refine e_iload dX9_given_79 rfl ?_
                refine e_iload_n dX9_given_81 rfl ?_
                refine e_iconst dX9_given_82 kci_2 ?_
                refine e_idiv dX9_given_83 (by decide) ?_
                rw [p_div2 j (by omega)]
                refine e_callV1 (μ' := mX9_differs) (ci := 9) (As := [.int (nI b), .int (nI (j / 2))]) dX9_given_84 wl_X9_163 ok_X9_differs rfl rfl (fx_pi_lt (by decide)) (by decide) (Nat.le_of_ble_eq_true rfl) fx_n1 (s_X9_differs (m := m1) hL1 H1 (x := b) (by omega) (d := j / 2) (by omega)) rfl ?_
                refine e_isub dX9_given_87 ?_
                refine e_aload_n dX9_given_88 rfl ?_
                refine e_iload_n dX9_given_89 rfl ?_
                refine e_iconst dX9_given_90 kci_1 ?_
                refine e_iadd dX9_given_91 ?_
                rw [nI_1]
                refine e_iload_n dX9_given_92 rfl ?_
                refine e_iconst dX9_given_93 kci_1 ?_
                refine e_iload dX9_given_94 rfl ?_
                refine e_ishl dX9_given_96 ?_
                refine e_iadd dX9_given_97 ?_
                have hbs : s.testBit b = false := by cases q : s.testBit b; rfl; exact absurd ((i_bitE (B := s) (k := b) (by omega) (by omega)).mpr q) c_s
                have hsx := p_adlt hs (x := b) (by omega) hbs
                rw [i_shl1 (by omega), nI_add]
                refine e_callV (μ' := mX9_goodFrom) (ci := 9) (As := [.int (nI (j + 1)), .int (nI (s + 2 ^ b))]) dX9_given_98 wl_X9_257 ok_X9_goodFrom rfl rfl (fx_pi_lt (by decide)) (by decide) (Nat.le_of_ble_eq_true rfl) fx_n1 (s_X9_goodFrom (m := m1) hL1 (a := j + 1) (b := s + 2 ^ b) (by omega)) rfl (fun r_ m_ hpost => ?_)
                obtain ⟨rfl, e2⟩ := hpost
                have e2 := e2.symm
                subst e2
                rw [P31 (j + 1) (by omega) (by omega) (s + 2 ^ b) (by omega)]
                refine e_iadd dX9_given_101 ?_
                refine e_aload_n dX9_given_102 rfl ?_
                refine e_iload_n dX9_given_103 rfl ?_
                refine e_iload_n dX9_given_104 rfl ?_
                refine e_callV (μ' := mX9_goodFrom) (ci := 9) (As := [.int (nI j), .int (nI s)]) dX9_given_105 wl_X9_257 ok_X9_goodFrom rfl rfl (fx_pi_lt (by decide)) (by decide) (Nat.le_of_ble_eq_true rfl) fx_n1 (s_X9_goodFrom (m := m1) hL1 (a := j) (b := s) (by omega)) rfl (fun r_ m_ hpost => ?_)
                obtain ⟨rfl, e2⟩ := hpost
                have e2 := e2.symm
                subst e2
                rw [P31 j (by omega) (by omega) (s) (by omega)]
                refine e_icmp_ne 115 dX9_given_108 rfl (fun c_e => ?_) (fun c_e => ?_)
                · refine e_iinc dX9_given_115 rfl rfl (by decide) rfl ?_
                  refine e_goto 43 dX9_given_118 rfl ?_
                  have hB : p_sN (p_PD t.1 t.2.1 na none j) na < 2 ^ 31 := Nat.lt_of_lt_of_le (p_sN_lt _ na) (Nat.pow_le_pow_right (by decide) (by omega))
                  have en : na - b = (na - (b + 1)) + 1 := by omega
                  have hQ : ¬ (p_mQ t.1 t.2.1 na nd none j s) b := fun q => c_e q.2.2
                  refine e_weak (lv2 := [some (fx_rf Γ 83), some (.int (nI X)), some (.int (nI s)), some (.int (nI j)), some (.int w), some (.int (nI b + (-1)))]) ⟨rfl, rfl, rfl, rfl, rfl, rfl, trivial⟩ ?_
                  exact ihb _ w (by rw [Int32.add_assoc]; exact Int32.add_zero _) (by omega) (by rw [en, p_fd_n2 hQ]; exact hw)
                · refine e_iload dX9_given_111 rfl ?_
                  refine e_istore dX9_given_113 (by decide) rfl ?_
                  refine e_iinc dX9_given_115 rfl rfl (by decide) rfl ?_
                  refine e_goto 43 dX9_given_118 rfl ?_
                  have hB : p_sN (p_PD t.1 t.2.1 na none j) na < 2 ^ 31 := Nat.lt_of_lt_of_le (p_sN_lt _ na) (Nat.pow_le_pow_right (by decide) (by omega))
                  have en : na - b = (na - (b + 1)) + 1 := by omega
                  have hP : p_PD t.1 t.2.1 na none j b := by have g := i_bit1 hB (by omega) c_b; rw [p_sN_bit] at g; exact (of_decide_eq_true g).2
                  have hQ : (p_mQ t.1 t.2.1 na nd none j s) b := ⟨hP, hbs, c_e⟩
                  refine e_weak (lv2 := [some (fx_rf Γ 83), some (.int (nI X)), some (.int (nI s)), some (.int (nI j)), some (.int (nI b)), some (.int (nI b + (-1)))]) ⟨rfl, rfl, rfl, rfl, rfl, rfl, trivial⟩ ?_
                  exact ihb _ (nI b) (by rw [Int32.add_assoc]; exact Int32.add_zero _) (by omega) (by rw [en, p_fd_y2 hQ]; rfl)
              · refine e_goto 115 dX9_given_72 rfl ?_
                refine e_iinc dX9_given_115 rfl rfl (by decide) rfl ?_
                refine e_goto 43 dX9_given_118 rfl ?_
                have hB : p_sN (p_PD t.1 t.2.1 na none j) na < 2 ^ 31 := Nat.lt_of_lt_of_le (p_sN_lt _ na) (Nat.pow_le_pow_right (by decide) (by omega))
                have en : na - b = (na - (b + 1)) + 1 := by omega
                have hQ : ¬ (p_mQ t.1 t.2.1 na nd none j s) b := fun q => by have g := (i_bitE (B := s) (k := b) (by omega) (by omega)).mp c_s; rw [q.2.1] at g; cases g
                refine e_weak (lv2 := [some (fx_rf Γ 83), some (.int (nI X)), some (.int (nI s)), some (.int (nI j)), some (.int w), some (.int (nI b + (-1)))]) ⟨rfl, rfl, rfl, rfl, rfl, rfl, trivial⟩ ?_
                exact ihb _ w (by rw [Int32.add_assoc]; exact Int32.add_zero _) (by omega) (by rw [en, p_fd_n2 hQ]; exact hw)
        exact lpi na _ _ (Int32.sub_add_cancel _ _) (Nat.le_refl _) (by rw [Nat.sub_self]; rfl)
      | succ n ih =>
        intro j s hj hs
        refine e_iconst dX9_given_32 kci_m1 ?_
        refine e_istore dX9_given_33 (by decide) rfl ?_
        refine e_aload_n dX9_given_35 rfl ?_
        refine e_getv (v := nI na) dX9_given_36 ff_X9_126 rfl (fx_pi_lt (by decide)) (by decide) rfl H1.1 ?_
        refine e_iconst dX9_given_39 kci_1 ?_
        refine e_isub dX9_given_40 ?_
        refine e_istore dX9_given_41 (by decide) rfl ?_
        have lpi : ∀ (b : Nat) (v : Int32) (w : Int32), v + 1 = nI b → b ≤ na → w = p_oi (p_fd (p_mQ t.1 t.2.1 na nd none j s) (na - b) b) → fx_E Γ mX9_given 6 119 119 (fun r m' => r = some (.int (p_oi (p_mgv t.1 t.2.1 na nd none (n + 1) j s))) ∧ fx_KP m m') 119 m1 43 [some (fx_rf Γ 83), some (.int (nI X)), some (.int (nI s)), some (.int (nI j)), some (.int w), some (.int v)] [] := by
          intro b
          induction b with
          | zero =>
            intro v w hv hb hw
            have hw0 : w = p_oi (p_mf t.1 t.2.1 na nd none j s) := hw
            refine e_iload dX9_given_43 rfl ?_
            refine e_if_lt 121 dX9_given_45 rfl (fun _ => ?_) (fun h => absurd (by rw [p_pred0 hv]; decide) h)
            refine e_iload_n dX9_given_121 rfl ?_
            refine e_iload_n dX9_given_122 rfl ?_
            refine e_icmp_ne 129 dX9_given_123 rfl (fun _ => ?_) (fun h => absurd h (fun e => by have := (nI_eq (a := j) (b := X) (by omega) (by omega)).mp e; omega))
            refine e_iload dX9_given_129 rfl ?_
            refine e_iconst dX9_given_131 kci_m1 ?_
            refine e_icmp_eq 142 dX9_given_132 rfl (fun c_w => ?_) (fun c_w => ?_)
            · refine e_iinc (v := nI (j + 1)) dX9_given_142 rfl (fx_inc _) (by decide) rfl ?_
              refine e_goto 32 dX9_given_145 rfl ?_
              have hn2 : p_mf t.1 t.2.1 na nd none j s = none := (p_oi_ne (fun x hx => by have := p_mf_s hx; omega)).mp (hw0.symm.trans c_w)
              refine e_weak (lv2 := [some (fx_rf Γ 83), some (.int (nI X)), some (.int (nI s)), some (.int (nI (j + 1))), none, none]) ⟨rfl, rfl, rfl, rfl, trivial⟩ ?_
              refine fx_E.post (post := fun r m' => r = some (.int (p_oi (p_mgv t.1 t.2.1 na nd none n (j + 1) s))) ∧ fx_KP m m') (fun r mm h => ⟨by rw [p_mgv_n hn2]; exact h.1, h.2⟩) ?_
              exact ih (j + 1) s (by omega) hs
            · obtain ⟨y, hy2⟩ : ∃ y, p_mf t.1 t.2.1 na nd none j s = some y := Option.ne_none_iff_exists'.mp (fun e => c_w (hw0.trans (by rw [e]; rfl)))
              obtain rfl : w = nI y := hw0.trans (by rw [hy2]; rfl)
              refine e_iload_n dX9_given_135 rfl ?_
              refine e_iconst dX9_given_136 kci_1 ?_
              refine e_iload dX9_given_137 rfl ?_
              refine e_ishl dX9_given_139 ?_
              refine e_iadd dX9_given_140 ?_
              refine e_istore_n dX9_given_141 (by decide) rfl ?_
              refine e_iinc (v := nI (j + 1)) dX9_given_142 rfl (fx_inc _) (by decide) rfl ?_
              refine e_goto 32 dX9_given_145 rfl ?_
              have hx := p_mf_s hy2
              have hlt := p_adlt hs hx.1 hx.2
              rw [i_shl1 (by omega), nI_add]
              refine e_weak (lv2 := [some (fx_rf Γ 83), some (.int (nI X)), some (.int (nI (s + 2 ^ y))), some (.int (nI (j + 1))), none, none]) ⟨rfl, rfl, rfl, rfl, trivial⟩ ?_
              refine fx_E.post (post := fun r m' => r = some (.int (p_oi (p_mgv t.1 t.2.1 na nd none n (j + 1) (s + 2 ^ y)))) ∧ fx_KP m m') (fun r mm h => ⟨by rw [p_mgv_s hy2]; exact h.1, h.2⟩) ?_
              exact ih (j + 1) (s + 2 ^ y) (by omega) hlt
          | succ b ihb =>
            intro v w hv hb hw
            obtain rfl := p_pred hv
            refine e_iload dX9_given_43 rfl ?_
            refine e_if_lt 121 dX9_given_45 rfl (fun h => absurd h (Int32.not_lt.mpr (nI_le (a := 0) (by omega) (by omega)))) (fun _ => ?_)
            refine e_aload_n dX9_given_48 rfl ?_
            refine e_getr (o2 := 115) dX9_given_49 ff_X9_111 rfl (fx_pi_lt (by decide)) (by decide) rfl (hL1 _ _ _ rfl) ?_
            refine e_iload_n dX9_given_52 rfl ?_
            refine e_ialdv (j := j) (v := nI (p_sN (p_PD t.1 t.2.1 na none j) na)) dX9_given_53 rfl (fx_pi_lt (by decide)) rfl (by omega) (by decide) (P11 j (by omega)) ?_
            refine e_iload dX9_given_54 rfl ?_
            refine e_ishr dX9_given_56 ?_
            refine e_iconst dX9_given_57 kci_1 ?_
            refine e_iand dX9_given_58 ?_
            refine e_if_eq 115 dX9_given_59 rfl (fun c_b => ?_) (fun c_b => ?_)
            · refine e_iinc dX9_given_115 rfl rfl (by decide) rfl ?_
              refine e_goto 43 dX9_given_118 rfl ?_
              have hB : p_sN (p_PD t.1 t.2.1 na none j) na < 2 ^ 31 := Nat.lt_of_lt_of_le (p_sN_lt _ na) (Nat.pow_le_pow_right (by decide) (by omega))
              have en : na - b = (na - (b + 1)) + 1 := by omega
              have hQ : ¬ (p_mQ t.1 t.2.1 na nd none j s) b := fun q => by have g := (i_bit0 hB (by omega)).mp c_b; rw [p_sN_bit, decide_eq_true (show b < na ∧ _ from ⟨by omega, q.1⟩)] at g; cases g
              refine e_weak (lv2 := [some (fx_rf Γ 83), some (.int (nI X)), some (.int (nI s)), some (.int (nI j)), some (.int w), some (.int (nI b + (-1)))]) ⟨rfl, rfl, rfl, rfl, rfl, rfl, trivial⟩ ?_
              exact ihb _ w (by rw [Int32.add_assoc]; exact Int32.add_zero _) (by omega) (by rw [en, p_fd_n2 hQ]; exact hw)
            · refine e_iload_n dX9_given_62 rfl ?_
              refine e_iload dX9_given_63 rfl ?_
              refine e_ishr dX9_given_65 ?_
              refine e_iconst dX9_given_66 kci_1 ?_
              refine e_iand dX9_given_67 ?_
              refine e_iconst dX9_given_68 kci_1 ?_
              refine e_icmp_ne 75 dX9_given_69 rfl (fun c_s => ?_) (fun c_s => ?_)
              · refine e_sipush dX9_given_75 kcs_1000 ?_
                refine e_aload_n dX9_given_78 rfl ?_
                refine e_iload dX9_given_79 rfl ?_
                refine e_iload_n dX9_given_81 rfl ?_
                refine e_iconst dX9_given_82 kci_2 ?_
                refine e_idiv dX9_given_83 (by decide) ?_
                rw [p_div2 j (by omega)]
                refine e_callV1 (μ' := mX9_differs) (ci := 9) (As := [.int (nI b), .int (nI (j / 2))]) dX9_given_84 wl_X9_163 ok_X9_differs rfl rfl (fx_pi_lt (by decide)) (by decide) (Nat.le_of_ble_eq_true rfl) fx_n1 (s_X9_differs (m := m1) hL1 H1 (x := b) (by omega) (d := j / 2) (by omega)) rfl ?_
                refine e_isub dX9_given_87 ?_
                refine e_aload_n dX9_given_88 rfl ?_
                refine e_iload_n dX9_given_89 rfl ?_
                refine e_iconst dX9_given_90 kci_1 ?_
                refine e_iadd dX9_given_91 ?_
                rw [nI_1]
                refine e_iload_n dX9_given_92 rfl ?_
                refine e_iconst dX9_given_93 kci_1 ?_
                refine e_iload dX9_given_94 rfl ?_
                refine e_ishl dX9_given_96 ?_
                refine e_iadd dX9_given_97 ?_
                have hbs : s.testBit b = false := by cases q : s.testBit b; rfl; exact absurd ((i_bitE (B := s) (k := b) (by omega) (by omega)).mpr q) c_s
                have hsx := p_adlt hs (x := b) (by omega) hbs
                rw [i_shl1 (by omega), nI_add]
                refine e_callV (μ' := mX9_goodFrom) (ci := 9) (As := [.int (nI (j + 1)), .int (nI (s + 2 ^ b))]) dX9_given_98 wl_X9_257 ok_X9_goodFrom rfl rfl (fx_pi_lt (by decide)) (by decide) (Nat.le_of_ble_eq_true rfl) fx_n1 (s_X9_goodFrom (m := m1) hL1 (a := j + 1) (b := s + 2 ^ b) (by omega)) rfl (fun r_ m_ hpost => ?_)
                obtain ⟨rfl, e2⟩ := hpost
                have e2 := e2.symm
                subst e2
                rw [P31 (j + 1) (by omega) (by omega) (s + 2 ^ b) (by omega)]
                refine e_iadd dX9_given_101 ?_
                refine e_aload_n dX9_given_102 rfl ?_
                refine e_iload_n dX9_given_103 rfl ?_
                refine e_iload_n dX9_given_104 rfl ?_
                refine e_callV (μ' := mX9_goodFrom) (ci := 9) (As := [.int (nI j), .int (nI s)]) dX9_given_105 wl_X9_257 ok_X9_goodFrom rfl rfl (fx_pi_lt (by decide)) (by decide) (Nat.le_of_ble_eq_true rfl) fx_n1 (s_X9_goodFrom (m := m1) hL1 (a := j) (b := s) (by omega)) rfl (fun r_ m_ hpost => ?_)
                obtain ⟨rfl, e2⟩ := hpost
                have e2 := e2.symm
                subst e2
                rw [P31 j (by omega) (by omega) (s) (by omega)]
                refine e_icmp_ne 115 dX9_given_108 rfl (fun c_e => ?_) (fun c_e => ?_)
                · refine e_iinc dX9_given_115 rfl rfl (by decide) rfl ?_
                  refine e_goto 43 dX9_given_118 rfl ?_
                  have hB : p_sN (p_PD t.1 t.2.1 na none j) na < 2 ^ 31 := Nat.lt_of_lt_of_le (p_sN_lt _ na) (Nat.pow_le_pow_right (by decide) (by omega))
                  have en : na - b = (na - (b + 1)) + 1 := by omega
                  have hQ : ¬ (p_mQ t.1 t.2.1 na nd none j s) b := fun q => c_e q.2.2
                  refine e_weak (lv2 := [some (fx_rf Γ 83), some (.int (nI X)), some (.int (nI s)), some (.int (nI j)), some (.int w), some (.int (nI b + (-1)))]) ⟨rfl, rfl, rfl, rfl, rfl, rfl, trivial⟩ ?_
                  exact ihb _ w (by rw [Int32.add_assoc]; exact Int32.add_zero _) (by omega) (by rw [en, p_fd_n2 hQ]; exact hw)
                · refine e_iload dX9_given_111 rfl ?_
                  refine e_istore dX9_given_113 (by decide) rfl ?_
                  refine e_iinc dX9_given_115 rfl rfl (by decide) rfl ?_
                  refine e_goto 43 dX9_given_118 rfl ?_
                  have hB : p_sN (p_PD t.1 t.2.1 na none j) na < 2 ^ 31 := Nat.lt_of_lt_of_le (p_sN_lt _ na) (Nat.pow_le_pow_right (by decide) (by omega))
                  have en : na - b = (na - (b + 1)) + 1 := by omega
                  have hP : p_PD t.1 t.2.1 na none j b := by have g := i_bit1 hB (by omega) c_b; rw [p_sN_bit] at g; exact (of_decide_eq_true g).2
                  have hQ : (p_mQ t.1 t.2.1 na nd none j s) b := ⟨hP, hbs, c_e⟩
                  refine e_weak (lv2 := [some (fx_rf Γ 83), some (.int (nI X)), some (.int (nI s)), some (.int (nI j)), some (.int (nI b)), some (.int (nI b + (-1)))]) ⟨rfl, rfl, rfl, rfl, rfl, rfl, trivial⟩ ?_
                  exact ihb _ (nI b) (by rw [Int32.add_assoc]; exact Int32.add_zero _) (by omega) (by rw [en, p_fd_y2 hQ]; rfl)
              · refine e_goto 115 dX9_given_72 rfl ?_
                refine e_iinc dX9_given_115 rfl rfl (by decide) rfl ?_
                refine e_goto 43 dX9_given_118 rfl ?_
                have hB : p_sN (p_PD t.1 t.2.1 na none j) na < 2 ^ 31 := Nat.lt_of_lt_of_le (p_sN_lt _ na) (Nat.pow_le_pow_right (by decide) (by omega))
                have en : na - b = (na - (b + 1)) + 1 := by omega
                have hQ : ¬ (p_mQ t.1 t.2.1 na nd none j s) b := fun q => by have g := (i_bitE (B := s) (k := b) (by omega) (by omega)).mp c_s; rw [q.2.1] at g; cases g
                refine e_weak (lv2 := [some (fx_rf Γ 83), some (.int (nI X)), some (.int (nI s)), some (.int (nI j)), some (.int w), some (.int (nI b + (-1)))]) ⟨rfl, rfl, rfl, rfl, rfl, rfl, trivial⟩ ?_
                exact ihb _ w (by rw [Int32.add_assoc]; exact Int32.add_zero _) (by omega) (by rw [en, p_fd_n2 hQ]; exact hw)
        exact lpi na _ _ (Int32.sub_add_cancel _ _) (Nat.le_refl _) (by rw [Nat.sub_self]; rfl)
    refine e_weak (lv2 := [some (fx_rf Γ 83), some (.int (nI X)), some (.int (nI 0)), some (.int (nI 0)), none, none]) ⟨rfl, rfl, rfl, rfl, trivial⟩ ?_
    refine fx_E.post (post := fun r m' => r = some (.int (p_oi (p_mgv t.1 t.2.1 na nd none X 0 0))) ∧ fx_KP m m') (fun r mm h => ⟨by rw [hq]; exact h.1, by rw [hq]; exact h.2⟩) ?_
    exact lp X 0 0 (by omega) hp2
  · refine e_aload_n dX9_given_17 rfl ?_
    refine e_bipush dX9_given_18 kcb_m5 ?_
    refine e_callV1 (μ' := mX9_noTen) (ci := 9) (As := [.int (-5)]) dX9_given_20 wl_X9_190 ok_X9_noTen rfl rfl (fx_pi_lt (by decide)) (by decide) (Nat.le_of_ble_eq_true rfl) fx_n1 (s_X9_noTen (m := m) hL (b := 5) (z := (-5)) (by decide) (by decide)) rfl ?_
    have hq : q_mGiv t.1 t.2.1 na nd x = (5, -5 - 10) := by unfold q_mGiv; rw [if_pos (fun q => c_x (by rw [i_mulc2, p_in_el (by omega)]; exact q))]; rfl
    exact e_iret dX9_given_23 rfl rfl rfl ⟨by rw [hq], by rw [hq, show fx_mno m (5, (-5 - 10 : Int32)).1 = _ from fx_mno_n (by decide)]; exact fx_KP.refl _⟩
