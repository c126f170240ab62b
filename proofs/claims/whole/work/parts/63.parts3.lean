theorem p_mG_e {A D : Nat → Nat → Int32} {na nd : Nat} {o : Option Nat} {s : Nat} : p_mG A D na nd o (2 * nd) s = 0 := by
  unfold p_mG
  rw [Nat.sub_self]
  rfl
abbrev p_GS (A D : Nat → Nat → Int32) (na nd : Nat) (o : Option Nat) (j s : Nat) : Nat → Int32 → Int32 := p_Gs (p_PD A D na o j) (fun x => 1000 - p_farA A D x (j / 2) + p_mG A D na nd o (j + 1) (s + 2 ^ x)) s
theorem p_mG_s {A D : Nat → Nat → Int32} {na nd : Nat} {o : Option Nat} {j s : Nat} (h : j < 2 * nd) : p_mG A D na nd o j s = p_fold (p_GS A D na nd o j s) na 0 (p_mG A D na nd o (j + 1) s) := by
  have e : 2 * nd - j = (2 * nd - (j + 1)) + 1 := by omega
  unfold p_GS
  rw [show p_mG A D na nd o j s = p_Gd (p_PD A D na o) (fun x i => p_farA A D x (i / 2)) na (2 * nd - j) j s from rfl, e]
  rfl
theorem p_pred {v : Int32} {j : Nat} (h : v + 1 = nI (j + 1)) : v = nI j := by
  rw [← nI_1] at h
  have := congrArg (fun z => z - 1) h
  simpa using this
theorem p_pred0 {v : Int32} (h : v + 1 = nI 0) : v = -1 := by
  have := congrArg (fun z => z - 1) h
  have e : v = nI 0 - 1 := by simpa using this
  exact e.trans (by decide)
set_option maxRecDepth 100000 in
set_option maxHeartbeats 600000 in
theorem s_X9_parts2 {Γ : fx_G} {m : fx_M} (hL : fx_Lay m) {na nd : Nat} {t : p_Sg} (H : fx_MS m na nd t) {o : Option Nat} (hwo : m.1 83 44 = p_oi o) (ho : ∀ w, o = some w → w < na) : ∀ m1 : fx_M, fx_KP m m1 → fx_p1 m1 t na o (2 * nd) → fx_E Γ mX9_parts 4 119 119 (fun r m' => r = none ∧ fx_KP m m' ∧ fx_p1 m' t na o (2 * nd) ∧ fx_p3 m' t na nd o 0) 119 m1 76 [some (fx_rf Γ 83), some (.int 0), none, none, none, none] [] := by
  have h9 := H.2.2.2.2.2.1
  have h5 := H.2.2.2.2.2.2.1
  have h512 := p_pow9 h9
  have lp2 : ∀ (b : Nat) (i : Nat) (m2 : fx_M), i + b = 2 ^ na → fx_KP m m2 → fx_p1 m2 t na o (2 * nd) → (∀ q, q < i → m2.1 114 (1024 * nd + q) = 0) → fx_E Γ mX9_parts 4 119 119 (fun r m' => r = none ∧ fx_KP m m' ∧ fx_p1 m' t na o (2 * nd) ∧ fx_p3 m' t na nd o 0) 119 m2 76 [some (fx_rf Γ 83), some (.int (nI i)), none, none, none, none] [] := by
    intro b
    induction b with
    | zero =>
      intro i m2 hi K2 P12 Z2
      have hL2 := K2.lay hL
      have H2 := K2.ms H
      refine e_iload_n dX9_parts_76 rfl ?_
      refine e_iconst dX9_parts_77 kci_1 ?_
      refine e_aload_n dX9_parts_78 rfl ?_
      refine e_getv (v := nI na) dX9_parts_79 ff_X9_126 rfl (fx_pi_lt (by decide)) (by decide) rfl H2.1 ?_
      refine e_ishl dX9_parts_82 ?_
      rw [i_shl1 (by omega)]
      refine e_icmp_ge 108 dX9_parts_83 rfl (fun _ => ?_) (fun h => absurd (nI_le (by omega) (by omega)) h)
      refine e_iconst dX9_parts_108 kci_2 ?_
      refine e_aload_n dX9_parts_109 rfl ?_
      refine e_getv (v := nI nd) dX9_parts_110 ff_X9_129 rfl (fx_pi_lt (by decide)) (by decide) rfl H2.2.1 ?_
      refine e_imul dX9_parts_113 ?_
      refine e_iconst dX9_parts_114 kci_1 ?_
      refine e_isub dX9_parts_115 ?_
      refine e_istore_n dX9_parts_116 (by decide) rfl ?_
      have lp3 : ∀ (j : Nat) (v : Int32) (m3 : fx_M), v + 1 = nI j → j ≤ 2 * nd → fx_KP m m3 → fx_p1 m3 t na o (2 * nd) → fx_p3 m3 t na nd o j → fx_E Γ mX9_parts 4 119 119 (fun r m' => r = none ∧ fx_KP m m' ∧ fx_p1 m' t na o (2 * nd) ∧ fx_p3 m' t na nd o 0) 119 m3 117 [some (fx_rf Γ 83), some (.int v), none, none, none, none] [] := by
        intro j
        induction j with
        | zero =>
          intro v m3 hv hj K3 P13 P33
          have hL3 := K3.lay hL
          have H3 := K3.ms H
          refine e_iload_n dX9_parts_117 rfl ?_
          refine e_if_lt 250 dX9_parts_118 rfl (fun _ => ?_) (fun h => absurd (by rw [p_pred0 hv]; decide) h)
          exact e_vret dX9_parts_250 rfl rfl ⟨rfl, K3, P13, P33⟩
        | succ j ih3 =>
          intro v m3 hv hj K3 P13 P33
          have hL3 := K3.lay hL
          have H3 := K3.ms H
          obtain rfl := p_pred hv
          refine e_iload_n dX9_parts_117 rfl ?_
          refine e_if_lt 250 dX9_parts_118 rfl (fun h => absurd h (Int32.not_lt.mpr (nI_le (a := 0) (by omega) (by omega)))) (fun _ => ?_)
          refine e_iconst dX9_parts_121 kci_0 ?_
          refine e_istore_n dX9_parts_122 (by decide) rfl ?_
          have lp4 : ∀ (r : Nat) (s : Nat) (m4 : fx_M), s + r = 2 ^ na → fx_KP m m4 → fx_p1 m4 t na o (2 * nd) → fx_p3 m4 t na nd o (j + 1) → (∀ q, q < s → m4.1 114 (512 * j + q) = p_mG t.1 t.2.1 na nd o j q) → fx_E Γ mX9_parts 4 119 119 (fun r m' => r = none ∧ fx_KP m m' ∧ fx_p1 m' t na o (2 * nd) ∧ fx_p3 m' t na nd o 0) 119 m4 123 [some (fx_rf Γ 83), some (.int (nI j)), some (.int (nI s)), none, none, none] [] := by
            intro r
            induction r with
            | zero =>
              intro s m4 hs K4 P14 P34 Q4
              have hL4 := K4.lay hL
              have H4 := K4.ms H
              refine e_iload_n dX9_parts_123 rfl ?_
              refine e_iconst dX9_parts_124 kci_1 ?_
              refine e_aload_n dX9_parts_125 rfl ?_
              refine e_getv (v := nI na) dX9_parts_126 ff_X9_126 rfl (fx_pi_lt (by decide)) (by decide) rfl H4.1 ?_
              refine e_ishl dX9_parts_129 ?_
              rw [i_shl1 (by omega)]
              refine e_icmp_ge 244 dX9_parts_130 rfl (fun _ => ?_) (fun h => absurd (nI_le (by omega) (by omega)) h)
              refine e_iinc dX9_parts_244 rfl rfl (by decide) rfl ?_
              refine e_goto 117 dX9_parts_247 rfl ?_
              refine e_weak (lv2 := [some (fx_rf Γ 83), some (.int (nI j + (-1))), none, none, none, none]) ⟨rfl, rfl, trivial⟩ ?_
              exact ih3 _ m4 (by rw [Int32.add_assoc]; exact Int32.add_zero _) (by omega) K4 P14 (fun i h1 h2 r hr => by by_cases q : i = j; (subst q; exact Q4 r (by omega)); exact P34 i (by omega) h2 r hr)
            | succ r ih4 =>
              intro s m4 hs K4 P14 P34 Q4
              have hL4 := K4.lay hL
              have H4 := K4.ms H
              have hs4 : s < 2 ^ na := by omega
              refine e_iload_n dX9_parts_123 rfl ?_
              refine e_iconst dX9_parts_124 kci_1 ?_
              refine e_aload_n dX9_parts_125 rfl ?_
              refine e_getv (v := nI na) dX9_parts_126 ff_X9_126 rfl (fx_pi_lt (by decide)) (by decide) rfl H4.1 ?_
              refine e_ishl dX9_parts_129 ?_
              rw [i_shl1 (by omega)]
              refine e_icmp_ge 244 dX9_parts_130 rfl (fun h => absurd h (nI_ge (by omega) (by omega))) (fun _ => ?_)
              refine e_aload_n dX9_parts_133 rfl ?_
              refine e_iload_n dX9_parts_134 rfl ?_
              refine e_iconst dX9_parts_135 kci_1 ?_
              refine e_iadd dX9_parts_136 ?_
              rw [nI_1]
              refine e_iload_n dX9_parts_137 rfl ?_
              refine e_callV (μ' := mX9_goodFrom) (ci := 9) (As := [.int (nI (j + 1)), .int (nI s)]) dX9_parts_138 wl_X9_257 ok_X9_goodFrom rfl rfl (fx_pi_lt (by decide)) (by decide) (Nat.le_of_ble_eq_true rfl) fx_n1 (s_X9_goodFrom (m := m4) hL4 (a := j + 1) (b := s) (by omega)) rfl (fun r_ m_ hpost => ?_)
              obtain ⟨rfl, e2⟩ := hpost
              have e2 := e2.symm
              subst e2
              rw [P34 (j + 1) (by omega) (by omega) (s) (by omega)]
              refine e_istore_n dX9_parts_141 (by decide) rfl ?_
              refine e_iconst dX9_parts_142 kci_0 ?_
              refine e_istore dX9_parts_143 (by decide) rfl ?_
              have lp5 : ∀ (i : Nat) (x : Nat) (z : Int32), x + i = na → p_fold (p_GS t.1 t.2.1 na nd o j s) i x z = p_mG t.1 t.2.1 na nd o j s → fx_E Γ mX9_parts 4 119 119 (fun r m' => r = none ∧ fx_KP m m' ∧ fx_p1 m' t na o (2 * nd) ∧ fx_p3 m' t na nd o 0) 119 m4 145 [some (fx_rf Γ 83), some (.int (nI j)), some (.int (nI s)), some (.int z), some (.int (nI x)), none] [] := by
                intro i
                induction i with
                | zero =>
                  intro x z hx hz
                  have hz0 : z = p_mG t.1 t.2.1 na nd o j s := hz
                  refine e_iload dX9_parts_145 rfl ?_
                  refine e_aload_n dX9_parts_147 rfl ?_
                  refine e_getv (v := nI na) dX9_parts_148 ff_X9_126 rfl (fx_pi_lt (by decide)) (by decide) rfl H4.1 ?_
                  refine e_icmp_ge 225 dX9_parts_151 rfl (fun _ => ?_) (fun h => absurd (nI_le (by omega) (by omega)) h)
                  refine e_aload_n dX9_parts_225 rfl ?_
                  refine e_getr (o2 := 114) dX9_parts_226 ff_X9_108 rfl (fx_pi_lt (by decide)) (by decide) rfl (hL4 _ _ _ rfl) ?_
                  refine e_sipush dX9_parts_229 kcs_512 ?_
                  refine e_iload_n dX9_parts_232 rfl ?_
                  refine e_imul dX9_parts_233 ?_
                  refine e_iload_n dX9_parts_234 rfl ?_
                  refine e_iadd dX9_parts_235 ?_
                  refine e_iload_n dX9_parts_236 rfl ?_
                  refine e_iast (j := 512 * j + s) dX9_parts_237 rfl (fx_pi_lt (by decide)) (i_512 j s) (by omega) (by decide) ?_
                  refine e_iinc (v := nI (s + 1)) dX9_parts_238 rfl (fx_inc _) (by decide) rfl ?_
                  refine e_goto 123 dX9_parts_241 rfl ?_
                  have hst : fx_KP m (fx_sI m4 114 (512 * j + s) z) := K4.sI (Or.inl rfl)
                  refine e_weak (lv2 := [some (fx_rf Γ 83), some (.int (nI j)), some (.int (nI (s + 1))), none, none, none]) ⟨rfl, rfl, rfl, trivial⟩ ?_
                  exact ih4 (s + 1) _ (by omega) hst (fun i hi => by rw [fx_sI_n _ _ _ (by decide)]; exact P14 i hi) (fun i h1 h2 r hr => by rw [fx_rd2 (by omega)]; exact P34 i h1 h2 r hr) (fun r hr => by by_cases q : r = s; (subst q; rw [fx_rd0]; exact hz0); (rw [fx_rd2 (by omega)]; exact Q4 r (by omega)))
                | succ i ih5 =>
                  intro x z hx hz
                  have h9 := H4.2.2.2.2.2.1
                  refine e_iload dX9_parts_145 rfl ?_
                  refine e_aload_n dX9_parts_147 rfl ?_
                  refine e_getv (v := nI na) dX9_parts_148 ff_X9_126 rfl (fx_pi_lt (by decide)) (by decide) rfl H4.1 ?_
                  refine e_icmp_ge 225 dX9_parts_151 rfl (fun h => absurd h (nI_ge (by omega) (by omega))) (fun _ => ?_)
                  refine e_aload_n dX9_parts_154 rfl ?_
                  refine e_getr (o2 := 115) dX9_parts_155 ff_X9_111 rfl (fx_pi_lt (by decide)) (by decide) rfl (hL4 _ _ _ rfl) ?_
                  refine e_iload_n dX9_parts_158 rfl ?_
                  refine e_ialdv (j := j) (v := nI (p_sN (p_PD t.1 t.2.1 na o j) na)) dX9_parts_159 rfl (fx_pi_lt (by decide)) rfl (by omega) (by decide) (P14 j (by omega)) ?_
                  refine e_iload dX9_parts_160 rfl ?_
                  refine e_ishr dX9_parts_162 ?_
                  refine e_iconst dX9_parts_163 kci_1 ?_
                  refine e_iand dX9_parts_164 ?_
                  refine e_if_eq 219 dX9_parts_165 rfl (fun c_b => ?_) (fun c_b => ?_)
                  · refine e_iinc (v := nI (x + 1)) dX9_parts_219 rfl (fx_inc _) (by decide) rfl ?_
                    refine e_goto 145 dX9_parts_222 rfl ?_
                    have hB : p_sN (p_PD t.1 t.2.1 na o j) na < 2 ^ 31 := Nat.lt_of_lt_of_le (p_sN_lt _ na) (Nat.pow_le_pow_right (by decide) (by omega))
                    rw [show p_fold (p_GS t.1 t.2.1 na nd o j s) (i + 1) x z = p_fold (p_GS t.1 t.2.1 na nd o j s) i (x + 1) z from p_fold_s (if_neg (fun q => by have g := (i_bit0 hB (by omega)).mp c_b; rw [p_sN_bit, decide_eq_true (show x < na ∧ _ from ⟨by omega, q.1⟩)] at g; cases g))] at hz
                    refine e_weak (lv2 := [some (fx_rf Γ 83), some (.int (nI j)), some (.int (nI s)), some (.int z), some (.int (nI (x + 1))), none]) ⟨rfl, rfl, rfl, rfl, rfl, trivial⟩ ?_
                    exact ih5 (x + 1) z (by omega) hz
                  · refine e_iload_n dX9_parts_168 rfl ?_
                    refine e_iload dX9_parts_169 rfl ?_
                    refine e_ishr dX9_parts_171 ?_
                    refine e_iconst dX9_parts_172 kci_1 ?_
                    refine e_iand dX9_parts_173 ?_
                    refine e_iconst dX9_parts_174 kci_1 ?_
                    refine e_icmp_ne 181 dX9_parts_175 rfl (fun c_s => ?_) (fun c_s => ?_)
                    · refine e_sipush dX9_parts_181 kcs_1000 ?_
                      refine e_aload_n dX9_parts_184 rfl ?_
                      refine e_iload dX9_parts_185 rfl ?_
                      refine e_iload_n dX9_parts_187 rfl ?_
                      refine e_iconst dX9_parts_188 kci_2 ?_
                      refine e_idiv dX9_parts_189 (by decide) ?_
                      rw [p_div2 j (by omega)]
                      refine e_callV1 (μ' := mX9_differs) (ci := 9) (As := [.int (nI x), .int (nI (j / 2))]) dX9_parts_190 wl_X9_163 ok_X9_differs rfl rfl (fx_pi_lt (by decide)) (by decide) (Nat.le_of_ble_eq_true rfl) fx_n1 (s_X9_differs (m := m4) hL4 H4 (x := x) (by omega) (d := j / 2) (by omega)) rfl ?_
                      refine e_isub dX9_parts_193 ?_
                      refine e_aload_n dX9_parts_194 rfl ?_
                      refine e_iload_n dX9_parts_195 rfl ?_
                      refine e_iconst dX9_parts_196 kci_1 ?_
                      refine e_iadd dX9_parts_197 ?_
                      rw [nI_1]
                      refine e_iload_n dX9_parts_198 rfl ?_
                      refine e_iconst dX9_parts_199 kci_1 ?_
                      refine e_iload dX9_parts_200 rfl ?_
                      refine e_ishl dX9_parts_202 ?_
                      refine e_iadd dX9_parts_203 ?_
                      have hbs : s.testBit x = false := by cases q : s.testBit x; rfl; exact absurd ((i_bitE (B := s) (k := x) (by omega) (by omega)).mpr q) c_s
                      have hsx := p_adlt hs4 (x := x) (by omega) hbs
                      rw [i_shl1 (by omega), nI_add]
                      refine e_callV (μ' := mX9_goodFrom) (ci := 9) (As := [.int (nI (j + 1)), .int (nI (s + 2 ^ x))]) dX9_parts_204 wl_X9_257 ok_X9_goodFrom rfl rfl (fx_pi_lt (by decide)) (by decide) (Nat.le_of_ble_eq_true rfl) fx_n1 (s_X9_goodFrom (m := m4) hL4 (a := j + 1) (b := s + 2 ^ x) (by omega)) rfl (fun r_ m_ hpost => ?_)
                      obtain ⟨rfl, e2⟩ := hpost
                      have e2 := e2.symm
                      subst e2
                      rw [P34 (j + 1) (by omega) (by omega) (s + 2 ^ x) (by omega)]
                      refine e_iadd dX9_parts_207 ?_
                      refine e_istore dX9_parts_208 (by decide) rfl ?_
                      refine e_iload dX9_parts_210 rfl ?_
                      refine e_iload_n dX9_parts_212 rfl ?_
                      refine e_icmp_le 219 dX9_parts_213 rfl (fun c_l => ?_) (fun c_l => ?_)
                      · refine e_iinc (v := nI (x + 1)) dX9_parts_219 rfl (fx_inc _) (by decide) rfl ?_
                        refine e_goto 145 dX9_parts_222 rfl ?_
                        have hB : p_sN (p_PD t.1 t.2.1 na o j) na < 2 ^ 31 := Nat.lt_of_lt_of_le (p_sN_lt _ na) (Nat.pow_le_pow_right (by decide) (by omega))
                        have hP : (p_PD t.1 t.2.1 na o j) x := by have g := i_bit1 hB (by omega) c_b; rw [p_sN_bit] at g; exact (of_decide_eq_true g).2
                        rw [show p_fold (p_GS t.1 t.2.1 na nd o j s) (i + 1) x z = p_fold (p_GS t.1 t.2.1 na nd o j s) i (x + 1) z from p_fold_s ((if_pos ⟨hP, hbs⟩).trans (if_pos c_l))] at hz
                        refine e_weak (lv2 := [some (fx_rf Γ 83), some (.int (nI j)), some (.int (nI s)), some (.int z), some (.int (nI (x + 1))), none]) ⟨rfl, rfl, rfl, rfl, rfl, trivial⟩ ?_
                        exact ih5 (x + 1) z (by omega) hz
                      · refine e_iload dX9_parts_216 rfl ?_
                        refine e_istore_n dX9_parts_218 (by decide) rfl ?_
                        refine e_iinc (v := nI (x + 1)) dX9_parts_219 rfl (fx_inc _) (by decide) rfl ?_
                        refine e_goto 145 dX9_parts_222 rfl ?_
                        have hB : p_sN (p_PD t.1 t.2.1 na o j) na < 2 ^ 31 := Nat.lt_of_lt_of_le (p_sN_lt _ na) (Nat.pow_le_pow_right (by decide) (by omega))
                        have hP : (p_PD t.1 t.2.1 na o j) x := by have g := i_bit1 hB (by omega) c_b; rw [p_sN_bit] at g; exact (of_decide_eq_true g).2
                        rw [show p_fold (p_GS t.1 t.2.1 na nd o j s) (i + 1) x z = p_fold (p_GS t.1 t.2.1 na nd o j s) i (x + 1) (1000 - p_farA t.1 t.2.1 x (j / 2) + p_mG t.1 t.2.1 na nd o (j + 1) (s + 2 ^ x)) from p_fold_s ((if_pos ⟨hP, hbs⟩).trans (if_neg c_l))] at hz
                        refine e_weak (lv2 := [some (fx_rf Γ 83), some (.int (nI j)), some (.int (nI s)), some (.int ((1000 - (p_farA t.1 t.2.1 x (j / 2))) + (p_mG t.1 t.2.1 na nd o (j + 1) (s + 2 ^ x)))), some (.int (nI (x + 1))), none]) ⟨rfl, rfl, rfl, rfl, rfl, trivial⟩ ?_
                        exact ih5 (x + 1) (1000 - p_farA t.1 t.2.1 x (j / 2) + p_mG t.1 t.2.1 na nd o (j + 1) (s + 2 ^ x)) (by omega) hz
                    · refine e_goto 219 dX9_parts_178 rfl ?_
                      refine e_iinc (v := nI (x + 1)) dX9_parts_219 rfl (fx_inc _) (by decide) rfl ?_
                      refine e_goto 145 dX9_parts_222 rfl ?_
                      rw [show p_fold (p_GS t.1 t.2.1 na nd o j s) (i + 1) x z = p_fold (p_GS t.1 t.2.1 na nd o j s) i (x + 1) z from p_fold_s (if_neg (fun q => by rw [(i_bitE (B := s) (k := x) (by omega) (by omega)).mp c_s] at q; cases q.2))] at hz
                      refine e_weak (lv2 := [some (fx_rf Γ 83), some (.int (nI j)), some (.int (nI s)), some (.int z), some (.int (nI (x + 1))), none]) ⟨rfl, rfl, rfl, rfl, rfl, trivial⟩ ?_
                      exact ih5 (x + 1) z (by omega) hz
              exact lp5 na 0 (p_mG t.1 t.2.1 na nd o (j + 1) s) (by omega) (p_mG_s (by omega)).symm
          refine e_weak (lv2 := [some (fx_rf Γ 83), some (.int (nI j)), some (.int (nI 0)), none, none, none]) ⟨rfl, rfl, rfl, trivial⟩ ?_
          exact lp4 (2 ^ na) 0 m3 (by omega) K3 P13 P33 (fun q hq => absurd hq (Nat.not_lt_zero _))
      exact lp3 (2 * nd) _ m2 (by rw [show (2 : Int32) * nI nd = nI (2 * nd) from i_mulc 2 nd]; exact Int32.sub_add_cancel _ _) (by omega) K2 P12 (fun i h1 h2 r hr => by have e : i = 2 * nd := (by omega); subst e; rw [p_mG_e, show 512 * (2 * nd) + r = 1024 * nd + r by omega]; exact Z2 r (by omega))
    | succ b ih2 =>
      intro i m2 hi K2 P12 Z2
      have hL2 := K2.lay hL
      have H2 := K2.ms H
      refine e_iload_n dX9_parts_76 rfl ?_
      refine e_iconst dX9_parts_77 kci_1 ?_
      refine e_aload_n dX9_parts_78 rfl ?_
      refine e_getv (v := nI na) dX9_parts_79 ff_X9_126 rfl (fx_pi_lt (by decide)) (by decide) rfl H2.1 ?_
      refine e_ishl dX9_parts_82 ?_
      rw [i_shl1 (by omega)]
      refine e_icmp_ge 108 dX9_parts_83 rfl (fun h => absurd h (nI_ge (by omega) (by omega))) (fun _ => ?_)
      refine e_aload_n dX9_parts_86 rfl ?_
      refine e_getr (o2 := 114) dX9_parts_87 ff_X9_108 rfl (fx_pi_lt (by decide)) (by decide) rfl (hL2 _ _ _ rfl) ?_
      refine e_sipush dX9_parts_90 kcs_1024 ?_
      refine e_aload_n dX9_parts_93 rfl ?_
      refine e_getv (v := nI nd) dX9_parts_94 ff_X9_129 rfl (fx_pi_lt (by decide)) (by decide) rfl H2.2.1 ?_
      refine e_imul dX9_parts_97 ?_
      refine e_iload_n dX9_parts_98 rfl ?_
      refine e_iadd dX9_parts_99 ?_
      refine e_iconst dX9_parts_100 kci_0 ?_
      refine e_iast (j := 1024 * nd + i) dX9_parts_101 rfl (fx_pi_lt (by decide)) (i_1024 nd i) (by omega) (by decide) ?_
      refine e_iinc (v := nI (i + 1)) dX9_parts_102 rfl (fx_inc _) (by decide) rfl ?_
      refine e_goto 76 dX9_parts_105 rfl ?_
      exact ih2 (i + 1) _ (by omega) (K2.sI (Or.inl rfl)) (fun q hq => by rw [fx_sI_n _ _ _ (by decide)]; exact P12 q hq) (fun q hq => by by_cases e : q = i; (subst e; rw [fx_rd0]); (rw [fx_rd2 (by omega)]; exact Z2 q (by omega)))
  intro m1 K1 P1
  exact lp2 (2 ^ na) 0 m1 (by omega) K1 P1 (fun q hq => absurd hq (Nat.not_lt_zero _))
theorem s_X9_parts {Γ : fx_G} {m : fx_M} (hL : fx_Lay m) {na nd : Nat} {t : p_Sg} (H : fx_MS m na nd t) {o : Option Nat} (hwo : m.1 83 44 = p_oi o) (ho : ∀ w, o = some w → w < na) : fx_Ct Γ mX9_parts 4 119 119 [fx_rf Γ 83] m (fun r m' => r = none ∧ fx_KP m m' ∧ fx_p1 m' t na o (2 * nd) ∧ fx_p3 m' t na nd o 0) := s_X9_parts1 hL H hwo ho (s_X9_parts2 hL H hwo ho)
