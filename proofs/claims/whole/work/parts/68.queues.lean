abbrev p_Qs := Int32 × (Nat → Int32) × (Nat → Int32)
def p_stq (m : fx_M) : p_Qs := (m.1 83 47, m.1 116, m.1 117)
/-- all orders tried, the better kept -/
def p_qs (mi te : Nat → Int32) (nd : Nat) : Nat → Nat → Int32 → Int32 → p_Qs → p_Qs
  | 0, _, _, b, s => if s.1 = -1 ∨ b < s.1 then (b, s.2.1, fun k => if k < nd then s.2.1 k else s.2.2 k) else s
  | r + 1, g, a, b, s => p_fold (fun d s => if g.testBit d = true then s else p_qs mi te nd r (g + 2 ^ d) (a + mi d) (b + te d * (a + mi d)) (s.1, p_u s.2.1 (nd - (r + 1)) (nI d), s.2.2)) nd 0 s
def fx_KW (m m' : fx_M) : Prop := m'.2 = m.2 ∧ (∀ o, o ≠ 83 → o ≠ 116 → o ≠ 117 → m'.1 o = m.1 o) ∧ ∀ j, j ≠ 47 → m'.1 83 j = m.1 83 j
theorem fx_KW.refl (m : fx_M) : fx_KW m m := ⟨rfl, fun _ _ _ _ => rfl, fun _ _ => rfl⟩
theorem fx_KW.trans {a b c : fx_M} (h : fx_KW a b) (g : fx_KW b c) : fx_KW a c := ⟨g.1.trans h.1, fun o h1 h2 h3 => (g.2.1 o h1 h2 h3).trans (h.2.1 o h1 h2 h3), fun j hj => (g.2.2 j hj).trans (h.2.2 j hj)⟩
theorem fx_KW.lay {m m' : fx_M} (h : fx_KW m m') (hL : fx_Lay m) : fx_Lay m' := fun o k v hv => by rw [h.1]; exact hL o k v hv
theorem fx_KW.ms {m m' : fx_M} {na nd : Nat} {t : p_Sg} (h : fx_KW m m') (H : fx_MS m na nd t) : fx_MS m' na nd t := H.cg (fun o ho => h.2.1 o (by omega) (by omega) (by omega)) (fun j hj => h.2.2 j (by omega))
theorem fx_KW.o {m m' : fx_M} {k : Nat} {v : Int32} (h : fx_KW m m') : fx_KW m (fx_sI m' 116 k v) := ⟨h.1, fun o h1 h2 h3 => by rw [fx_sI_n _ _ _ h2]; exact h.2.1 o h1 h2 h3, fun j hj => by rw [fx_sI_n _ _ _ (by decide)]; exact h.2.2 j hj⟩
theorem p_stq_o {m : fx_M} {k : Nat} {v : Int32} : p_stq (fx_sI m 116 k v) = ((p_stq m).1, p_u (p_stq m).2.1 k v, (p_stq m).2.2) := by
  unfold p_stq
  rw [fx_sI_n _ _ _ (by decide), fx_sI_o, fx_sI_n _ _ _ (by decide)]
theorem fx_KW.cp {m : fx_M} {b : Int32} {n : Nat} : fx_KW m (fx_w (fx_sI m 83 47 b) 117 0 116 0 n) := by
  refine ⟨rfl, fun o h1 h2 h3 => funext fun i => ?_, fun j hj => ?_⟩
  · rw [fx_w_o (fun q => h3 q.1), fx_sI_n _ _ _ h1]
  · rw [fx_w_o (fun q => absurd q.1 (by decide)), fx_rd2 (Ne.symm hj)]
theorem p_stq_cp {m : fx_M} {b : Int32} {n : Nat} : p_stq (fx_w (fx_sI m 83 47 b) 117 0 116 0 n) = (b, m.1 116, fun k => if k < n then m.1 116 k else m.1 117 k) := by
  unfold p_stq
  refine Prod.ext ?_ (Prod.ext (funext fun i => ?_) (funext fun i => ?_))
  · show (fx_w (fx_sI m 83 47 b) 117 0 116 0 n).1 83 47 = b
    rw [fx_w_o (fun q => absurd q.1 (by decide)), fx_rd0]
  · show (fx_w (fx_sI m 83 47 b) 117 0 116 0 n).1 116 i = m.1 116 i
    rw [fx_w_o (fun q => absurd q.1 (by decide)), fx_sI_n _ _ _ (by decide)]
  · show (fx_w (fx_sI m 83 47 b) 117 0 116 0 n).1 117 i = if i < n then m.1 116 i else m.1 117 i
    by_cases c : i < n
    · rw [fx_w_i (by omega) (by omega), if_pos c, fx_sI_n _ _ _ (by decide), Nat.zero_add, Nat.sub_zero]
    · rw [fx_w_o (fun q => c (by omega)), if_neg c, fx_sI_n _ _ _ (by decide)]
set_option maxRecDepth 100000 in
set_option maxHeartbeats 600000 in
theorem s_X9_queues0 {Γ : fx_G} {m : fx_M} (hL : fx_Lay m) {na nd : Nat} {t : p_Sg} (H : fx_MS m na nd t) {g : Nat} (hg : g < 2 ^ nd) (a b : Int32) : fx_Ct Γ mX9_queues 0 119 119 [fx_rf Γ 83, .int (nI nd), .int (nI g), .int a, .int b] m (fun r_ m' => r_ = none ∧ p_stq m' = p_qs (fun d => t.2.1 d 4) (fun d => t.2.1 d 5) nd 0 g a b (p_stq m) ∧ fx_KW m m') := by
  refine fx_Ct.of (j := 1) (by decide) (Nat.le_of_ble_eq_true rfl) (Nat.le_of_ble_eq_true rfl) ?_
  show fx_E Γ mX9_queues 0 119 119 _ 119 m 0 [some (fx_rf Γ 83), some (.int (nI nd)), some (.int (nI g)), some (.int a), some (.int b), none] []
  have h9 := H.2.2.2.2.2.1
  have h5 := H.2.2.2.2.2.2.1
  refine e_iload_n dX9_queues_0 rfl ?_
  refine e_aload_n dX9_queues_1 rfl ?_
  refine e_getv (v := nI nd) dX9_queues_2 ff_X9_129 rfl (fx_pi_lt (by decide)) (by decide) rfl H.2.1 ?_
  refine e_icmp_ne 65 dX9_queues_5 rfl (fun h => absurd h (not_not_intro rfl)) (fun _ => ?_)
  refine e_aload_n dX9_queues_8 rfl ?_
  refine e_get dX9_queues_9 ff_X9_266 rfl (fx_pi_lt (by decide)) (by decide) rfl ?_
  refine e_iconst dX9_queues_12 kci_m1 ?_
  refine e_icmp_eq 26 dX9_queues_13 rfl (fun c_1 => ?_) (fun c_1 => ?_)
  · refine e_aload_n dX9_queues_26 rfl ?_
    refine e_iload dX9_queues_27 rfl ?_
    refine e_put dX9_queues_29 ff_X9_266 rfl (fx_pi_lt (by decide)) (by decide) rfl (Or.inl rfl) ?_
    refine e_iconst dX9_queues_32 kci_0 ?_
    refine e_istore dX9_queues_33 (by decide) rfl ?_
    have hc : (p_stq m).1 = -1 ∨ b < (p_stq m).1 := Or.inl c_1
    have lp : ∀ (j : Nat) (k : Nat), k + j = nd → fx_E Γ mX9_queues 0 119 119 (fun r_ m' => r_ = none ∧ p_stq m' = p_qs (fun d => t.2.1 d 4) (fun d => t.2.1 d 5) nd 0 g a b (p_stq m) ∧ fx_KW m m') 119 (fx_w (fx_sI m 83 47 b) 117 0 116 0 k) 35 [some (fx_rf Γ 83), some (.int (nI nd)), some (.int (nI g)), some (.int a), some (.int b), some (.int (nI k))] [] := by
      intro j
      induction j with
      | zero =>
        intro k hk
        refine e_iload dX9_queues_35 rfl ?_
        refine e_aload_n dX9_queues_37 rfl ?_
        refine e_getv (v := nI nd) dX9_queues_38 ff_X9_129 rfl (fx_pi_lt (by decide)) (by decide) rfl (by rw [fx_w_o (fun q => absurd q.1 (by decide)), fx_rd2 (by decide)]; exact H.2.1) ?_
        refine e_icmp_ge 64 dX9_queues_41 rfl (fun _ => ?_) (fun h => absurd (nI_le (by omega) (by omega)) h)
        exact e_vret dX9_queues_64 rfl rfl ⟨rfl, by rw [show k = nd by omega, p_stq_cp]; exact (if_pos hc).symm, fx_KW.cp⟩
      | succ j ih =>
        intro k hk
        refine e_iload dX9_queues_35 rfl ?_
        refine e_aload_n dX9_queues_37 rfl ?_
        refine e_getv (v := nI nd) dX9_queues_38 ff_X9_129 rfl (fx_pi_lt (by decide)) (by decide) rfl (by rw [fx_w_o (fun q => absurd q.1 (by decide)), fx_rd2 (by decide)]; exact H.2.1) ?_
        refine e_icmp_ge 64 dX9_queues_41 rfl (fun h => absurd h (nI_ge (by omega) (by omega))) (fun _ => ?_)
        refine e_aload_n dX9_queues_44 rfl ?_
        refine e_getr (o2 := 117) dX9_queues_45 ff_X9_120 rfl (fx_pi_lt (by decide)) (by decide) rfl (hL _ _ _ rfl) ?_
        refine e_iload dX9_queues_48 rfl ?_
        refine e_aload_n dX9_queues_50 rfl ?_
        refine e_getr (o2 := 116) dX9_queues_51 ff_X9_117 rfl (fx_pi_lt (by decide)) (by decide) rfl (hL _ _ _ rfl) ?_
        refine e_iload dX9_queues_54 rfl ?_
        refine e_iald (j := k) dX9_queues_56 rfl (fx_pi_lt (by decide)) rfl (by omega) (by decide) ?_
        refine e_iast (j := k) dX9_queues_57 rfl (fx_pi_lt (by decide)) rfl (by omega) (by decide) ?_
        refine e_iinc (v := nI (k + 1)) dX9_queues_58 rfl (fx_inc _) (by decide) rfl ?_
        refine e_goto 35 dX9_queues_61 rfl ?_
        rw [show fx_sI (fx_w (fx_sI m 83 47 b) 117 0 116 0 k) 117 k ((fx_w (fx_sI m 83 47 b) 117 0 116 0 k).1 116 k) = fx_w (fx_sI m 83 47 b) 117 0 116 0 (k + 1) from by have e := fx_w_s (fx_sI m 83 47 b) (o := 117) (src := 116) 0 0 k (by decide); simp only [Nat.zero_add] at e; exact e]
        exact ih (k + 1) (by omega)
    have e0 := lp nd 0 (by omega)
    rw [fx_w_0] at e0
    exact e0
  · refine e_iload dX9_queues_16 rfl ?_
    refine e_aload_n dX9_queues_18 rfl ?_
    refine e_get dX9_queues_19 ff_X9_266 rfl (fx_pi_lt (by decide)) (by decide) rfl ?_
    refine e_icmp_lt 26 dX9_queues_22 rfl (fun c_2 => ?_) (fun c_2 => ?_)
    · refine e_aload_n dX9_queues_26 rfl ?_
      refine e_iload dX9_queues_27 rfl ?_
      refine e_put dX9_queues_29 ff_X9_266 rfl (fx_pi_lt (by decide)) (by decide) rfl (Or.inl rfl) ?_
      refine e_iconst dX9_queues_32 kci_0 ?_
      refine e_istore dX9_queues_33 (by decide) rfl ?_
      have hc : (p_stq m).1 = -1 ∨ b < (p_stq m).1 := Or.inr c_2
      have lp : ∀ (j : Nat) (k : Nat), k + j = nd → fx_E Γ mX9_queues 0 119 119 (fun r_ m' => r_ = none ∧ p_stq m' = p_qs (fun d => t.2.1 d 4) (fun d => t.2.1 d 5) nd 0 g a b (p_stq m) ∧ fx_KW m m') 119 (fx_w (fx_sI m 83 47 b) 117 0 116 0 k) 35 [some (fx_rf Γ 83), some (.int (nI nd)), some (.int (nI g)), some (.int a), some (.int b), some (.int (nI k))] [] := by
        intro j
        induction j with
        | zero =>
          intro k hk
          refine e_iload dX9_queues_35 rfl ?_
          refine e_aload_n dX9_queues_37 rfl ?_
          refine e_getv (v := nI nd) dX9_queues_38 ff_X9_129 rfl (fx_pi_lt (by decide)) (by decide) rfl (by rw [fx_w_o (fun q => absurd q.1 (by decide)), fx_rd2 (by decide)]; exact H.2.1) ?_
          refine e_icmp_ge 64 dX9_queues_41 rfl (fun _ => ?_) (fun h => absurd (nI_le (by omega) (by omega)) h)
          exact e_vret dX9_queues_64 rfl rfl ⟨rfl, by rw [show k = nd by omega, p_stq_cp]; exact (if_pos hc).symm, fx_KW.cp⟩
        | succ j ih =>
          intro k hk
          refine e_iload dX9_queues_35 rfl ?_
          refine e_aload_n dX9_queues_37 rfl ?_
          refine e_getv (v := nI nd) dX9_queues_38 ff_X9_129 rfl (fx_pi_lt (by decide)) (by decide) rfl (by rw [fx_w_o (fun q => absurd q.1 (by decide)), fx_rd2 (by decide)]; exact H.2.1) ?_
          refine e_icmp_ge 64 dX9_queues_41 rfl (fun h => absurd h (nI_ge (by omega) (by omega))) (fun _ => ?_)
          refine e_aload_n dX9_queues_44 rfl ?_
          refine e_getr (o2 := 117) dX9_queues_45 ff_X9_120 rfl (fx_pi_lt (by decide)) (by decide) rfl (hL _ _ _ rfl) ?_
          refine e_iload dX9_queues_48 rfl ?_
          refine e_aload_n dX9_queues_50 rfl ?_
          refine e_getr (o2 := 116) dX9_queues_51 ff_X9_117 rfl (fx_pi_lt (by decide)) (by decide) rfl (hL _ _ _ rfl) ?_
          refine e_iload dX9_queues_54 rfl ?_
          refine e_iald (j := k) dX9_queues_56 rfl (fx_pi_lt (by decide)) rfl (by omega) (by decide) ?_
          refine e_iast (j := k) dX9_queues_57 rfl (fx_pi_lt (by decide)) rfl (by omega) (by decide) ?_
          refine e_iinc (v := nI (k + 1)) dX9_queues_58 rfl (fx_inc _) (by decide) rfl ?_
          refine e_goto 35 dX9_queues_61 rfl ?_
          rw [show fx_sI (fx_w (fx_sI m 83 47 b) 117 0 116 0 k) 117 k ((fx_w (fx_sI m 83 47 b) 117 0 116 0 k).1 116 k) = fx_w (fx_sI m 83 47 b) 117 0 116 0 (k + 1) from by have e := fx_w_s (fx_sI m 83 47 b) (o := 117) (src := 116) 0 0 k (by decide); simp only [Nat.zero_add] at e; exact e]
          exact ih (k + 1) (by omega)
      have e0 := lp nd 0 (by omega)
      rw [fx_w_0] at e0
      exact e0
    · exact e_vret dX9_queues_25 rfl rfl ⟨rfl, (if_neg (by rintro (h | h); exact c_1 h; exact c_2 h)).symm, fx_KW.refl m⟩
theorem s_X9_queues0q {Γ : fx_G} {m : fx_M} (hL : fx_Lay m) {na nd : Nat} {t : p_Sg} (H : fx_MS m na nd t) {q : Nat} (hqn : q + 0 = nd) {g : Nat} (hg : g < 2 ^ nd) (a b : Int32) : fx_Ct Γ mX9_queues 0 119 119 [fx_rf Γ 83, .int (nI q), .int (nI g), .int a, .int b] m (fun r_ m' => r_ = none ∧ p_stq m' = p_qs (fun d => t.2.1 d 4) (fun d => t.2.1 d 5) nd 0 g a b (p_stq m) ∧ fx_KW m m') := by
  have e : q = nd := hqn
  rw [e]
  exact s_X9_queues0 hL H hg a b
set_option maxRecDepth 100000 in
set_option maxHeartbeats 600000 in
theorem s_X9_queues1 {Γ : fx_G} {m : fx_M} (hL : fx_Lay m) {na nd : Nat} {t : p_Sg} (H : fx_MS m na nd t) {q : Nat} (hqn : q + 1 = nd) {g : Nat} (hg : g < 2 ^ nd) (a b : Int32) : fx_Ct Γ mX9_queues 1 119 119 [fx_rf Γ 83, .int (nI q), .int (nI g), .int a, .int b] m (fun r_ m' => r_ = none ∧ p_stq m' = p_qs (fun d => t.2.1 d 4) (fun d => t.2.1 d 5) nd 1 g a b (p_stq m) ∧ fx_KW m m') := by
  refine fx_Ct.of (j := 1) (by decide) (Nat.le_of_ble_eq_true rfl) (Nat.le_of_ble_eq_true rfl) ?_
  show fx_E Γ mX9_queues 1 119 119 _ 119 m 0 [some (fx_rf Γ 83), some (.int (nI q)), some (.int (nI g)), some (.int a), some (.int b), none] []
  have h9 := H.2.2.2.2.2.1
  have h5 := H.2.2.2.2.2.2.1
  have h512 := p_pow9 (show nd ≤ 9 by omega)
  have lp : ∀ (j : Nat) (k : Nat) (m2 : fx_M), k + j = nd → p_qs (fun d => t.2.1 d 4) (fun d => t.2.1 d 5) nd 1 g a b (p_stq m) = p_fold (fun d s => if g.testBit d = true then s else p_qs (fun d => t.2.1 d 4) (fun d => t.2.1 d 5) nd 0 (g + 2 ^ d) (a + t.2.1 d 4) (b + t.2.1 d 5 * (a + t.2.1 d 4)) (s.1, p_u s.2.1 (nd - 1) (nI d), s.2.2)) j k (p_stq m2) → fx_KW m m2 → fx_E Γ mX9_queues 1 119 119 (fun r_ m' => r_ = none ∧ p_stq m' = p_qs (fun d => t.2.1 d 4) (fun d => t.2.1 d 5) nd 1 g a b (p_stq m) ∧ fx_KW m m') 119 m2 68 [some (fx_rf Γ 83), some (.int (nI q)), some (.int (nI g)), some (.int a), some (.int b), some (.int (nI k))] [] := by
    intro j
    induction j with
    | zero =>
      intro k m2 hk hq K2
      have hL2 := K2.lay hL
      have H2 := K2.ms H
      refine e_iload dX9_queues_68 rfl ?_
      refine e_aload_n dX9_queues_70 rfl ?_
      refine e_getv (v := nI nd) dX9_queues_71 ff_X9_129 rfl (fx_pi_lt (by decide)) (by decide) rfl H2.2.1 ?_
      refine e_icmp_ge 146 dX9_queues_74 rfl (fun _ => ?_) (fun h => absurd (nI_le (by omega) (by omega)) h)
      exact e_vret dX9_queues_146 rfl rfl ⟨rfl, hq.symm, K2⟩
    | succ j ih =>
      intro k m2 hk hq K2
      have hL2 := K2.lay hL
      have H2 := K2.ms H
      refine e_iload dX9_queues_68 rfl ?_
      refine e_aload_n dX9_queues_70 rfl ?_
      refine e_getv (v := nI nd) dX9_queues_71 ff_X9_129 rfl (fx_pi_lt (by decide)) (by decide) rfl H2.2.1 ?_
      refine e_icmp_ge 146 dX9_queues_74 rfl (fun h => absurd h (nI_ge (by omega) (by omega))) (fun _ => ?_)
      refine e_iload_n dX9_queues_77 rfl ?_
      refine e_iload dX9_queues_78 rfl ?_
      refine e_ishr dX9_queues_80 ?_
      refine e_iconst dX9_queues_81 kci_1 ?_
      refine e_iand dX9_queues_82 ?_
      refine e_iconst dX9_queues_83 kci_1 ?_
      refine e_icmp_ne 90 dX9_queues_84 rfl (fun c_b => ?_) (fun c_b => ?_)
      · have hbs : g.testBit k = false := by cases z : g.testBit k; rfl; exact absurd ((i_bitE (B := g) (k := k) (by omega) (by omega)).mpr z) c_b
        have hgx := p_adlt hg (x := k) (by omega) hbs
        refine e_aload_n dX9_queues_90 rfl ?_
        refine e_getr (o2 := 116) dX9_queues_91 ff_X9_117 rfl (fx_pi_lt (by decide)) (by decide) rfl (hL2 _ _ _ rfl) ?_
        refine e_iload_n dX9_queues_94 rfl ?_
        refine e_iload dX9_queues_95 rfl ?_
        refine e_iast (j := q) dX9_queues_97 rfl (fx_pi_lt (by decide)) rfl (by omega) (by decide) ?_
        refine e_aload_n dX9_queues_98 rfl ?_
        refine e_iload_n dX9_queues_99 rfl ?_
        refine e_iconst dX9_queues_100 kci_1 ?_
        refine e_iadd dX9_queues_101 ?_
        rw [nI_1]
        refine e_iload_n dX9_queues_102 rfl ?_
        refine e_iconst dX9_queues_103 kci_1 ?_
        refine e_iload dX9_queues_104 rfl ?_
        refine e_ishl dX9_queues_106 ?_
        refine e_iadd dX9_queues_107 ?_
        rw [i_shl1 (by omega), nI_add]
        refine e_iload_n dX9_queues_108 rfl ?_
        refine e_aload_n dX9_queues_109 rfl ?_
        refine e_getr (o2 := 96) dX9_queues_110 ff_X9_53 rfl (fx_pi_lt (by decide)) (by decide) rfl (hL2 _ _ _ rfl) ?_
        refine e_iload dX9_queues_113 rfl ?_
        refine e_ialdv (j := k) (v := t.2.1 k 4) dX9_queues_115 rfl (fx_pi_lt (by decide)) rfl (by omega) (by decide) (by rw [fx_sI_n _ _ _ (by decide)]; exact H2.2.2.2.2.1 k (by omega) 4 (by decide)) ?_
        refine e_iadd dX9_queues_116 ?_
        refine e_iload dX9_queues_117 rfl ?_
        refine e_aload_n dX9_queues_119 rfl ?_
        refine e_getr (o2 := 97) dX9_queues_120 ff_X9_56 rfl (fx_pi_lt (by decide)) (by decide) rfl (hL2 _ _ _ rfl) ?_
        refine e_iload dX9_queues_123 rfl ?_
        refine e_ialdv (j := k) (v := t.2.1 k 5) dX9_queues_125 rfl (fx_pi_lt (by decide)) rfl (by omega) (by decide) (by rw [fx_sI_n _ _ _ (by decide)]; exact H2.2.2.2.2.1 k (by omega) 5 (by decide)) ?_
        refine e_iload_n dX9_queues_126 rfl ?_
        refine e_aload_n dX9_queues_127 rfl ?_
        refine e_getr (o2 := 96) dX9_queues_128 ff_X9_53 rfl (fx_pi_lt (by decide)) (by decide) rfl (hL2 _ _ _ rfl) ?_
        refine e_iload dX9_queues_131 rfl ?_
        refine e_ialdv (j := k) (v := t.2.1 k 4) dX9_queues_133 rfl (fx_pi_lt (by decide)) rfl (by omega) (by decide) (by rw [fx_sI_n _ _ _ (by decide)]; exact H2.2.2.2.2.1 k (by omega) 4 (by decide)) ?_
        refine e_iadd dX9_queues_134 ?_
        refine e_imul dX9_queues_135 ?_
        refine e_iadd dX9_queues_136 ?_
        refine e_callV (μ' := mX9_queues) (ci := 9) (As := [.int (nI (q + 1)), .int (nI (g + 2 ^ k)), .int (a + (t.2.1 k 4)), .int (b + ((t.2.1 k 5) * (a + (t.2.1 k 4))))]) dX9_queues_137 wl_X9_269 ok_X9_queues rfl rfl (fx_pi_lt (by decide)) (by decide) (Nat.le_of_ble_eq_true rfl) fx_n1 (s_X9_queues0q (m := fx_sI m2 116 q (nI k)) (K2.o.lay hL) (K2.o.ms H) (q := q + 1) (by omega) (g := g + 2 ^ k) hgx (a + (t.2.1 k 4)) (b + ((t.2.1 k 5) * (a + (t.2.1 k 4))))) rfl (fun r_ m_ hpost => ?_)
        revert r_ m_
        intro r_ m3 hpost
        obtain ⟨rfl, e3, K3⟩ := hpost
        have K23 := K2.o.trans K3
        refine e_iinc (v := nI (k + 1)) dX9_queues_140 rfl (fx_inc _) (by decide) rfl ?_
        refine e_goto 68 dX9_queues_143 rfl ?_
        have e : (fun d s => if g.testBit d = true then s else p_qs (fun d => t.2.1 d 4) (fun d => t.2.1 d 5) nd 0 (g + 2 ^ d) (a + t.2.1 d 4) (b + t.2.1 d 5 * (a + t.2.1 d 4)) (s.1, p_u s.2.1 (nd - 1) (nI d), s.2.2)) k (p_stq m2) = p_stq m3 := by rw [e3, p_stq_o]; show (if g.testBit k = true then _ else _) = _; rw [if_neg (by rw [hbs]; decide), show nd - 1 = q by omega]
        rw [p_fold_s e] at hq
        exact ih (k + 1) m3 (by omega) hq K23
      · refine e_goto 140 dX9_queues_87 rfl ?_
        refine e_iinc (v := nI (k + 1)) dX9_queues_140 rfl (fx_inc _) (by decide) rfl ?_
        refine e_goto 68 dX9_queues_143 rfl ?_
        have e : (fun d s => if g.testBit d = true then s else p_qs (fun d => t.2.1 d 4) (fun d => t.2.1 d 5) nd 0 (g + 2 ^ d) (a + t.2.1 d 4) (b + t.2.1 d 5 * (a + t.2.1 d 4)) (s.1, p_u s.2.1 (nd - 1) (nI d), s.2.2)) k (p_stq m2) = p_stq m2 := if_pos ((i_bitE (by omega) (by omega)).mp c_b)
        rw [p_fold_s e] at hq
        exact ih (k + 1) m2 (by omega) hq K2
  refine e_iload_n dX9_queues_0 rfl ?_
  refine e_aload_n dX9_queues_1 rfl ?_
  refine e_getv (v := nI nd) dX9_queues_2 ff_X9_129 rfl (fx_pi_lt (by decide)) (by decide) rfl H.2.1 ?_
  refine e_icmp_ne 65 dX9_queues_5 rfl (fun _ => ?_) (fun h => absurd h (fun e => by have := (nI_eq (a := q) (b := nd) (by omega) (by omega)).mp e; omega))
  refine e_iconst dX9_queues_65 kci_0 ?_
  refine e_istore dX9_queues_66 (by decide) rfl ?_
  exact lp nd 0 m (by omega) rfl (fx_KW.refl m)
set_option maxRecDepth 100000 in
set_option maxHeartbeats 600000 in
theorem s_X9_queues2 {Γ : fx_G} {m : fx_M} (hL : fx_Lay m) {na nd : Nat} {t : p_Sg} (H : fx_MS m na nd t) {q : Nat} (hqn : q + 2 = nd) {g : Nat} (hg : g < 2 ^ nd) (a b : Int32) : fx_Ct Γ mX9_queues 2 119 119 [fx_rf Γ 83, .int (nI q), .int (nI g), .int a, .int b] m (fun r_ m' => r_ = none ∧ p_stq m' = p_qs (fun d => t.2.1 d 4) (fun d => t.2.1 d 5) nd 2 g a b (p_stq m) ∧ fx_KW m m') := by
  refine fx_Ct.of (j := 1) (by decide) (Nat.le_of_ble_eq_true rfl) (Nat.le_of_ble_eq_true rfl) ?_
  show fx_E Γ mX9_queues 2 119 119 _ 119 m 0 [some (fx_rf Γ 83), some (.int (nI q)), some (.int (nI g)), some (.int a), some (.int b), none] []
  have h9 := H.2.2.2.2.2.1
  have h5 := H.2.2.2.2.2.2.1
  have h512 := p_pow9 (show nd ≤ 9 by omega)
  have lp : ∀ (j : Nat) (k : Nat) (m2 : fx_M), k + j = nd → p_qs (fun d => t.2.1 d 4) (fun d => t.2.1 d 5) nd 2 g a b (p_stq m) = p_fold (fun d s => if g.testBit d = true then s else p_qs (fun d => t.2.1 d 4) (fun d => t.2.1 d 5) nd 1 (g + 2 ^ d) (a + t.2.1 d 4) (b + t.2.1 d 5 * (a + t.2.1 d 4)) (s.1, p_u s.2.1 (nd - 2) (nI d), s.2.2)) j k (p_stq m2) → fx_KW m m2 → fx_E Γ mX9_queues 2 119 119 (fun r_ m' => r_ = none ∧ p_stq m' = p_qs (fun d => t.2.1 d 4) (fun d => t.2.1 d 5) nd 2 g a b (p_stq m) ∧ fx_KW m m') 119 m2 68 [some (fx_rf Γ 83), some (.int (nI q)), some (.int (nI g)), some (.int a), some (.int b), some (.int (nI k))] [] := by
    intro j
    induction j with
    | zero =>
      intro k m2 hk hq K2
      have hL2 := K2.lay hL
      have H2 := K2.ms H
      refine e_iload dX9_queues_68 rfl ?_
      refine e_aload_n dX9_queues_70 rfl ?_
      refine e_getv (v := nI nd) dX9_queues_71 ff_X9_129 rfl (fx_pi_lt (by decide)) (by decide) rfl H2.2.1 ?_
      refine e_icmp_ge 146 dX9_queues_74 rfl (fun _ => ?_) (fun h => absurd (nI_le (by omega) (by omega)) h)
      exact e_vret dX9_queues_146 rfl rfl ⟨rfl, hq.symm, K2⟩
    | succ j ih =>
      intro k m2 hk hq K2
      have hL2 := K2.lay hL
      have H2 := K2.ms H
      refine e_iload dX9_queues_68 rfl ?_
      refine e_aload_n dX9_queues_70 rfl ?_
      refine e_getv (v := nI nd) dX9_queues_71 ff_X9_129 rfl (fx_pi_lt (by decide)) (by decide) rfl H2.2.1 ?_
      refine e_icmp_ge 146 dX9_queues_74 rfl (fun h => absurd h (nI_ge (by omega) (by omega))) (fun _ => ?_)
      refine e_iload_n dX9_queues_77 rfl ?_
      refine e_iload dX9_queues_78 rfl ?_
      refine e_ishr dX9_queues_80 ?_
      refine e_iconst dX9_queues_81 kci_1 ?_
      refine e_iand dX9_queues_82 ?_
      refine e_iconst dX9_queues_83 kci_1 ?_
      refine e_icmp_ne 90 dX9_queues_84 rfl (fun c_b => ?_) (fun c_b => ?_)
      · have hbs : g.testBit k = false := by cases z : g.testBit k; rfl; exact absurd ((i_bitE (B := g) (k := k) (by omega) (by omega)).mpr z) c_b
        have hgx := p_adlt hg (x := k) (by omega) hbs
        refine e_aload_n dX9_queues_90 rfl ?_
        refine e_getr (o2 := 116) dX9_queues_91 ff_X9_117 rfl (fx_pi_lt (by decide)) (by decide) rfl (hL2 _ _ _ rfl) ?_
        refine e_iload_n dX9_queues_94 rfl ?_
        refine e_iload dX9_queues_95 rfl ?_
        refine e_iast (j := q) dX9_queues_97 rfl (fx_pi_lt (by decide)) rfl (by omega) (by decide) ?_
        refine e_aload_n dX9_queues_98 rfl ?_
        refine e_iload_n dX9_queues_99 rfl ?_
        refine e_iconst dX9_queues_100 kci_1 ?_
        refine e_iadd dX9_queues_101 ?_
        rw [nI_1]
        refine e_iload_n dX9_queues_102 rfl ?_
        refine e_iconst dX9_queues_103 kci_1 ?_
        refine e_iload dX9_queues_104 rfl ?_
        refine e_ishl dX9_queues_106 ?_
        refine e_iadd dX9_queues_107 ?_
        rw [i_shl1 (by omega), nI_add]
        refine e_iload_n dX9_queues_108 rfl ?_
        refine e_aload_n dX9_queues_109 rfl ?_
        refine e_getr (o2 := 96) dX9_queues_110 ff_X9_53 rfl (fx_pi_lt (by decide)) (by decide) rfl (hL2 _ _ _ rfl) ?_
        refine e_iload dX9_queues_113 rfl ?_
        refine e_ialdv (j := k) (v := t.2.1 k 4) dX9_queues_115 rfl (fx_pi_lt (by decide)) rfl (by omega) (by decide) (by rw [fx_sI_n _ _ _ (by decide)]; exact H2.2.2.2.2.1 k (by omega) 4 (by decide)) ?_
        refine e_iadd dX9_queues_116 ?_
        refine e_iload dX9_queues_117 rfl ?_
        refine e_aload_n dX9_queues_119 rfl ?_
        refine e_getr (o2 := 97) dX9_queues_120 ff_X9_56 rfl (fx_pi_lt (by decide)) (by decide) rfl (hL2 _ _ _ rfl) ?_
        refine e_iload dX9_queues_123 rfl ?_
        refine e_ialdv (j := k) (v := t.2.1 k 5) dX9_queues_125 rfl (fx_pi_lt (by decide)) rfl (by omega) (by decide) (by rw [fx_sI_n _ _ _ (by decide)]; exact H2.2.2.2.2.1 k (by omega) 5 (by decide)) ?_
        refine e_iload_n dX9_queues_126 rfl ?_
        refine e_aload_n dX9_queues_127 rfl ?_
        refine e_getr (o2 := 96) dX9_queues_128 ff_X9_53 rfl (fx_pi_lt (by decide)) (by decide) rfl (hL2 _ _ _ rfl) ?_
        refine e_iload dX9_queues_131 rfl ?_
        refine e_ialdv (j := k) (v := t.2.1 k 4) dX9_queues_133 rfl (fx_pi_lt (by decide)) rfl (by omega) (by decide) (by rw [fx_sI_n _ _ _ (by decide)]; exact H2.2.2.2.2.1 k (by omega) 4 (by decide)) ?_
        refine e_iadd dX9_queues_134 ?_
        refine e_imul dX9_queues_135 ?_
        refine e_iadd dX9_queues_136 ?_
        refine e_callV (μ' := mX9_queues) (ci := 9) (As := [.int (nI (q + 1)), .int (nI (g + 2 ^ k)), .int (a + (t.2.1 k 4)), .int (b + ((t.2.1 k 5) * (a + (t.2.1 k 4))))]) dX9_queues_137 wl_X9_269 ok_X9_queues rfl rfl (fx_pi_lt (by decide)) (by decide) (Nat.le_of_ble_eq_true rfl) fx_n1 (s_X9_queues1 (m := fx_sI m2 116 q (nI k)) (K2.o.lay hL) (K2.o.ms H) (q := q + 1) (by omega) (g := g + 2 ^ k) hgx (a + (t.2.1 k 4)) (b + ((t.2.1 k 5) * (a + (t.2.1 k 4))))) rfl (fun r_ m_ hpost => ?_)
        revert r_ m_
        intro r_ m3 hpost
        obtain ⟨rfl, e3, K3⟩ := hpost
        have K23 := K2.o.trans K3
        refine e_iinc (v := nI (k + 1)) dX9_queues_140 rfl (fx_inc _) (by decide) rfl ?_
        refine e_goto 68 dX9_queues_143 rfl ?_
        have e : (fun d s => if g.testBit d = true then s else p_qs (fun d => t.2.1 d 4) (fun d => t.2.1 d 5) nd 1 (g + 2 ^ d) (a + t.2.1 d 4) (b + t.2.1 d 5 * (a + t.2.1 d 4)) (s.1, p_u s.2.1 (nd - 2) (nI d), s.2.2)) k (p_stq m2) = p_stq m3 := by rw [e3, p_stq_o]; show (if g.testBit k = true then _ else _) = _; rw [if_neg (by rw [hbs]; decide), show nd - 2 = q by omega]
        rw [p_fold_s e] at hq
        exact ih (k + 1) m3 (by omega) hq K23
      · refine e_goto 140 dX9_queues_87 rfl ?_
        refine e_iinc (v := nI (k + 1)) dX9_queues_140 rfl (fx_inc _) (by decide) rfl ?_
        refine e_goto 68 dX9_queues_143 rfl ?_
        have e : (fun d s => if g.testBit d = true then s else p_qs (fun d => t.2.1 d 4) (fun d => t.2.1 d 5) nd 1 (g + 2 ^ d) (a + t.2.1 d 4) (b + t.2.1 d 5 * (a + t.2.1 d 4)) (s.1, p_u s.2.1 (nd - 2) (nI d), s.2.2)) k (p_stq m2) = p_stq m2 := if_pos ((i_bitE (by omega) (by omega)).mp c_b)
        rw [p_fold_s e] at hq
        exact ih (k + 1) m2 (by omega) hq K2
  refine e_iload_n dX9_queues_0 rfl ?_
  refine e_aload_n dX9_queues_1 rfl ?_
  refine e_getv (v := nI nd) dX9_queues_2 ff_X9_129 rfl (fx_pi_lt (by decide)) (by decide) rfl H.2.1 ?_
  refine e_icmp_ne 65 dX9_queues_5 rfl (fun _ => ?_) (fun h => absurd h (fun e => by have := (nI_eq (a := q) (b := nd) (by omega) (by omega)).mp e; omega))
  refine e_iconst dX9_queues_65 kci_0 ?_
  refine e_istore dX9_queues_66 (by decide) rfl ?_
  exact lp nd 0 m (by omega) rfl (fx_KW.refl m)
set_option maxRecDepth 100000 in
set_option maxHeartbeats 600000 in
theorem s_X9_queues3 {Γ : fx_G} {m : fx_M} (hL : fx_Lay m) {na nd : Nat} {t : p_Sg} (H : fx_MS m na nd t) {q : Nat} (hqn : q + 3 = nd) {g : Nat} (hg : g < 2 ^ nd) (a b : Int32) : fx_Ct Γ mX9_queues 3 119 119 [fx_rf Γ 83, .int (nI q), .int (nI g), .int a, .int b] m (fun r_ m' => r_ = none ∧ p_stq m' = p_qs (fun d => t.2.1 d 4) (fun d => t.2.1 d 5) nd 3 g a b (p_stq m) ∧ fx_KW m m') := by
  refine fx_Ct.of (j := 1) (by decide) (Nat.le_of_ble_eq_true rfl) (Nat.le_of_ble_eq_true rfl) ?_
  show fx_E Γ mX9_queues 3 119 119 _ 119 m 0 [some (fx_rf Γ 83), some (.int (nI q)), some (.int (nI g)), some (.int a), some (.int b), none] []
  have h9 := H.2.2.2.2.2.1
  have h5 := H.2.2.2.2.2.2.1
  have h512 := p_pow9 (show nd ≤ 9 by omega)
  have lp : ∀ (j : Nat) (k : Nat) (m2 : fx_M), k + j = nd → p_qs (fun d => t.2.1 d 4) (fun d => t.2.1 d 5) nd 3 g a b (p_stq m) = p_fold (fun d s => if g.testBit d = true then s else p_qs (fun d => t.2.1 d 4) (fun d => t.2.1 d 5) nd 2 (g + 2 ^ d) (a + t.2.1 d 4) (b + t.2.1 d 5 * (a + t.2.1 d 4)) (s.1, p_u s.2.1 (nd - 3) (nI d), s.2.2)) j k (p_stq m2) → fx_KW m m2 → fx_E Γ mX9_queues 3 119 119 (fun r_ m' => r_ = none ∧ p_stq m' = p_qs (fun d => t.2.1 d 4) (fun d => t.2.1 d 5) nd 3 g a b (p_stq m) ∧ fx_KW m m') 119 m2 68 [some (fx_rf Γ 83), some (.int (nI q)), some (.int (nI g)), some (.int a), some (.int b), some (.int (nI k))] [] := by
    intro j
    induction j with
    | zero =>
      intro k m2 hk hq K2
      have hL2 := K2.lay hL
      have H2 := K2.ms H
      refine e_iload dX9_queues_68 rfl ?_
      refine e_aload_n dX9_queues_70 rfl ?_
      refine e_getv (v := nI nd) dX9_queues_71 ff_X9_129 rfl (fx_pi_lt (by decide)) (by decide) rfl H2.2.1 ?_
      refine e_icmp_ge 146 dX9_queues_74 rfl (fun _ => ?_) (fun h => absurd (nI_le (by omega) (by omega)) h)
      exact e_vret dX9_queues_146 rfl rfl ⟨rfl, hq.symm, K2⟩
    | succ j ih =>
      intro k m2 hk hq K2
      have hL2 := K2.lay hL
      have H2 := K2.ms H
      refine e_iload dX9_queues_68 rfl ?_
      refine e_aload_n dX9_queues_70 rfl ?_
      refine e_getv (v := nI nd) dX9_queues_71 ff_X9_129 rfl (fx_pi_lt (by decide)) (by decide) rfl H2.2.1 ?_
      refine e_icmp_ge 146 dX9_queues_74 rfl (fun h => absurd h (nI_ge (by omega) (by omega))) (fun _ => ?_)
      refine e_iload_n dX9_queues_77 rfl ?_
      refine e_iload dX9_queues_78 rfl ?_
      refine e_ishr dX9_queues_80 ?_
      refine e_iconst dX9_queues_81 kci_1 ?_
      refine e_iand dX9_queues_82 ?_
      refine e_iconst dX9_queues_83 kci_1 ?_
      refine e_icmp_ne 90 dX9_queues_84 rfl (fun c_b => ?_) (fun c_b => ?_)
      · have hbs : g.testBit k = false := by cases z : g.testBit k; rfl; exact absurd ((i_bitE (B := g) (k := k) (by omega) (by omega)).mpr z) c_b
        have hgx := p_adlt hg (x := k) (by omega) hbs
        refine e_aload_n dX9_queues_90 rfl ?_
        refine e_getr (o2 := 116) dX9_queues_91 ff_X9_117 rfl (fx_pi_lt (by decide)) (by decide) rfl (hL2 _ _ _ rfl) ?_
        refine e_iload_n dX9_queues_94 rfl ?_
        refine e_iload dX9_queues_95 rfl ?_
        refine e_iast (j := q) dX9_queues_97 rfl (fx_pi_lt (by decide)) rfl (by omega) (by decide) ?_
        refine e_aload_n dX9_queues_98 rfl ?_
        refine e_iload_n dX9_queues_99 rfl ?_
        refine e_iconst dX9_queues_100 kci_1 ?_
        refine e_iadd dX9_queues_101 ?_
        rw [nI_1]
        refine e_iload_n dX9_queues_102 rfl ?_
        refine e_iconst dX9_queues_103 kci_1 ?_
        refine e_iload dX9_queues_104 rfl ?_
        refine e_ishl dX9_queues_106 ?_
        refine e_iadd dX9_queues_107 ?_
        rw [i_shl1 (by omega), nI_add]
        refine e_iload_n dX9_queues_108 rfl ?_
        refine e_aload_n dX9_queues_109 rfl ?_
        refine e_getr (o2 := 96) dX9_queues_110 ff_X9_53 rfl (fx_pi_lt (by decide)) (by decide) rfl (hL2 _ _ _ rfl) ?_
        refine e_iload dX9_queues_113 rfl ?_
        refine e_ialdv (j := k) (v := t.2.1 k 4) dX9_queues_115 rfl (fx_pi_lt (by decide)) rfl (by omega) (by decide) (by rw [fx_sI_n _ _ _ (by decide)]; exact H2.2.2.2.2.1 k (by omega) 4 (by decide)) ?_
        refine e_iadd dX9_queues_116 ?_
        refine e_iload dX9_queues_117 rfl ?_
        refine e_aload_n dX9_queues_119 rfl ?_
        refine e_getr (o2 := 97) dX9_queues_120 ff_X9_56 rfl (fx_pi_lt (by decide)) (by decide) rfl (hL2 _ _ _ rfl) ?_
        refine e_iload dX9_queues_123 rfl ?_
        refine e_ialdv (j := k) (v := t.2.1 k 5) dX9_queues_125 rfl (fx_pi_lt (by decide)) rfl (by omega) (by decide) (by rw [fx_sI_n _ _ _ (by decide)]; exact H2.2.2.2.2.1 k (by omega) 5 (by decide)) ?_
        refine e_iload_n dX9_queues_126 rfl ?_
        refine e_aload_n dX9_queues_127 rfl ?_
        refine e_getr (o2 := 96) dX9_queues_128 ff_X9_53 rfl (fx_pi_lt (by decide)) (by decide) rfl (hL2 _ _ _ rfl) ?_
        refine e_iload dX9_queues_131 rfl ?_
        refine e_ialdv (j := k) (v := t.2.1 k 4) dX9_queues_133 rfl (fx_pi_lt (by decide)) rfl (by omega) (by decide) (by rw [fx_sI_n _ _ _ (by decide)]; exact H2.2.2.2.2.1 k (by omega) 4 (by decide)) ?_
        refine e_iadd dX9_queues_134 ?_
        refine e_imul dX9_queues_135 ?_
        refine e_iadd dX9_queues_136 ?_
        refine e_callV (μ' := mX9_queues) (ci := 9) (As := [.int (nI (q + 1)), .int (nI (g + 2 ^ k)), .int (a + (t.2.1 k 4)), .int (b + ((t.2.1 k 5) * (a + (t.2.1 k 4))))]) dX9_queues_137 wl_X9_269 ok_X9_queues rfl rfl (fx_pi_lt (by decide)) (by decide) (Nat.le_of_ble_eq_true rfl) fx_n1 (s_X9_queues2 (m := fx_sI m2 116 q (nI k)) (K2.o.lay hL) (K2.o.ms H) (q := q + 1) (by omega) (g := g + 2 ^ k) hgx (a + (t.2.1 k 4)) (b + ((t.2.1 k 5) * (a + (t.2.1 k 4))))) rfl (fun r_ m_ hpost => ?_)
        revert r_ m_
        intro r_ m3 hpost
        obtain ⟨rfl, e3, K3⟩ := hpost
        have K23 := K2.o.trans K3
        refine e_iinc (v := nI (k + 1)) dX9_queues_140 rfl (fx_inc _) (by decide) rfl ?_
        refine e_goto 68 dX9_queues_143 rfl ?_
        have e : (fun d s => if g.testBit d = true then s else p_qs (fun d => t.2.1 d 4) (fun d => t.2.1 d 5) nd 2 (g + 2 ^ d) (a + t.2.1 d 4) (b + t.2.1 d 5 * (a + t.2.1 d 4)) (s.1, p_u s.2.1 (nd - 3) (nI d), s.2.2)) k (p_stq m2) = p_stq m3 := by rw [e3, p_stq_o]; show (if g.testBit k = true then _ else _) = _; rw [if_neg (by rw [hbs]; decide), show nd - 3 = q by omega]
        rw [p_fold_s e] at hq
        exact ih (k + 1) m3 (by omega) hq K23
      · refine e_goto 140 dX9_queues_87 rfl ?_
        refine e_iinc (v := nI (k + 1)) dX9_queues_140 rfl (fx_inc _) (by decide) rfl ?_
        refine e_goto 68 dX9_queues_143 rfl ?_
        have e : (fun d s => if g.testBit d = true then s else p_qs (fun d => t.2.1 d 4) (fun d => t.2.1 d 5) nd 2 (g + 2 ^ d) (a + t.2.1 d 4) (b + t.2.1 d 5 * (a + t.2.1 d 4)) (s.1, p_u s.2.1 (nd - 3) (nI d), s.2.2)) k (p_stq m2) = p_stq m2 := if_pos ((i_bitE (by omega) (by omega)).mp c_b)
        rw [p_fold_s e] at hq
        exact ih (k + 1) m2 (by omega) hq K2
  refine e_iload_n dX9_queues_0 rfl ?_
  refine e_aload_n dX9_queues_1 rfl ?_
  refine e_getv (v := nI nd) dX9_queues_2 ff_X9_129 rfl (fx_pi_lt (by decide)) (by decide) rfl H.2.1 ?_
  refine e_icmp_ne 65 dX9_queues_5 rfl (fun _ => ?_) (fun h => absurd h (fun e => by have := (nI_eq (a := q) (b := nd) (by omega) (by omega)).mp e; omega))
  refine e_iconst dX9_queues_65 kci_0 ?_
  refine e_istore dX9_queues_66 (by decide) rfl ?_
  exact lp nd 0 m (by omega) rfl (fx_KW.refl m)
set_option maxRecDepth 100000 in
set_option maxHeartbeats 600000 in
theorem s_X9_queues4 {Γ : fx_G} {m : fx_M} (hL : fx_Lay m) {na nd : Nat} {t : p_Sg} (H : fx_MS m na nd t) {q : Nat} (hqn : q + 4 = nd) {g : Nat} (hg : g < 2 ^ nd) (a b : Int32) : fx_Ct Γ mX9_queues 4 119 119 [fx_rf Γ 83, .int (nI q), .int (nI g), .int a, .int b] m (fun r_ m' => r_ = none ∧ p_stq m' = p_qs (fun d => t.2.1 d 4) (fun d => t.2.1 d 5) nd 4 g a b (p_stq m) ∧ fx_KW m m') := by
  refine fx_Ct.of (j := 1) (by decide) (Nat.le_of_ble_eq_true rfl) (Nat.le_of_ble_eq_true rfl) ?_
  show fx_E Γ mX9_queues 4 119 119 _ 119 m 0 [some (fx_rf Γ 83), some (.int (nI q)), some (.int (nI g)), some (.int a), some (.int b), none] []
  have h9 := H.2.2.2.2.2.1
  have h5 := H.2.2.2.2.2.2.1
  have h512 := p_pow9 (show nd ≤ 9 by omega)
  have lp : ∀ (j : Nat) (k : Nat) (m2 : fx_M), k + j = nd → p_qs (fun d => t.2.1 d 4) (fun d => t.2.1 d 5) nd 4 g a b (p_stq m) = p_fold (fun d s => if g.testBit d = true then s else p_qs (fun d => t.2.1 d 4) (fun d => t.2.1 d 5) nd 3 (g + 2 ^ d) (a + t.2.1 d 4) (b + t.2.1 d 5 * (a + t.2.1 d 4)) (s.1, p_u s.2.1 (nd - 4) (nI d), s.2.2)) j k (p_stq m2) → fx_KW m m2 → fx_E Γ mX9_queues 4 119 119 (fun r_ m' => r_ = none ∧ p_stq m' = p_qs (fun d => t.2.1 d 4) (fun d => t.2.1 d 5) nd 4 g a b (p_stq m) ∧ fx_KW m m') 119 m2 68 [some (fx_rf Γ 83), some (.int (nI q)), some (.int (nI g)), some (.int a), some (.int b), some (.int (nI k))] [] := by
    intro j
    induction j with
    | zero =>
      intro k m2 hk hq K2
      have hL2 := K2.lay hL
      have H2 := K2.ms H
      refine e_iload dX9_queues_68 rfl ?_
      refine e_aload_n dX9_queues_70 rfl ?_
      refine e_getv (v := nI nd) dX9_queues_71 ff_X9_129 rfl (fx_pi_lt (by decide)) (by decide) rfl H2.2.1 ?_
      refine e_icmp_ge 146 dX9_queues_74 rfl (fun _ => ?_) (fun h => absurd (nI_le (by omega) (by omega)) h)
      exact e_vret dX9_queues_146 rfl rfl ⟨rfl, hq.symm, K2⟩
    | succ j ih =>
      intro k m2 hk hq K2
      have hL2 := K2.lay hL
      have H2 := K2.ms H
      refine e_iload dX9_queues_68 rfl ?_
      refine e_aload_n dX9_queues_70 rfl ?_
      refine e_getv (v := nI nd) dX9_queues_71 ff_X9_129 rfl (fx_pi_lt (by decide)) (by decide) rfl H2.2.1 ?_
      refine e_icmp_ge 146 dX9_queues_74 rfl (fun h => absurd h (nI_ge (by omega) (by omega))) (fun _ => ?_)
      refine e_iload_n dX9_queues_77 rfl ?_
      refine e_iload dX9_queues_78 rfl ?_
      refine e_ishr dX9_queues_80 ?_
      refine e_iconst dX9_queues_81 kci_1 ?_
      refine e_iand dX9_queues_82 ?_
      refine e_iconst dX9_queues_83 kci_1 ?_
      refine e_icmp_ne 90 dX9_queues_84 rfl (fun c_b => ?_) (fun c_b => ?_)
      · have hbs : g.testBit k = false := by cases z : g.testBit k; rfl; exact absurd ((i_bitE (B := g) (k := k) (by omega) (by omega)).mpr z) c_b
        have hgx := p_adlt hg (x := k) (by omega) hbs
        refine e_aload_n dX9_queues_90 rfl ?_
        refine e_getr (o2 := 116) dX9_queues_91 ff_X9_117 rfl (fx_pi_lt (by decide)) (by decide) rfl (hL2 _ _ _ rfl) ?_
        refine e_iload_n dX9_queues_94 rfl ?_
        refine e_iload dX9_queues_95 rfl ?_
        refine e_iast (j := q) dX9_queues_97 rfl (fx_pi_lt (by decide)) rfl (by omega) (by decide) ?_
        refine e_aload_n dX9_queues_98 rfl ?_
        refine e_iload_n dX9_queues_99 rfl ?_
        refine e_iconst dX9_queues_100 kci_1 ?_
        refine e_iadd dX9_queues_101 ?_
        rw [nI_1]
        refine e_iload_n dX9_queues_102 rfl ?_
        refine e_iconst dX9_queues_103 kci_1 ?_
        refine e_iload dX9_queues_104 rfl ?_
        refine e_ishl dX9_queues_106 ?_
        refine e_iadd dX9_queues_107 ?_
        rw [i_shl1 (by omega), nI_add]
        refine e_iload_n dX9_queues_108 rfl ?_
        refine e_aload_n dX9_queues_109 rfl ?_
        refine e_getr (o2 := 96) dX9_queues_110 ff_X9_53 rfl (fx_pi_lt (by decide)) (by decide) rfl (hL2 _ _ _ rfl) ?_
        refine e_iload dX9_queues_113 rfl ?_
        refine e_ialdv (j := k) (v := t.2.1 k 4) dX9_queues_115 rfl (fx_pi_lt (by decide)) rfl (by omega) (by decide) (by rw [fx_sI_n _ _ _ (by decide)]; exact H2.2.2.2.2.1 k (by omega) 4 (by decide)) ?_
        refine e_iadd dX9_queues_116 ?_
        refine e_iload dX9_queues_117 rfl ?_
        refine e_aload_n dX9_queues_119 rfl ?_
        refine e_getr (o2 := 97) dX9_queues_120 ff_X9_56 rfl (fx_pi_lt (by decide)) (by decide) rfl (hL2 _ _ _ rfl) ?_
        refine e_iload dX9_queues_123 rfl ?_
        refine e_ialdv (j := k) (v := t.2.1 k 5) dX9_queues_125 rfl (fx_pi_lt (by decide)) rfl (by omega) (by decide) (by rw [fx_sI_n _ _ _ (by decide)]; exact H2.2.2.2.2.1 k (by omega) 5 (by decide)) ?_
        refine e_iload_n dX9_queues_126 rfl ?_
        refine e_aload_n dX9_queues_127 rfl ?_
        refine e_getr (o2 := 96) dX9_queues_128 ff_X9_53 rfl (fx_pi_lt (by decide)) (by decide) rfl (hL2 _ _ _ rfl) ?_
        refine e_iload dX9_queues_131 rfl ?_
        refine e_ialdv (j := k) (v := t.2.1 k 4) dX9_queues_133 rfl (fx_pi_lt (by decide)) rfl (by omega) (by decide) (by rw [fx_sI_n _ _ _ (by decide)]; exact H2.2.2.2.2.1 k (by omega) 4 (by decide)) ?_
        refine e_iadd dX9_queues_134 ?_
        refine e_imul dX9_queues_135 ?_
        refine e_iadd dX9_queues_136 ?_
        refine e_callV (μ' := mX9_queues) (ci := 9) (As := [.int (nI (q + 1)), .int (nI (g + 2 ^ k)), .int (a + (t.2.1 k 4)), .int (b + ((t.2.1 k 5) * (a + (t.2.1 k 4))))]) dX9_queues_137 wl_X9_269 ok_X9_queues rfl rfl (fx_pi_lt (by decide)) (by decide) (Nat.le_of_ble_eq_true rfl) fx_n1 (s_X9_queues3 (m := fx_sI m2 116 q (nI k)) (K2.o.lay hL) (K2.o.ms H) (q := q + 1) (by omega) (g := g + 2 ^ k) hgx (a + (t.2.1 k 4)) (b + ((t.2.1 k 5) * (a + (t.2.1 k 4))))) rfl (fun r_ m_ hpost => ?_)
        revert r_ m_
        intro r_ m3 hpost
        obtain ⟨rfl, e3, K3⟩ := hpost
        have K23 := K2.o.trans K3
        refine e_iinc (v := nI (k + 1)) dX9_queues_140 rfl (fx_inc _) (by decide) rfl ?_
        refine e_goto 68 dX9_queues_143 rfl ?_
        have e : (fun d s => if g.testBit d = true then s else p_qs (fun d => t.2.1 d 4) (fun d => t.2.1 d 5) nd 3 (g + 2 ^ d) (a + t.2.1 d 4) (b + t.2.1 d 5 * (a + t.2.1 d 4)) (s.1, p_u s.2.1 (nd - 4) (nI d), s.2.2)) k (p_stq m2) = p_stq m3 := by rw [e3, p_stq_o]; show (if g.testBit k = true then _ else _) = _; rw [if_neg (by rw [hbs]; decide), show nd - 4 = q by omega]
        rw [p_fold_s e] at hq
        exact ih (k + 1) m3 (by omega) hq K23
      · refine e_goto 140 dX9_queues_87 rfl ?_
        refine e_iinc (v := nI (k + 1)) dX9_queues_140 rfl (fx_inc _) (by decide) rfl ?_
        refine e_goto 68 dX9_queues_143 rfl ?_
        have e : (fun d s => if g.testBit d = true then s else p_qs (fun d => t.2.1 d 4) (fun d => t.2.1 d 5) nd 3 (g + 2 ^ d) (a + t.2.1 d 4) (b + t.2.1 d 5 * (a + t.2.1 d 4)) (s.1, p_u s.2.1 (nd - 4) (nI d), s.2.2)) k (p_stq m2) = p_stq m2 := if_pos ((i_bitE (by omega) (by omega)).mp c_b)
        rw [p_fold_s e] at hq
        exact ih (k + 1) m2 (by omega) hq K2
  refine e_iload_n dX9_queues_0 rfl ?_
  refine e_aload_n dX9_queues_1 rfl ?_
  refine e_getv (v := nI nd) dX9_queues_2 ff_X9_129 rfl (fx_pi_lt (by decide)) (by decide) rfl H.2.1 ?_
  refine e_icmp_ne 65 dX9_queues_5 rfl (fun _ => ?_) (fun h => absurd h (fun e => by have := (nI_eq (a := q) (b := nd) (by omega) (by omega)).mp e; omega))
  refine e_iconst dX9_queues_65 kci_0 ?_
  refine e_istore dX9_queues_66 (by decide) rfl ?_
  exact lp nd 0 m (by omega) rfl (fx_KW.refl m)
set_option maxRecDepth 100000 in
set_option maxHeartbeats 600000 in
theorem s_X9_queues5 {Γ : fx_G} {m : fx_M} (hL : fx_Lay m) {na nd : Nat} {t : p_Sg} (H : fx_MS m na nd t) {q : Nat} (hqn : q + 5 = nd) {g : Nat} (hg : g < 2 ^ nd) (a b : Int32) : fx_Ct Γ mX9_queues 5 119 119 [fx_rf Γ 83, .int (nI q), .int (nI g), .int a, .int b] m (fun r_ m' => r_ = none ∧ p_stq m' = p_qs (fun d => t.2.1 d 4) (fun d => t.2.1 d 5) nd 5 g a b (p_stq m) ∧ fx_KW m m') := by
  refine fx_Ct.of (j := 1) (by decide) (Nat.le_of_ble_eq_true rfl) (Nat.le_of_ble_eq_true rfl) ?_
  show fx_E Γ mX9_queues 5 119 119 _ 119 m 0 [some (fx_rf Γ 83), some (.int (nI q)), some (.int (nI g)), some (.int a), some (.int b), none] []
  have h9 := H.2.2.2.2.2.1
  have h5 := H.2.2.2.2.2.2.1
  have h512 := p_pow9 (show nd ≤ 9 by omega)
  have lp : ∀ (j : Nat) (k : Nat) (m2 : fx_M), k + j = nd → p_qs (fun d => t.2.1 d 4) (fun d => t.2.1 d 5) nd 5 g a b (p_stq m) = p_fold (fun d s => if g.testBit d = true then s else p_qs (fun d => t.2.1 d 4) (fun d => t.2.1 d 5) nd 4 (g + 2 ^ d) (a + t.2.1 d 4) (b + t.2.1 d 5 * (a + t.2.1 d 4)) (s.1, p_u s.2.1 (nd - 5) (nI d), s.2.2)) j k (p_stq m2) → fx_KW m m2 → fx_E Γ mX9_queues 5 119 119 (fun r_ m' => r_ = none ∧ p_stq m' = p_qs (fun d => t.2.1 d 4) (fun d => t.2.1 d 5) nd 5 g a b (p_stq m) ∧ fx_KW m m') 119 m2 68 [some (fx_rf Γ 83), some (.int (nI q)), some (.int (nI g)), some (.int a), some (.int b), some (.int (nI k))] [] := by
    intro j
    induction j with
    | zero =>
      intro k m2 hk hq K2
      have hL2 := K2.lay hL
      have H2 := K2.ms H
      refine e_iload dX9_queues_68 rfl ?_
      refine e_aload_n dX9_queues_70 rfl ?_
      refine e_getv (v := nI nd) dX9_queues_71 ff_X9_129 rfl (fx_pi_lt (by decide)) (by decide) rfl H2.2.1 ?_
      refine e_icmp_ge 146 dX9_queues_74 rfl (fun _ => ?_) (fun h => absurd (nI_le (by omega) (by omega)) h)
      exact e_vret dX9_queues_146 rfl rfl ⟨rfl, hq.symm, K2⟩
    | succ j ih =>
      intro k m2 hk hq K2
      have hL2 := K2.lay hL
      have H2 := K2.ms H
      refine e_iload dX9_queues_68 rfl ?_
      refine e_aload_n dX9_queues_70 rfl ?_
      refine e_getv (v := nI nd) dX9_queues_71 ff_X9_129 rfl (fx_pi_lt (by decide)) (by decide) rfl H2.2.1 ?_
      refine e_icmp_ge 146 dX9_queues_74 rfl (fun h => absurd h (nI_ge (by omega) (by omega))) (fun _ => ?_)
      refine e_iload_n dX9_queues_77 rfl ?_
      refine e_iload dX9_queues_78 rfl ?_
      refine e_ishr dX9_queues_80 ?_
      refine e_iconst dX9_queues_81 kci_1 ?_
      refine e_iand dX9_queues_82 ?_
      refine e_iconst dX9_queues_83 kci_1 ?_
      refine e_icmp_ne 90 dX9_queues_84 rfl (fun c_b => ?_) (fun c_b => ?_)
      · have hbs : g.testBit k = false := by cases z : g.testBit k; rfl; exact absurd ((i_bitE (B := g) (k := k) (by omega) (by omega)).mpr z) c_b
        have hgx := p_adlt hg (x := k) (by omega) hbs
        refine e_aload_n dX9_queues_90 rfl ?_
        refine e_getr (o2 := 116) dX9_queues_91 ff_X9_117 rfl (fx_pi_lt (by decide)) (by decide) rfl (hL2 _ _ _ rfl) ?_
        refine e_iload_n dX9_queues_94 rfl ?_
        refine e_iload dX9_queues_95 rfl ?_
        refine e_iast (j := q) dX9_queues_97 rfl (fx_pi_lt (by decide)) rfl (by omega) (by decide) ?_
        refine e_aload_n dX9_queues_98 rfl ?_
        refine e_iload_n dX9_queues_99 rfl ?_
        refine e_iconst dX9_queues_100 kci_1 ?_
        refine e_iadd dX9_queues_101 ?_
        rw [nI_1]
        refine e_iload_n dX9_queues_102 rfl ?_
        refine e_iconst dX9_queues_103 kci_1 ?_
        refine e_iload dX9_queues_104 rfl ?_
        refine e_ishl dX9_queues_106 ?_
        refine e_iadd dX9_queues_107 ?_
        rw [i_shl1 (by omega), nI_add]
        refine e_iload_n dX9_queues_108 rfl ?_
        refine e_aload_n dX9_queues_109 rfl ?_
        refine e_getr (o2 := 96) dX9_queues_110 ff_X9_53 rfl (fx_pi_lt (by decide)) (by decide) rfl (hL2 _ _ _ rfl) ?_
        refine e_iload dX9_queues_113 rfl ?_
        refine e_ialdv (j := k) (v := t.2.1 k 4) dX9_queues_115 rfl (fx_pi_lt (by decide)) rfl (by omega) (by decide) (by rw [fx_sI_n _ _ _ (by decide)]; exact H2.2.2.2.2.1 k (by omega) 4 (by decide)) ?_
        refine e_iadd dX9_queues_116 ?_
        refine e_iload dX9_queues_117 rfl ?_
        refine e_aload_n dX9_queues_119 rfl ?_
        refine e_getr (o2 := 97) dX9_queues_120 ff_X9_56 rfl (fx_pi_lt (by decide)) (by decide) rfl (hL2 _ _ _ rfl) ?_
        refine e_iload dX9_queues_123 rfl ?_
        refine e_ialdv (j := k) (v := t.2.1 k 5) dX9_queues_125 rfl (fx_pi_lt (by decide)) rfl (by omega) (by decide) (by rw [fx_sI_n _ _ _ (by decide)]; exact H2.2.2.2.2.1 k (by omega) 5 (by decide)) ?_
        refine e_iload_n dX9_queues_126 rfl ?_
        refine e_aload_n dX9_queues_127 rfl ?_
        refine e_getr (o2 := 96) dX9_queues_128 ff_X9_53 rfl (fx_pi_lt (by decide)) (by decide) rfl (hL2 _ _ _ rfl) ?_
        refine e_iload dX9_queues_131 rfl ?_
        refine e_ialdv (j := k) (v := t.2.1 k 4) dX9_queues_133 rfl (fx_pi_lt (by decide)) rfl (by omega) (by decide) (by rw [fx_sI_n _ _ _ (by decide)]; exact H2.2.2.2.2.1 k (by omega) 4 (by decide)) ?_
        refine e_iadd dX9_queues_134 ?_
        refine e_imul dX9_queues_135 ?_
        refine e_iadd dX9_queues_136 ?_
        refine e_callV (μ' := mX9_queues) (ci := 9) (As := [.int (nI (q + 1)), .int (nI (g + 2 ^ k)), .int (a + (t.2.1 k 4)), .int (b + ((t.2.1 k 5) * (a + (t.2.1 k 4))))]) dX9_queues_137 wl_X9_269 ok_X9_queues rfl rfl (fx_pi_lt (by decide)) (by decide) (Nat.le_of_ble_eq_true rfl) fx_n1 (s_X9_queues4 (m := fx_sI m2 116 q (nI k)) (K2.o.lay hL) (K2.o.ms H) (q := q + 1) (by omega) (g := g + 2 ^ k) hgx (a + (t.2.1 k 4)) (b + ((t.2.1 k 5) * (a + (t.2.1 k 4))))) rfl (fun r_ m_ hpost => ?_)
        revert r_ m_
        intro r_ m3 hpost
        obtain ⟨rfl, e3, K3⟩ := hpost
        have K23 := K2.o.trans K3
        refine e_iinc (v := nI (k + 1)) dX9_queues_140 rfl (fx_inc _) (by decide) rfl ?_
        refine e_goto 68 dX9_queues_143 rfl ?_
        have e : (fun d s => if g.testBit d = true then s else p_qs (fun d => t.2.1 d 4) (fun d => t.2.1 d 5) nd 4 (g + 2 ^ d) (a + t.2.1 d 4) (b + t.2.1 d 5 * (a + t.2.1 d 4)) (s.1, p_u s.2.1 (nd - 5) (nI d), s.2.2)) k (p_stq m2) = p_stq m3 := by rw [e3, p_stq_o]; show (if g.testBit k = true then _ else _) = _; rw [if_neg (by rw [hbs]; decide), show nd - 5 = q by omega]
        rw [p_fold_s e] at hq
        exact ih (k + 1) m3 (by omega) hq K23
      · refine e_goto 140 dX9_queues_87 rfl ?_
        refine e_iinc (v := nI (k + 1)) dX9_queues_140 rfl (fx_inc _) (by decide) rfl ?_
        refine e_goto 68 dX9_queues_143 rfl ?_
        have e : (fun d s => if g.testBit d = true then s else p_qs (fun d => t.2.1 d 4) (fun d => t.2.1 d 5) nd 4 (g + 2 ^ d) (a + t.2.1 d 4) (b + t.2.1 d 5 * (a + t.2.1 d 4)) (s.1, p_u s.2.1 (nd - 5) (nI d), s.2.2)) k (p_stq m2) = p_stq m2 := if_pos ((i_bitE (by omega) (by omega)).mp c_b)
        rw [p_fold_s e] at hq
        exact ih (k + 1) m2 (by omega) hq K2
  refine e_iload_n dX9_queues_0 rfl ?_
  refine e_aload_n dX9_queues_1 rfl ?_
  refine e_getv (v := nI nd) dX9_queues_2 ff_X9_129 rfl (fx_pi_lt (by decide)) (by decide) rfl H.2.1 ?_
  refine e_icmp_ne 65 dX9_queues_5 rfl (fun _ => ?_) (fun h => absurd h (fun e => by have := (nI_eq (a := q) (b := nd) (by omega) (by omega)).mp e; omega))
  refine e_iconst dX9_queues_65 kci_0 ?_
  refine e_istore dX9_queues_66 (by decide) rfl ?_
  exact lp nd 0 m (by omega) rfl (fx_KW.refl m)
