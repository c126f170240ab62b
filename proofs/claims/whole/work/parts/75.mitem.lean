/-- what the reader of items may change -/
def fx_KT (m m' : fx_M) : Prop := m'.2 = m.2 ∧ (∀ o, ¬ (o = 83 ∨ (85 ≤ o ∧ o ≤ 99) ∨ o = 110) → m'.1 o = m.1 o) ∧ ∀ j, ¬ (j ≤ 5 ∨ (36 ≤ j ∧ j ≤ 38)) → m'.1 83 j = m.1 83 j
theorem fx_KT.refl (m : fx_M) : fx_KT m m := ⟨rfl, fun _ _ => rfl, fun _ _ => rfl⟩
theorem fx_KT.trans {a b c : fx_M} (h : fx_KT a b) (g : fx_KT b c) : fx_KT a c := ⟨g.1.trans h.1, fun o ho => (g.2.1 o ho).trans (h.2.1 o ho), fun j hj => (g.2.2 j hj).trans (h.2.2 j hj)⟩
theorem fx_KT.lay {m m' : fx_M} (h : fx_KT m m') (hL : fx_Lay m) : fx_Lay m' := fun o k v hv => by rw [h.1]; exact hL o k v hv
theorem fx_KT.sI {m m' : fx_M} {o k : Nat} {v : Int32} (h : fx_KT m m') (ho : (85 ≤ o ∧ o ≤ 99) ∨ o = 110 ∨ (o = 83 ∧ (k ≤ 5 ∨ (36 ≤ k ∧ k ≤ 38)))) : fx_KT m (fx_sI m' o k v) :=
  ⟨h.1, fun a ha => by rw [fx_sI_n _ _ _ (by omega)]; exact h.2.1 a ha, fun j hj => by
    by_cases c : o = 83
    · subst c
      rw [fx_rd2 (by omega)]; exact h.2.2 j hj
    · rw [fx_sI_n _ _ _ (fun e => c e.symm)]; exact h.2.2 j hj⟩
theorem fx_KZ.kt {m m' : fx_M} (h : fx_KZ m m') : fx_KT m m' := ⟨h.1, fun o ho => h.2.1 o (by omega), fun j hj => h.2.2 j (by omega)⟩
theorem fx_KZ.ms {m m' : fx_M} {na nd : Nat} {t : p_Sg} (h : fx_KZ m m') (H : fx_MS m na nd t) : fx_MS m' na nd t := H.cg (fun o ho => h.2.1 o (by omega)) (fun j hj => h.2.2 j (by omega))
theorem fx_KT.wc {m m' : fx_M} (h : fx_KT m m') (W : fx_WC m) : fx_WC m' := W.cg (fun o ho => h.2.1 o (by omega))
theorem fx_KT.mr {m m' : fx_M} {k n p q : Nat} {tx : Nat → Int32} (h : fx_KT m m') (R : fx_MR m k n tx p) (h3 : m'.1 83 36 = nI q) (hq : q ≤ n) : fx_MR m' k n tx q := R.cg h.1 (h.2.2 34 (by omega)) (h.2.2 35 (by omega)) h3 hq
theorem fx_KT.aA {m m' : fx_M} {na : Nat} {k a s z h w : Int32} (K : fx_KT m m') : fx_KT m (fx_aA m' na k a s z h w) := by
  unfold fx_aA
  exact (((((((K.sI (by omega)).sI (by omega)).sI (by omega)).sI (by omega)).sI (by omega)).sI (by omega)).sI (by omega)).sI (by omega)
theorem fx_KT.aD {m m' : fx_M} {nd : Nat} {z h w v n t b : Int32} (K : fx_KT m m') : fx_KT m (fx_aD m' nd z h w v n t b) := by
  unfold fx_aD
  exact ((((((((K.sI (by omega)).sI (by omega)).sI (by omega)).sI (by omega)).sI (by omega)).sI (by omega)).sI (by omega)).sI (by omega)).sI (by omega)
theorem fx_aA_36 {m : fx_M} {na : Nat} {k a s z h w : Int32} : (fx_aA m na k a s z h w).1 83 36 = m.1 83 36 := by
  unfold fx_aA; simp [fx_sI]
theorem fx_aD_36 {m : fx_M} {nd : Nat} {z h w v n t b : Int32} : (fx_aD m nd z h w v n t b).1 83 36 = m.1 83 36 := by
  unfold fx_aD; simp [fx_sI]
theorem p_mr_nm {tx : Nat → Int32} {n q : Nat} (hb : p_tc tx n q = 32) (hd : p_dg (p_tc tx n (q + 1))) : p_mrV tx n (q + 1) = nI (p_nmV tx n q) ∧ p_mrP tx n (q + 1) = p_nmP tx n q ∧ p_nmF tx n q = none ∧ p_nmV tx n q ≤ 99 := by
  have hF : p_nmF tx n q = none := by rw [p_nmF, if_neg (not_not_intro hb), if_neg (not_not_intro hd)]
  refine ⟨?_, ?_, hF, p_nmV_le hF⟩
  · unfold p_mrV p_nmV
    rw [(p_dg_v hd).1, show q + 1 + 1 = q + 2 from rfl]
    by_cases c : p_dg (p_tc tx n (q + 2))
    · have e := (p_dg_v c).1
      rw [if_pos c, if_pos c, show (10 : Int32) = nI 10 from rfl, pk_mul, ← nI_add, ← e]
      rw [Int32.sub_eq_add_neg, Int32.sub_eq_add_neg, Int32.add_assoc]
    · rw [if_neg c, if_neg c]
  · rfl
theorem p_nmsF_s {tx : Nat → Int32} {n : Nat} {lo hi : Nat → Int32} {p j i q v : Nat} (hq : q = p_pls tx n p i) (hF : p_nmF tx n q = none) (hv : v = p_nmV tx n q) (h1 : ¬ nI v < lo i) (h2 : nI v ≤ hi i) : p_nmsF tx n lo hi p (j + 1) i = p_nmsF tx n lo hi p j (i + 1) := by
  subst hq
  subst hv
  rw [p_nmsF, hF]
  simp only []
  rw [if_neg h1, if_neg (not_not_intro h2)]
theorem p_nmsF_f {tx : Nat → Int32} {n : Nat} {lo hi : Nat → Int32} {p j i q f : Nat} (hq : q = p_pls tx n p i) (hF : p_nmF tx n q = some f) : p_nmsF tx n lo hi p (j + 1) i = some f := by
  subst hq
  rw [p_nmsF, hF]
theorem p_nmsF_w {tx : Nat → Int32} {n : Nat} {lo hi : Nat → Int32} {p j i q v : Nat} (hq : q = p_pls tx n p i) (hF : p_nmF tx n q = none) (hv : v = p_nmV tx n q) (h : ¬ nI v < lo i → ¬ nI v ≤ hi i) : p_nmsF tx n lo hi p (j + 1) i = some (q + 1) := by
  subst hq
  subst hv
  rw [p_nmsF, hF]
  simp only []
  by_cases c : nI (p_nmV tx n (p_pls tx n p i)) < lo i
  · rw [if_pos c]
  · rw [if_neg c, if_pos (h c)]
theorem p_nmsF_all {tx : Nat → Int32} {n : Nat} {lo hi : Nat → Int32} {p : Nat} : ∀ (j i : Nat), p_nmsF tx n lo hi p j i = none → ∀ x, i ≤ x → x < i + j → lo x ≤ nI (p_nmV tx n (p_pls tx n p x)) ∧ nI (p_nmV tx n (p_pls tx n p x)) ≤ hi x
  | 0, i, _, x, h1, h2 => absurd h2 (by omega)
  | j + 1, i, h, x, h1, h2 => by
    unfold p_nmsF at h
    split at h
    · cases h
    · split at h
      · cases h
      · split at h
        · cases h
        · rename_i c1 c2
          rcases Nat.lt_or_ge i x with q | q
          · exact p_nmsF_all j (i + 1) h x q (by omega)
          · have e : x = i := by omega
            subst e
            exact ⟨Int32.not_lt.mp c1, Decidable.not_not.mp c2⟩
def fx_IP (k n : Nat) (tx : Nat → Int32) (m : fx_M) (res : p_IR) (r : Option Value) (m' : fx_M) : Prop :=
  r = some (.int (if res.1 = none then 1 else 0)) ∧ fx_KT m m' ∧ (∀ f, res.1 = some f → m'.1 83 38 = nI f) ∧ (res.1 = none → fx_MS m' res.2.2.1 res.2.2.2.1 res.2.2.2.2 ∧ fx_MR m' k n tx res.2.1)
theorem fx_IP.no {k n : Nat} {tx : Nat → Int32} {m m' : fx_M} {res : p_IR} {f : Nat} (h : res.1 = some f) (K : fx_KT m m') (h38 : m'.1 83 38 = nI f) : fx_IP k n tx m res (some (.int 0)) m' := ⟨by rw [h]; rfl, K, fun g hg => by rw [h] at hg; cases hg; exact h38, fun hg => by rw [h] at hg; cases hg⟩
theorem fx_IP.ok {k n : Nat} {tx : Nat → Int32} {m m' : fx_M} {res : p_IR} {p na nd : Nat} {t : p_Sg} (h : res = (none, p, na, nd, t)) (K : fx_KT m m') (H : fx_MS m' na nd t) (R : fx_MR m' k n tx p) : fx_IP k n tx m res (some (.int 1)) m' := by
  subst h
  exact ⟨rfl, K, fun f hf => (by cases hf), fun _ => ⟨H, R⟩⟩
theorem fx_lo2 : ∀ {i : Nat}, i < 6 → fx_tab 2 i = 0 := by decide
theorem fx_lo4 : ∀ {i : Nat}, i < 7 → fx_tab 4 i = (if i = 4 then 1 else 0) := by decide
set_option maxRecDepth 100000 in
set_option maxHeartbeats 600000 in
theorem s_X9_itemL0 {Γ : fx_G} {m : fx_M} (hL : fx_Lay m) {na nd : Nat} {t : p_Sg} {k n w0 q0 : Nat} {tx : Nat → Int32} (hroom : na < 8) : ∀ (j i : Nat) (m1 : fx_M), i + j + 1 = 6 → fx_KT m m1 → fx_MS m1 na nd t → fx_MR m1 k n tx (p_pls tx n q0 i + 1) → fx_WC m1 → p_tc tx n (p_pls tx n q0 i) = 32 → (∀ x, x < i → m1.1 110 x = nI (p_nmV tx n (p_pls tx n q0 x))) → p_nmsF tx n (fun i => fx_tab 2 i) (fun i => fx_tab 1 i) q0 6 0 = p_nmsF tx n (fun i => fx_tab 2 i) (fun i => fx_tab 1 i) q0 (j + 1) i → fx_E Γ mX9_item 4 119 119 (fx_IP k n tx m (p_armI tx n w0 q0 na nd t)) 119 m1 120 [some (fx_rf Γ 83), some (.int 0), some (.int (nI i)), none] [] := by
  intro j
  induction j with
  | zero =>
    intro i m1 hij K1 H1 R1 W1 hb ht hF
    have hL1 := K1.lay hL
    have h9 := H1.2.2.2.2.2.1
    have h5 := H1.2.2.2.2.2.2.1
    have hn := R1.2.2.2.2.1
    have hk := R1.2.2.2.1
    have hp1 := R1.2.2.2.2.2.1
    obtain ⟨q, hq⟩ : ∃ z, z = p_pls tx n q0 i := ⟨_, rfl⟩
    rw [← hq] at R1 hb hp1
    have W0 : fx_WC m := W1.cg (fun o ho => (K1.2.1 o (by omega)).symm)
    refine e_aload_n dX9_item_120 rfl ?_
    refine e_getv (v := nI (q + 1)) dX9_item_121 ff_X9_196 rfl (fx_pi_lt (by decide)) (by decide) rfl R1.2.2.1 ?_
    refine e_istore_n dX9_item_124 (by decide) rfl ?_
    refine e_aload_n dX9_item_125 rfl ?_
    refine e_callV (μ' := mX9_reads) (ci := 9) (As := []) dX9_item_126 wl_X9_225 ok_X9_reads rfl rfl (fx_pi_lt (by decide)) (by decide) (Nat.le_of_ble_eq_true rfl) fx_n1 (s_X9_reads (m := m1) hL1 R1) rfl (fun r_ m_ hpost => ?_)
    revert r_ m_
    intro r_ m2 hpost
    obtain ⟨Kz2, hy2, hn2⟩ := hpost
    have hr : r_ = some (.int (if p_dg (p_tc tx n (q + 1)) then 1 else 0)) := by by_cases c : p_dg (p_tc tx n (q + 1)); (rw [if_pos c]; exact (hy2 c).1); (rw [if_neg c]; exact (hn2 c).1)
    subst hr
    have K2 := K1.trans Kz2.kt
    have hL2 := Kz2.lay hL1
    have H2 := Kz2.ms H1
    have W2 := Kz2.kt.wc W1
    refine e_if_neB 134 dX9_item_129 rfl (fun c_d2 => ?_) (fun c_d2 => ?_)
    · have nm2 := p_mr_nm hb c_d2
      have R2 := (hy2 c_d2).2.2
      rw [nm2.2.1] at R2
      obtain ⟨v, ev⟩ : ∃ z, z = p_nmV tx n q := ⟨_, rfl⟩
      have hv2 : m2.1 83 37 = nI v := by rw [ev]; exact (hy2 c_d2).2.1.trans nm2.1
      have v92 : v ≤ 99 := by rw [ev]; exact nm2.2.2.2
      have hq22 : p_nmP tx n q ≤ n := R2.2.2.2.2.2.1
      refine e_aload_n dX9_item_134 rfl ?_
      refine e_iload_n dX9_item_135 rfl ?_
      refine e_iload_n dX9_item_136 rfl ?_
      refine e_callV1 (μ' := mX9_isSo) (ci := 9) (As := [.int 0, .int (nI i)]) dX9_item_137 wl_X9_228 ok_X9_isSo rfl rfl (fx_pi_lt (by decide)) (by decide) (Nat.le_of_ble_eq_true rfl) fx_n1 (s_X9_isSo0 (m := m2) hL2 W2 hv2 (by omega) (i := i) (by omega)) rfl ?_
      refine e_if_neB 149 dX9_item_140 rfl (fun c_s => ?_) (fun c_s => ?_)
      · refine e_aload_n dX9_item_149 rfl ?_
        refine e_getr (o2 := 110) dX9_item_150 ff_X9_96 rfl (fx_pi_lt (by decide)) (by decide) rfl (hL2 _ _ _ rfl) ?_
        refine e_iload_n dX9_item_153 rfl ?_
        refine e_aload_n dX9_item_154 rfl ?_
        refine e_getv (v := nI v) dX9_item_155 ff_X9_205 rfl (fx_pi_lt (by decide)) (by decide) rfl hv2 ?_
        refine e_iast (j := i) dX9_item_158 rfl (fx_pi_lt (by decide)) rfl (by omega) (by decide) ?_
        obtain ⟨m3, hm3⟩ : ∃ z, z = fx_sI m2 110 i (nI v) := ⟨_, rfl⟩
        have K3 : fx_KT m m3 := by rw [hm3]; exact K2.sI (by omega)
        have hL3 := K3.lay hL
        have H3 : fx_MS m3 na nd t := by rw [hm3]; exact H2.sO (by decide) (fun h => absurd h (by decide))
        have W3 : fx_WC m3 := K3.wc W0
        obtain ⟨q2, hq2⟩ : ∃ z, z = p_nmP tx n q := ⟨_, rfl⟩
        have hq2n : q2 ≤ n := by rw [hq2]; exact hq22
        have R3 : fx_MR m3 k n tx q2 := ((fx_KT.refl m2).sI (o := 110) (k := i) (v := nI v) (by omega)).mr R2 (by rw [fx_sI_n _ _ _ (by decide), hq2]; exact R2.2.2.1) hq2n |> (by rw [hm3]; exact ·)
        have ht3 : ∀ x, x < i + 1 → m3.1 110 x = nI (p_nmV tx n (p_pls tx n q0 x)) := fun x hx => by rw [hm3]; by_cases c : x = i; (rw [c, fx_rd0, ev, hq]); (rw [fx_rd2 (fun e => c e.symm), (congrFun (Kz2.2.1 110 (by decide)) x)]; exact ht x (by omega))
        have hF2 : p_nmsF tx n (fun i => fx_tab 2 i) (fun i => fx_tab 1 i) q0 6 0 = p_nmsF tx n (fun i => fx_tab 2 i) (fun i => fx_tab 1 i) q0 0 (i + 1) := hF.trans (p_nmsF_s hq nm2.2.2.1 ev (Int32.not_lt.mpr (by show fx_tab 2 i ≤ _; rw [show fx_tab 2 i = 0 from fx_lo2 (by omega)]; exact nI_pos' (by omega))) c_s)
        rw [← hm3]
        refine e_iinc (v := nI (i + 1)) dX9_item_159 rfl (fx_inc _) (by decide) rfl ?_
        refine e_goto 56 dX9_item_162 rfl ?_
        refine e_iload_n dX9_item_56 rfl ?_
        refine e_aload_n dX9_item_57 rfl ?_
        refine e_getr (o2 := 107) dX9_item_58 ff_X9_87 rfl (fx_pi_lt (by decide)) (by decide) rfl (hL3 _ _ _ rfl) ?_
        refine e_iload_n dX9_item_61 rfl ?_
        refine e_ialdv (j := 0) (v := 6) dX9_item_62 rfl (fx_pi_lt (by decide)) rfl (by decide) (by decide) (W3.2.1 0 (by decide)) ?_
        refine e_icmp_ge 165 dX9_item_63 rfl (fun _ => ?_) (fun h => absurd (show nI 6 ≤ nI (i + 1) from nI_le (by omega) (by omega)) h)
        refine e_iload_n dX9_item_165 rfl ?_
        refine e_tableIn (off := 30) 196 dX9_item_166 (by decide) (by decide) (by decide) rfl ?_
        refine e_aload_n dX9_item_196 rfl ?_
        refine e_aload_n dX9_item_197 rfl ?_
        refine e_getr (o2 := 110) dX9_item_198 ff_X9_96 rfl (fx_pi_lt (by decide)) (by decide) rfl (hL3 _ _ _ rfl) ?_
        refine e_iconst dX9_item_201 kci_0 ?_
        refine e_ialdv (j := 0) (v := nI (p_nmV tx n (p_pls tx n q0 0))) dX9_item_202 rfl (fx_pi_lt (by decide)) rfl (by decide) (by decide) (ht3 0 (by omega)) ?_
        refine e_aload_n dX9_item_203 rfl ?_
        refine e_getr (o2 := 110) dX9_item_204 ff_X9_96 rfl (fx_pi_lt (by decide)) (by decide) rfl (hL3 _ _ _ rfl) ?_
        refine e_iconst dX9_item_207 kci_1 ?_
        refine e_ialdv (j := 1) (v := nI (p_nmV tx n (p_pls tx n q0 1))) dX9_item_208 rfl (fx_pi_lt (by decide)) rfl (by decide) (by decide) (ht3 1 (by omega)) ?_
        refine e_aload_n dX9_item_209 rfl ?_
        refine e_getr (o2 := 110) dX9_item_210 ff_X9_96 rfl (fx_pi_lt (by decide)) (by decide) rfl (hL3 _ _ _ rfl) ?_
        refine e_iconst dX9_item_213 kci_2 ?_
        refine e_ialdv (j := 2) (v := nI (p_nmV tx n (p_pls tx n q0 2))) dX9_item_214 rfl (fx_pi_lt (by decide)) rfl (by decide) (by decide) (ht3 2 (by omega)) ?_
        refine e_aload_n dX9_item_215 rfl ?_
        refine e_getr (o2 := 110) dX9_item_216 ff_X9_96 rfl (fx_pi_lt (by decide)) (by decide) rfl (hL3 _ _ _ rfl) ?_
        refine e_iconst dX9_item_219 kci_3 ?_
        refine e_ialdv (j := 3) (v := nI (p_nmV tx n (p_pls tx n q0 3))) dX9_item_220 rfl (fx_pi_lt (by decide)) rfl (by decide) (by decide) (ht3 3 (by omega)) ?_
        refine e_aload_n dX9_item_221 rfl ?_
        refine e_getr (o2 := 110) dX9_item_222 ff_X9_96 rfl (fx_pi_lt (by decide)) (by decide) rfl (hL3 _ _ _ rfl) ?_
        refine e_iconst dX9_item_225 kci_4 ?_
        refine e_ialdv (j := 4) (v := nI (p_nmV tx n (p_pls tx n q0 4))) dX9_item_226 rfl (fx_pi_lt (by decide)) rfl (by decide) (by decide) (ht3 4 (by omega)) ?_
        refine e_aload_n dX9_item_227 rfl ?_
        refine e_getr (o2 := 110) dX9_item_228 ff_X9_96 rfl (fx_pi_lt (by decide)) (by decide) rfl (hL3 _ _ _ rfl) ?_
        refine e_iconst dX9_item_231 kci_5 ?_
        refine e_ialdv (j := 5) (v := nI (p_nmV tx n (p_pls tx n q0 5))) dX9_item_232 rfl (fx_pi_lt (by decide)) rfl (by decide) (by decide) (ht3 5 (by omega)) ?_
        refine e_callV1 (μ' := mX9_addsArm) (ci := 9) (As := [.int (nI (p_nmV tx n (p_pls tx n q0 0))), .int (nI (p_nmV tx n (p_pls tx n q0 1))), .int (nI (p_nmV tx n (p_pls tx n q0 2))), .int (nI (p_nmV tx n (p_pls tx n q0 3))), .int (nI (p_nmV tx n (p_pls tx n q0 4))), .int (nI (p_nmV tx n (p_pls tx n q0 5)))]) dX9_item_233 wl_X9_176 ok_X9_addsArm rfl rfl (fx_pi_lt (by decide)) (by decide) (Nat.le_of_ble_eq_true rfl) fx_n1 (s_X9_addsArm (m := m3) hL3 H3 (by omega) (nI (p_nmV tx n (p_pls tx n q0 0))) (nI (p_nmV tx n (p_pls tx n q0 1))) (nI (p_nmV tx n (p_pls tx n q0 2))) (nI (p_nmV tx n (p_pls tx n q0 3))) (nI (p_nmV tx n (p_pls tx n q0 4))) (nI (p_nmV tx n (p_pls tx n q0 5)))) rfl ?_
        refine e_pop dX9_item_236 rfl ?_
        refine e_goto 359 dX9_item_237 rfl ?_
        refine e_iconst dX9_item_359 kci_1 ?_
        have hN : p_nmsF tx n (fun i => fx_tab 2 i) (fun i => fx_tab 1 i) q0 6 0 = none := hF2
        have hgd : ∀ x, x < 6 → fx_tab 2 x ≤ nI (p_nmV tx n (p_pls tx n q0 x)) ∧ nI (p_nmV tx n (p_pls tx n q0 x)) ≤ fx_tab 1 x := fun x hx => p_nmsF_all 6 0 hN x (Nat.zero_le _) (by omega)
        have hg : p_gA (p_recA (fun x => nI (p_nmV tx n (p_pls tx n q0 x)))) := ⟨hgd 0 (by decide), hgd 1 (by decide), hgd 2 (by decide), hgd 3 (by decide), hgd 4 (by decide), hgd 5 (by decide)⟩
        have G := H3.arm (by omega) (fun x => nI (p_nmV tx n (p_pls tx n q0 x))) hg
        have hE : p_armI tx n w0 q0 na nd t = (none, p_pls tx n q0 6, na + 1, nd, (p_ua t.1 na (p_recA (fun x => nI (p_nmV tx n (p_pls tx n q0 x)))), t.2.1, t.2.2)) := by unfold p_armI; rw [if_neg (not_not_intro hroom), hN]
        have e6 : p_pls tx n q0 6 = q2 := by rw [hq2, hq, show i = 5 by omega]; rfl
        rw [e6] at hE
        exact e_iret dX9_item_360 rfl rfl rfl (fx_IP.ok hE K3.aA G.1 (((fx_KT.refl m3).aA).mr R3 (by rw [fx_aA_36]; exact R3.2.2.1) hq2n))
      · refine e_aload_n dX9_item_143 rfl ?_
        refine e_iload_n dX9_item_144 rfl ?_
        refine e_callV1 (μ' := mX9_wrong) (ci := 9) (As := [.int (nI (q + 1))]) dX9_item_145 wl_X9_212 ok_X9_wrong rfl rfl (fx_pi_lt (by decide)) (by decide) (Nat.le_of_ble_eq_true rfl) fx_n1 (s_X9_wrong (m := m2) hL2 (nI (q + 1))) rfl ?_
        have hE : (p_armI tx n w0 q0 na nd t).1 = some (q + 1) := by unfold p_armI; rw [if_neg (not_not_intro hroom), hF.trans (p_nmsF_w hq nm2.2.2.1 ev (fun _ => c_s))]
        exact e_iret dX9_item_148 rfl rfl rfl (fx_IP.no hE (K2.sI (by omega)) fx_rd0)
    · refine e_iconst dX9_item_132 kci_0 ?_
      have hE : (p_armI tx n w0 q0 na nd t).1 = some (q + 1) := by unfold p_armI; rw [if_neg (not_not_intro hroom), hF.trans (p_nmsF_f hq (show p_nmF tx n q = some (q + 1) by rw [p_nmF, if_neg (not_not_intro hb), if_pos c_d2]))]
      exact e_iret dX9_item_133 rfl rfl rfl (fx_IP.no hE K2 ((hn2 c_d2).2))
  | succ j ih =>
    intro i m1 hij K1 H1 R1 W1 hb ht hF
    have hL1 := K1.lay hL
    have h9 := H1.2.2.2.2.2.1
    have h5 := H1.2.2.2.2.2.2.1
    have hn := R1.2.2.2.2.1
    have hk := R1.2.2.2.1
    have hp1 := R1.2.2.2.2.2.1
    obtain ⟨q, hq⟩ : ∃ z, z = p_pls tx n q0 i := ⟨_, rfl⟩
    rw [← hq] at R1 hb hp1
    have W0 : fx_WC m := W1.cg (fun o ho => (K1.2.1 o (by omega)).symm)
    refine e_aload_n dX9_item_120 rfl ?_
    refine e_getv (v := nI (q + 1)) dX9_item_121 ff_X9_196 rfl (fx_pi_lt (by decide)) (by decide) rfl R1.2.2.1 ?_
    refine e_istore_n dX9_item_124 (by decide) rfl ?_
    refine e_aload_n dX9_item_125 rfl ?_
    refine e_callV (μ' := mX9_reads) (ci := 9) (As := []) dX9_item_126 wl_X9_225 ok_X9_reads rfl rfl (fx_pi_lt (by decide)) (by decide) (Nat.le_of_ble_eq_true rfl) fx_n1 (s_X9_reads (m := m1) hL1 R1) rfl (fun r_ m_ hpost => ?_)
    revert r_ m_
    intro r_ m2 hpost
    obtain ⟨Kz2, hy2, hn2⟩ := hpost
    have hr : r_ = some (.int (if p_dg (p_tc tx n (q + 1)) then 1 else 0)) := by by_cases c : p_dg (p_tc tx n (q + 1)); (rw [if_pos c]; exact (hy2 c).1); (rw [if_neg c]; exact (hn2 c).1)
    subst hr
    have K2 := K1.trans Kz2.kt
    have hL2 := Kz2.lay hL1
    have H2 := Kz2.ms H1
    have W2 := Kz2.kt.wc W1
    refine e_if_neB 134 dX9_item_129 rfl (fun c_d2 => ?_) (fun c_d2 => ?_)
    · have nm2 := p_mr_nm hb c_d2
      have R2 := (hy2 c_d2).2.2
      rw [nm2.2.1] at R2
      obtain ⟨v, ev⟩ : ∃ z, z = p_nmV tx n q := ⟨_, rfl⟩
      have hv2 : m2.1 83 37 = nI v := by rw [ev]; exact (hy2 c_d2).2.1.trans nm2.1
      have v92 : v ≤ 99 := by rw [ev]; exact nm2.2.2.2
      have hq22 : p_nmP tx n q ≤ n := R2.2.2.2.2.2.1
      refine e_aload_n dX9_item_134 rfl ?_
      refine e_iload_n dX9_item_135 rfl ?_
      refine e_iload_n dX9_item_136 rfl ?_
      refine e_callV1 (μ' := mX9_isSo) (ci := 9) (As := [.int 0, .int (nI i)]) dX9_item_137 wl_X9_228 ok_X9_isSo rfl rfl (fx_pi_lt (by decide)) (by decide) (Nat.le_of_ble_eq_true rfl) fx_n1 (s_X9_isSo0 (m := m2) hL2 W2 hv2 (by omega) (i := i) (by omega)) rfl ?_
      refine e_if_neB 149 dX9_item_140 rfl (fun c_s => ?_) (fun c_s => ?_)
      · refine e_aload_n dX9_item_149 rfl ?_
        refine e_getr (o2 := 110) dX9_item_150 ff_X9_96 rfl (fx_pi_lt (by decide)) (by decide) rfl (hL2 _ _ _ rfl) ?_
        refine e_iload_n dX9_item_153 rfl ?_
        refine e_aload_n dX9_item_154 rfl ?_
        refine e_getv (v := nI v) dX9_item_155 ff_X9_205 rfl (fx_pi_lt (by decide)) (by decide) rfl hv2 ?_
        refine e_iast (j := i) dX9_item_158 rfl (fx_pi_lt (by decide)) rfl (by omega) (by decide) ?_
        obtain ⟨m3, hm3⟩ : ∃ z, z = fx_sI m2 110 i (nI v) := ⟨_, rfl⟩
        have K3 : fx_KT m m3 := by rw [hm3]; exact K2.sI (by omega)
        have hL3 := K3.lay hL
        have H3 : fx_MS m3 na nd t := by rw [hm3]; exact H2.sO (by decide) (fun h => absurd h (by decide))
        have W3 : fx_WC m3 := K3.wc W0
        obtain ⟨q2, hq2⟩ : ∃ z, z = p_nmP tx n q := ⟨_, rfl⟩
        have hq2n : q2 ≤ n := by rw [hq2]; exact hq22
        have R3 : fx_MR m3 k n tx q2 := ((fx_KT.refl m2).sI (o := 110) (k := i) (v := nI v) (by omega)).mr R2 (by rw [fx_sI_n _ _ _ (by decide), hq2]; exact R2.2.2.1) hq2n |> (by rw [hm3]; exact ·)
        have ht3 : ∀ x, x < i + 1 → m3.1 110 x = nI (p_nmV tx n (p_pls tx n q0 x)) := fun x hx => by rw [hm3]; by_cases c : x = i; (rw [c, fx_rd0, ev, hq]); (rw [fx_rd2 (fun e => c e.symm), (congrFun (Kz2.2.1 110 (by decide)) x)]; exact ht x (by omega))
        have hF2 : p_nmsF tx n (fun i => fx_tab 2 i) (fun i => fx_tab 1 i) q0 6 0 = p_nmsF tx n (fun i => fx_tab 2 i) (fun i => fx_tab 1 i) q0 (j + 1) (i + 1) := hF.trans (p_nmsF_s hq nm2.2.2.1 ev (Int32.not_lt.mpr (by show fx_tab 2 i ≤ _; rw [show fx_tab 2 i = 0 from fx_lo2 (by omega)]; exact nI_pos' (by omega))) c_s)
        rw [← hm3]
        refine e_iinc (v := nI (i + 1)) dX9_item_159 rfl (fx_inc _) (by decide) rfl ?_
        refine e_goto 56 dX9_item_162 rfl ?_
        refine e_iload_n dX9_item_56 rfl ?_
        refine e_aload_n dX9_item_57 rfl ?_
        refine e_getr (o2 := 107) dX9_item_58 ff_X9_87 rfl (fx_pi_lt (by decide)) (by decide) rfl (hL3 _ _ _ rfl) ?_
        refine e_iload_n dX9_item_61 rfl ?_
        refine e_ialdv (j := 0) (v := 6) dX9_item_62 rfl (fx_pi_lt (by decide)) rfl (by decide) (by decide) (W3.2.1 0 (by decide)) ?_
        refine e_icmp_ge 165 dX9_item_63 rfl (fun h => absurd h (show ¬ nI 6 ≤ nI (i + 1) from nI_ge (by omega) (by omega))) (fun _ => ?_)
        refine e_iload_n dX9_item_66 rfl ?_
        refine e_if_le 120 dX9_item_67 rfl (fun h => absurd h (show ¬ nI (i + 1) ≤ nI 0 from nI_ge (by omega) (by omega))) (fun _ => ?_)
        refine e_aload_n dX9_item_70 rfl ?_
        refine e_getv (v := nI q2) dX9_item_71 ff_X9_196 rfl (fx_pi_lt (by decide)) (by decide) rfl R3.2.2.1 ?_
        refine e_aload_n dX9_item_74 rfl ?_
        refine e_getv (v := nI n) dX9_item_75 ff_X9_199 rfl (fx_pi_lt (by decide)) (by decide) rfl R3.2.1 ?_
        refine e_icmp_ge 101 dX9_item_78 rfl (fun c_e => ?_) (fun c_e => ?_)
        · refine e_aload_n dX9_item_101 rfl ?_
          refine e_aload_n dX9_item_102 rfl ?_
          refine e_getv (v := nI q2) dX9_item_103 ff_X9_196 rfl (fx_pi_lt (by decide)) (by decide) rfl R3.2.2.1 ?_
          refine e_callV1 (μ' := mX9_wrong) (ci := 9) (As := [.int (nI q2)]) dX9_item_106 wl_X9_212 ok_X9_wrong rfl rfl (fx_pi_lt (by decide)) (by decide) (Nat.le_of_ble_eq_true rfl) fx_n1 (s_X9_wrong (m := m3) hL3 (nI q2)) rfl ?_
          have hE : (p_armI tx n w0 q0 na nd t).1 = some q2 := by unfold p_armI; rw [if_neg (not_not_intro hroom), hF2.trans (p_nmsF_f (show q2 = p_pls tx n q0 (i + 1) by rw [hq2, hq]; rfl) (show p_nmF tx n q2 = some q2 by rw [p_nmF, if_pos (by rw [show p_tc tx n q2 = -1 from if_neg (fun h => nI_ge (a := q2) (b := n) h (by omega) c_e)]; decide)]))]
          exact e_iret dX9_item_109 rfl rfl rfl (fx_IP.no hE (K3.sI (by omega)) fx_rd0)
        · have hl2 : q2 < n := by rcases Nat.lt_or_ge q2 n with h | h; exact h; exact absurd (nI_le h (by omega)) c_e
          refine e_aload_n dX9_item_81 rfl ?_
          refine e_getr (o2 := 104) dX9_item_82 ff_X9_77 rfl (fx_pi_lt (by decide)) (by decide) rfl (hL3 _ _ _ rfl) ?_
          refine e_aload_n dX9_item_85 rfl ?_
          refine e_getv (v := nI (160 * k)) dX9_item_86 ff_X9_202 rfl (fx_pi_lt (by decide)) (by decide) rfl R3.1 ?_
          refine e_aload_n dX9_item_89 rfl ?_
          refine e_getv (v := nI q2) dX9_item_90 ff_X9_196 rfl (fx_pi_lt (by decide)) (by decide) rfl R3.2.2.1 ?_
          refine e_iadd dX9_item_93 ?_
          refine e_lald (j := 160 * k + q2) dX9_item_94 rfl (fx_pi_lt (by decide)) (by rw [nI_add]) (by omega) (by decide) ?_
          refine e_l2i dX9_item_95 ?_
          rw [R3.tq hl2]
          refine e_bipush dX9_item_96 kcb_32 ?_
          refine e_icmp_eq 110 dX9_item_98 rfl (fun c_b => ?_) (fun c_b => ?_)
          · refine e_aload_n dX9_item_110 rfl ?_
            refine e_dup dX9_item_111 rfl ?_
            refine e_getv (v := nI q2) dX9_item_112 ff_X9_196 rfl (fx_pi_lt (by decide)) (by decide) rfl R3.2.2.1 ?_
            refine e_iconst dX9_item_115 kci_1 ?_
            refine e_iadd dX9_item_116 ?_
            rw [nI_1]
            refine e_put dX9_item_117 ff_X9_196 rfl (fx_pi_lt (by decide)) (by decide) rfl (Or.inl rfl) ?_
            have K4 : fx_KT m (fx_sI m3 83 36 (nI (q2 + 1))) := K3.sI (by omega)
            have e4 : p_pls tx n q0 (i + 1) = q2 := by rw [hq2, hq]; rfl
            refine e_weak (lv2 := [some (fx_rf Γ 83), some (.int 0), some (.int (nI (i + 1))), none]) ⟨rfl, rfl, rfl, trivial⟩ ?_
            exact ih (i + 1) _ (by omega) K4 (H3.sO (by decide) (by decide)) (((fx_KT.refl m3).sI (by omega)).mr R3 (by rw [e4]; exact fx_rd0) (by omega)) (K4.wc W0) (by rw [e4]; exact c_b) (fun x hx => by rw [fx_sI_n _ _ _ (by decide)]; exact ht3 x hx) hF2
          · refine e_aload_n dX9_item_101 rfl ?_
            refine e_aload_n dX9_item_102 rfl ?_
            refine e_getv (v := nI q2) dX9_item_103 ff_X9_196 rfl (fx_pi_lt (by decide)) (by decide) rfl R3.2.2.1 ?_
            refine e_callV1 (μ' := mX9_wrong) (ci := 9) (As := [.int (nI q2)]) dX9_item_106 wl_X9_212 ok_X9_wrong rfl rfl (fx_pi_lt (by decide)) (by decide) (Nat.le_of_ble_eq_true rfl) fx_n1 (s_X9_wrong (m := m3) hL3 (nI q2)) rfl ?_
            have hE : (p_armI tx n w0 q0 na nd t).1 = some q2 := by unfold p_armI; rw [if_neg (not_not_intro hroom), hF2.trans (p_nmsF_f (show q2 = p_pls tx n q0 (i + 1) by rw [hq2, hq]; rfl) (show p_nmF tx n q2 = some q2 by rw [p_nmF, if_pos c_b]))]
            exact e_iret dX9_item_109 rfl rfl rfl (fx_IP.no hE (K3.sI (by omega)) fx_rd0)
      · refine e_aload_n dX9_item_143 rfl ?_
        refine e_iload_n dX9_item_144 rfl ?_
        refine e_callV1 (μ' := mX9_wrong) (ci := 9) (As := [.int (nI (q + 1))]) dX9_item_145 wl_X9_212 ok_X9_wrong rfl rfl (fx_pi_lt (by decide)) (by decide) (Nat.le_of_ble_eq_true rfl) fx_n1 (s_X9_wrong (m := m2) hL2 (nI (q + 1))) rfl ?_
        have hE : (p_armI tx n w0 q0 na nd t).1 = some (q + 1) := by unfold p_armI; rw [if_neg (not_not_intro hroom), hF.trans (p_nmsF_w hq nm2.2.2.1 ev (fun _ => c_s))]
        exact e_iret dX9_item_148 rfl rfl rfl (fx_IP.no hE (K2.sI (by omega)) fx_rd0)
    · refine e_iconst dX9_item_132 kci_0 ?_
      have hE : (p_armI tx n w0 q0 na nd t).1 = some (q + 1) := by unfold p_armI; rw [if_neg (not_not_intro hroom), hF.trans (p_nmsF_f hq (show p_nmF tx n q = some (q + 1) by rw [p_nmF, if_neg (not_not_intro hb), if_pos c_d2]))]
      exact e_iret dX9_item_133 rfl rfl rfl (fx_IP.no hE K2 ((hn2 c_d2).2))
set_option maxRecDepth 100000 in
set_option maxHeartbeats 600000 in
theorem s_X9_itemL1 {Γ : fx_G} {m : fx_M} (hL : fx_Lay m) {na nd : Nat} {t : p_Sg} {k n w0 q0 : Nat} {tx : Nat → Int32} (hroom : nd < 5) : ∀ (j i : Nat) (m1 : fx_M), i + j + 1 = 7 → fx_KT m m1 → fx_MS m1 na nd t → fx_MR m1 k n tx (p_pls tx n q0 i + 1) → fx_WC m1 → p_tc tx n (p_pls tx n q0 i) = 32 → (∀ x, x < i → m1.1 110 x = nI (p_nmV tx n (p_pls tx n q0 x))) → p_nmsF tx n (fun i => fx_tab 4 i) (fun i => fx_tab 3 i) q0 7 0 = p_nmsF tx n (fun i => fx_tab 4 i) (fun i => fx_tab 3 i) q0 (j + 1) i → fx_E Γ mX9_item 4 119 119 (fx_IP k n tx m (p_dollI tx n w0 q0 na nd t)) 119 m1 120 [some (fx_rf Γ 83), some (.int 1), some (.int (nI i)), none] [] := by
  intro j
  induction j with
  | zero =>
    intro i m1 hij K1 H1 R1 W1 hb ht hF
    have hL1 := K1.lay hL
    have h9 := H1.2.2.2.2.2.1
    have h5 := H1.2.2.2.2.2.2.1
    have hn := R1.2.2.2.2.1
    have hk := R1.2.2.2.1
    have hp1 := R1.2.2.2.2.2.1
    obtain ⟨q, hq⟩ : ∃ z, z = p_pls tx n q0 i := ⟨_, rfl⟩
    rw [← hq] at R1 hb hp1
    have W0 : fx_WC m := W1.cg (fun o ho => (K1.2.1 o (by omega)).symm)
    refine e_aload_n dX9_item_120 rfl ?_
    refine e_getv (v := nI (q + 1)) dX9_item_121 ff_X9_196 rfl (fx_pi_lt (by decide)) (by decide) rfl R1.2.2.1 ?_
    refine e_istore_n dX9_item_124 (by decide) rfl ?_
    refine e_aload_n dX9_item_125 rfl ?_
    refine e_callV (μ' := mX9_reads) (ci := 9) (As := []) dX9_item_126 wl_X9_225 ok_X9_reads rfl rfl (fx_pi_lt (by decide)) (by decide) (Nat.le_of_ble_eq_true rfl) fx_n1 (s_X9_reads (m := m1) hL1 R1) rfl (fun r_ m_ hpost => ?_)
    revert r_ m_
    intro r_ m2 hpost
    obtain ⟨Kz2, hy2, hn2⟩ := hpost
    have hr : r_ = some (.int (if p_dg (p_tc tx n (q + 1)) then 1 else 0)) := by by_cases c : p_dg (p_tc tx n (q + 1)); (rw [if_pos c]; exact (hy2 c).1); (rw [if_neg c]; exact (hn2 c).1)
    subst hr
    have K2 := K1.trans Kz2.kt
    have hL2 := Kz2.lay hL1
    have H2 := Kz2.ms H1
    have W2 := Kz2.kt.wc W1
    refine e_if_neB 134 dX9_item_129 rfl (fun c_d2 => ?_) (fun c_d2 => ?_)
    · have nm2 := p_mr_nm hb c_d2
      have R2 := (hy2 c_d2).2.2
      rw [nm2.2.1] at R2
      obtain ⟨v, ev⟩ : ∃ z, z = p_nmV tx n q := ⟨_, rfl⟩
      have hv2 : m2.1 83 37 = nI v := by rw [ev]; exact (hy2 c_d2).2.1.trans nm2.1
      have v92 : v ≤ 99 := by rw [ev]; exact nm2.2.2.2
      have hq22 : p_nmP tx n q ≤ n := R2.2.2.2.2.2.1
      refine e_aload_n dX9_item_134 rfl ?_
      refine e_iload_n dX9_item_135 rfl ?_
      refine e_iload_n dX9_item_136 rfl ?_
      refine e_callV1 (μ' := mX9_isSo) (ci := 9) (As := [.int 1, .int (nI i)]) dX9_item_137 wl_X9_228 ok_X9_isSo rfl rfl (fx_pi_lt (by decide)) (by decide) (Nat.le_of_ble_eq_true rfl) fx_n1 (s_X9_isSo1 (m := m2) hL2 W2 hv2 (by omega) (i := i) (by omega)) rfl ?_
      refine e_if_neB 149 dX9_item_140 rfl (fun c_s => ?_) (fun c_s => ?_)
      · refine e_aload_n dX9_item_149 rfl ?_
        refine e_getr (o2 := 110) dX9_item_150 ff_X9_96 rfl (fx_pi_lt (by decide)) (by decide) rfl (hL2 _ _ _ rfl) ?_
        refine e_iload_n dX9_item_153 rfl ?_
        refine e_aload_n dX9_item_154 rfl ?_
        refine e_getv (v := nI v) dX9_item_155 ff_X9_205 rfl (fx_pi_lt (by decide)) (by decide) rfl hv2 ?_
        refine e_iast (j := i) dX9_item_158 rfl (fx_pi_lt (by decide)) rfl (by omega) (by decide) ?_
        obtain ⟨m3, hm3⟩ : ∃ z, z = fx_sI m2 110 i (nI v) := ⟨_, rfl⟩
        have K3 : fx_KT m m3 := by rw [hm3]; exact K2.sI (by omega)
        have hL3 := K3.lay hL
        have H3 : fx_MS m3 na nd t := by rw [hm3]; exact H2.sO (by decide) (fun h => absurd h (by decide))
        have W3 : fx_WC m3 := K3.wc W0
        obtain ⟨q2, hq2⟩ : ∃ z, z = p_nmP tx n q := ⟨_, rfl⟩
        have hq2n : q2 ≤ n := by rw [hq2]; exact hq22
        have R3 : fx_MR m3 k n tx q2 := ((fx_KT.refl m2).sI (o := 110) (k := i) (v := nI v) (by omega)).mr R2 (by rw [fx_sI_n _ _ _ (by decide), hq2]; exact R2.2.2.1) hq2n |> (by rw [hm3]; exact ·)
        have ht3 : ∀ x, x < i + 1 → m3.1 110 x = nI (p_nmV tx n (p_pls tx n q0 x)) := fun x hx => by rw [hm3]; by_cases c : x = i; (rw [c, fx_rd0, ev, hq]); (rw [fx_rd2 (fun e => c e.symm), (congrFun (Kz2.2.1 110 (by decide)) x)]; exact ht x (by omega))
        have hF2 : p_nmsF tx n (fun i => fx_tab 4 i) (fun i => fx_tab 3 i) q0 7 0 = p_nmsF tx n (fun i => fx_tab 4 i) (fun i => fx_tab 3 i) q0 0 (i + 1) := hF.trans (p_nmsF_s hq nm2.2.2.1 ev (Int32.not_lt.mpr (by show fx_tab 4 i ≤ _; rw [fx_lo4 (show i < 7 by omega)]; exact c_s.1)) c_s.2)
        rw [← hm3]
        refine e_iinc (v := nI (i + 1)) dX9_item_159 rfl (fx_inc _) (by decide) rfl ?_
        refine e_goto 56 dX9_item_162 rfl ?_
        refine e_iload_n dX9_item_56 rfl ?_
        refine e_aload_n dX9_item_57 rfl ?_
        refine e_getr (o2 := 107) dX9_item_58 ff_X9_87 rfl (fx_pi_lt (by decide)) (by decide) rfl (hL3 _ _ _ rfl) ?_
        refine e_iload_n dX9_item_61 rfl ?_
        refine e_ialdv (j := 1) (v := 7) dX9_item_62 rfl (fx_pi_lt (by decide)) rfl (by decide) (by decide) (W3.2.1 1 (by decide)) ?_
        refine e_icmp_ge 165 dX9_item_63 rfl (fun _ => ?_) (fun h => absurd (show nI 7 ≤ nI (i + 1) from nI_le (by omega) (by omega)) h)
        refine e_iload_n dX9_item_165 rfl ?_
        refine e_tableIn (off := 74) 240 dX9_item_166 (by decide) (by decide) (by decide) rfl ?_
        refine e_aload_n dX9_item_240 rfl ?_
        refine e_aload_n dX9_item_241 rfl ?_
        refine e_getr (o2 := 110) dX9_item_242 ff_X9_96 rfl (fx_pi_lt (by decide)) (by decide) rfl (hL3 _ _ _ rfl) ?_
        refine e_iconst dX9_item_245 kci_0 ?_
        refine e_ialdv (j := 0) (v := nI (p_nmV tx n (p_pls tx n q0 0))) dX9_item_246 rfl (fx_pi_lt (by decide)) rfl (by decide) (by decide) (ht3 0 (by omega)) ?_
        refine e_aload_n dX9_item_247 rfl ?_
        refine e_getr (o2 := 110) dX9_item_248 ff_X9_96 rfl (fx_pi_lt (by decide)) (by decide) rfl (hL3 _ _ _ rfl) ?_
        refine e_iconst dX9_item_251 kci_1 ?_
        refine e_ialdv (j := 1) (v := nI (p_nmV tx n (p_pls tx n q0 1))) dX9_item_252 rfl (fx_pi_lt (by decide)) rfl (by decide) (by decide) (ht3 1 (by omega)) ?_
        refine e_aload_n dX9_item_253 rfl ?_
        refine e_getr (o2 := 110) dX9_item_254 ff_X9_96 rfl (fx_pi_lt (by decide)) (by decide) rfl (hL3 _ _ _ rfl) ?_
        refine e_iconst dX9_item_257 kci_2 ?_
        refine e_ialdv (j := 2) (v := nI (p_nmV tx n (p_pls tx n q0 2))) dX9_item_258 rfl (fx_pi_lt (by decide)) rfl (by decide) (by decide) (ht3 2 (by omega)) ?_
        refine e_aload_n dX9_item_259 rfl ?_
        refine e_getr (o2 := 110) dX9_item_260 ff_X9_96 rfl (fx_pi_lt (by decide)) (by decide) rfl (hL3 _ _ _ rfl) ?_
        refine e_iconst dX9_item_263 kci_3 ?_
        refine e_ialdv (j := 3) (v := nI (p_nmV tx n (p_pls tx n q0 3))) dX9_item_264 rfl (fx_pi_lt (by decide)) rfl (by decide) (by decide) (ht3 3 (by omega)) ?_
        refine e_aload_n dX9_item_265 rfl ?_
        refine e_getr (o2 := 110) dX9_item_266 ff_X9_96 rfl (fx_pi_lt (by decide)) (by decide) rfl (hL3 _ _ _ rfl) ?_
        refine e_iconst dX9_item_269 kci_4 ?_
        refine e_ialdv (j := 4) (v := nI (p_nmV tx n (p_pls tx n q0 4))) dX9_item_270 rfl (fx_pi_lt (by decide)) rfl (by decide) (by decide) (ht3 4 (by omega)) ?_
        refine e_aload_n dX9_item_271 rfl ?_
        refine e_getr (o2 := 110) dX9_item_272 ff_X9_96 rfl (fx_pi_lt (by decide)) (by decide) rfl (hL3 _ _ _ rfl) ?_
        refine e_iconst dX9_item_275 kci_5 ?_
        refine e_ialdv (j := 5) (v := nI (p_nmV tx n (p_pls tx n q0 5))) dX9_item_276 rfl (fx_pi_lt (by decide)) rfl (by decide) (by decide) (ht3 5 (by omega)) ?_
        refine e_aload_n dX9_item_277 rfl ?_
        refine e_getr (o2 := 110) dX9_item_278 ff_X9_96 rfl (fx_pi_lt (by decide)) (by decide) rfl (hL3 _ _ _ rfl) ?_
        refine e_bipush dX9_item_281 kcb_6 ?_
        refine e_ialdv (j := 6) (v := nI (p_nmV tx n (p_pls tx n q0 6))) dX9_item_283 rfl (fx_pi_lt (by decide)) rfl (by decide) (by decide) (ht3 6 (by omega)) ?_
        refine e_callV1 (μ' := mX9_addsDoll) (ci := 9) (As := [.int (nI (p_nmV tx n (p_pls tx n q0 0))), .int (nI (p_nmV tx n (p_pls tx n q0 1))), .int (nI (p_nmV tx n (p_pls tx n q0 2))), .int (nI (p_nmV tx n (p_pls tx n q0 3))), .int (nI (p_nmV tx n (p_pls tx n q0 4))), .int (nI (p_nmV tx n (p_pls tx n q0 5))), .int (nI (p_nmV tx n (p_pls tx n q0 6)))]) dX9_item_284 wl_X9_180 ok_X9_addsDoll rfl rfl (fx_pi_lt (by decide)) (by decide) (Nat.le_of_ble_eq_true rfl) fx_n1 (s_X9_addsDoll (m := m3) hL3 H3 (by omega) (nI (p_nmV tx n (p_pls tx n q0 0))) (nI (p_nmV tx n (p_pls tx n q0 1))) (nI (p_nmV tx n (p_pls tx n q0 2))) (nI (p_nmV tx n (p_pls tx n q0 3))) (nI (p_nmV tx n (p_pls tx n q0 4))) (nI (p_nmV tx n (p_pls tx n q0 5))) (nI (p_nmV tx n (p_pls tx n q0 6)))) rfl ?_
        refine e_pop dX9_item_287 rfl ?_
        refine e_goto 359 dX9_item_288 rfl ?_
        refine e_iconst dX9_item_359 kci_1 ?_
        have hN : p_nmsF tx n (fun i => fx_tab 4 i) (fun i => fx_tab 3 i) q0 7 0 = none := hF2
        have hgd : ∀ x, x < 7 → fx_tab 4 x ≤ nI (p_nmV tx n (p_pls tx n q0 x)) ∧ nI (p_nmV tx n (p_pls tx n q0 x)) ≤ fx_tab 3 x := fun x hx => p_nmsF_all 7 0 hN x (Nat.zero_le _) (by omega)
        have hg : p_gD (p_recD (fun x => nI (p_nmV tx n (p_pls tx n q0 x)))) := ⟨hgd 0 (by decide), hgd 1 (by decide), hgd 2 (by decide), hgd 3 (by decide), hgd 4 (by decide), hgd 5 (by decide), hgd 6 (by decide), (show p_in (0 : Int32) 0 99 from ⟨by decide, by decide⟩)⟩
        have G := H3.doll (by omega) (fun x => nI (p_nmV tx n (p_pls tx n q0 x))) hg
        have hE : p_dollI tx n w0 q0 na nd t = (none, p_pls tx n q0 7, na, nd + 1, (t.1, p_ua t.2.1 nd (p_recD (fun x => nI (p_nmV tx n (p_pls tx n q0 x)))), t.2.2)) := by unfold p_dollI; rw [if_neg (not_not_intro hroom), hN]
        have e6 : p_pls tx n q0 7 = q2 := by rw [hq2, hq, show i = 6 by omega]; rfl
        rw [e6] at hE
        exact e_iret dX9_item_360 rfl rfl rfl (fx_IP.ok hE K3.aD G.1 (((fx_KT.refl m3).aD).mr R3 (by rw [fx_aD_36]; exact R3.2.2.1) hq2n))
      · refine e_aload_n dX9_item_143 rfl ?_
        refine e_iload_n dX9_item_144 rfl ?_
        refine e_callV1 (μ' := mX9_wrong) (ci := 9) (As := [.int (nI (q + 1))]) dX9_item_145 wl_X9_212 ok_X9_wrong rfl rfl (fx_pi_lt (by decide)) (by decide) (Nat.le_of_ble_eq_true rfl) fx_n1 (s_X9_wrong (m := m2) hL2 (nI (q + 1))) rfl ?_
        have hE : (p_dollI tx n w0 q0 na nd t).1 = some (q + 1) := by unfold p_dollI; rw [if_neg (not_not_intro hroom), hF.trans (p_nmsF_w hq nm2.2.2.1 ev (fun c1 h => c_s ⟨by rw [← fx_lo4 (show i < 7 by omega)]; exact Int32.not_lt.mp c1, h⟩))]
        exact e_iret dX9_item_148 rfl rfl rfl (fx_IP.no hE (K2.sI (by omega)) fx_rd0)
    · refine e_iconst dX9_item_132 kci_0 ?_
      have hE : (p_dollI tx n w0 q0 na nd t).1 = some (q + 1) := by unfold p_dollI; rw [if_neg (not_not_intro hroom), hF.trans (p_nmsF_f hq (show p_nmF tx n q = some (q + 1) by rw [p_nmF, if_neg (not_not_intro hb), if_pos c_d2]))]
      exact e_iret dX9_item_133 rfl rfl rfl (fx_IP.no hE K2 ((hn2 c_d2).2))
  | succ j ih =>
    intro i m1 hij K1 H1 R1 W1 hb ht hF
    have hL1 := K1.lay hL
    have h9 := H1.2.2.2.2.2.1
    have h5 := H1.2.2.2.2.2.2.1
    have hn := R1.2.2.2.2.1
    have hk := R1.2.2.2.1
    have hp1 := R1.2.2.2.2.2.1
    obtain ⟨q, hq⟩ : ∃ z, z = p_pls tx n q0 i := ⟨_, rfl⟩
    rw [← hq] at R1 hb hp1
    have W0 : fx_WC m := W1.cg (fun o ho => (K1.2.1 o (by omega)).symm)
    refine e_aload_n dX9_item_120 rfl ?_
    refine e_getv (v := nI (q + 1)) dX9_item_121 ff_X9_196 rfl (fx_pi_lt (by decide)) (by decide) rfl R1.2.2.1 ?_
    refine e_istore_n dX9_item_124 (by decide) rfl ?_
    refine e_aload_n dX9_item_125 rfl ?_
    refine e_callV (μ' := mX9_reads) (ci := 9) (As := []) dX9_item_126 wl_X9_225 ok_X9_reads rfl rfl (fx_pi_lt (by decide)) (by decide) (Nat.le_of_ble_eq_true rfl) fx_n1 (s_X9_reads (m := m1) hL1 R1) rfl (fun r_ m_ hpost => ?_)
    revert r_ m_
    intro r_ m2 hpost
    obtain ⟨Kz2, hy2, hn2⟩ := hpost
    have hr : r_ = some (.int (if p_dg (p_tc tx n (q + 1)) then 1 else 0)) := by by_cases c : p_dg (p_tc tx n (q + 1)); (rw [if_pos c]; exact (hy2 c).1); (rw [if_neg c]; exact (hn2 c).1)
    subst hr
    have K2 := K1.trans Kz2.kt
    have hL2 := Kz2.lay hL1
    have H2 := Kz2.ms H1
    have W2 := Kz2.kt.wc W1
    refine e_if_neB 134 dX9_item_129 rfl (fun c_d2 => ?_) (fun c_d2 => ?_)
    · have nm2 := p_mr_nm hb c_d2
      have R2 := (hy2 c_d2).2.2
      rw [nm2.2.1] at R2
      obtain ⟨v, ev⟩ : ∃ z, z = p_nmV tx n q := ⟨_, rfl⟩
      have hv2 : m2.1 83 37 = nI v := by rw [ev]; exact (hy2 c_d2).2.1.trans nm2.1
      have v92 : v ≤ 99 := by rw [ev]; exact nm2.2.2.2
      have hq22 : p_nmP tx n q ≤ n := R2.2.2.2.2.2.1
      refine e_aload_n dX9_item_134 rfl ?_
      refine e_iload_n dX9_item_135 rfl ?_
      refine e_iload_n dX9_item_136 rfl ?_
      refine e_callV1 (μ' := mX9_isSo) (ci := 9) (As := [.int 1, .int (nI i)]) dX9_item_137 wl_X9_228 ok_X9_isSo rfl rfl (fx_pi_lt (by decide)) (by decide) (Nat.le_of_ble_eq_true rfl) fx_n1 (s_X9_isSo1 (m := m2) hL2 W2 hv2 (by omega) (i := i) (by omega)) rfl ?_
      refine e_if_neB 149 dX9_item_140 rfl (fun c_s => ?_) (fun c_s => ?_)
      · refine e_aload_n dX9_item_149 rfl ?_
        refine e_getr (o2 := 110) dX9_item_150 ff_X9_96 rfl (fx_pi_lt (by decide)) (by decide) rfl (hL2 _ _ _ rfl) ?_
        refine e_iload_n dX9_item_153 rfl ?_
        refine e_aload_n dX9_item_154 rfl ?_
        refine e_getv (v := nI v) dX9_item_155 ff_X9_205 rfl (fx_pi_lt (by decide)) (by decide) rfl hv2 ?_
        refine e_iast (j := i) dX9_item_158 rfl (fx_pi_lt (by decide)) rfl (by omega) (by decide) ?_
        obtain ⟨m3, hm3⟩ : ∃ z, z = fx_sI m2 110 i (nI v) := ⟨_, rfl⟩
        have K3 : fx_KT m m3 := by rw [hm3]; exact K2.sI (by omega)
        have hL3 := K3.lay hL
        have H3 : fx_MS m3 na nd t := by rw [hm3]; exact H2.sO (by decide) (fun h => absurd h (by decide))
        have W3 : fx_WC m3 := K3.wc W0
        obtain ⟨q2, hq2⟩ : ∃ z, z = p_nmP tx n q := ⟨_, rfl⟩
        have hq2n : q2 ≤ n := by rw [hq2]; exact hq22
        have R3 : fx_MR m3 k n tx q2 := ((fx_KT.refl m2).sI (o := 110) (k := i) (v := nI v) (by omega)).mr R2 (by rw [fx_sI_n _ _ _ (by decide), hq2]; exact R2.2.2.1) hq2n |> (by rw [hm3]; exact ·)
        have ht3 : ∀ x, x < i + 1 → m3.1 110 x = nI (p_nmV tx n (p_pls tx n q0 x)) := fun x hx => by rw [hm3]; by_cases c : x = i; (rw [c, fx_rd0, ev, hq]); (rw [fx_rd2 (fun e => c e.symm), (congrFun (Kz2.2.1 110 (by decide)) x)]; exact ht x (by omega))
        have hF2 : p_nmsF tx n (fun i => fx_tab 4 i) (fun i => fx_tab 3 i) q0 7 0 = p_nmsF tx n (fun i => fx_tab 4 i) (fun i => fx_tab 3 i) q0 (j + 1) (i + 1) := hF.trans (p_nmsF_s hq nm2.2.2.1 ev (Int32.not_lt.mpr (by show fx_tab 4 i ≤ _; rw [fx_lo4 (show i < 7 by omega)]; exact c_s.1)) c_s.2)
        rw [← hm3]
        refine e_iinc (v := nI (i + 1)) dX9_item_159 rfl (fx_inc _) (by decide) rfl ?_
        refine e_goto 56 dX9_item_162 rfl ?_
        refine e_iload_n dX9_item_56 rfl ?_
        refine e_aload_n dX9_item_57 rfl ?_
        refine e_getr (o2 := 107) dX9_item_58 ff_X9_87 rfl (fx_pi_lt (by decide)) (by decide) rfl (hL3 _ _ _ rfl) ?_
        refine e_iload_n dX9_item_61 rfl ?_
        refine e_ialdv (j := 1) (v := 7) dX9_item_62 rfl (fx_pi_lt (by decide)) rfl (by decide) (by decide) (W3.2.1 1 (by decide)) ?_
        refine e_icmp_ge 165 dX9_item_63 rfl (fun h => absurd h (show ¬ nI 7 ≤ nI (i + 1) from nI_ge (by omega) (by omega))) (fun _ => ?_)
        refine e_iload_n dX9_item_66 rfl ?_
        refine e_if_le 120 dX9_item_67 rfl (fun h => absurd h (show ¬ nI (i + 1) ≤ nI 0 from nI_ge (by omega) (by omega))) (fun _ => ?_)
        refine e_aload_n dX9_item_70 rfl ?_
        refine e_getv (v := nI q2) dX9_item_71 ff_X9_196 rfl (fx_pi_lt (by decide)) (by decide) rfl R3.2.2.1 ?_
        refine e_aload_n dX9_item_74 rfl ?_
        refine e_getv (v := nI n) dX9_item_75 ff_X9_199 rfl (fx_pi_lt (by decide)) (by decide) rfl R3.2.1 ?_
        refine e_icmp_ge 101 dX9_item_78 rfl (fun c_e => ?_) (fun c_e => ?_)
        · refine e_aload_n dX9_item_101 rfl ?_
          refine e_aload_n dX9_item_102 rfl ?_
          refine e_getv (v := nI q2) dX9_item_103 ff_X9_196 rfl (fx_pi_lt (by decide)) (by decide) rfl R3.2.2.1 ?_
          refine e_callV1 (μ' := mX9_wrong) (ci := 9) (As := [.int (nI q2)]) dX9_item_106 wl_X9_212 ok_X9_wrong rfl rfl (fx_pi_lt (by decide)) (by decide) (Nat.le_of_ble_eq_true rfl) fx_n1 (s_X9_wrong (m := m3) hL3 (nI q2)) rfl ?_
          have hE : (p_dollI tx n w0 q0 na nd t).1 = some q2 := by unfold p_dollI; rw [if_neg (not_not_intro hroom), hF2.trans (p_nmsF_f (show q2 = p_pls tx n q0 (i + 1) by rw [hq2, hq]; rfl) (show p_nmF tx n q2 = some q2 by rw [p_nmF, if_pos (by rw [show p_tc tx n q2 = -1 from if_neg (fun h => nI_ge (a := q2) (b := n) h (by omega) c_e)]; decide)]))]
          exact e_iret dX9_item_109 rfl rfl rfl (fx_IP.no hE (K3.sI (by omega)) fx_rd0)
        · have hl2 : q2 < n := by rcases Nat.lt_or_ge q2 n with h | h; exact h; exact absurd (nI_le h (by omega)) c_e
          refine e_aload_n dX9_item_81 rfl ?_
          refine e_getr (o2 := 104) dX9_item_82 ff_X9_77 rfl (fx_pi_lt (by decide)) (by decide) rfl (hL3 _ _ _ rfl) ?_
          refine e_aload_n dX9_item_85 rfl ?_
          refine e_getv (v := nI (160 * k)) dX9_item_86 ff_X9_202 rfl (fx_pi_lt (by decide)) (by decide) rfl R3.1 ?_
          refine e_aload_n dX9_item_89 rfl ?_
          refine e_getv (v := nI q2) dX9_item_90 ff_X9_196 rfl (fx_pi_lt (by decide)) (by decide) rfl R3.2.2.1 ?_
          refine e_iadd dX9_item_93 ?_
          refine e_lald (j := 160 * k + q2) dX9_item_94 rfl (fx_pi_lt (by decide)) (by rw [nI_add]) (by omega) (by decide) ?_
          refine e_l2i dX9_item_95 ?_
          rw [R3.tq hl2]
          refine e_bipush dX9_item_96 kcb_32 ?_
          refine e_icmp_eq 110 dX9_item_98 rfl (fun c_b => ?_) (fun c_b => ?_)
          · refine e_aload_n dX9_item_110 rfl ?_
            refine e_dup dX9_item_111 rfl ?_
            refine e_getv (v := nI q2) dX9_item_112 ff_X9_196 rfl (fx_pi_lt (by decide)) (by decide) rfl R3.2.2.1 ?_
            refine e_iconst dX9_item_115 kci_1 ?_
            refine e_iadd dX9_item_116 ?_
            rw [nI_1]
            refine e_put dX9_item_117 ff_X9_196 rfl (fx_pi_lt (by decide)) (by decide) rfl (Or.inl rfl) ?_
            have K4 : fx_KT m (fx_sI m3 83 36 (nI (q2 + 1))) := K3.sI (by omega)
            have e4 : p_pls tx n q0 (i + 1) = q2 := by rw [hq2, hq]; rfl
            refine e_weak (lv2 := [some (fx_rf Γ 83), some (.int 1), some (.int (nI (i + 1))), none]) ⟨rfl, rfl, rfl, trivial⟩ ?_
            exact ih (i + 1) _ (by omega) K4 (H3.sO (by decide) (by decide)) (((fx_KT.refl m3).sI (by omega)).mr R3 (by rw [e4]; exact fx_rd0) (by omega)) (K4.wc W0) (by rw [e4]; exact c_b) (fun x hx => by rw [fx_sI_n _ _ _ (by decide)]; exact ht3 x hx) hF2
          · refine e_aload_n dX9_item_101 rfl ?_
            refine e_aload_n dX9_item_102 rfl ?_
            refine e_getv (v := nI q2) dX9_item_103 ff_X9_196 rfl (fx_pi_lt (by decide)) (by decide) rfl R3.2.2.1 ?_
            refine e_callV1 (μ' := mX9_wrong) (ci := 9) (As := [.int (nI q2)]) dX9_item_106 wl_X9_212 ok_X9_wrong rfl rfl (fx_pi_lt (by decide)) (by decide) (Nat.le_of_ble_eq_true rfl) fx_n1 (s_X9_wrong (m := m3) hL3 (nI q2)) rfl ?_
            have hE : (p_dollI tx n w0 q0 na nd t).1 = some q2 := by unfold p_dollI; rw [if_neg (not_not_intro hroom), hF2.trans (p_nmsF_f (show q2 = p_pls tx n q0 (i + 1) by rw [hq2, hq]; rfl) (show p_nmF tx n q2 = some q2 by rw [p_nmF, if_pos c_b]))]
            exact e_iret dX9_item_109 rfl rfl rfl (fx_IP.no hE (K3.sI (by omega)) fx_rd0)
      · refine e_aload_n dX9_item_143 rfl ?_
        refine e_iload_n dX9_item_144 rfl ?_
        refine e_callV1 (μ' := mX9_wrong) (ci := 9) (As := [.int (nI (q + 1))]) dX9_item_145 wl_X9_212 ok_X9_wrong rfl rfl (fx_pi_lt (by decide)) (by decide) (Nat.le_of_ble_eq_true rfl) fx_n1 (s_X9_wrong (m := m2) hL2 (nI (q + 1))) rfl ?_
        have hE : (p_dollI tx n w0 q0 na nd t).1 = some (q + 1) := by unfold p_dollI; rw [if_neg (not_not_intro hroom), hF.trans (p_nmsF_w hq nm2.2.2.1 ev (fun c1 h => c_s ⟨by rw [← fx_lo4 (show i < 7 by omega)]; exact Int32.not_lt.mp c1, h⟩))]
        exact e_iret dX9_item_148 rfl rfl rfl (fx_IP.no hE (K2.sI (by omega)) fx_rd0)
    · refine e_iconst dX9_item_132 kci_0 ?_
      have hE : (p_dollI tx n w0 q0 na nd t).1 = some (q + 1) := by unfold p_dollI; rw [if_neg (not_not_intro hroom), hF.trans (p_nmsF_f hq (show p_nmF tx n q = some (q + 1) by rw [p_nmF, if_neg (not_not_intro hb), if_pos c_d2]))]
      exact e_iret dX9_item_133 rfl rfl rfl (fx_IP.no hE K2 ((hn2 c_d2).2))
