theorem p_gD7 {D : Nat → Int32} {v : Int32} (h : p_gD D) (hv : p_in v 0 99) : p_gD (p_u D 7 v) := ⟨h.1, h.2.1, h.2.2.1, h.2.2.2.1, h.2.2.2.2.1, h.2.2.2.2.2.1, h.2.2.2.2.2.2.1, hv⟩
theorem nI_in99 {v : Nat} (h : v ≤ 99) : p_in (nI v) 0 99 := ⟨nI_pos' (by omega), (nI_leI (b := 99) (by omega) (by decide)).mpr h⟩
set_option maxRecDepth 100000 in
set_option maxHeartbeats 600000 in
theorem s_X9_itemL2 {Γ : fx_G} {m : fx_M} (hL : fx_Lay m) {na nd : Nat} {t : p_Sg} {k n q : Nat} {tx : Nat → Int32} (H : fx_MS m na nd t) (R : fx_MR m k n tx (q + 1)) (W : fx_WC m) (hb : p_tc tx n q = 32) : fx_E Γ mX9_item 4 119 119 (fx_IP k n tx m (p_onI tx n q na nd t)) 119 m 120 [some (fx_rf Γ 83), some (.int 2), some (.int 0), none] [] := by
  have h9 := H.2.2.2.2.2.1
  have h5 := H.2.2.2.2.2.2.1
  have hn := R.2.2.2.2.1
  have hk := R.2.2.2.1
  have hp1 := R.2.2.2.2.2.1
  refine e_aload_n dX9_item_120 rfl ?_
  refine e_getv (v := nI (q + 1)) dX9_item_121 ff_X9_196 rfl (fx_pi_lt (by decide)) (by decide) rfl R.2.2.1 ?_
  refine e_istore_n dX9_item_124 (by decide) rfl ?_
  refine e_aload_n dX9_item_125 rfl ?_
  refine e_callV (μ' := mX9_reads) (ci := 9) (As := []) dX9_item_126 wl_X9_225 ok_X9_reads rfl rfl (fx_pi_lt (by decide)) (by decide) (Nat.le_of_ble_eq_true rfl) fx_n1 (s_X9_reads (m := m) hL R) rfl (fun r_ m_ hpost => ?_)
  revert r_ m_
  intro r_ m2 hpost
  obtain ⟨Kz2, hy2, hn2⟩ := hpost
  have hr : r_ = some (.int (if p_dg (p_tc tx n (q + 1)) then 1 else 0)) := by by_cases c : p_dg (p_tc tx n (q + 1)); (rw [if_pos c]; exact (hy2 c).1); (rw [if_neg c]; exact (hn2 c).1)
  subst hr
  have K2 := (fx_KT.refl m).trans Kz2.kt
  have hL2 := Kz2.lay hL
  have H2 := Kz2.ms H
  have W2 := Kz2.kt.wc W
  refine e_if_neB 134 dX9_item_129 rfl (fun c_d2 => ?_) (fun c_d2 => ?_)
  · have nm2 := p_mr_nm hb c_d2
    have R2 := (hy2 c_d2).2.2
    rw [nm2.2.1] at R2
    obtain ⟨v, ev⟩ : ∃ z, z = p_nmV tx n q := ⟨_, rfl⟩
    have hv2 : m2.1 83 37 = nI v := by rw [ev]; exact (hy2 c_d2).2.1.trans nm2.1
    have v92 : v ≤ 99 := by rw [ev]; exact nm2.2.2.2
    have hq22 : p_nmP tx n q ≤ n := R2.2.2.2.2.2.1
    refine e_aload_n dX9_item_134 rfl ?_
    refine e_iload_n dX9_item_135 rfl ?_
    refine e_iload_n dX9_item_136 rfl ?_
    refine e_callV1 (μ' := mX9_isSo) (ci := 9) (As := [.int 2, .int 0]) dX9_item_137 wl_X9_228 ok_X9_isSo rfl rfl (fx_pi_lt (by decide)) (by decide) (Nat.le_of_ble_eq_true rfl) fx_n1 (s_X9_isSo20 (m := m2) hL2 H2 hv2 (by omega)) rfl ?_
    refine e_if_neB 149 dX9_item_140 rfl (fun c_s => ?_) (fun c_s => ?_)
    · refine e_aload_n dX9_item_149 rfl ?_
      refine e_getr (o2 := 110) dX9_item_150 ff_X9_96 rfl (fx_pi_lt (by decide)) (by decide) rfl (hL2 _ _ _ rfl) ?_
      refine e_iload_n dX9_item_153 rfl ?_
      refine e_aload_n dX9_item_154 rfl ?_
      refine e_getv (v := nI v) dX9_item_155 ff_X9_205 rfl (fx_pi_lt (by decide)) (by decide) rfl hv2 ?_
      refine e_iast (j := 0) dX9_item_158 rfl (fx_pi_lt (by decide)) rfl (by decide) (by decide) ?_
      obtain ⟨m3, hm3⟩ : ∃ z, z = fx_sI m2 110 0 (nI v) := ⟨_, rfl⟩
      have K3 : fx_KT m m3 := by rw [hm3]; exact K2.sI (by omega)
      have hL3 := K3.lay hL
      have H3 : fx_MS m3 na nd t := by rw [hm3]; exact H2.sO (by decide) (fun h => absurd h (by decide))
      have W3 : fx_WC m3 := K3.wc W
      obtain ⟨q2, hq2⟩ : ∃ z, z = p_nmP tx n q := ⟨_, rfl⟩
      have hq2n : q2 ≤ n := by rw [hq2]; exact hq22
      have R3 : fx_MR m3 k n tx q2 := by rw [hm3]; exact ((fx_KT.refl m2).sI (by omega)).mr R2 (by rw [fx_sI_n _ _ _ (by decide), hq2]; exact R2.2.2.1) hq2n
      have ht3 : m3.1 110 0 = nI v := by rw [hm3]; exact fx_rd0
      rw [← hm3]
      refine e_iinc (v := 1) dX9_item_159 rfl (by decide) (by decide) rfl ?_
      refine e_goto 56 dX9_item_162 rfl ?_
      refine e_weak (lv2 := [some (fx_rf Γ 83), some (.int 2), some (.int 1), some (.int (nI (q + 1)))]) ⟨rfl, rfl, rfl, rfl, trivial⟩ ?_
      refine e_iload_n dX9_item_56 rfl ?_
      refine e_aload_n dX9_item_57 rfl ?_
      refine e_getr (o2 := 107) dX9_item_58 ff_X9_87 rfl (fx_pi_lt (by decide)) (by decide) rfl (hL3 _ _ _ rfl) ?_
      refine e_iload_n dX9_item_61 rfl ?_
      refine e_ialdv (j := 2) (v := 2) dX9_item_62 rfl (fx_pi_lt (by decide)) rfl (by decide) (by decide) (W3.2.1 2 (by decide)) ?_
      refine e_icmp_ge 165 dX9_item_63 rfl (fun h => absurd h (by decide)) (fun _ => ?_)
      refine e_iload_n dX9_item_66 rfl ?_
      refine e_if_le 120 dX9_item_67 rfl (fun h => absurd h (by decide)) (fun _ => ?_)
      refine e_aload_n dX9_item_70 rfl ?_
      refine e_getv (v := nI q2) dX9_item_71 ff_X9_196 rfl (fx_pi_lt (by decide)) (by decide) rfl R3.2.2.1 ?_
      refine e_aload_n dX9_item_74 rfl ?_
      refine e_getv (v := nI n) dX9_item_75 ff_X9_199 rfl (fx_pi_lt (by decide)) (by decide) rfl R3.2.1 ?_
      refine e_icmp_ge 101 dX9_item_78 rfl (fun c_e => ?_) (fun c_e => ?_)
      · refine e_aload_n dX9_item_101 rfl ?_
        refine e_aload_n dX9_item_102 rfl ?_
        refine e_getv (v := nI q2) dX9_item_103 ff_X9_196 rfl (fx_pi_lt (by decide)) (by decide) rfl R3.2.2.1 ?_
        refine e_callV1 (μ' := mX9_wrong) (ci := 9) (As := [.int (nI q2)]) dX9_item_106 wl_X9_212 ok_X9_wrong rfl rfl (fx_pi_lt (by decide)) (by decide) (Nat.le_of_ble_eq_true rfl) fx_n1 (s_X9_wrong (m := m3) hL3 (nI q2)) rfl ?_
        have hE : (p_onI tx n q na nd t).1 = some q2 := by unfold p_onI; rw [nm2.2.2.1]; simp only []; rw [← ev]; rw [if_neg (not_not_intro c_s.1), if_neg (not_not_intro c_s.2), ← hq2]; rw [show p_nmF tx n q2 = some q2 by rw [p_nmF, if_pos (by rw [show p_tc tx n q2 = -1 from if_neg (fun h => nI_ge (a := q2) (b := n) h (by omega) c_e)]; decide)]]
        exact e_iret dX9_item_109 rfl rfl rfl (fx_IP.no hE (K3.sI (by omega)) fx_rd0)
      · have hl2 : q2 < n := by rcases Nat.lt_or_ge q2 n with h | h; exact h; exact absurd (nI_le h (by omega)) c_e
        refine e_aload_n dX9_item_81 rfl ?_
        refine e_getr (o2 := 104) dX9_item_82 ff_X9_77 rfl (fx_pi_lt (by decide)) (by decide) rfl (hL3 _ _ _ rfl) ?_
        refine e_aload_n dX9_item_85 rfl ?_
        refine e_getv (v := nI (160 * k)) dX9_item_86 ff_X9_202 rfl (fx_pi_lt (by decide)) (by decide) rfl R3.1 ?_
        refine e_aload_n dX9_item_89 rfl ?_
        refine e_getv (v := nI q2) dX9_item_90 ff_X9_196 rfl (fx_pi_lt (by decide)) (by decide) rfl R3.2.2.1 ?_
        refine e_iadd dX9_item_93 ?_
        refine e_lald (j := 160 * k + q2) dX9_item_94 rfl (fx_pi_lt (by decide)) (by rw [nI_add]) (by omega) (by decide) ?_
        refine e_l2i dX9_item_95 ?_
        rw [R3.tq hl2]
        refine e_bipush dX9_item_96 kcb_32 ?_
        refine e_icmp_eq 110 dX9_item_98 rfl (fun c_b => ?_) (fun c_b => ?_)
        · refine e_aload_n dX9_item_110 rfl ?_
          refine e_dup dX9_item_111 rfl ?_
          refine e_getv (v := nI q2) dX9_item_112 ff_X9_196 rfl (fx_pi_lt (by decide)) (by decide) rfl R3.2.2.1 ?_
          refine e_iconst dX9_item_115 kci_1 ?_
          refine e_iadd dX9_item_116 ?_
          rw [nI_1]
          refine e_put dX9_item_117 ff_X9_196 rfl (fx_pi_lt (by decide)) (by decide) rfl (Or.inl rfl) ?_
          obtain ⟨m4, hm4⟩ : ∃ z, z = fx_sI m3 83 36 (nI (q2 + 1)) := ⟨_, rfl⟩
          have K4 : fx_KT m m4 := by rw [hm4]; exact K3.sI (by omega)
          have hL4 := K4.lay hL
          have H4 : fx_MS m4 na nd t := by rw [hm4]; exact H3.sO (by decide) (by decide)
          have W4 : fx_WC m4 := K4.wc W
          have R4 : fx_MR m4 k n tx (q2 + 1) := by rw [hm4]; exact ((fx_KT.refl m3).sI (by omega)).mr R3 fx_rd0 (by omega)
          have ht4 : m4.1 110 0 = nI v := by rw [hm4, fx_sI_n _ _ _ (by decide)]; exact ht3
          rw [← hm4]
          refine e_aload_n dX9_item_120 rfl ?_
          refine e_getv (v := nI (q2 + 1)) dX9_item_121 ff_X9_196 rfl (fx_pi_lt (by decide)) (by decide) rfl R4.2.2.1 ?_
          refine e_istore_n dX9_item_124 (by decide) rfl ?_
          refine e_aload_n dX9_item_125 rfl ?_
          refine e_callV (μ' := mX9_reads) (ci := 9) (As := []) dX9_item_126 wl_X9_225 ok_X9_reads rfl rfl (fx_pi_lt (by decide)) (by decide) (Nat.le_of_ble_eq_true rfl) fx_n1 (s_X9_reads (m := m4) hL4 R4) rfl (fun r_ m_ hpost => ?_)
          revert r_ m_
          intro r_ m5 hpost
          obtain ⟨Kz5, hy5, hn5⟩ := hpost
          have hr : r_ = some (.int (if p_dg (p_tc tx n (q2 + 1)) then 1 else 0)) := by by_cases c : p_dg (p_tc tx n (q2 + 1)); (rw [if_pos c]; exact (hy5 c).1); (rw [if_neg c]; exact (hn5 c).1)
          subst hr
          have K5 := K4.trans Kz5.kt
          have hL5 := Kz5.lay hL4
          have H5 := Kz5.ms H4
          have W5 := Kz5.kt.wc W4
          refine e_if_neB 134 dX9_item_129 rfl (fun c_d5 => ?_) (fun c_d5 => ?_)
          · have nm5 := p_mr_nm c_b c_d5
            have R5 := (hy5 c_d5).2.2
            rw [nm5.2.1] at R5
            obtain ⟨u, eu⟩ : ∃ z, z = p_nmV tx n q2 := ⟨_, rfl⟩
            have hv5 : m5.1 83 37 = nI u := by rw [eu]; exact (hy5 c_d5).2.1.trans nm5.1
            have v95 : u ≤ 99 := by rw [eu]; exact nm5.2.2.2
            have hq25 : p_nmP tx n q2 ≤ n := R5.2.2.2.2.2.1
            have ht5 : m5.1 110 0 = nI v := by rw [congrFun (Kz5.2.1 110 (by decide)) 0]; exact ht4
            refine e_aload_n dX9_item_134 rfl ?_
            refine e_iload_n dX9_item_135 rfl ?_
            refine e_iload_n dX9_item_136 rfl ?_
            refine e_callV1 (μ' := mX9_isSo) (ci := 9) (As := [.int 2, .int 1]) dX9_item_137 wl_X9_228 ok_X9_isSo rfl rfl (fx_pi_lt (by decide)) (by decide) (Nat.le_of_ble_eq_true rfl) fx_n1 (s_X9_isSo21 (m := m5) hL5 H5 (v := u) hv5 (by omega) (x := v) c_s.1 ht5) rfl ?_
            refine e_if_neB 149 dX9_item_140 rfl (fun c_z => ?_) (fun c_z => ?_)
            · refine e_aload_n dX9_item_149 rfl ?_
              refine e_getr (o2 := 110) dX9_item_150 ff_X9_96 rfl (fx_pi_lt (by decide)) (by decide) rfl (hL5 _ _ _ rfl) ?_
              refine e_iload_n dX9_item_153 rfl ?_
              refine e_aload_n dX9_item_154 rfl ?_
              refine e_getv (v := nI u) dX9_item_155 ff_X9_205 rfl (fx_pi_lt (by decide)) (by decide) rfl hv5 ?_
              refine e_iast (j := 1) dX9_item_158 rfl (fx_pi_lt (by decide)) rfl (by decide) (by decide) ?_
              obtain ⟨m6, hm6⟩ : ∃ z, z = fx_sI m5 110 1 (nI u) := ⟨_, rfl⟩
              have K6 : fx_KT m m6 := by rw [hm6]; exact K5.sI (by omega)
              have hL6 := K6.lay hL
              have H6 : fx_MS m6 na nd t := by rw [hm6]; exact H5.sO (by decide) (fun h => absurd h (by decide))
              have W6 : fx_WC m6 := K6.wc W
              obtain ⟨q6, hq6⟩ : ∃ z, z = p_nmP tx n q2 := ⟨_, rfl⟩
              have hq6n : q6 ≤ n := by rw [hq6]; exact hq25
              have R6 : fx_MR m6 k n tx q6 := by rw [hm6]; exact ((fx_KT.refl m5).sI (by omega)).mr R5 (by rw [fx_sI_n _ _ _ (by decide), hq6]; exact R5.2.2.1) hq6n
              have ht60 : m6.1 110 0 = nI v := by rw [hm6, fx_rd2 (by decide)]; exact ht5
              have ht61 : m6.1 110 1 = nI u := by rw [hm6]; exact fx_rd0
              rw [← hm6]
              refine e_iinc (v := 2) dX9_item_159 rfl (by decide) (by decide) rfl ?_
              refine e_goto 56 dX9_item_162 rfl ?_
              refine e_weak (lv2 := [some (fx_rf Γ 83), some (.int 2), some (.int 2), some (.int (nI (q2 + 1)))]) ⟨rfl, rfl, rfl, rfl, trivial⟩ ?_
              refine e_iload_n dX9_item_56 rfl ?_
              refine e_aload_n dX9_item_57 rfl ?_
              refine e_getr (o2 := 107) dX9_item_58 ff_X9_87 rfl (fx_pi_lt (by decide)) (by decide) rfl (hL6 _ _ _ rfl) ?_
              refine e_iload_n dX9_item_61 rfl ?_
              refine e_ialdv (j := 2) (v := 2) dX9_item_62 rfl (fx_pi_lt (by decide)) rfl (by decide) (by decide) (W6.2.1 2 (by decide)) ?_
              refine e_icmp_ge 165 dX9_item_63 rfl (fun _ => ?_) (fun h => absurd (by decide) h)
              refine e_iload_n dX9_item_165 rfl ?_
              refine e_tableIn (off := 125) 291 dX9_item_166 (by decide) (by decide) (by decide) rfl ?_
              refine e_aload_n dX9_item_291 rfl ?_
              refine e_getr (o2 := 91) dX9_item_292 ff_X9_38 rfl (fx_pi_lt (by decide)) (by decide) rfl (hL6 _ _ _ rfl) ?_
              refine e_aload_n dX9_item_295 rfl ?_
              refine e_getr (o2 := 110) dX9_item_296 ff_X9_96 rfl (fx_pi_lt (by decide)) (by decide) rfl (hL6 _ _ _ rfl) ?_
              refine e_iconst dX9_item_299 kci_0 ?_
              refine e_ialdv (j := 0) (v := nI v) dX9_item_300 rfl (fx_pi_lt (by decide)) rfl (by decide) (by decide) ht60 ?_
              refine e_bipush dX9_item_301 kcb_10 ?_
              refine e_aload_n dX9_item_303 rfl ?_
              refine e_getr (o2 := 110) dX9_item_304 ff_X9_96 rfl (fx_pi_lt (by decide)) (by decide) rfl (hL6 _ _ _ rfl) ?_
              refine e_iconst dX9_item_307 kci_1 ?_
              refine e_ialdv (j := 1) (v := nI u) dX9_item_308 rfl (fx_pi_lt (by decide)) rfl (by decide) (by decide) ht61 ?_
              refine e_imul dX9_item_309 ?_
              refine e_aload_n dX9_item_310 rfl ?_
              refine e_getr (o2 := 87) dX9_item_311 ff_X9_26 rfl (fx_pi_lt (by decide)) (by decide) rfl (hL6 _ _ _ rfl) ?_
              refine e_aload_n dX9_item_314 rfl ?_
              refine e_getr (o2 := 110) dX9_item_315 ff_X9_96 rfl (fx_pi_lt (by decide)) (by decide) rfl (hL6 _ _ _ rfl) ?_
              refine e_iconst dX9_item_318 kci_0 ?_
              refine e_ialdv (j := 0) (v := nI v) dX9_item_319 rfl (fx_pi_lt (by decide)) rfl (by decide) (by decide) ht60 ?_
              refine e_ialdv (j := v) (v := t.1 v 2) dX9_item_320 rfl (fx_pi_lt (by decide)) rfl (by have := c_s; omega) (by decide) (H6.2.2.2.1 _ c_s.1 2 (by decide)) ?_
              refine e_iadd dX9_item_321 ?_
              refine e_iast (j := v) dX9_item_322 rfl (fx_pi_lt (by decide)) rfl (by have := c_s; omega) (by decide) ?_
              refine e_goto 359 dX9_item_323 rfl ?_
              refine e_iconst dX9_item_359 kci_1 ?_
              have hE : p_onI tx n q na nd t = (none, q6, na, nd, (p_ua t.1 v (p_u (t.1 v) 6 (10 * nI u + t.1 v 2)), t.2.1, t.2.2)) := by unfold p_onI; rw [nm2.2.2.1]; simp only []; rw [← ev, if_neg (not_not_intro c_s.1), if_neg (not_not_intro c_s.2), ← hq2, nm5.2.2.1]; simp only []; rw [← eu, if_neg (not_not_intro c_z.1), if_neg (not_not_intro ⟨c_s.2, c_z.2.2, c_z.2.1⟩), ← hq6]
              have G : fx_MS (fx_sI m6 (85 + 6) v (10 * nI u + t.1 v 2)) na nd (p_ua t.1 v (p_u (t.1 v) 6 (10 * nI u + t.1 v 2)), t.2.1, t.2.2) := H6.sA c_s.1 (by decide) (p_gA6 (H6.2.2.2.2.2.2.2.1 v c_s.1))
              exact e_iret dX9_item_360 rfl rfl rfl (fx_IP.ok hE (K6.sI (by omega)) G (((fx_KT.refl m6).sI (by omega)).mr R6 (by rw [fx_sI_n _ _ _ (by decide)]; exact R6.2.2.1) hq6n))
            · refine e_aload_n dX9_item_143 rfl ?_
              refine e_iload_n dX9_item_144 rfl ?_
              refine e_callV1 (μ' := mX9_wrong) (ci := 9) (As := [.int (nI (q2 + 1))]) dX9_item_145 wl_X9_212 ok_X9_wrong rfl rfl (fx_pi_lt (by decide)) (by decide) (Nat.le_of_ble_eq_true rfl) fx_n1 (s_X9_wrong (m := m5) hL5 (nI (q2 + 1))) rfl ?_
              have hE : (p_onI tx n q na nd t).1 = some (q2 + 1) := by unfold p_onI; rw [nm2.2.2.1]; simp only []; rw [← ev]; rw [if_neg (not_not_intro c_s.1), if_neg (not_not_intro c_s.2), ← hq2]; rw [nm5.2.2.1]; simp only []; rw [← eu]; by_cases c1 : u < nd; (rw [if_neg (not_not_intro c1), if_pos (fun h => c_z ⟨c1, h.2.2, h.2.1⟩)]); (rw [if_pos c1])
              exact e_iret dX9_item_148 rfl rfl rfl (fx_IP.no hE (K5.sI (by omega)) fx_rd0)
          · refine e_iconst dX9_item_132 kci_0 ?_
            have hE : (p_onI tx n q na nd t).1 = some (q2 + 1) := by unfold p_onI; rw [nm2.2.2.1]; simp only []; rw [← ev]; rw [if_neg (not_not_intro c_s.1), if_neg (not_not_intro c_s.2), ← hq2]; rw [show p_nmF tx n q2 = some (q2 + 1) by rw [p_nmF, if_neg (not_not_intro c_b), if_pos c_d5]]
            exact e_iret dX9_item_133 rfl rfl rfl (fx_IP.no hE K5 ((hn5 c_d5).2))
        · refine e_aload_n dX9_item_101 rfl ?_
          refine e_aload_n dX9_item_102 rfl ?_
          refine e_getv (v := nI q2) dX9_item_103 ff_X9_196 rfl (fx_pi_lt (by decide)) (by decide) rfl R3.2.2.1 ?_
          refine e_callV1 (μ' := mX9_wrong) (ci := 9) (As := [.int (nI q2)]) dX9_item_106 wl_X9_212 ok_X9_wrong rfl rfl (fx_pi_lt (by decide)) (by decide) (Nat.le_of_ble_eq_true rfl) fx_n1 (s_X9_wrong (m := m3) hL3 (nI q2)) rfl ?_
          have hE : (p_onI tx n q na nd t).1 = some q2 := by unfold p_onI; rw [nm2.2.2.1]; simp only []; rw [← ev]; rw [if_neg (not_not_intro c_s.1), if_neg (not_not_intro c_s.2), ← hq2]; rw [show p_nmF tx n q2 = some q2 by rw [p_nmF, if_pos c_b]]
          exact e_iret dX9_item_109 rfl rfl rfl (fx_IP.no hE (K3.sI (by omega)) fx_rd0)
    · refine e_aload_n dX9_item_143 rfl ?_
      refine e_iload_n dX9_item_144 rfl ?_
      refine e_callV1 (μ' := mX9_wrong) (ci := 9) (As := [.int (nI (q + 1))]) dX9_item_145 wl_X9_212 ok_X9_wrong rfl rfl (fx_pi_lt (by decide)) (by decide) (Nat.le_of_ble_eq_true rfl) fx_n1 (s_X9_wrong (m := m2) hL2 (nI (q + 1))) rfl ?_
      have hE : (p_onI tx n q na nd t).1 = some (q + 1) := by unfold p_onI; rw [nm2.2.2.1]; simp only []; rw [← ev]; by_cases c1 : v < na; (rw [if_neg (not_not_intro c1), if_pos (fun h => c_s ⟨c1, h⟩)]); (rw [if_pos c1])
      exact e_iret dX9_item_148 rfl rfl rfl (fx_IP.no hE (K2.sI (by omega)) fx_rd0)
  · refine e_iconst dX9_item_132 kci_0 ?_
    have hE : (p_onI tx n q na nd t).1 = some (q + 1) := by unfold p_onI; rw [show p_nmF tx n q = some (q + 1) by rw [p_nmF, if_neg (not_not_intro hb), if_pos c_d2]]
    exact e_iret dX9_item_133 rfl rfl rfl (fx_IP.no hE K2 ((hn2 c_d2).2))
set_option maxRecDepth 100000 in
set_option maxHeartbeats 600000 in
theorem s_X9_itemL3 {Γ : fx_G} {m : fx_M} (hL : fx_Lay m) {na nd : Nat} {t : p_Sg} {k n q : Nat} {tx : Nat → Int32} (H : fx_MS m na nd t) (R : fx_MR m k n tx (q + 1)) (W : fx_WC m) (hb : p_tc tx n q = 32) : fx_E Γ mX9_item 4 119 119 (fx_IP k n tx m (p_offI tx n q na nd t)) 119 m 120 [some (fx_rf Γ 83), some (.int 3), some (.int 0), none] [] := by
  have h9 := H.2.2.2.2.2.1
  have h5 := H.2.2.2.2.2.2.1
  have hn := R.2.2.2.2.1
  have hk := R.2.2.2.1
  have hp1 := R.2.2.2.2.2.1
  refine e_aload_n dX9_item_120 rfl ?_
  refine e_getv (v := nI (q + 1)) dX9_item_121 ff_X9_196 rfl (fx_pi_lt (by decide)) (by decide) rfl R.2.2.1 ?_
  refine e_istore_n dX9_item_124 (by decide) rfl ?_
  refine e_aload_n dX9_item_125 rfl ?_
  refine e_callV (μ' := mX9_reads) (ci := 9) (As := []) dX9_item_126 wl_X9_225 ok_X9_reads rfl rfl (fx_pi_lt (by decide)) (by decide) (Nat.le_of_ble_eq_true rfl) fx_n1 (s_X9_reads (m := m) hL R) rfl (fun r_ m_ hpost => ?_)
  revert r_ m_
  intro r_ m2 hpost
  obtain ⟨Kz2, hy2, hn2⟩ := hpost
  have hr : r_ = some (.int (if p_dg (p_tc tx n (q + 1)) then 1 else 0)) := by by_cases c : p_dg (p_tc tx n (q + 1)); (rw [if_pos c]; exact (hy2 c).1); (rw [if_neg c]; exact (hn2 c).1)
  subst hr
  have K2 := (fx_KT.refl m).trans Kz2.kt
  have hL2 := Kz2.lay hL
  have H2 := Kz2.ms H
  have W2 := Kz2.kt.wc W
  refine e_if_neB 134 dX9_item_129 rfl (fun c_d2 => ?_) (fun c_d2 => ?_)
  · have nm2 := p_mr_nm hb c_d2
    have R2 := (hy2 c_d2).2.2
    rw [nm2.2.1] at R2
    obtain ⟨v, ev⟩ : ∃ z, z = p_nmV tx n q := ⟨_, rfl⟩
    have hv2 : m2.1 83 37 = nI v := by rw [ev]; exact (hy2 c_d2).2.1.trans nm2.1
    have v92 : v ≤ 99 := by rw [ev]; exact nm2.2.2.2
    have hq22 : p_nmP tx n q ≤ n := R2.2.2.2.2.2.1
    refine e_aload_n dX9_item_134 rfl ?_
    refine e_iload_n dX9_item_135 rfl ?_
    refine e_iload_n dX9_item_136 rfl ?_
    refine e_callV1 (μ' := mX9_isSo) (ci := 9) (As := [.int 3, .int 0]) dX9_item_137 wl_X9_228 ok_X9_isSo rfl rfl (fx_pi_lt (by decide)) (by decide) (Nat.le_of_ble_eq_true rfl) fx_n1 (s_X9_isSo30 (m := m2) hL2 H2 hv2 (by omega)) rfl ?_
    refine e_if_neB 149 dX9_item_140 rfl (fun c_s => ?_) (fun c_s => ?_)
    · refine e_aload_n dX9_item_149 rfl ?_
      refine e_getr (o2 := 110) dX9_item_150 ff_X9_96 rfl (fx_pi_lt (by decide)) (by decide) rfl (hL2 _ _ _ rfl) ?_
      refine e_iload_n dX9_item_153 rfl ?_
      refine e_aload_n dX9_item_154 rfl ?_
      refine e_getv (v := nI v) dX9_item_155 ff_X9_205 rfl (fx_pi_lt (by decide)) (by decide) rfl hv2 ?_
      refine e_iast (j := 0) dX9_item_158 rfl (fx_pi_lt (by decide)) rfl (by decide) (by decide) ?_
      obtain ⟨m3, hm3⟩ : ∃ z, z = fx_sI m2 110 0 (nI v) := ⟨_, rfl⟩
      have K3 : fx_KT m m3 := by rw [hm3]; exact K2.sI (by omega)
      have hL3 := K3.lay hL
      have H3 : fx_MS m3 na nd t := by rw [hm3]; exact H2.sO (by decide) (fun h => absurd h (by decide))
      have W3 : fx_WC m3 := K3.wc W
      obtain ⟨q2, hq2⟩ : ∃ z, z = p_nmP tx n q := ⟨_, rfl⟩
      have hq2n : q2 ≤ n := by rw [hq2]; exact hq22
      have R3 : fx_MR m3 k n tx q2 := by rw [hm3]; exact ((fx_KT.refl m2).sI (by omega)).mr R2 (by rw [fx_sI_n _ _ _ (by decide), hq2]; exact R2.2.2.1) hq2n
      have ht3 : m3.1 110 0 = nI v := by rw [hm3]; exact fx_rd0
      rw [← hm3]
      refine e_iinc (v := 1) dX9_item_159 rfl (by decide) (by decide) rfl ?_
      refine e_goto 56 dX9_item_162 rfl ?_
      refine e_weak (lv2 := [some (fx_rf Γ 83), some (.int 3), some (.int 1), some (.int (nI (q + 1)))]) ⟨rfl, rfl, rfl, rfl, trivial⟩ ?_
      refine e_iload_n dX9_item_56 rfl ?_
      refine e_aload_n dX9_item_57 rfl ?_
      refine e_getr (o2 := 107) dX9_item_58 ff_X9_87 rfl (fx_pi_lt (by decide)) (by decide) rfl (hL3 _ _ _ rfl) ?_
      refine e_iload_n dX9_item_61 rfl ?_
      refine e_ialdv (j := 3) (v := 1) dX9_item_62 rfl (fx_pi_lt (by decide)) rfl (by decide) (by decide) (W3.2.1 3 (by decide)) ?_
      refine e_icmp_ge 165 dX9_item_63 rfl (fun _ => ?_) (fun h => absurd (by decide) h)
      refine e_iload_n dX9_item_165 rfl ?_
      refine e_tableIn (off := 160) 326 dX9_item_166 (by decide) (by decide) (by decide) rfl ?_
      refine e_aload_n dX9_item_326 rfl ?_
      refine e_getr (o2 := 91) dX9_item_327 ff_X9_38 rfl (fx_pi_lt (by decide)) (by decide) rfl (hL3 _ _ _ rfl) ?_
      refine e_aload_n dX9_item_330 rfl ?_
      refine e_getr (o2 := 110) dX9_item_331 ff_X9_96 rfl (fx_pi_lt (by decide)) (by decide) rfl (hL3 _ _ _ rfl) ?_
      refine e_iconst dX9_item_334 kci_0 ?_
      refine e_ialdv (j := 0) (v := nI v) dX9_item_335 rfl (fx_pi_lt (by decide)) rfl (by decide) (by decide) ht3 ?_
      refine e_bipush dX9_item_336 kcb_99 ?_
      refine e_iast (j := v) dX9_item_338 rfl (fx_pi_lt (by decide)) rfl (by have := c_s; omega) (by decide) ?_
      refine e_goto 359 dX9_item_339 rfl ?_
      refine e_iconst dX9_item_359 kci_1 ?_
      have hE : p_offI tx n q na nd t = (none, q2, na, nd, p_off t v) := by unfold p_offI; rw [nm2.2.2.1]; simp only []; rw [← ev, if_neg (not_not_intro c_s.1), if_neg c_s.2, ← hq2]
      have G : fx_MS (fx_sI m3 (85 + 6) v 99) na nd (p_off t v) := H3.sA c_s.1 (by decide) (p_gA6 (H3.2.2.2.2.2.2.2.1 v c_s.1))
      exact e_iret dX9_item_360 rfl rfl rfl (fx_IP.ok hE (K3.sI (by omega)) G (((fx_KT.refl m3).sI (by omega)).mr R3 (by rw [fx_sI_n _ _ _ (by decide)]; exact R3.2.2.1) hq2n))
    · refine e_aload_n dX9_item_143 rfl ?_
      refine e_iload_n dX9_item_144 rfl ?_
      refine e_callV1 (μ' := mX9_wrong) (ci := 9) (As := [.int (nI (q + 1))]) dX9_item_145 wl_X9_212 ok_X9_wrong rfl rfl (fx_pi_lt (by decide)) (by decide) (Nat.le_of_ble_eq_true rfl) fx_n1 (s_X9_wrong (m := m2) hL2 (nI (q + 1))) rfl ?_
      have hE : (p_offI tx n q na nd t).1 = some (q + 1) := by unfold p_offI; rw [nm2.2.2.1]; simp only []; rw [← ev]; by_cases c1 : v < na; (rw [if_neg (not_not_intro c1), if_pos (Decidable.not_not.mp (fun h => c_s ⟨c1, h⟩))]); (rw [if_pos c1])
      exact e_iret dX9_item_148 rfl rfl rfl (fx_IP.no hE (K2.sI (by omega)) fx_rd0)
  · refine e_iconst dX9_item_132 kci_0 ?_
    have hE : (p_offI tx n q na nd t).1 = some (q + 1) := by unfold p_offI; rw [show p_nmF tx n q = some (q + 1) by rw [p_nmF, if_neg (not_not_intro hb), if_pos c_d2]]
    exact e_iret dX9_item_133 rfl rfl rfl (fx_IP.no hE K2 ((hn2 c_d2).2))
set_option maxRecDepth 100000 in
set_option maxHeartbeats 600000 in
theorem s_X9_itemL4 {Γ : fx_G} {m : fx_M} (hL : fx_Lay m) {na nd : Nat} {t : p_Sg} {k n q : Nat} {tx : Nat → Int32} (H : fx_MS m na nd t) (R : fx_MR m k n tx (q + 1)) (W : fx_WC m) (hb : p_tc tx n q = 32) : fx_E Γ mX9_item 4 119 119 (fx_IP k n tx m (p_lieI tx n q na nd t)) 119 m 120 [some (fx_rf Γ 83), some (.int 4), some (.int 0), none] [] := by
  have h9 := H.2.2.2.2.2.1
  have h5 := H.2.2.2.2.2.2.1
  have hn := R.2.2.2.2.1
  have hk := R.2.2.2.1
  have hp1 := R.2.2.2.2.2.1
  refine e_aload_n dX9_item_120 rfl ?_
  refine e_getv (v := nI (q + 1)) dX9_item_121 ff_X9_196 rfl (fx_pi_lt (by decide)) (by decide) rfl R.2.2.1 ?_
  refine e_istore_n dX9_item_124 (by decide) rfl ?_
  refine e_aload_n dX9_item_125 rfl ?_
  refine e_callV (μ' := mX9_reads) (ci := 9) (As := []) dX9_item_126 wl_X9_225 ok_X9_reads rfl rfl (fx_pi_lt (by decide)) (by decide) (Nat.le_of_ble_eq_true rfl) fx_n1 (s_X9_reads (m := m) hL R) rfl (fun r_ m_ hpost => ?_)
  revert r_ m_
  intro r_ m2 hpost
  obtain ⟨Kz2, hy2, hn2⟩ := hpost
  have hr : r_ = some (.int (if p_dg (p_tc tx n (q + 1)) then 1 else 0)) := by by_cases c : p_dg (p_tc tx n (q + 1)); (rw [if_pos c]; exact (hy2 c).1); (rw [if_neg c]; exact (hn2 c).1)
  subst hr
  have K2 := (fx_KT.refl m).trans Kz2.kt
  have hL2 := Kz2.lay hL
  have H2 := Kz2.ms H
  have W2 := Kz2.kt.wc W
  refine e_if_neB 134 dX9_item_129 rfl (fun c_d2 => ?_) (fun c_d2 => ?_)
  · have nm2 := p_mr_nm hb c_d2
    have R2 := (hy2 c_d2).2.2
    rw [nm2.2.1] at R2
    obtain ⟨v, ev⟩ : ∃ z, z = p_nmV tx n q := ⟨_, rfl⟩
    have hv2 : m2.1 83 37 = nI v := by rw [ev]; exact (hy2 c_d2).2.1.trans nm2.1
    have v92 : v ≤ 99 := by rw [ev]; exact nm2.2.2.2
    have hq22 : p_nmP tx n q ≤ n := R2.2.2.2.2.2.1
    refine e_aload_n dX9_item_134 rfl ?_
    refine e_iload_n dX9_item_135 rfl ?_
    refine e_iload_n dX9_item_136 rfl ?_
    refine e_callV1 (μ' := mX9_isSo) (ci := 9) (As := [.int 4, .int 0]) dX9_item_137 wl_X9_228 ok_X9_isSo rfl rfl (fx_pi_lt (by decide)) (by decide) (Nat.le_of_ble_eq_true rfl) fx_n1 (s_X9_isSo40 (m := m2) hL2 H2 hv2 (by omega)) rfl ?_
    refine e_if_neB 149 dX9_item_140 rfl (fun c_s => ?_) (fun c_s => ?_)
    · refine e_aload_n dX9_item_149 rfl ?_
      refine e_getr (o2 := 110) dX9_item_150 ff_X9_96 rfl (fx_pi_lt (by decide)) (by decide) rfl (hL2 _ _ _ rfl) ?_
      refine e_iload_n dX9_item_153 rfl ?_
      refine e_aload_n dX9_item_154 rfl ?_
      refine e_getv (v := nI v) dX9_item_155 ff_X9_205 rfl (fx_pi_lt (by decide)) (by decide) rfl hv2 ?_
      refine e_iast (j := 0) dX9_item_158 rfl (fx_pi_lt (by decide)) rfl (by decide) (by decide) ?_
      obtain ⟨m3, hm3⟩ : ∃ z, z = fx_sI m2 110 0 (nI v) := ⟨_, rfl⟩
      have K3 : fx_KT m m3 := by rw [hm3]; exact K2.sI (by omega)
      have hL3 := K3.lay hL
      have H3 : fx_MS m3 na nd t := by rw [hm3]; exact H2.sO (by decide) (fun h => absurd h (by decide))
      have W3 : fx_WC m3 := K3.wc W
      obtain ⟨q2, hq2⟩ : ∃ z, z = p_nmP tx n q := ⟨_, rfl⟩
      have hq2n : q2 ≤ n := by rw [hq2]; exact hq22
      have R3 : fx_MR m3 k n tx q2 := by rw [hm3]; exact ((fx_KT.refl m2).sI (by omega)).mr R2 (by rw [fx_sI_n _ _ _ (by decide), hq2]; exact R2.2.2.1) hq2n
      have ht3 : m3.1 110 0 = nI v := by rw [hm3]; exact fx_rd0
      rw [← hm3]
      refine e_iinc (v := 1) dX9_item_159 rfl (by decide) (by decide) rfl ?_
      refine e_goto 56 dX9_item_162 rfl ?_
      refine e_weak (lv2 := [some (fx_rf Γ 83), some (.int 4), some (.int 1), some (.int (nI (q + 1)))]) ⟨rfl, rfl, rfl, rfl, trivial⟩ ?_
      refine e_iload_n dX9_item_56 rfl ?_
      refine e_aload_n dX9_item_57 rfl ?_
      refine e_getr (o2 := 107) dX9_item_58 ff_X9_87 rfl (fx_pi_lt (by decide)) (by decide) rfl (hL3 _ _ _ rfl) ?_
      refine e_iload_n dX9_item_61 rfl ?_
      refine e_ialdv (j := 4) (v := 2) dX9_item_62 rfl (fx_pi_lt (by decide)) rfl (by decide) (by decide) (W3.2.1 4 (by decide)) ?_
      refine e_icmp_ge 165 dX9_item_63 rfl (fun h => absurd h (by decide)) (fun _ => ?_)
      refine e_iload_n dX9_item_66 rfl ?_
      refine e_if_le 120 dX9_item_67 rfl (fun h => absurd h (by decide)) (fun _ => ?_)
      refine e_aload_n dX9_item_70 rfl ?_
      refine e_getv (v := nI q2) dX9_item_71 ff_X9_196 rfl (fx_pi_lt (by decide)) (by decide) rfl R3.2.2.1 ?_
      refine e_aload_n dX9_item_74 rfl ?_
      refine e_getv (v := nI n) dX9_item_75 ff_X9_199 rfl (fx_pi_lt (by decide)) (by decide) rfl R3.2.1 ?_
      refine e_icmp_ge 101 dX9_item_78 rfl (fun c_e => ?_) (fun c_e => ?_)
      · refine e_aload_n dX9_item_101 rfl ?_
        refine e_aload_n dX9_item_102 rfl ?_
        refine e_getv (v := nI q2) dX9_item_103 ff_X9_196 rfl (fx_pi_lt (by decide)) (by decide) rfl R3.2.2.1 ?_
        refine e_callV1 (μ' := mX9_wrong) (ci := 9) (As := [.int (nI q2)]) dX9_item_106 wl_X9_212 ok_X9_wrong rfl rfl (fx_pi_lt (by decide)) (by decide) (Nat.le_of_ble_eq_true rfl) fx_n1 (s_X9_wrong (m := m3) hL3 (nI q2)) rfl ?_
        have hE : (p_lieI tx n q na nd t).1 = some q2 := by unfold p_lieI; rw [nm2.2.2.1]; simp only []; rw [← ev]; rw [if_neg (not_not_intro c_s), ← hq2]; rw [show p_nmF tx n q2 = some q2 by rw [p_nmF, if_pos (by rw [show p_tc tx n q2 = -1 from if_neg (fun h => nI_ge (a := q2) (b := n) h (by omega) c_e)]; decide)]]
        exact e_iret dX9_item_109 rfl rfl rfl (fx_IP.no hE (K3.sI (by omega)) fx_rd0)
      · have hl2 : q2 < n := by rcases Nat.lt_or_ge q2 n with h | h; exact h; exact absurd (nI_le h (by omega)) c_e
        refine e_aload_n dX9_item_81 rfl ?_
        refine e_getr (o2 := 104) dX9_item_82 ff_X9_77 rfl (fx_pi_lt (by decide)) (by decide) rfl (hL3 _ _ _ rfl) ?_
        refine e_aload_n dX9_item_85 rfl ?_
        refine e_getv (v := nI (160 * k)) dX9_item_86 ff_X9_202 rfl (fx_pi_lt (by decide)) (by decide) rfl R3.1 ?_
        refine e_aload_n dX9_item_89 rfl ?_
        refine e_getv (v := nI q2) dX9_item_90 ff_X9_196 rfl (fx_pi_lt (by decide)) (by decide) rfl R3.2.2.1 ?_
        refine e_iadd dX9_item_93 ?_
        refine e_lald (j := 160 * k + q2) dX9_item_94 rfl (fx_pi_lt (by decide)) (by rw [nI_add]) (by omega) (by decide) ?_
        refine e_l2i dX9_item_95 ?_
        rw [R3.tq hl2]
        refine e_bipush dX9_item_96 kcb_32 ?_
        refine e_icmp_eq 110 dX9_item_98 rfl (fun c_b => ?_) (fun c_b => ?_)
        · refine e_aload_n dX9_item_110 rfl ?_
          refine e_dup dX9_item_111 rfl ?_
          refine e_getv (v := nI q2) dX9_item_112 ff_X9_196 rfl (fx_pi_lt (by decide)) (by decide) rfl R3.2.2.1 ?_
          refine e_iconst dX9_item_115 kci_1 ?_
          refine e_iadd dX9_item_116 ?_
          rw [nI_1]
          refine e_put dX9_item_117 ff_X9_196 rfl (fx_pi_lt (by decide)) (by decide) rfl (Or.inl rfl) ?_
          obtain ⟨m4, hm4⟩ : ∃ z, z = fx_sI m3 83 36 (nI (q2 + 1)) := ⟨_, rfl⟩
          have K4 : fx_KT m m4 := by rw [hm4]; exact K3.sI (by omega)
          have hL4 := K4.lay hL
          have H4 : fx_MS m4 na nd t := by rw [hm4]; exact H3.sO (by decide) (by decide)
          have W4 : fx_WC m4 := K4.wc W
          have R4 : fx_MR m4 k n tx (q2 + 1) := by rw [hm4]; exact ((fx_KT.refl m3).sI (by omega)).mr R3 fx_rd0 (by omega)
          have ht4 : m4.1 110 0 = nI v := by rw [hm4, fx_sI_n _ _ _ (by decide)]; exact ht3
          rw [← hm4]
          refine e_aload_n dX9_item_120 rfl ?_
          refine e_getv (v := nI (q2 + 1)) dX9_item_121 ff_X9_196 rfl (fx_pi_lt (by decide)) (by decide) rfl R4.2.2.1 ?_
          refine e_istore_n dX9_item_124 (by decide) rfl ?_
          refine e_aload_n dX9_item_125 rfl ?_
          refine e_callV (μ' := mX9_reads) (ci := 9) (As := []) dX9_item_126 wl_X9_225 ok_X9_reads rfl rfl (fx_pi_lt (by decide)) (by decide) (Nat.le_of_ble_eq_true rfl) fx_n1 (s_X9_reads (m := m4) hL4 R4) rfl (fun r_ m_ hpost => ?_)
          revert r_ m_
          intro r_ m5 hpost
          obtain ⟨Kz5, hy5, hn5⟩ := hpost
          have hr : r_ = some (.int (if p_dg (p_tc tx n (q2 + 1)) then 1 else 0)) := by by_cases c : p_dg (p_tc tx n (q2 + 1)); (rw [if_pos c]; exact (hy5 c).1); (rw [if_neg c]; exact (hn5 c).1)
          subst hr
          have K5 := K4.trans Kz5.kt
          have hL5 := Kz5.lay hL4
          have H5 := Kz5.ms H4
          have W5 := Kz5.kt.wc W4
          refine e_if_neB 134 dX9_item_129 rfl (fun c_d5 => ?_) (fun c_d5 => ?_)
          · have nm5 := p_mr_nm c_b c_d5
            have R5 := (hy5 c_d5).2.2
            rw [nm5.2.1] at R5
            obtain ⟨u, eu⟩ : ∃ z, z = p_nmV tx n q2 := ⟨_, rfl⟩
            have hv5 : m5.1 83 37 = nI u := by rw [eu]; exact (hy5 c_d5).2.1.trans nm5.1
            have v95 : u ≤ 99 := by rw [eu]; exact nm5.2.2.2
            have hq25 : p_nmP tx n q2 ≤ n := R5.2.2.2.2.2.1
            have ht5 : m5.1 110 0 = nI v := by rw [congrFun (Kz5.2.1 110 (by decide)) 0]; exact ht4
            refine e_aload_n dX9_item_134 rfl ?_
            refine e_iload_n dX9_item_135 rfl ?_
            refine e_iload_n dX9_item_136 rfl ?_
            refine e_callV1 (μ' := mX9_isSo) (ci := 9) (As := [.int 4, .int 1]) dX9_item_137 wl_X9_228 ok_X9_isSo rfl rfl (fx_pi_lt (by decide)) (by decide) (Nat.le_of_ble_eq_true rfl) fx_n1 (s_X9_isSo41 (m := m5) hL5) rfl ?_
            refine e_if_ne 149 dX9_item_140 rfl (fun _ => ?_) (fun h => absurd h (by decide))
            refine e_aload_n dX9_item_149 rfl ?_
            refine e_getr (o2 := 110) dX9_item_150 ff_X9_96 rfl (fx_pi_lt (by decide)) (by decide) rfl (hL5 _ _ _ rfl) ?_
            refine e_iload_n dX9_item_153 rfl ?_
            refine e_aload_n dX9_item_154 rfl ?_
            refine e_getv (v := nI u) dX9_item_155 ff_X9_205 rfl (fx_pi_lt (by decide)) (by decide) rfl hv5 ?_
            refine e_iast (j := 1) dX9_item_158 rfl (fx_pi_lt (by decide)) rfl (by decide) (by decide) ?_
            obtain ⟨m6, hm6⟩ : ∃ z, z = fx_sI m5 110 1 (nI u) := ⟨_, rfl⟩
            have K6 : fx_KT m m6 := by rw [hm6]; exact K5.sI (by omega)
            have hL6 := K6.lay hL
            have H6 : fx_MS m6 na nd t := by rw [hm6]; exact H5.sO (by decide) (fun h => absurd h (by decide))
            have W6 : fx_WC m6 := K6.wc W
            obtain ⟨q6, hq6⟩ : ∃ z, z = p_nmP tx n q2 := ⟨_, rfl⟩
            have hq6n : q6 ≤ n := by rw [hq6]; exact hq25
            have R6 : fx_MR m6 k n tx q6 := by rw [hm6]; exact ((fx_KT.refl m5).sI (by omega)).mr R5 (by rw [fx_sI_n _ _ _ (by decide), hq6]; exact R5.2.2.1) hq6n
            have ht60 : m6.1 110 0 = nI v := by rw [hm6, fx_rd2 (by decide)]; exact ht5
            have ht61 : m6.1 110 1 = nI u := by rw [hm6]; exact fx_rd0
            rw [← hm6]
            refine e_iinc (v := 2) dX9_item_159 rfl (by decide) (by decide) rfl ?_
            refine e_goto 56 dX9_item_162 rfl ?_
            refine e_weak (lv2 := [some (fx_rf Γ 83), some (.int 4), some (.int 2), some (.int (nI (q2 + 1)))]) ⟨rfl, rfl, rfl, rfl, trivial⟩ ?_
            refine e_iload_n dX9_item_56 rfl ?_
            refine e_aload_n dX9_item_57 rfl ?_
            refine e_getr (o2 := 107) dX9_item_58 ff_X9_87 rfl (fx_pi_lt (by decide)) (by decide) rfl (hL6 _ _ _ rfl) ?_
            refine e_iload_n dX9_item_61 rfl ?_
            refine e_ialdv (j := 4) (v := 2) dX9_item_62 rfl (fx_pi_lt (by decide)) rfl (by decide) (by decide) (W6.2.1 4 (by decide)) ?_
            refine e_icmp_ge 165 dX9_item_63 rfl (fun _ => ?_) (fun h => absurd (by decide) h)
            refine e_iload_n dX9_item_165 rfl ?_
            refine e_tableOut 342 dX9_item_166 (by decide) rfl ?_
            refine e_aload_n dX9_item_342 rfl ?_
            refine e_getr (o2 := 99) dX9_item_343 ff_X9_62 rfl (fx_pi_lt (by decide)) (by decide) rfl (hL6 _ _ _ rfl) ?_
            refine e_aload_n dX9_item_346 rfl ?_
            refine e_getr (o2 := 110) dX9_item_347 ff_X9_96 rfl (fx_pi_lt (by decide)) (by decide) rfl (hL6 _ _ _ rfl) ?_
            refine e_iconst dX9_item_350 kci_0 ?_
            refine e_ialdv (j := 0) (v := nI v) dX9_item_351 rfl (fx_pi_lt (by decide)) rfl (by decide) (by decide) ht60 ?_
            refine e_aload_n dX9_item_352 rfl ?_
            refine e_getr (o2 := 110) dX9_item_353 ff_X9_96 rfl (fx_pi_lt (by decide)) (by decide) rfl (hL6 _ _ _ rfl) ?_
            refine e_iconst dX9_item_356 kci_1 ?_
            refine e_ialdv (j := 1) (v := nI u) dX9_item_357 rfl (fx_pi_lt (by decide)) rfl (by decide) (by decide) ht61 ?_
            refine e_iast (j := v) dX9_item_358 rfl (fx_pi_lt (by decide)) rfl (by have := c_s; omega) (by decide) ?_
            refine e_iconst dX9_item_359 kci_1 ?_
            have hE : p_lieI tx n q na nd t = (none, q6, na, nd, (t.1, p_ua t.2.1 v (p_u (t.2.1 v) 7 (nI u)), t.2.2)) := by unfold p_lieI; rw [nm2.2.2.1]; simp only []; rw [← ev, if_neg (not_not_intro c_s), ← hq2, nm5.2.2.1]; simp only []; rw [← eu, ← hq6]
            have G : fx_MS (fx_sI m6 (92 + 7) v (nI u)) na nd (t.1, p_ua t.2.1 v (p_u (t.2.1 v) 7 (nI u)), t.2.2) := H6.sD c_s (by decide) (p_gD7 (H6.2.2.2.2.2.2.2.2 v c_s) (nI_in99 (by omega)))
            exact e_iret dX9_item_360 rfl rfl rfl (fx_IP.ok hE (K6.sI (by omega)) G (((fx_KT.refl m6).sI (by omega)).mr R6 (by rw [fx_sI_n _ _ _ (by decide)]; exact R6.2.2.1) hq6n))
          · refine e_iconst dX9_item_132 kci_0 ?_
            have hE : (p_lieI tx n q na nd t).1 = some (q2 + 1) := by unfold p_lieI; rw [nm2.2.2.1]; simp only []; rw [← ev]; rw [if_neg (not_not_intro c_s), ← hq2]; rw [show p_nmF tx n q2 = some (q2 + 1) by rw [p_nmF, if_neg (not_not_intro c_b), if_pos c_d5]]
            exact e_iret dX9_item_133 rfl rfl rfl (fx_IP.no hE K5 ((hn5 c_d5).2))
        · refine e_aload_n dX9_item_101 rfl ?_
          refine e_aload_n dX9_item_102 rfl ?_
          refine e_getv (v := nI q2) dX9_item_103 ff_X9_196 rfl (fx_pi_lt (by decide)) (by decide) rfl R3.2.2.1 ?_
          refine e_callV1 (μ' := mX9_wrong) (ci := 9) (As := [.int (nI q2)]) dX9_item_106 wl_X9_212 ok_X9_wrong rfl rfl (fx_pi_lt (by decide)) (by decide) (Nat.le_of_ble_eq_true rfl) fx_n1 (s_X9_wrong (m := m3) hL3 (nI q2)) rfl ?_
          have hE : (p_lieI tx n q na nd t).1 = some q2 := by unfold p_lieI; rw [nm2.2.2.1]; simp only []; rw [← ev]; rw [if_neg (not_not_intro c_s), ← hq2]; rw [show p_nmF tx n q2 = some q2 by rw [p_nmF, if_pos c_b]]
          exact e_iret dX9_item_109 rfl rfl rfl (fx_IP.no hE (K3.sI (by omega)) fx_rd0)
    · refine e_aload_n dX9_item_143 rfl ?_
      refine e_iload_n dX9_item_144 rfl ?_
      refine e_callV1 (μ' := mX9_wrong) (ci := 9) (As := [.int (nI (q + 1))]) dX9_item_145 wl_X9_212 ok_X9_wrong rfl rfl (fx_pi_lt (by decide)) (by decide) (Nat.le_of_ble_eq_true rfl) fx_n1 (s_X9_wrong (m := m2) hL2 (nI (q + 1))) rfl ?_
      have hE : (p_lieI tx n q na nd t).1 = some (q + 1) := by unfold p_lieI; rw [nm2.2.2.1]; simp only []; rw [← ev]; rw [if_pos c_s]
      exact e_iret dX9_item_148 rfl rfl rfl (fx_IP.no hE (K2.sI (by omega)) fx_rd0)
  · refine e_iconst dX9_item_132 kci_0 ?_
    have hE : (p_lieI tx n q na nd t).1 = some (q + 1) := by unfold p_lieI; rw [show p_nmF tx n q = some (q + 1) by rw [p_nmF, if_neg (not_not_intro hb), if_pos c_d2]]
    exact e_iret dX9_item_133 rfl rfl rfl (fx_IP.no hE K2 ((hn2 c_d2).2))
