theorem p_obA (q : Nat) (hq : q < 7) : ∀ i, i < 8 → p_ob (8 * q + i) = (85 + q, i) := fun _ hi => p_ob_a hq hi
theorem p_obD (q : Nat) (hq : q < 8) : ∀ i, i < 5 → p_ob (56 + 5 * q + i) = (92 + q, i) := fun _ hi => p_ob_d hq hi
theorem p_ob0 : ∀ i, i < 8 → p_ob (0 + i) = (85, i) := p_obA 0 (by decide)
theorem p_ob8 : ∀ i, i < 8 → p_ob (8 + i) = (86, i) := p_obA 1 (by decide)
theorem p_ob16 : ∀ i, i < 8 → p_ob (16 + i) = (87, i) := p_obA 2 (by decide)
theorem p_ob24 : ∀ i, i < 8 → p_ob (24 + i) = (88, i) := p_obA 3 (by decide)
theorem p_ob32 : ∀ i, i < 8 → p_ob (32 + i) = (89, i) := p_obA 4 (by decide)
theorem p_ob40 : ∀ i, i < 8 → p_ob (40 + i) = (90, i) := p_obA 5 (by decide)
theorem p_ob48 : ∀ i, i < 8 → p_ob (48 + i) = (91, i) := p_obA 6 (by decide)
theorem p_ob56 : ∀ i, i < 5 → p_ob (56 + i) = (92, i) := p_obD 0 (by decide)
theorem p_ob61 : ∀ i, i < 5 → p_ob (61 + i) = (93, i) := p_obD 1 (by decide)
theorem p_ob66 : ∀ i, i < 5 → p_ob (66 + i) = (94, i) := p_obD 2 (by decide)
theorem p_ob71 : ∀ i, i < 5 → p_ob (71 + i) = (95, i) := p_obD 3 (by decide)
theorem p_ob76 : ∀ i, i < 5 → p_ob (76 + i) = (96, i) := p_obD 4 (by decide)
theorem p_ob81 : ∀ i, i < 5 → p_ob (81 + i) = (97, i) := p_obD 5 (by decide)
theorem p_ob86 : ∀ i, i < 5 → p_ob (86 + i) = (98, i) := p_obD 6 (by decide)
theorem p_ob91 : ∀ i, i < 5 → p_ob (91 + i) = (99, i) := p_obD 7 (by decide)
theorem fx_sv_0 (m : fx_M) (o : Nat) : fx_sv m m o 0 := ⟨fun _ h => absurd h (by omega), rfl, fun _ _ => rfl⟩
theorem fx_ld_0 (m : fx_M) (o : Nat) : fx_ld m m o 0 := ⟨fun _ h => absurd h (by omega), rfl, fun _ _ _ => rfl⟩
set_option maxRecDepth 100000 in
set_option maxHeartbeats 600000 in
theorem s_X9_allc0 {Γ : fx_G} {m m15 : fx_M} (hL15 : fx_Lay m15) (hL : fx_Lay m) {o : Nat} (hso : fx_shapes[o]? = some (0, 110)) (h2 : 111 ≤ o) (h3 : o ≤ 113) (V15 : fx_sv m m15 o 96) : fx_E Γ mX9_all 1 119 119 (fun r m' => r = none ∧ fx_sv m m' o 102) 119 m15 202 [some (fx_rf Γ 83), some (fx_rf Γ o), some (.int 0), some (.int 96)] [] := by
  refine e_iload_n dX9_all_202 rfl ?_
  refine e_if_eq 261 dX9_all_203 rfl (fun _ => ?_) (fun h => absurd (by decide) h)
  refine e_aload_n dX9_all_261 rfl ?_
  refine e_iload_n dX9_all_262 rfl ?_
  refine e_aload_n dX9_all_263 rfl ?_
  refine e_get dX9_all_264 ff_X9_126 rfl (fx_pi_lt (by decide)) (by decide) rfl ?_
  refine e_iast (j := 96) dX9_all_267 hso (fx_pi_lt (by omega)) rfl (by decide) (by decide) ?_
  have V16 := V15.s (j := 0) (by omega)
  obtain ⟨m16, e16⟩ : ∃ z, z = fx_sI m15 o 96 (m15.1 83 0) := ⟨_, rfl⟩
  rw [← e16] at V16 ⊢
  have hL16 : fx_Lay m16 := fun o k v hv => by rw [V16.2.1]; exact hL o k v hv
  refine e_aload_n dX9_all_268 rfl ?_
  refine e_iload_n dX9_all_269 rfl ?_
  refine e_iconst dX9_all_270 kci_1 ?_
  refine e_iadd dX9_all_271 ?_
  refine e_aload_n dX9_all_272 rfl ?_
  refine e_get dX9_all_273 ff_X9_129 rfl (fx_pi_lt (by decide)) (by decide) rfl ?_
  refine e_iast (j := 97) dX9_all_276 hso (fx_pi_lt (by omega)) rfl (by decide) (by decide) ?_
  have V17 := V16.s (j := 1) (by omega)
  obtain ⟨m17, e17⟩ : ∃ z, z = fx_sI m16 o 97 (m16.1 83 1) := ⟨_, rfl⟩
  rw [← e17] at V17 ⊢
  have hL17 : fx_Lay m17 := fun o k v hv => by rw [V17.2.1]; exact hL o k v hv
  refine e_aload_n dX9_all_277 rfl ?_
  refine e_iload_n dX9_all_278 rfl ?_
  refine e_iconst dX9_all_279 kci_2 ?_
  refine e_iadd dX9_all_280 ?_
  refine e_aload_n dX9_all_281 rfl ?_
  refine e_get dX9_all_282 ff_X9_235 rfl (fx_pi_lt (by decide)) (by decide) rfl ?_
  refine e_iast (j := 98) dX9_all_285 hso (fx_pi_lt (by omega)) rfl (by decide) (by decide) ?_
  have V18 := V17.s (j := 2) (by omega)
  obtain ⟨m18, e18⟩ : ∃ z, z = fx_sI m17 o 98 (m17.1 83 2) := ⟨_, rfl⟩
  rw [← e18] at V18 ⊢
  have hL18 : fx_Lay m18 := fun o k v hv => by rw [V18.2.1]; exact hL o k v hv
  refine e_aload_n dX9_all_286 rfl ?_
  refine e_iload_n dX9_all_287 rfl ?_
  refine e_iconst dX9_all_288 kci_3 ?_
  refine e_iadd dX9_all_289 ?_
  refine e_aload_n dX9_all_290 rfl ?_
  refine e_get dX9_all_291 ff_X9_238 rfl (fx_pi_lt (by decide)) (by decide) rfl ?_
  refine e_iast (j := 99) dX9_all_294 hso (fx_pi_lt (by omega)) rfl (by decide) (by decide) ?_
  have V19 := V18.s (j := 3) (by omega)
  obtain ⟨m19, e19⟩ : ∃ z, z = fx_sI m18 o 99 (m18.1 83 3) := ⟨_, rfl⟩
  rw [← e19] at V19 ⊢
  have hL19 : fx_Lay m19 := fun o k v hv => by rw [V19.2.1]; exact hL o k v hv
  refine e_aload_n dX9_all_295 rfl ?_
  refine e_iload_n dX9_all_296 rfl ?_
  refine e_iconst dX9_all_297 kci_4 ?_
  refine e_iadd dX9_all_298 ?_
  refine e_aload_n dX9_all_299 rfl ?_
  refine e_get dX9_all_300 ff_X9_241 rfl (fx_pi_lt (by decide)) (by decide) rfl ?_
  refine e_iast (j := 100) dX9_all_303 hso (fx_pi_lt (by omega)) rfl (by decide) (by decide) ?_
  have V20 := V19.s (j := 4) (by omega)
  obtain ⟨m20, e20⟩ : ∃ z, z = fx_sI m19 o 100 (m19.1 83 4) := ⟨_, rfl⟩
  rw [← e20] at V20 ⊢
  have hL20 : fx_Lay m20 := fun o k v hv => by rw [V20.2.1]; exact hL o k v hv
  refine e_aload_n dX9_all_304 rfl ?_
  refine e_iload_n dX9_all_305 rfl ?_
  refine e_iconst dX9_all_306 kci_5 ?_
  refine e_iadd dX9_all_307 ?_
  refine e_aload_n dX9_all_308 rfl ?_
  refine e_get dX9_all_309 ff_X9_7 rfl (fx_pi_lt (by decide)) (by decide) rfl ?_
  refine e_iast (j := 101) dX9_all_312 hso (fx_pi_lt (by omega)) rfl (by decide) (by decide) ?_
  have V21 := V20.s (j := 5) (by omega)
  obtain ⟨m21, e21⟩ : ∃ z, z = fx_sI m20 o 101 (m20.1 83 5) := ⟨_, rfl⟩
  rw [← e21] at V21 ⊢
  have hL21 : fx_Lay m21 := fun o k v hv => by rw [V21.2.1]; exact hL o k v hv
  exact e_vret dX9_all_313 rfl rfl ⟨rfl, V21⟩
set_option maxRecDepth 100000 in
set_option maxHeartbeats 600000 in
theorem s_X9_allb0 {Γ : fx_G} {m m11 : fx_M} (hL11 : fx_Lay m11) (hL : fx_Lay m) {o : Nat} (hso : fx_shapes[o]? = some (0, 110)) (h2 : 111 ≤ o) (h3 : o ≤ 113) (V11 : fx_sv m m11 o 76) : fx_E Γ mX9_all 1 119 119 (fun r m' => r = none ∧ fx_sv m m' o 102) 119 m11 150 [some (fx_rf Γ 83), some (fx_rf Γ o), some (.int 0), some (.int 76)] [] := by
  refine e_aload_n dX9_all_150 rfl ?_
  refine e_aload_n dX9_all_151 rfl ?_
  refine e_getr (o2 := 96) dX9_all_152 ff_X9_53 rfl (fx_pi_lt (by decide)) (by decide) rfl (hL11 _ _ _ rfl) ?_
  refine e_iconst dX9_all_155 kci_5 ?_
  refine e_aload_n dX9_all_156 rfl ?_
  refine e_iload_n dX9_all_157 rfl ?_
  refine e_iload_n dX9_all_158 rfl ?_
  refine e_callV (μ' := mX9_carries) (ci := 9) (As := [fx_rf Γ 96, .int 5, fx_rf Γ o, .int 76, .int 0]) dX9_all_159 wl_X9_231 ok_X9_carries rfl rfl (fx_pi_lt (by decide)) (by decide) (Nat.le_of_ble_eq_true rfl) fx_n1 (s_X9_carries05 (m := m11) hL11 (a := 96) (o := o) (n := 5) (p := 76) rfl (by decide) hso (by omega) (by omega) (by decide) (by decide)) rfl (fun r_ m_ hpost => ?_)
  revert r_ m_
  intro r_ m12 hpost
  obtain ⟨hr_, e12⟩ := hpost
  rw [show nI (76 + 5) = (81 : Int32) from rfl] at hr_
  subst hr_
  have V12 : fx_sv m m12 o 81 := by rw [e12]; exact V11.w (a := 96) (n := 5) (p := 76) (by omega) p_ob76
  clear e12
  have hL12 : fx_Lay m12 := fun o k v hv => by rw [V12.2.1]; exact hL o k v hv
  refine e_istore_n dX9_all_162 (by decide) rfl ?_
  refine e_aload_n dX9_all_163 rfl ?_
  refine e_aload_n dX9_all_164 rfl ?_
  refine e_getr (o2 := 97) dX9_all_165 ff_X9_56 rfl (fx_pi_lt (by decide)) (by decide) rfl (hL12 _ _ _ rfl) ?_
  refine e_iconst dX9_all_168 kci_5 ?_
  refine e_aload_n dX9_all_169 rfl ?_
  refine e_iload_n dX9_all_170 rfl ?_
  refine e_iload_n dX9_all_171 rfl ?_
  refine e_callV (μ' := mX9_carries) (ci := 9) (As := [fx_rf Γ 97, .int 5, fx_rf Γ o, .int 81, .int 0]) dX9_all_172 wl_X9_231 ok_X9_carries rfl rfl (fx_pi_lt (by decide)) (by decide) (Nat.le_of_ble_eq_true rfl) fx_n1 (s_X9_carries05 (m := m12) hL12 (a := 97) (o := o) (n := 5) (p := 81) rfl (by decide) hso (by omega) (by omega) (by decide) (by decide)) rfl (fun r_ m_ hpost => ?_)
  revert r_ m_
  intro r_ m13 hpost
  obtain ⟨hr_, e13⟩ := hpost
  rw [show nI (81 + 5) = (86 : Int32) from rfl] at hr_
  subst hr_
  have V13 : fx_sv m m13 o 86 := by rw [e13]; exact V12.w (a := 97) (n := 5) (p := 81) (by omega) p_ob81
  clear e13
  have hL13 : fx_Lay m13 := fun o k v hv => by rw [V13.2.1]; exact hL o k v hv
  refine e_istore_n dX9_all_175 (by decide) rfl ?_
  refine e_aload_n dX9_all_176 rfl ?_
  refine e_aload_n dX9_all_177 rfl ?_
  refine e_getr (o2 := 98) dX9_all_178 ff_X9_59 rfl (fx_pi_lt (by decide)) (by decide) rfl (hL13 _ _ _ rfl) ?_
  refine e_iconst dX9_all_181 kci_5 ?_
  refine e_aload_n dX9_all_182 rfl ?_
  refine e_iload_n dX9_all_183 rfl ?_
  refine e_iload_n dX9_all_184 rfl ?_
  refine e_callV (μ' := mX9_carries) (ci := 9) (As := [fx_rf Γ 98, .int 5, fx_rf Γ o, .int 86, .int 0]) dX9_all_185 wl_X9_231 ok_X9_carries rfl rfl (fx_pi_lt (by decide)) (by decide) (Nat.le_of_ble_eq_true rfl) fx_n1 (s_X9_carries05 (m := m13) hL13 (a := 98) (o := o) (n := 5) (p := 86) rfl (by decide) hso (by omega) (by omega) (by decide) (by decide)) rfl (fun r_ m_ hpost => ?_)
  revert r_ m_
  intro r_ m14 hpost
  obtain ⟨hr_, e14⟩ := hpost
  rw [show nI (86 + 5) = (91 : Int32) from rfl] at hr_
  subst hr_
  have V14 : fx_sv m m14 o 91 := by rw [e14]; exact V13.w (a := 98) (n := 5) (p := 86) (by omega) p_ob86
  clear e14
  have hL14 : fx_Lay m14 := fun o k v hv => by rw [V14.2.1]; exact hL o k v hv
  refine e_istore_n dX9_all_188 (by decide) rfl ?_
  refine e_aload_n dX9_all_189 rfl ?_
  refine e_aload_n dX9_all_190 rfl ?_
  refine e_getr (o2 := 99) dX9_all_191 ff_X9_62 rfl (fx_pi_lt (by decide)) (by decide) rfl (hL14 _ _ _ rfl) ?_
  refine e_iconst dX9_all_194 kci_5 ?_
  refine e_aload_n dX9_all_195 rfl ?_
  refine e_iload_n dX9_all_196 rfl ?_
  refine e_iload_n dX9_all_197 rfl ?_
  refine e_callV (μ' := mX9_carries) (ci := 9) (As := [fx_rf Γ 99, .int 5, fx_rf Γ o, .int 91, .int 0]) dX9_all_198 wl_X9_231 ok_X9_carries rfl rfl (fx_pi_lt (by decide)) (by decide) (Nat.le_of_ble_eq_true rfl) fx_n1 (s_X9_carries05 (m := m14) hL14 (a := 99) (o := o) (n := 5) (p := 91) rfl (by decide) hso (by omega) (by omega) (by decide) (by decide)) rfl (fun r_ m_ hpost => ?_)
  revert r_ m_
  intro r_ m15 hpost
  obtain ⟨hr_, e15⟩ := hpost
  rw [show nI (91 + 5) = (96 : Int32) from rfl] at hr_
  subst hr_
  have V15 : fx_sv m m15 o 96 := by rw [e15]; exact V14.w (a := 99) (n := 5) (p := 91) (by omega) p_ob91
  clear e15
  have hL15 : fx_Lay m15 := fun o k v hv => by rw [V15.2.1]; exact hL o k v hv
  refine e_istore_n dX9_all_201 (by decide) rfl ?_
  exact s_X9_allc0 hL15 hL hso h2 h3 V15
set_option maxRecDepth 100000 in
set_option maxHeartbeats 600000 in
theorem s_X9_alla0 {Γ : fx_G} {m m7 : fx_M} (hL7 : fx_Lay m7) (hL : fx_Lay m) {o : Nat} (hso : fx_shapes[o]? = some (0, 110)) (h2 : 111 ≤ o) (h3 : o ≤ 113) (V7 : fx_sv m m7 o 56) : fx_E Γ mX9_all 1 119 119 (fun r m' => r = none ∧ fx_sv m m' o 102) 119 m7 98 [some (fx_rf Γ 83), some (fx_rf Γ o), some (.int 0), some (.int 56)] [] := by
  refine e_aload_n dX9_all_98 rfl ?_
  refine e_aload_n dX9_all_99 rfl ?_
  refine e_getr (o2 := 92) dX9_all_100 ff_X9_41 rfl (fx_pi_lt (by decide)) (by decide) rfl (hL7 _ _ _ rfl) ?_
  refine e_iconst dX9_all_103 kci_5 ?_
  refine e_aload_n dX9_all_104 rfl ?_
  refine e_iload_n dX9_all_105 rfl ?_
  refine e_iload_n dX9_all_106 rfl ?_
  refine e_callV (μ' := mX9_carries) (ci := 9) (As := [fx_rf Γ 92, .int 5, fx_rf Γ o, .int 56, .int 0]) dX9_all_107 wl_X9_231 ok_X9_carries rfl rfl (fx_pi_lt (by decide)) (by decide) (Nat.le_of_ble_eq_true rfl) fx_n1 (s_X9_carries05 (m := m7) hL7 (a := 92) (o := o) (n := 5) (p := 56) rfl (by decide) hso (by omega) (by omega) (by decide) (by decide)) rfl (fun r_ m_ hpost => ?_)
  revert r_ m_
  intro r_ m8 hpost
  obtain ⟨hr_, e8⟩ := hpost
  rw [show nI (56 + 5) = (61 : Int32) from rfl] at hr_
  subst hr_
  have V8 : fx_sv m m8 o 61 := by rw [e8]; exact V7.w (a := 92) (n := 5) (p := 56) (by omega) p_ob56
  clear e8
  have hL8 : fx_Lay m8 := fun o k v hv => by rw [V8.2.1]; exact hL o k v hv
  refine e_istore_n dX9_all_110 (by decide) rfl ?_
  refine e_aload_n dX9_all_111 rfl ?_
  refine e_aload_n dX9_all_112 rfl ?_
  refine e_getr (o2 := 93) dX9_all_113 ff_X9_44 rfl (fx_pi_lt (by decide)) (by decide) rfl (hL8 _ _ _ rfl) ?_
  refine e_iconst dX9_all_116 kci_5 ?_
  refine e_aload_n dX9_all_117 rfl ?_
  refine e_iload_n dX9_all_118 rfl ?_
  refine e_iload_n dX9_all_119 rfl ?_
  refine e_callV (μ' := mX9_carries) (ci := 9) (As := [fx_rf Γ 93, .int 5, fx_rf Γ o, .int 61, .int 0]) dX9_all_120 wl_X9_231 ok_X9_carries rfl rfl (fx_pi_lt (by decide)) (by decide) (Nat.le_of_ble_eq_true rfl) fx_n1 (s_X9_carries05 (m := m8) hL8 (a := 93) (o := o) (n := 5) (p := 61) rfl (by decide) hso (by omega) (by omega) (by decide) (by decide)) rfl (fun r_ m_ hpost => ?_)
  revert r_ m_
  intro r_ m9 hpost
  obtain ⟨hr_, e9⟩ := hpost
  rw [show nI (61 + 5) = (66 : Int32) from rfl] at hr_
  subst hr_
  have V9 : fx_sv m m9 o 66 := by rw [e9]; exact V8.w (a := 93) (n := 5) (p := 61) (by omega) p_ob61
  clear e9
  have hL9 : fx_Lay m9 := fun o k v hv => by rw [V9.2.1]; exact hL o k v hv
  refine e_istore_n dX9_all_123 (by decide) rfl ?_
  refine e_aload_n dX9_all_124 rfl ?_
  refine e_aload_n dX9_all_125 rfl ?_
  refine e_getr (o2 := 94) dX9_all_126 ff_X9_47 rfl (fx_pi_lt (by decide)) (by decide) rfl (hL9 _ _ _ rfl) ?_
  refine e_iconst dX9_all_129 kci_5 ?_
  refine e_aload_n dX9_all_130 rfl ?_
  refine e_iload_n dX9_all_131 rfl ?_
  refine e_iload_n dX9_all_132 rfl ?_
  refine e_callV (μ' := mX9_carries) (ci := 9) (As := [fx_rf Γ 94, .int 5, fx_rf Γ o, .int 66, .int 0]) dX9_all_133 wl_X9_231 ok_X9_carries rfl rfl (fx_pi_lt (by decide)) (by decide) (Nat.le_of_ble_eq_true rfl) fx_n1 (s_X9_carries05 (m := m9) hL9 (a := 94) (o := o) (n := 5) (p := 66) rfl (by decide) hso (by omega) (by omega) (by decide) (by decide)) rfl (fun r_ m_ hpost => ?_)
  revert r_ m_
  intro r_ m10 hpost
  obtain ⟨hr_, e10⟩ := hpost
  rw [show nI (66 + 5) = (71 : Int32) from rfl] at hr_
  subst hr_
  have V10 : fx_sv m m10 o 71 := by rw [e10]; exact V9.w (a := 94) (n := 5) (p := 66) (by omega) p_ob66
  clear e10
  have hL10 : fx_Lay m10 := fun o k v hv => by rw [V10.2.1]; exact hL o k v hv
  refine e_istore_n dX9_all_136 (by decide) rfl ?_
  refine e_aload_n dX9_all_137 rfl ?_
  refine e_aload_n dX9_all_138 rfl ?_
  refine e_getr (o2 := 95) dX9_all_139 ff_X9_50 rfl (fx_pi_lt (by decide)) (by decide) rfl (hL10 _ _ _ rfl) ?_
  refine e_iconst dX9_all_142 kci_5 ?_
  refine e_aload_n dX9_all_143 rfl ?_
  refine e_iload_n dX9_all_144 rfl ?_
  refine e_iload_n dX9_all_145 rfl ?_
  refine e_callV (μ' := mX9_carries) (ci := 9) (As := [fx_rf Γ 95, .int 5, fx_rf Γ o, .int 71, .int 0]) dX9_all_146 wl_X9_231 ok_X9_carries rfl rfl (fx_pi_lt (by decide)) (by decide) (Nat.le_of_ble_eq_true rfl) fx_n1 (s_X9_carries05 (m := m10) hL10 (a := 95) (o := o) (n := 5) (p := 71) rfl (by decide) hso (by omega) (by omega) (by decide) (by decide)) rfl (fun r_ m_ hpost => ?_)
  revert r_ m_
  intro r_ m11 hpost
  obtain ⟨hr_, e11⟩ := hpost
  rw [show nI (71 + 5) = (76 : Int32) from rfl] at hr_
  subst hr_
  have V11 : fx_sv m m11 o 76 := by rw [e11]; exact V10.w (a := 95) (n := 5) (p := 71) (by omega) p_ob71
  clear e11
  have hL11 : fx_Lay m11 := fun o k v hv => by rw [V11.2.1]; exact hL o k v hv
  refine e_istore_n dX9_all_149 (by decide) rfl ?_
  exact s_X9_allb0 hL11 hL hso h2 h3 V11
set_option maxRecDepth 100000 in
set_option maxHeartbeats 600000 in
theorem s_X9_allz0 {Γ : fx_G} {m m3 : fx_M} (hL3 : fx_Lay m3) (hL : fx_Lay m) {o : Nat} (hso : fx_shapes[o]? = some (0, 110)) (h2 : 111 ≤ o) (h3 : o ≤ 113) (V3 : fx_sv m m3 o 24) : fx_E Γ mX9_all 1 119 119 (fun r m' => r = none ∧ fx_sv m m' o 102) 119 m3 42 [some (fx_rf Γ 83), some (fx_rf Γ o), some (.int 0), some (.int 24)] [] := by
  refine e_aload_n dX9_all_42 rfl ?_
  refine e_aload_n dX9_all_43 rfl ?_
  refine e_getr (o2 := 88) dX9_all_44 ff_X9_29 rfl (fx_pi_lt (by decide)) (by decide) rfl (hL3 _ _ _ rfl) ?_
  refine e_bipush dX9_all_47 kcb_8 ?_
  refine e_aload_n dX9_all_49 rfl ?_
  refine e_iload_n dX9_all_50 rfl ?_
  refine e_iload_n dX9_all_51 rfl ?_
  refine e_callV (μ' := mX9_carries) (ci := 9) (As := [fx_rf Γ 88, .int 8, fx_rf Γ o, .int 24, .int 0]) dX9_all_52 wl_X9_231 ok_X9_carries rfl rfl (fx_pi_lt (by decide)) (by decide) (Nat.le_of_ble_eq_true rfl) fx_n1 (s_X9_carries09 (m := m3) hL3 (a := 88) (o := o) (n := 8) (p := 24) rfl (by decide) hso (by omega) (by omega) (by decide) (by decide)) rfl (fun r_ m_ hpost => ?_)
  revert r_ m_
  intro r_ m4 hpost
  obtain ⟨hr_, e4⟩ := hpost
  rw [show nI (24 + 8) = (32 : Int32) from rfl] at hr_
  subst hr_
  have V4 : fx_sv m m4 o 32 := by rw [e4]; exact V3.w (a := 88) (n := 8) (p := 24) (by omega) p_ob24
  clear e4
  have hL4 : fx_Lay m4 := fun o k v hv => by rw [V4.2.1]; exact hL o k v hv
  refine e_istore_n dX9_all_55 (by decide) rfl ?_
  refine e_aload_n dX9_all_56 rfl ?_
  refine e_aload_n dX9_all_57 rfl ?_
  refine e_getr (o2 := 89) dX9_all_58 ff_X9_32 rfl (fx_pi_lt (by decide)) (by decide) rfl (hL4 _ _ _ rfl) ?_
  refine e_bipush dX9_all_61 kcb_8 ?_
  refine e_aload_n dX9_all_63 rfl ?_
  refine e_iload_n dX9_all_64 rfl ?_
  refine e_iload_n dX9_all_65 rfl ?_
  refine e_callV (μ' := mX9_carries) (ci := 9) (As := [fx_rf Γ 89, .int 8, fx_rf Γ o, .int 32, .int 0]) dX9_all_66 wl_X9_231 ok_X9_carries rfl rfl (fx_pi_lt (by decide)) (by decide) (Nat.le_of_ble_eq_true rfl) fx_n1 (s_X9_carries09 (m := m4) hL4 (a := 89) (o := o) (n := 8) (p := 32) rfl (by decide) hso (by omega) (by omega) (by decide) (by decide)) rfl (fun r_ m_ hpost => ?_)
  revert r_ m_
  intro r_ m5 hpost
  obtain ⟨hr_, e5⟩ := hpost
  rw [show nI (32 + 8) = (40 : Int32) from rfl] at hr_
  subst hr_
  have V5 : fx_sv m m5 o 40 := by rw [e5]; exact V4.w (a := 89) (n := 8) (p := 32) (by omega) p_ob32
  clear e5
  have hL5 : fx_Lay m5 := fun o k v hv => by rw [V5.2.1]; exact hL o k v hv
  refine e_istore_n dX9_all_69 (by decide) rfl ?_
  refine e_aload_n dX9_all_70 rfl ?_
  refine e_aload_n dX9_all_71 rfl ?_
  refine e_getr (o2 := 90) dX9_all_72 ff_X9_35 rfl (fx_pi_lt (by decide)) (by decide) rfl (hL5 _ _ _ rfl) ?_
  refine e_bipush dX9_all_75 kcb_8 ?_
  refine e_aload_n dX9_all_77 rfl ?_
  refine e_iload_n dX9_all_78 rfl ?_
  refine e_iload_n dX9_all_79 rfl ?_
  refine e_callV (μ' := mX9_carries) (ci := 9) (As := [fx_rf Γ 90, .int 8, fx_rf Γ o, .int 40, .int 0]) dX9_all_80 wl_X9_231 ok_X9_carries rfl rfl (fx_pi_lt (by decide)) (by decide) (Nat.le_of_ble_eq_true rfl) fx_n1 (s_X9_carries09 (m := m5) hL5 (a := 90) (o := o) (n := 8) (p := 40) rfl (by decide) hso (by omega) (by omega) (by decide) (by decide)) rfl (fun r_ m_ hpost => ?_)
  revert r_ m_
  intro r_ m6 hpost
  obtain ⟨hr_, e6⟩ := hpost
  rw [show nI (40 + 8) = (48 : Int32) from rfl] at hr_
  subst hr_
  have V6 : fx_sv m m6 o 48 := by rw [e6]; exact V5.w (a := 90) (n := 8) (p := 40) (by omega) p_ob40
  clear e6
  have hL6 : fx_Lay m6 := fun o k v hv => by rw [V6.2.1]; exact hL o k v hv
  refine e_istore_n dX9_all_83 (by decide) rfl ?_
  refine e_aload_n dX9_all_84 rfl ?_
  refine e_aload_n dX9_all_85 rfl ?_
  refine e_getr (o2 := 91) dX9_all_86 ff_X9_38 rfl (fx_pi_lt (by decide)) (by decide) rfl (hL6 _ _ _ rfl) ?_
  refine e_bipush dX9_all_89 kcb_8 ?_
  refine e_aload_n dX9_all_91 rfl ?_
  refine e_iload_n dX9_all_92 rfl ?_
  refine e_iload_n dX9_all_93 rfl ?_
  refine e_callV (μ' := mX9_carries) (ci := 9) (As := [fx_rf Γ 91, .int 8, fx_rf Γ o, .int 48, .int 0]) dX9_all_94 wl_X9_231 ok_X9_carries rfl rfl (fx_pi_lt (by decide)) (by decide) (Nat.le_of_ble_eq_true rfl) fx_n1 (s_X9_carries09 (m := m6) hL6 (a := 91) (o := o) (n := 8) (p := 48) rfl (by decide) hso (by omega) (by omega) (by decide) (by decide)) rfl (fun r_ m_ hpost => ?_)
  revert r_ m_
  intro r_ m7 hpost
  obtain ⟨hr_, e7⟩ := hpost
  rw [show nI (48 + 8) = (56 : Int32) from rfl] at hr_
  subst hr_
  have V7 : fx_sv m m7 o 56 := by rw [e7]; exact V6.w (a := 91) (n := 8) (p := 48) (by omega) p_ob48
  clear e7
  have hL7 : fx_Lay m7 := fun o k v hv => by rw [V7.2.1]; exact hL o k v hv
  refine e_istore_n dX9_all_97 (by decide) rfl ?_
  exact s_X9_alla0 hL7 hL hso h2 h3 V7
set_option maxRecDepth 100000 in
set_option maxHeartbeats 600000 in
theorem s_X9_all0 {Γ : fx_G} {m : fx_M} (hL : fx_Lay m) {o : Nat} (hso : fx_shapes[o]? = some (0, 110)) (h2 : 111 ≤ o) (h3 : o ≤ 113) : fx_Ct Γ mX9_all 1 119 119 [fx_rf Γ 83, fx_rf Γ o, .int 0] m (fun r m' => r = none ∧ fx_sv m m' o 102) := by
  refine fx_Ct.of (j := 1) (by decide) (Nat.le_of_ble_eq_true rfl) (Nat.le_of_ble_eq_true rfl) ?_
  show fx_E Γ mX9_all 1 119 119 _ 119 m 0 [some (fx_rf Γ 83), some (fx_rf Γ o), some (.int 0), none] []
  refine e_aload_n dX9_all_0 rfl ?_
  refine e_aload_n dX9_all_1 rfl ?_
  refine e_getr (o2 := 85) dX9_all_2 ff_X9_20 rfl (fx_pi_lt (by decide)) (by decide) rfl (hL _ _ _ rfl) ?_
  refine e_bipush dX9_all_5 kcb_8 ?_
  refine e_aload_n dX9_all_7 rfl ?_
  refine e_iconst dX9_all_8 kci_0 ?_
  refine e_iload_n dX9_all_9 rfl ?_
  refine e_callV (μ' := mX9_carries) (ci := 9) (As := [fx_rf Γ 85, .int 8, fx_rf Γ o, .int 0, .int 0]) dX9_all_10 wl_X9_231 ok_X9_carries rfl rfl (fx_pi_lt (by decide)) (by decide) (Nat.le_of_ble_eq_true rfl) fx_n1 (s_X9_carries09 (m := m) hL (a := 85) (o := o) (n := 8) (p := 0) rfl (by decide) hso (by omega) (by omega) (by decide) (by decide)) rfl (fun r_ m_ hpost => ?_)
  revert r_ m_
  intro r_ m1 hpost
  obtain ⟨hr_, e1⟩ := hpost
  rw [show nI (0 + 8) = (8 : Int32) from rfl] at hr_
  subst hr_
  have V1 : fx_sv m m1 o 8 := by rw [e1]; exact (fx_sv_0 m o).w (a := 85) (n := 8) (p := 0) (by omega) p_ob0
  clear e1
  have hL1 : fx_Lay m1 := fun o k v hv => by rw [V1.2.1]; exact hL o k v hv
  refine e_istore_n dX9_all_13 (by decide) rfl ?_
  refine e_aload_n dX9_all_14 rfl ?_
  refine e_aload_n dX9_all_15 rfl ?_
  refine e_getr (o2 := 86) dX9_all_16 ff_X9_23 rfl (fx_pi_lt (by decide)) (by decide) rfl (hL1 _ _ _ rfl) ?_
  refine e_bipush dX9_all_19 kcb_8 ?_
  refine e_aload_n dX9_all_21 rfl ?_
  refine e_iload_n dX9_all_22 rfl ?_
  refine e_iload_n dX9_all_23 rfl ?_
  refine e_callV (μ' := mX9_carries) (ci := 9) (As := [fx_rf Γ 86, .int 8, fx_rf Γ o, .int 8, .int 0]) dX9_all_24 wl_X9_231 ok_X9_carries rfl rfl (fx_pi_lt (by decide)) (by decide) (Nat.le_of_ble_eq_true rfl) fx_n1 (s_X9_carries09 (m := m1) hL1 (a := 86) (o := o) (n := 8) (p := 8) rfl (by decide) hso (by omega) (by omega) (by decide) (by decide)) rfl (fun r_ m_ hpost => ?_)
  revert r_ m_
  intro r_ m2 hpost
  obtain ⟨hr_, e2⟩ := hpost
  rw [show nI (8 + 8) = (16 : Int32) from rfl] at hr_
  subst hr_
  have V2 : fx_sv m m2 o 16 := by rw [e2]; exact V1.w (a := 86) (n := 8) (p := 8) (by omega) p_ob8
  clear e2
  have hL2 : fx_Lay m2 := fun o k v hv => by rw [V2.2.1]; exact hL o k v hv
  refine e_istore_n dX9_all_27 (by decide) rfl ?_
  refine e_aload_n dX9_all_28 rfl ?_
  refine e_aload_n dX9_all_29 rfl ?_
  refine e_getr (o2 := 87) dX9_all_30 ff_X9_26 rfl (fx_pi_lt (by decide)) (by decide) rfl (hL2 _ _ _ rfl) ?_
  refine e_bipush dX9_all_33 kcb_8 ?_
  refine e_aload_n dX9_all_35 rfl ?_
  refine e_iload_n dX9_all_36 rfl ?_
  refine e_iload_n dX9_all_37 rfl ?_
  refine e_callV (μ' := mX9_carries) (ci := 9) (As := [fx_rf Γ 87, .int 8, fx_rf Γ o, .int 16, .int 0]) dX9_all_38 wl_X9_231 ok_X9_carries rfl rfl (fx_pi_lt (by decide)) (by decide) (Nat.le_of_ble_eq_true rfl) fx_n1 (s_X9_carries09 (m := m2) hL2 (a := 87) (o := o) (n := 8) (p := 16) rfl (by decide) hso (by omega) (by omega) (by decide) (by decide)) rfl (fun r_ m_ hpost => ?_)
  revert r_ m_
  intro r_ m3 hpost
  obtain ⟨hr_, e3⟩ := hpost
  rw [show nI (16 + 8) = (24 : Int32) from rfl] at hr_
  subst hr_
  have V3 : fx_sv m m3 o 24 := by rw [e3]; exact V2.w (a := 87) (n := 8) (p := 16) (by omega) p_ob16
  clear e3
  have hL3 : fx_Lay m3 := fun o k v hv => by rw [V3.2.1]; exact hL o k v hv
  refine e_istore_n dX9_all_41 (by decide) rfl ?_
  exact s_X9_allz0 hL3 hL hso h2 h3 V3
set_option maxRecDepth 100000 in
set_option maxHeartbeats 600000 in
theorem s_X9_allc1 {Γ : fx_G} {m m15 : fx_M} (hL15 : fx_Lay m15) (hL : fx_Lay m) {o : Nat} (hso : fx_shapes[o]? = some (0, 110)) (h2 : 111 ≤ o) (h3 : o ≤ 113) (V15 : fx_ld m m15 o 96) : fx_E Γ mX9_all 1 119 119 (fun r m' => r = none ∧ fx_ld m m' o 102) 119 m15 202 [some (fx_rf Γ 83), some (fx_rf Γ o), some (.int 1), some (.int 96)] [] := by
  refine e_iload_n dX9_all_202 rfl ?_
  refine e_if_eq 261 dX9_all_203 rfl (fun h => absurd h (by decide)) (fun _ => ?_)
  refine e_aload_n dX9_all_206 rfl ?_
  refine e_aload_n dX9_all_207 rfl ?_
  refine e_iload_n dX9_all_208 rfl ?_
  refine e_iald (j := 96) dX9_all_209 hso (fx_pi_lt (by omega)) rfl (by decide) (by decide) ?_
  refine e_put dX9_all_210 ff_X9_126 rfl (fx_pi_lt (by decide)) (by decide) rfl (Or.inl rfl) ?_
  have V16 := V15.s (j := 0) (by omega) (by omega)
  obtain ⟨m16, e16⟩ : ∃ z, z = fx_sI m15 83 0 (m15.1 o 96) := ⟨_, rfl⟩
  rw [← e16] at V16 ⊢
  have hL16 : fx_Lay m16 := fun o k v hv => by rw [V16.2.1]; exact hL o k v hv
  refine e_aload_n dX9_all_213 rfl ?_
  refine e_aload_n dX9_all_214 rfl ?_
  refine e_iload_n dX9_all_215 rfl ?_
  refine e_iconst dX9_all_216 kci_1 ?_
  refine e_iadd dX9_all_217 ?_
  refine e_iald (j := 97) dX9_all_218 hso (fx_pi_lt (by omega)) rfl (by decide) (by decide) ?_
  refine e_put dX9_all_219 ff_X9_129 rfl (fx_pi_lt (by decide)) (by decide) rfl (Or.inl rfl) ?_
  have V17 := V16.s (j := 1) (by omega) (by omega)
  obtain ⟨m17, e17⟩ : ∃ z, z = fx_sI m16 83 1 (m16.1 o 97) := ⟨_, rfl⟩
  rw [← e17] at V17 ⊢
  have hL17 : fx_Lay m17 := fun o k v hv => by rw [V17.2.1]; exact hL o k v hv
  refine e_aload_n dX9_all_222 rfl ?_
  refine e_aload_n dX9_all_223 rfl ?_
  refine e_iload_n dX9_all_224 rfl ?_
  refine e_iconst dX9_all_225 kci_2 ?_
  refine e_iadd dX9_all_226 ?_
  refine e_iald (j := 98) dX9_all_227 hso (fx_pi_lt (by omega)) rfl (by decide) (by decide) ?_
  refine e_put dX9_all_228 ff_X9_235 rfl (fx_pi_lt (by decide)) (by decide) rfl (Or.inl rfl) ?_
  have V18 := V17.s (j := 2) (by omega) (by omega)
  obtain ⟨m18, e18⟩ : ∃ z, z = fx_sI m17 83 2 (m17.1 o 98) := ⟨_, rfl⟩
  rw [← e18] at V18 ⊢
  have hL18 : fx_Lay m18 := fun o k v hv => by rw [V18.2.1]; exact hL o k v hv
  refine e_aload_n dX9_all_231 rfl ?_
  refine e_aload_n dX9_all_232 rfl ?_
  refine e_iload_n dX9_all_233 rfl ?_
  refine e_iconst dX9_all_234 kci_3 ?_
  refine e_iadd dX9_all_235 ?_
  refine e_iald (j := 99) dX9_all_236 hso (fx_pi_lt (by omega)) rfl (by decide) (by decide) ?_
  refine e_put dX9_all_237 ff_X9_238 rfl (fx_pi_lt (by decide)) (by decide) rfl (Or.inl rfl) ?_
  have V19 := V18.s (j := 3) (by omega) (by omega)
  obtain ⟨m19, e19⟩ : ∃ z, z = fx_sI m18 83 3 (m18.1 o 99) := ⟨_, rfl⟩
  rw [← e19] at V19 ⊢
  have hL19 : fx_Lay m19 := fun o k v hv => by rw [V19.2.1]; exact hL o k v hv
  refine e_aload_n dX9_all_240 rfl ?_
  refine e_aload_n dX9_all_241 rfl ?_
  refine e_iload_n dX9_all_242 rfl ?_
  refine e_iconst dX9_all_243 kci_4 ?_
  refine e_iadd dX9_all_244 ?_
  refine e_iald (j := 100) dX9_all_245 hso (fx_pi_lt (by omega)) rfl (by decide) (by decide) ?_
  refine e_put dX9_all_246 ff_X9_241 rfl (fx_pi_lt (by decide)) (by decide) rfl (Or.inl rfl) ?_
  have V20 := V19.s (j := 4) (by omega) (by omega)
  obtain ⟨m20, e20⟩ : ∃ z, z = fx_sI m19 83 4 (m19.1 o 100) := ⟨_, rfl⟩
  rw [← e20] at V20 ⊢
  have hL20 : fx_Lay m20 := fun o k v hv => by rw [V20.2.1]; exact hL o k v hv
  refine e_aload_n dX9_all_249 rfl ?_
  refine e_aload_n dX9_all_250 rfl ?_
  refine e_iload_n dX9_all_251 rfl ?_
  refine e_iconst dX9_all_252 kci_5 ?_
  refine e_iadd dX9_all_253 ?_
  refine e_iald (j := 101) dX9_all_254 hso (fx_pi_lt (by omega)) rfl (by decide) (by decide) ?_
  refine e_put dX9_all_255 ff_X9_7 rfl (fx_pi_lt (by decide)) (by decide) rfl (Or.inl rfl) ?_
  have V21 := V20.s (j := 5) (by omega) (by omega)
  obtain ⟨m21, e21⟩ : ∃ z, z = fx_sI m20 83 5 (m20.1 o 101) := ⟨_, rfl⟩
  rw [← e21] at V21 ⊢
  have hL21 : fx_Lay m21 := fun o k v hv => by rw [V21.2.1]; exact hL o k v hv
  refine e_goto 313 dX9_all_258 rfl ?_
  exact e_vret dX9_all_313 rfl rfl ⟨rfl, V21⟩
set_option maxRecDepth 100000 in
set_option maxHeartbeats 600000 in
theorem s_X9_allb1 {Γ : fx_G} {m m11 : fx_M} (hL11 : fx_Lay m11) (hL : fx_Lay m) {o : Nat} (hso : fx_shapes[o]? = some (0, 110)) (h2 : 111 ≤ o) (h3 : o ≤ 113) (V11 : fx_ld m m11 o 76) : fx_E Γ mX9_all 1 119 119 (fun r m' => r = none ∧ fx_ld m m' o 102) 119 m11 150 [some (fx_rf Γ 83), some (fx_rf Γ o), some (.int 1), some (.int 76)] [] := by
  refine e_aload_n dX9_all_150 rfl ?_
  refine e_aload_n dX9_all_151 rfl ?_
  refine e_getr (o2 := 96) dX9_all_152 ff_X9_53 rfl (fx_pi_lt (by decide)) (by decide) rfl (hL11 _ _ _ rfl) ?_
  refine e_iconst dX9_all_155 kci_5 ?_
  refine e_aload_n dX9_all_156 rfl ?_
  refine e_iload_n dX9_all_157 rfl ?_
  refine e_iload_n dX9_all_158 rfl ?_
  refine e_callV (μ' := mX9_carries) (ci := 9) (As := [fx_rf Γ 96, .int 5, fx_rf Γ o, .int 76, .int 1]) dX9_all_159 wl_X9_231 ok_X9_carries rfl rfl (fx_pi_lt (by decide)) (by decide) (Nat.le_of_ble_eq_true rfl) fx_n1 (s_X9_carries15 (m := m11) hL11 (a := 96) (o := o) (n := 5) (p := 76) rfl (by decide) hso (by omega) (by omega) (by decide) (by decide)) rfl (fun r_ m_ hpost => ?_)
  revert r_ m_
  intro r_ m12 hpost
  obtain ⟨hr_, e12⟩ := hpost
  rw [show nI (76 + 5) = (81 : Int32) from rfl] at hr_
  subst hr_
  have V12 : fx_ld m m12 o 81 := by rw [e12]; exact V11.w (a := 96) (n := 5) (p := 76) (by decide) (by omega) p_ob76
  clear e12
  have hL12 : fx_Lay m12 := fun o k v hv => by rw [V12.2.1]; exact hL o k v hv
  refine e_istore_n dX9_all_162 (by decide) rfl ?_
  refine e_aload_n dX9_all_163 rfl ?_
  refine e_aload_n dX9_all_164 rfl ?_
  refine e_getr (o2 := 97) dX9_all_165 ff_X9_56 rfl (fx_pi_lt (by decide)) (by decide) rfl (hL12 _ _ _ rfl) ?_
  refine e_iconst dX9_all_168 kci_5 ?_
  refine e_aload_n dX9_all_169 rfl ?_
  refine e_iload_n dX9_all_170 rfl ?_
  refine e_iload_n dX9_all_171 rfl ?_
  refine e_callV (μ' := mX9_carries) (ci := 9) (As := [fx_rf Γ 97, .int 5, fx_rf Γ o, .int 81, .int 1]) dX9_all_172 wl_X9_231 ok_X9_carries rfl rfl (fx_pi_lt (by decide)) (by decide) (Nat.le_of_ble_eq_true rfl) fx_n1 (s_X9_carries15 (m := m12) hL12 (a := 97) (o := o) (n := 5) (p := 81) rfl (by decide) hso (by omega) (by omega) (by decide) (by decide)) rfl (fun r_ m_ hpost => ?_)
  revert r_ m_
  intro r_ m13 hpost
  obtain ⟨hr_, e13⟩ := hpost
  rw [show nI (81 + 5) = (86 : Int32) from rfl] at hr_
  subst hr_
  have V13 : fx_ld m m13 o 86 := by rw [e13]; exact V12.w (a := 97) (n := 5) (p := 81) (by decide) (by omega) p_ob81
  clear e13
  have hL13 : fx_Lay m13 := fun o k v hv => by rw [V13.2.1]; exact hL o k v hv
  refine e_istore_n dX9_all_175 (by decide) rfl ?_
  refine e_aload_n dX9_all_176 rfl ?_
  refine e_aload_n dX9_all_177 rfl ?_
  refine e_getr (o2 := 98) dX9_all_178 ff_X9_59 rfl (fx_pi_lt (by decide)) (by decide) rfl (hL13 _ _ _ rfl) ?_
  refine e_iconst dX9_all_181 kci_5 ?_
  refine e_aload_n dX9_all_182 rfl ?_
  refine e_iload_n dX9_all_183 rfl ?_
  refine e_iload_n dX9_all_184 rfl ?_
  refine e_callV (μ' := mX9_carries) (ci := 9) (As := [fx_rf Γ 98, .int 5, fx_rf Γ o, .int 86, .int 1]) dX9_all_185 wl_X9_231 ok_X9_carries rfl rfl (fx_pi_lt (by decide)) (by decide) (Nat.le_of_ble_eq_true rfl) fx_n1 (s_X9_carries15 (m := m13) hL13 (a := 98) (o := o) (n := 5) (p := 86) rfl (by decide) hso (by omega) (by omega) (by decide) (by decide)) rfl (fun r_ m_ hpost => ?_)
  revert r_ m_
  intro r_ m14 hpost
  obtain ⟨hr_, e14⟩ := hpost
  rw [show nI (86 + 5) = (91 : Int32) from rfl] at hr_
  subst hr_
  have V14 : fx_ld m m14 o 91 := by rw [e14]; exact V13.w (a := 98) (n := 5) (p := 86) (by decide) (by omega) p_ob86
  clear e14
  have hL14 : fx_Lay m14 := fun o k v hv => by rw [V14.2.1]; exact hL o k v hv
  refine e_istore_n dX9_all_188 (by decide) rfl ?_
  refine e_aload_n dX9_all_189 rfl ?_
  refine e_aload_n dX9_all_190 rfl ?_
  refine e_getr (o2 := 99) dX9_all_191 ff_X9_62 rfl (fx_pi_lt (by decide)) (by decide) rfl (hL14 _ _ _ rfl) ?_
  refine e_iconst dX9_all_194 kci_5 ?_
  refine e_aload_n dX9_all_195 rfl ?_
  refine e_iload_n dX9_all_196 rfl ?_
  refine e_iload_n dX9_all_197 rfl ?_
  refine e_callV (μ' := mX9_carries) (ci := 9) (As := [fx_rf Γ 99, .int 5, fx_rf Γ o, .int 91, .int 1]) dX9_all_198 wl_X9_231 ok_X9_carries rfl rfl (fx_pi_lt (by decide)) (by decide) (Nat.le_of_ble_eq_true rfl) fx_n1 (s_X9_carries15 (m := m14) hL14 (a := 99) (o := o) (n := 5) (p := 91) rfl (by decide) hso (by omega) (by omega) (by decide) (by decide)) rfl (fun r_ m_ hpost => ?_)
  revert r_ m_
  intro r_ m15 hpost
  obtain ⟨hr_, e15⟩ := hpost
  rw [show nI (91 + 5) = (96 : Int32) from rfl] at hr_
  subst hr_
  have V15 : fx_ld m m15 o 96 := by rw [e15]; exact V14.w (a := 99) (n := 5) (p := 91) (by decide) (by omega) p_ob91
  clear e15
  have hL15 : fx_Lay m15 := fun o k v hv => by rw [V15.2.1]; exact hL o k v hv
  refine e_istore_n dX9_all_201 (by decide) rfl ?_
  exact s_X9_allc1 hL15 hL hso h2 h3 V15
set_option maxRecDepth 100000 in
set_option maxHeartbeats 600000 in
theorem s_X9_alla1 {Γ : fx_G} {m m7 : fx_M} (hL7 : fx_Lay m7) (hL : fx_Lay m) {o : Nat} (hso : fx_shapes[o]? = some (0, 110)) (h2 : 111 ≤ o) (h3 : o ≤ 113) (V7 : fx_ld m m7 o 56) : fx_E Γ mX9_all 1 119 119 (fun r m' => r = none ∧ fx_ld m m' o 102) 119 m7 98 [some (fx_rf Γ 83), some (fx_rf Γ o), some (.int 1), some (.int 56)] [] := by
  refine e_aload_n dX9_all_98 rfl ?_
  refine e_aload_n dX9_all_99 rfl ?_
  refine e_getr (o2 := 92) dX9_all_100 ff_X9_41 rfl (fx_pi_lt (by decide)) (by decide) rfl (hL7 _ _ _ rfl) ?_
  refine e_iconst dX9_all_103 kci_5 ?_
  refine e_aload_n dX9_all_104 rfl ?_
  refine e_iload_n dX9_all_105 rfl ?_
  refine e_iload_n dX9_all_106 rfl ?_
  refine e_callV (μ' := mX9_carries) (ci := 9) (As := [fx_rf Γ 92, .int 5, fx_rf Γ o, .int 56, .int 1]) dX9_all_107 wl_X9_231 ok_X9_carries rfl rfl (fx_pi_lt (by decide)) (by decide) (Nat.le_of_ble_eq_true rfl) fx_n1 (s_X9_carries15 (m := m7) hL7 (a := 92) (o := o) (n := 5) (p := 56) rfl (by decide) hso (by omega) (by omega) (by decide) (by decide)) rfl (fun r_ m_ hpost => ?_)
  revert r_ m_
  intro r_ m8 hpost
  obtain ⟨hr_, e8⟩ := hpost
  rw [show nI (56 + 5) = (61 : Int32) from rfl] at hr_
  subst hr_
  have V8 : fx_ld m m8 o 61 := by rw [e8]; exact V7.w (a := 92) (n := 5) (p := 56) (by decide) (by omega) p_ob56
  clear e8
  have hL8 : fx_Lay m8 := fun o k v hv => by rw [V8.2.1]; exact hL o k v hv
  refine e_istore_n dX9_all_110 (by decide) rfl ?_
  refine e_aload_n dX9_all_111 rfl ?_
  refine e_aload_n dX9_all_112 rfl ?_
  refine e_getr (o2 := 93) dX9_all_113 ff_X9_44 rfl (fx_pi_lt (by decide)) (by decide) rfl (hL8 _ _ _ rfl) ?_
  refine e_iconst dX9_all_116 kci_5 ?_
  refine e_aload_n dX9_all_117 rfl ?_
  refine e_iload_n dX9_all_118 rfl ?_
  refine e_iload_n dX9_all_119 rfl ?_
  refine e_callV (μ' := mX9_carries) (ci := 9) (As := [fx_rf Γ 93, .int 5, fx_rf Γ o, .int 61, .int 1]) dX9_all_120 wl_X9_231 ok_X9_carries rfl rfl (fx_pi_lt (by decide)) (by decide) (Nat.le_of_ble_eq_true rfl) fx_n1 (s_X9_carries15 (m := m8) hL8 (a := 93) (o := o) (n := 5) (p := 61) rfl (by decide) hso (by omega) (by omega) (by decide) (by decide)) rfl (fun r_ m_ hpost => ?_)
  revert r_ m_
  intro r_ m9 hpost
  obtain ⟨hr_, e9⟩ := hpost
  rw [show nI (61 + 5) = (66 : Int32) from rfl] at hr_
  subst hr_
  have V9 : fx_ld m m9 o 66 := by rw [e9]; exact V8.w (a := 93) (n := 5) (p := 61) (by decide) (by omega) p_ob61
  clear e9
  have hL9 : fx_Lay m9 := fun o k v hv => by rw [V9.2.1]; exact hL o k v hv
  refine e_istore_n dX9_all_123 (by decide) rfl ?_
  refine e_aload_n dX9_all_124 rfl ?_
  refine e_aload_n dX9_all_125 rfl ?_
  refine e_getr (o2 := 94) dX9_all_126 ff_X9_47 rfl (fx_pi_lt (by decide)) (by decide) rfl (hL9 _ _ _ rfl) ?_
  refine e_iconst dX9_all_129 kci_5 ?_
  refine e_aload_n dX9_all_130 rfl ?_
  refine e_iload_n dX9_all_131 rfl ?_
  refine e_iload_n dX9_all_132 rfl ?_
  refine e_callV (μ' := mX9_carries) (ci := 9) (As := [fx_rf Γ 94, .int 5, fx_rf Γ o, .int 66, .int 1]) dX9_all_133 wl_X9_231 ok_X9_carries rfl rfl (fx_pi_lt (by decide)) (by decide) (Nat.le_of_ble_eq_true rfl) fx_n1 (s_X9_carries15 (m := m9) hL9 (a := 94) (o := o) (n := 5) (p := 66) rfl (by decide) hso (by omega) (by omega) (by decide) (by decide)) rfl (fun r_ m_ hpost => ?_)
  revert r_ m_
  intro r_ m10 hpost
  obtain ⟨hr_, e10⟩ := hpost
  rw [show nI (66 + 5) = (71 : Int32) from rfl] at hr_
  subst hr_
  have V10 : fx_ld m m10 o 71 := by rw [e10]; exact V9.w (a := 94) (n := 5) (p := 66) (by decide) (by omega) p_ob66
  clear e10
  have hL10 : fx_Lay m10 := fun o k v hv => by rw [V10.2.1]; exact hL o k v hv
  refine e_istore_n dX9_all_136 (by decide) rfl ?_
  refine e_aload_n dX9_all_137 rfl ?_
  refine e_aload_n dX9_all_138 rfl ?_
  refine e_getr (o2 := 95) dX9_all_139 ff_X9_50 rfl (fx_pi_lt (by decide)) (by decide) rfl (hL10 _ _ _ rfl) ?_
  refine e_iconst dX9_all_142 kci_5 ?_
  refine e_aload_n dX9_all_143 rfl ?_
  refine e_iload_n dX9_all_144 rfl ?_
  refine e_iload_n dX9_all_145 rfl ?_
  refine e_callV (μ' := mX9_carries) (ci := 9) (As := [fx_rf Γ 95, .int 5, fx_rf Γ o, .int 71, .int 1]) dX9_all_146 wl_X9_231 ok_X9_carries rfl rfl (fx_pi_lt (by decide)) (by decide) (Nat.le_of_ble_eq_true rfl) fx_n1 (s_X9_carries15 (m := m10) hL10 (a := 95) (o := o) (n := 5) (p := 71) rfl (by decide) hso (by omega) (by omega) (by decide) (by decide)) rfl (fun r_ m_ hpost => ?_)
  revert r_ m_
  intro r_ m11 hpost
  obtain ⟨hr_, e11⟩ := hpost
  rw [show nI (71 + 5) = (76 : Int32) from rfl] at hr_
  subst hr_
  have V11 : fx_ld m m11 o 76 := by rw [e11]; exact V10.w (a := 95) (n := 5) (p := 71) (by decide) (by omega) p_ob71
  clear e11
  have hL11 : fx_Lay m11 := fun o k v hv => by rw [V11.2.1]; exact hL o k v hv
  refine e_istore_n dX9_all_149 (by decide) rfl ?_
  exact s_X9_allb1 hL11 hL hso h2 h3 V11
set_option maxRecDepth 100000 in
set_option maxHeartbeats 600000 in
theorem s_X9_allz1 {Γ : fx_G} {m m3 : fx_M} (hL3 : fx_Lay m3) (hL : fx_Lay m) {o : Nat} (hso : fx_shapes[o]? = some (0, 110)) (h2 : 111 ≤ o) (h3 : o ≤ 113) (V3 : fx_ld m m3 o 24) : fx_E Γ mX9_all 1 119 119 (fun r m' => r = none ∧ fx_ld m m' o 102) 119 m3 42 [some (fx_rf Γ 83), some (fx_rf Γ o), some (.int 1), some (.int 24)] [] := by
  refine e_aload_n dX9_all_42 rfl ?_
  refine e_aload_n dX9_all_43 rfl ?_
  refine e_getr (o2 := 88) dX9_all_44 ff_X9_29 rfl (fx_pi_lt (by decide)) (by decide) rfl (hL3 _ _ _ rfl) ?_
  refine e_bipush dX9_all_47 kcb_8 ?_
  refine e_aload_n dX9_all_49 rfl ?_
  refine e_iload_n dX9_all_50 rfl ?_
  refine e_iload_n dX9_all_51 rfl ?_
  refine e_callV (μ' := mX9_carries) (ci := 9) (As := [fx_rf Γ 88, .int 8, fx_rf Γ o, .int 24, .int 1]) dX9_all_52 wl_X9_231 ok_X9_carries rfl rfl (fx_pi_lt (by decide)) (by decide) (Nat.le_of_ble_eq_true rfl) fx_n1 (s_X9_carries19 (m := m3) hL3 (a := 88) (o := o) (n := 8) (p := 24) rfl (by decide) hso (by omega) (by omega) (by decide) (by decide)) rfl (fun r_ m_ hpost => ?_)
  revert r_ m_
  intro r_ m4 hpost
  obtain ⟨hr_, e4⟩ := hpost
  rw [show nI (24 + 8) = (32 : Int32) from rfl] at hr_
  subst hr_
  have V4 : fx_ld m m4 o 32 := by rw [e4]; exact V3.w (a := 88) (n := 8) (p := 24) (by decide) (by omega) p_ob24
  clear e4
  have hL4 : fx_Lay m4 := fun o k v hv => by rw [V4.2.1]; exact hL o k v hv
  refine e_istore_n dX9_all_55 (by decide) rfl ?_
  refine e_aload_n dX9_all_56 rfl ?_
  refine e_aload_n dX9_all_57 rfl ?_
  refine e_getr (o2 := 89) dX9_all_58 ff_X9_32 rfl (fx_pi_lt (by decide)) (by decide) rfl (hL4 _ _ _ rfl) ?_
  refine e_bipush dX9_all_61 kcb_8 ?_
  refine e_aload_n dX9_all_63 rfl ?_
  refine e_iload_n dX9_all_64 rfl ?_
  refine e_iload_n dX9_all_65 rfl ?_
  refine e_callV (μ' := mX9_carries) (ci := 9) (As := [fx_rf Γ 89, .int 8, fx_rf Γ o, .int 32, .int 1]) dX9_all_66 wl_X9_231 ok_X9_carries rfl rfl (fx_pi_lt (by decide)) (by decide) (Nat.le_of_ble_eq_true rfl) fx_n1 (s_X9_carries19 (m := m4) hL4 (a := 89) (o := o) (n := 8) (p := 32) rfl (by decide) hso (by omega) (by omega) (by decide) (by decide)) rfl (fun r_ m_ hpost => ?_)
  revert r_ m_
  intro r_ m5 hpost
  obtain ⟨hr_, e5⟩ := hpost
  rw [show nI (32 + 8) = (40 : Int32) from rfl] at hr_
  subst hr_
  have V5 : fx_ld m m5 o 40 := by rw [e5]; exact V4.w (a := 89) (n := 8) (p := 32) (by decide) (by omega) p_ob32
  clear e5
  have hL5 : fx_Lay m5 := fun o k v hv => by rw [V5.2.1]; exact hL o k v hv
  refine e_istore_n dX9_all_69 (by decide) rfl ?_
  refine e_aload_n dX9_all_70 rfl ?_
  refine e_aload_n dX9_all_71 rfl ?_
  refine e_getr (o2 := 90) dX9_all_72 ff_X9_35 rfl (fx_pi_lt (by decide)) (by decide) rfl (hL5 _ _ _ rfl) ?_
  refine e_bipush dX9_all_75 kcb_8 ?_
  refine e_aload_n dX9_all_77 rfl ?_
  refine e_iload_n dX9_all_78 rfl ?_
  refine e_iload_n dX9_all_79 rfl ?_
  refine e_callV (μ' := mX9_carries) (ci := 9) (As := [fx_rf Γ 90, .int 8, fx_rf Γ o, .int 40, .int 1]) dX9_all_80 wl_X9_231 ok_X9_carries rfl rfl (fx_pi_lt (by decide)) (by decide) (Nat.le_of_ble_eq_true rfl) fx_n1 (s_X9_carries19 (m := m5) hL5 (a := 90) (o := o) (n := 8) (p := 40) rfl (by decide) hso (by omega) (by omega) (by decide) (by decide)) rfl (fun r_ m_ hpost => ?_)
  revert r_ m_
  intro r_ m6 hpost
  obtain ⟨hr_, e6⟩ := hpost
  rw [show nI (40 + 8) = (48 : Int32) from rfl] at hr_
  subst hr_
  have V6 : fx_ld m m6 o 48 := by rw [e6]; exact V5.w (a := 90) (n := 8) (p := 40) (by decide) (by omega) p_ob40
  clear e6
  have hL6 : fx_Lay m6 := fun o k v hv => by rw [V6.2.1]; exact hL o k v hv
  refine e_istore_n dX9_all_83 (by decide) rfl ?_
  refine e_aload_n dX9_all_84 rfl ?_
  refine e_aload_n dX9_all_85 rfl ?_
  refine e_getr (o2 := 91) dX9_all_86 ff_X9_38 rfl (fx_pi_lt (by decide)) (by decide) rfl (hL6 _ _ _ rfl) ?_
  refine e_bipush dX9_all_89 kcb_8 ?_
  refine e_aload_n dX9_all_91 rfl ?_
  refine e_iload_n dX9_all_92 rfl ?_
  refine e_iload_n dX9_all_93 rfl ?_
  refine e_callV (μ' := mX9_carries) (ci := 9) (As := [fx_rf Γ 91, .int 8, fx_rf Γ o, .int 48, .int 1]) dX9_all_94 wl_X9_231 ok_X9_carries rfl rfl (fx_pi_lt (by decide)) (by decide) (Nat.le_of_ble_eq_true rfl) fx_n1 (s_X9_carries19 (m := m6) hL6 (a := 91) (o := o) (n := 8) (p := 48) rfl (by decide) hso (by omega) (by omega) (by decide) (by decide)) rfl (fun r_ m_ hpost => ?_)
  revert r_ m_
  intro r_ m7 hpost
  obtain ⟨hr_, e7⟩ := hpost
  rw [show nI (48 + 8) = (56 : Int32) from rfl] at hr_
  subst hr_
  have V7 : fx_ld m m7 o 56 := by rw [e7]; exact V6.w (a := 91) (n := 8) (p := 48) (by decide) (by omega) p_ob48
  clear e7
  have hL7 : fx_Lay m7 := fun o k v hv => by rw [V7.2.1]; exact hL o k v hv
  refine e_istore_n dX9_all_97 (by decide) rfl ?_
  exact s_X9_alla1 hL7 hL hso h2 h3 V7
set_option maxRecDepth 100000 in
set_option maxHeartbeats 600000 in
theorem s_X9_all1 {Γ : fx_G} {m : fx_M} (hL : fx_Lay m) {o : Nat} (hso : fx_shapes[o]? = some (0, 110)) (h2 : 111 ≤ o) (h3 : o ≤ 113) : fx_Ct Γ mX9_all 1 119 119 [fx_rf Γ 83, fx_rf Γ o, .int 1] m (fun r m' => r = none ∧ fx_ld m m' o 102) := by
  refine fx_Ct.of (j := 1) (by decide) (Nat.le_of_ble_eq_true rfl) (Nat.le_of_ble_eq_true rfl) ?_
  show fx_E Γ mX9_all 1 119 119 _ 119 m 0 [some (fx_rf Γ 83), some (fx_rf Γ o), some (.int 1), none] []
  refine e_aload_n dX9_all_0 rfl ?_
  refine e_aload_n dX9_all_1 rfl ?_
  refine e_getr (o2 := 85) dX9_all_2 ff_X9_20 rfl (fx_pi_lt (by decide)) (by decide) rfl (hL _ _ _ rfl) ?_
  refine e_bipush dX9_all_5 kcb_8 ?_
  refine e_aload_n dX9_all_7 rfl ?_
  refine e_iconst dX9_all_8 kci_0 ?_
  refine e_iload_n dX9_all_9 rfl ?_
  refine e_callV (μ' := mX9_carries) (ci := 9) (As := [fx_rf Γ 85, .int 8, fx_rf Γ o, .int 0, .int 1]) dX9_all_10 wl_X9_231 ok_X9_carries rfl rfl (fx_pi_lt (by decide)) (by decide) (Nat.le_of_ble_eq_true rfl) fx_n1 (s_X9_carries19 (m := m) hL (a := 85) (o := o) (n := 8) (p := 0) rfl (by decide) hso (by omega) (by omega) (by decide) (by decide)) rfl (fun r_ m_ hpost => ?_)
  revert r_ m_
  intro r_ m1 hpost
  obtain ⟨hr_, e1⟩ := hpost
  rw [show nI (0 + 8) = (8 : Int32) from rfl] at hr_
  subst hr_
  have V1 : fx_ld m m1 o 8 := by rw [e1]; exact (fx_ld_0 m o).w (a := 85) (n := 8) (p := 0) (by decide) (by omega) p_ob0
  clear e1
  have hL1 : fx_Lay m1 := fun o k v hv => by rw [V1.2.1]; exact hL o k v hv
  refine e_istore_n dX9_all_13 (by decide) rfl ?_
  refine e_aload_n dX9_all_14 rfl ?_
  refine e_aload_n dX9_all_15 rfl ?_
  refine e_getr (o2 := 86) dX9_all_16 ff_X9_23 rfl (fx_pi_lt (by decide)) (by decide) rfl (hL1 _ _ _ rfl) ?_
  refine e_bipush dX9_all_19 kcb_8 ?_
  refine e_aload_n dX9_all_21 rfl ?_
  refine e_iload_n dX9_all_22 rfl ?_
  refine e_iload_n dX9_all_23 rfl ?_
  refine e_callV (μ' := mX9_carries) (ci := 9) (As := [fx_rf Γ 86, .int 8, fx_rf Γ o, .int 8, .int 1]) dX9_all_24 wl_X9_231 ok_X9_carries rfl rfl (fx_pi_lt (by decide)) (by decide) (Nat.le_of_ble_eq_true rfl) fx_n1 (s_X9_carries19 (m := m1) hL1 (a := 86) (o := o) (n := 8) (p := 8) rfl (by decide) hso (by omega) (by omega) (by decide) (by decide)) rfl (fun r_ m_ hpost => ?_)
  revert r_ m_
  intro r_ m2 hpost
  obtain ⟨hr_, e2⟩ := hpost
  rw [show nI (8 + 8) = (16 : Int32) from rfl] at hr_
  subst hr_
  have V2 : fx_ld m m2 o 16 := by rw [e2]; exact V1.w (a := 86) (n := 8) (p := 8) (by decide) (by omega) p_ob8
  clear e2
  have hL2 : fx_Lay m2 := fun o k v hv => by rw [V2.2.1]; exact hL o k v hv
  refine e_istore_n dX9_all_27 (by decide) rfl ?_
  refine e_aload_n dX9_all_28 rfl ?_
  refine e_aload_n dX9_all_29 rfl ?_
  refine e_getr (o2 := 87) dX9_all_30 ff_X9_26 rfl (fx_pi_lt (by decide)) (by decide) rfl (hL2 _ _ _ rfl) ?_
  refine e_bipush dX9_all_33 kcb_8 ?_
  refine e_aload_n dX9_all_35 rfl ?_
  refine e_iload_n dX9_all_36 rfl ?_
  refine e_iload_n dX9_all_37 rfl ?_
  refine e_callV (μ' := mX9_carries) (ci := 9) (As := [fx_rf Γ 87, .int 8, fx_rf Γ o, .int 16, .int 1]) dX9_all_38 wl_X9_231 ok_X9_carries rfl rfl (fx_pi_lt (by decide)) (by decide) (Nat.le_of_ble_eq_true rfl) fx_n1 (s_X9_carries19 (m := m2) hL2 (a := 87) (o := o) (n := 8) (p := 16) rfl (by decide) hso (by omega) (by omega) (by decide) (by decide)) rfl (fun r_ m_ hpost => ?_)
  revert r_ m_
  intro r_ m3 hpost
  obtain ⟨hr_, e3⟩ := hpost
  rw [show nI (16 + 8) = (24 : Int32) from rfl] at hr_
  subst hr_
  have V3 : fx_ld m m3 o 24 := by rw [e3]; exact V2.w (a := 87) (n := 8) (p := 16) (by decide) (by omega) p_ob16
  clear e3
  have hL3 : fx_Lay m3 := fun o k v hv => by rw [V3.2.1]; exact hL o k v hv
  refine e_istore_n dX9_all_41 (by decide) rfl ?_
  exact s_X9_allz1 hL3 hL hso h2 h3 V3
theorem p_ob_na {j x : Nat} (h : j ≠ 83) (h2 : ¬ (85 ≤ j ∧ j ≤ 99)) : ∀ k, k < 102 → p_ob k ≠ (j, x) := fun k hk e => by
  have := p_ob_le k
  rw [e] at this
  omega
theorem p_ob_n6 {j : Nat} (h : 6 ≤ j) : ∀ k, k < 102 → p_ob k ≠ (83, j) := fun k hk e => by
  unfold p_ob at e
  split at e
  · simp only [Prod.mk.injEq] at e; omega
  · split at e <;> simp only [Prod.mk.injEq] at e <;> omega
/-- m' is m again, but where an image lies -/
def fx_img (m : fx_M) (o na nd : Nat) (t : p_Sg) : Prop := m.1 o 96 = nI na ∧ m.1 o 97 = nI nd ∧ (∀ j, j < 4 → m.1 o (98 + j) = t.2.2 j) ∧ (∀ x, x < na → ∀ j, j < 7 → m.1 o (8 * j + x) = t.1 x j) ∧ (∀ d, d < nd → ∀ j, j < 8 → m.1 o (56 + 5 * j + d) = t.2.1 d j) ∧ na ≤ 8 ∧ nd ≤ 5 ∧ (∀ x, x < na → p_gA (t.1 x)) ∧ ∀ d, d < nd → p_gD (t.2.1 d)
theorem fx_sv.img {m m' : fx_M} {o na nd : Nat} {t : p_Sg} (h : fx_sv m m' o 102) (H : fx_MS m na nd t) (h8 : na ≤ 8) : fx_img m' o na nd t := by
  obtain ⟨r1, r2, r3, r4, r5, _, h5, g1, g2⟩ := H
  refine ⟨?_, ?_, fun j hj => ?_, fun x hx j hj => ?_, fun d hd j hj => ?_, h8, h5, g1, g2⟩
  · rw [h.1 96 (by decide), show p_ob 96 = (83, 0) from p_ob_c (j := 0)]; exact r1
  · rw [h.1 97 (by decide), show p_ob 97 = (83, 1) from p_ob_c (j := 1)]; exact r2
  · rw [h.1 (98 + j) (by omega), show 98 + j = 96 + (2 + j) by omega, p_ob_c]; exact r3 j hj
  · rw [h.1 _ (by omega), p_ob_a hj (by omega)]; exact r4 x hx j hj
  · rw [h.1 _ (by omega), p_ob_d hj (by omega)]; exact r5 d hd j hj
theorem fx_ld.ms {m m' : fx_M} {o na nd : Nat} {t : p_Sg} (h : fx_ld m m' o 102) (H : fx_img m o na nd t) : fx_MS m' na nd t := by
  obtain ⟨r1, r2, r3, r4, r5, h8, h5, g1, g2⟩ := H
  have rd : ∀ {k x i}, k < 102 → p_ob k = (x, i) → m'.1 x i = m.1 o k := fun {k x i} hk e => by have q := h.1 k hk; rw [e] at q; exact q
  refine ⟨?_, ?_, fun j hj => ?_, fun x hx j hj => ?_, fun d hd j hj => ?_, by omega, h5, g1, g2⟩
  · rw [rd (by decide) (p_ob_c (j := 0))]; exact r1
  · rw [rd (by decide) (p_ob_c (j := 1))]; exact r2
  · rw [rd (by omega) (p_ob_c (j := 2 + j)), ← Nat.add_assoc]; exact r3 j hj
  · rw [rd (by omega) (p_ob_a hj (by omega))]; exact r4 x hx j hj
  · rw [rd (by omega) (p_ob_d hj (by omega))]; exact r5 d hd j hj
