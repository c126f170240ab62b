/-! elements copied -/
def fx_cpJ (m : fx_M) (o o2 sp dp k : Nat) : fx_M := (m.1, fun a b => if a = o2 then va_cpy (m.2.1 o) (m.2.1 o2) sp dp k b else m.2.1 a b, m.2.2)
section FC
variable {Γ : fx_G} {μ : fx_MD} {d n0 n1 n : Nat} {post : Option Value → fx_M → Prop} {m : fx_M} {pc : Nat} {lv : List (Option Value)} {st : List Value}
theorem fx_nn {k : Nat} (h : k < 2 ^ 31) : (nI k).toInt = ((nI k).toNatClampNeg : Int) := by rw [nI_clamp h, nI_toInt h]
set_option maxHeartbeats 1000000 in
theorem e_copyL {idx o o2 N N2 sp dp k : Nat} (hd : decode μ.2.1 pc = .ok (.invokestatic idx, 3)) (hlk : Cond.methodLink μ.1.cls idx arraycopyName ∈ fx_gw) (hnat : Cond.native arraycopyName ∈ fx_gw) (hstat : Cond.static arraycopyName ∈ fx_gw) (hini : Cond.initialized "java/lang/System" ∈ fx_gw)
    (hs : fx_shapes[o]? = some (1, N)) (hs2 : fx_shapes[o2]? = some (1, N2)) (ho : fx_pi o < n) (ho2 : fx_pi o2 < n) (h4 : sp + k ≤ N) (h5 : dp + k ≤ N2) (hN : N < 2 ^ 31) (hN2 : N2 < 2 ^ 31) (hdd : 1 ≤ d) (hst : (st.map (fun v => v.category)).sum ≤ 8)
    (kk : fx_E Γ μ d n0 n1 post n (fx_cpJ m o o2 sp dp k) (pc + 3) lv st) : fx_E Γ μ d n0 n1 post n m pc lv (.int (nI k) :: .int (nI dp) :: fx_rf Γ o2 :: .int (nI sp) :: fx_rf Γ o :: st) := by
  intro p l e R s mid args below meth c H locs Q ls hX hH hz hS hl hn hK
  have hts := hX.2.2.2.2.1
  obtain ⟨-, -, -, -, -, -, -, hfr, hlo, hce, hsl, hb, hn01⟩ := id hX
  have hc0 : H[Γ.1 + fx_pi o]? = some (vp_cell (Γ.2.2.1 1) (N, .inr (.inl (m.2.1 o)))) := fx_arrP hH ho hs rfl 0 _ rfl
  have hc1 : H[Γ.1 + fx_pi o2]? = some (vp_cell (Γ.2.2.1 1) (N2, .inr (.inl (m.2.1 o2)))) := fx_arrP hH ho2 hs2 rfl 0 _ rfl
  obtain ⟨-, k0, hk0, cm0, hkk0⟩ := (hX.2.2.2.2.2.1.1.2 1 _ rfl).1 N (fun j => .long (m.2.1 o j))
  obtain ⟨-, k1, hk1, cm1, hkk1⟩ := (hX.2.2.2.2.2.1.1.2 1 _ rfl).1 N2 (fun j => .long (m.2.1 o2 j))
  have es : (nI sp).toNatClampNeg = sp := nI_clamp (by omega)
  have ed : (nI dp).toNatClampNeg = dp := nI_clamp (by omega)
  have ek : (nI k).toNatClampNeg = k := nI_clamp (by omega)
  intro T hT X
  obtain ⟨vm', X', step⟩ := X.arraycopy hX.1 hX.2.2.2.1 (hts _ hlk) (hts _ hnat) (hts _ hstat) (hts _ hini) (src := Γ.1 + fx_pi o) (dst := Γ.1 + fx_pi o2) (cs := vp_cell (Γ.2.2.1 1) (N, .inr (.inl (m.2.1 o)))) (cd := vp_cell (Γ.2.2.1 1) (N2, .inr (.inl (m.2.1 o2)))) (srcPos := nI sp) (destPos := nI dp) (n := nI k) (by rw [hT]; exact hc0) (by rw [hT]; exact hc1)
    (fun _ h => by cases h) (fun _ h => by cases h) (fun h => by cases h) (fun h => by cases h) hk0 hk1 hkk0 hkk1 (by simp [refKind]) (nI_pos (by omega)) (nI_pos (by omega)) (nI_pos (by omega))
    (by rw [fx_nn (show sp < 2 ^ 31 by omega), fx_nn (show k < 2 ^ 31 by omega), es, ek]; show ¬ _ > ((arrV (Γ.2.2.1 1) N (fun j => .long (m.2.1 o j))).slots.size : Int); rw [arrV_size]; omega)
    (by rw [fx_nn (show dp < 2 ^ 31 by omega), fx_nn (show k < 2 ^ 31 by omega), ed, ek]; show ¬ _ > ((arrV (Γ.2.2.1 1) N2 (fun j => .long (m.2.1 o2 j))).slots.size : Int); rw [arrV_size]; omega)
    (fun vm₁ _ i hi => by
      rw [ek] at hi
      have e : (vp_cell (Γ.2.2.1 1) (N, .inr (.inl (m.2.1 o)))).slots.getD ((nI sp).toNatClampNeg + i) .null = .long (m.2.1 o ((nI sp).toNatClampNeg + i)) := by
        show (arrV (Γ.2.2.1 1) N (fun j => .long (m.2.1 o j))).slots.getD _ _ = _
        rw [es, Array.getD_eq_getD_getElem?, arrV_read _ _ (by omega)]
        rfl
      refine ⟨?_, ?_⟩
      · rw [e]
        rfl
      · rw [e]
        exact trivial)
    (g := F0 mid pc ls (.int (nI k) :: .int (nI dp) :: .ref (Γ.1 + fx_pi o2) :: .int (nI sp) :: .ref (Γ.1 + fx_pi o) :: st)) rfl (hl.1.trans hX.2.2.1.symm) (rest := st) rfl (by rw [hX.2.1]; exact hd) (by omega) (by
      have hw : nativeFrameWords "java/lang/System" "arraycopy" 5 ≤ 20 := by decide
      show 2 * 0 + _ + _ ≤ _; omega)
  have e1 : copied (vp_cell (Γ.2.2.1 1) (N, .inr (.inl (m.2.1 o)))) (vp_cell (Γ.2.2.1 1) (N2, .inr (.inl (m.2.1 o2)))) (nI sp) (nI dp) (nI k) = vp_cell (Γ.2.2.1 1) (N2, .inr (.inl (va_cpy (m.2.1 o) (m.2.1 o2) sp dp k))) := by
    have h := va_copied (fun z => .long z) (Γ.2.2.1 1) (Γ.2.2.1 1) (n0 := N) (n1 := N2) (sp := (nI sp).toNatClampNeg) (dp := (nI dp).toNatClampNeg) (n := (nI k).toNatClampNeg) (m.2.1 o) (m.2.1 o2) (by rw [es, ek]; exact h4)
    rw [es, ed, ek] at h
    show (arrV (Γ.2.2.1 1) N2 (fun j => .long (m.2.1 o2 j))).storeRun (nI dp).toNatClampNeg ((arrV (Γ.2.2.1 1) N (fun j => .long (m.2.1 o j))).stretch (nI sp).toNatClampNeg (nI k).toNatClampNeg) = _
    rw [es, ed, ek]
    exact h
  rw [e1] at X' step
  have hl1 : Γ.1 + fx_pi o2 < H.size := (Array.getElem?_eq_some_iff.mp hc1).1
  have hheap : ((T.setVm vm').setCell (Γ.1 + fx_pi o2) (vp_cell (Γ.2.2.1 1) (N2, .inr (.inl (va_cpy (m.2.1 o) (m.2.1 o2) sp dp k))))).heap = H.setIfInBounds (Γ.1 + fx_pi o2) (vp_cell (Γ.2.2.1 1) (N2, .inr (.inl (va_cpy (m.2.1 o) (m.2.1 o2) sp dp k)))) := by rw [← hT]; rfl
  have oq : ∀ q : Nat, q ≠ Γ.1 + fx_pi o2 → (H.setIfInBounds (Γ.1 + fx_pi o2) (vp_cell (Γ.2.2.1 1) (N2, .inr (.inl (va_cpy (m.2.1 o) (m.2.1 o2) sp dp k)))))[q]? = H[q]? := fun q hq => by simp [Array.getElem?_setIfInBounds, Ne.symm hq]
  have z : (H.setIfInBounds (Γ.1 + fx_pi o2) (vp_cell (Γ.2.2.1 1) (N2, .inr (.inl (va_cpy (m.2.1 o) (m.2.1 o2) sp dp k))))).size = H.size := by simp
  have hw : va_at Γ.2.1 vwCl (Γ.1 + fx_pi o2, fx_C Γ (fx_cpJ m o o2 sp dp k) o2 (1, N2)) (H.setIfInBounds (Γ.1 + fx_pi o2) (vp_cell (Γ.2.2.1 1) (N2, .inr (.inl (va_cpy (m.2.1 o) (m.2.1 o2) sp dp k))))) := by
    show (H.setIfInBounds _ _)[Γ.1 + fx_pi o2]? = some (vp_cell _ _)
    have : ((fx_cpJ m o o2 sp dp k).2.1 o2) = va_cpy (m.2.1 o) (m.2.1 o2) sp dp k := by funext b; simp [fx_cpJ]
    rw [this]
    simp [Array.getElem?_setIfInBounds, hl1]
  have hC : ∀ (a : Nat) (q2 : Nat × Nat), a ≠ o2 → fx_C Γ (fx_cpJ m o o2 sp dp k) a q2 = fx_C Γ m a q2 := fun a q2 h => by
    have : (fx_cpJ m o o2 sp dp k).2.1 a = m.2.1 a := by funext b; simp [fx_cpJ, h]
    unfold fx_C
    rw [this]
    rfl
  obtain ⟨t, a1, b1⟩ := kk p l e R s mid args below meth c _ _ Q ls hX (hH.put hs2 oq hw hC) (fun h => by rw [z]; exact hz h) ⟨by rw [z]; exact hS.1, fun q g1 g2 => by
      rw [oq q (fun e => g2 (by rw [e]; exact Nat.le_add_right _ _))]
      exact hS.2.1 q g1 g2, fun q hq => by
      rcases List.mem_append.mp hq with h | h
      · exact hS.2.2 q h
      · obtain ⟨w, -, hw⟩ := List.mem_map.mp h
        rw [← hw]
        exact Nat.le_add_right _ _⟩ hl hn hK _ hheap X'
  exact ⟨t, step t a1, b1⟩
end FC
