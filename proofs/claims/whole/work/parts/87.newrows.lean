section FQ
variable {Γ : fx_G} {μ : fx_MD} {d n0 n1 n : Nat} {post : Option Value → fx_M → Prop} {m : fx_M} {pc : Nat} {lv : List (Option Value)} {st : List Value}
/-! rows of arrays of objects, of the script, and the compare of longs -/
theorem fx_ty3 {t ci : Nat} {C : String} (h : (t = 2 ∧ C = RX0 ∧ ci = 0) ∨ (t = 3 ∧ C = RX1 ∧ ci = 1) ∨ (t = 4 ∧ C = RX5 ∧ ci = 5)) : (fx_tys Γ)[t]? = some (Γ.2.2.1 t, .object C) ∧ C ∈ [RX0, RX1, RX5] ∧ 2 ≤ t ∧ t < 10 := by
  rcases h with ⟨rfl, rfl, rfl⟩ | ⟨rfl, rfl, rfl⟩ | ⟨rfl, rfl, rfl⟩
  · exact ⟨rfl, by simp, by decide, by decide⟩
  · exact ⟨rfl, by simp, by decide, by decide⟩
  · exact ⟨rfl, by simp, by decide, by decide⟩
theorem fx_C_q {o t N : Nat} (h2 : 2 ≤ t) (h : t < 10) : fx_C Γ m o (t, N) = .inl (Γ.2.2.1 t, N, .inr (.inr (.inr (.inr (fun k => (m.2.2 o k).map (fun q => Γ.1 + fx_pi q)))))) := by
  have h0 : ¬ t = 0 := by omega
  have h1 : ¬ t = 1 := by omega
  simp only [fx_C, h0, h1, h, if_false, if_true]
theorem e_newQ {idx o N t ci : Nat} {C : String} {x : Int32} (hd : decode μ.2.1 pc = .ok (.anewarray idx, 3)) (hk : Cond.classLink μ.1.cls idx C ∈ fx_gw) (ht : (t = 2 ∧ C = RX0 ∧ ci = 0) ∨ (t = 3 ∧ C = RX1 ∧ ci = 1) ∨ (t = 4 ∧ C = RX5 ∧ ci = 5)) (hx : x = nI N) (hp : fx_pi o = n) (hs : fx_shapes[o]? = some (t, N)) (hN : N < 10000) (hnN : n < fx_N) (hn1 : n + 1 ≤ n1) (hz0 : ∀ j, j < N → m.2.2 o j = none) (kk : fx_E Γ μ d n0 n1 post (n + 1) m (pc + 3) lv (fx_rf Γ o :: st)) : fx_E Γ μ d n0 n1 post n m pc lv (.int x :: st) := by
  intro p l e R s mid args below meth c H locs Q ls hX hH hz hS hl hn hK
  subst hx
  subst hp
  have hts := hX.2.2.2.2.1
  have hK0 := hX.2.2.2.2.2.1.1
  obtain ⟨hty, hC, ht2, ht10⟩ := fx_ty3 (Γ := Γ) ht
  obtain ⟨-, -, -, -, -, -, -, hfr, hlo, hce, hsl, hb, hn01⟩ := id hX
  have m1 := fx_sl_mono hn.1
  have m2 := fx_sl_succ hs
  have m3 := fx_sl_mono hn1
  have hsz := hz hnN
  have hc := nI_clamp (n := N) (by omega)
  refine W.anew hX.1 hX.2.1 hX.2.2.2.1 (hts _ hk) (va_AO.use (hX.2.2.2.2.2.1.2.2.2.2.2.1 C hC)) rfl hd rfl (nI_pos (by omega)) (by rw [hc]; omega) (by omega) (by rw [hc]; dsimp only at m2; omega) fun cA kA comp f1 f2 f3 f4 => ?_
  obtain ⟨kA2, comp2, -, -, -, g4⟩ := (hK0.2 t _ hty).2
  have hcA : cA = Γ.2.2.1 t := Option.some.inj (f1.symm.trans g4)
  generalize hH1 : H.push ({ cls := cA, slots := Array.replicate (nI N).toNatClampNeg .null, vm := .none } : Cell) = H1
  have z1 : H1.size = H.size + 1 := by rw [← hH1, Array.size_push]
  have e1 : H1[H.size]? = some (arrV cA (nI N).toNatClampNeg (fun _ => .null)) := by rw [← hH1, Array.getElem?_push_size, ← arrV_new]
  have o1 : ∀ q : Nat, q < H.size → H1[q]? = H[q]? := fun q hq => by rw [← hH1, Array.getElem?_push, if_neg (Nat.ne_of_lt hq)]
  rw [hc] at e1
  have k2 := kk p l e R s mid args below meth c H1 locs Q ls hX (hH.new hs (fun a ha => o1 a (by omega)) ?_) (fun _ => by rw [z1]; omega) ⟨Nat.le_trans hS.1 (by omega), fun x h1 h2 => (o1 x (by have := hS.1; omega)).trans (hS.2.1 x h1 h2), hS.2.2⟩ hl ⟨by omega, hn1⟩ hK
  · rw [show fx_pi o + 1 - n0 = fx_pi o - n0 + 1 by omega, show fx_sl (fx_pi o + 1) - fx_sl n0 = fx_sl (fx_pi o) - fx_sl n0 + N by dsimp only at m2; omega] at k2
    rw [hc, hsz]
    exact k2
  · rw [fx_C_q ht2 ht10]
    show H1[Γ.1 + fx_pi o]? = some (vp_cell (Γ.2.2.1 t) (N, .inr (.inr (.inr (.inr (fun k => (m.2.2 o k).map (fun q => Γ.1 + fx_pi q)))))))
    rw [← hsz, e1, vp_cell_q, hcA]
    congr 1
    simp only [arrV]
    congr 2
    funext j
    rw [hz0 j.1 j.2]
    rfl
theorem e_aast {o o2 j N N2 t ci : Nat} {C : String} {x : Int32} (hd : decode μ.2.1 pc = .ok (.aastore, 1)) (hs : fx_shapes[o]? = some (t, N)) (ht : (t = 2 ∧ C = RX0 ∧ ci = 0) ∨ (t = 3 ∧ C = RX1 ∧ ci = 1) ∨ (t = 4 ∧ C = RX5 ∧ ci = 5)) (ho : fx_pi o < n) (hs2 : fx_shapes[o2]? = some (10 + ci, N2)) (ho2 : fx_pi o2 < n) (hx : x = nI j) (hj : j < N) (hN : N < 2 ^ 31) (kk : fx_E Γ μ d n0 n1 post n (fx_sR m o j (some o2)) (pc + 1) lv st) : fx_E Γ μ d n0 n1 post n m pc lv (fx_rf Γ o2 :: .int x :: fx_rf Γ o :: st) := by
  intro p l e R s mid args below meth c H locs Q ls hX hH hz hS hl hn hK
  subst hx
  have hK0 := hX.2.2.2.2.2.1.1
  obtain ⟨hty, hC, ht2, ht10⟩ := fx_ty3 (Γ := Γ) ht
  have hP : H[Γ.1 + fx_pi o]? = some (vp_cell (Γ.2.2.1 t) (N, .inr (.inr (.inr (.inr (fun k => (m.2.2 o k).map (fun q => Γ.1 + fx_pi q))))))) := fx_arrP hH ho hs (fx_C_q ht2 ht10) 0 _ rfl
  obtain ⟨r', hr', cellV, g1, g2, g3, -⟩ := fx_obj hH ho2 hs2 0 _ rfl
  have hcn : ∃ T N3, vwCl[ci]? = some (C, T, N3) := by
    rcases ht with ⟨rfl, rfl, rfl⟩ | ⟨rfl, rfl, rfl⟩ | ⟨rfl, rfl, rfl⟩
    · exact ⟨_, _, rfl⟩
    · exact ⟨_, _, rfl⟩
    · exact ⟨_, _, rfl⟩
  obtain ⟨T, N3, hcl⟩ := hcn
  have hcls := (hK0.1 ci _ hcl).2
  obtain ⟨kA, comp, k1, k2, k3, -⟩ := (hK0.2 t _ hty).2
  have hcomp : comp = Γ.2.1.1 ci := Option.some.inj (k3.symm.trans hcls.1)
  subst hcomp
  obtain ⟨kC, hkC, -⟩ := hcls.2
  have hclm := nI_clamp (n := j) (by omega)
  refine W.aast hX.1 hX.2.1 hP (fun q h => by cases h) (fun h => by cases h) k1 k2 rfl hkC ⟨nI_pos (by omega), by show _ < (arrV _ _ _).slots.size; rw [arrV_size, hclm]; exact hj⟩ g1 (fun q h => by rw [g3] at h; cases h) (by rw [g2]; exact hkC) (by rw [g2]; exact va_assign hcls) rfl rfl hd fun H1 e1 z oq => ?_
  refine kk p l e R s mid args below meth c H1 _ Q ls hX (hH.put hs oq ?_ (fun o2 q2 h => fx_C_sR h)) (fun h => by rw [z]; exact hz h) (hS.put z oq (Nat.le_add_right _ _)) hl hn hK
  rw [fx_C_q ht2 ht10]
  show H1[Γ.1 + fx_pi o]? = some (vp_cell _ _)
  rw [e1, hclm, vp_cell_q, vp_cell_q, arrV_store]
  congr 2
  funext q
  by_cases hq : q = j
  · subst hq; simp [updV, fx_sR, va_rf]
  · simp [updV, fx_sR, hq]
theorem e_xald {j : Nat} {x : Int32} (hd : decode μ.2.1 pc = .ok (.iaload, 1)) (hx : x = nI j) (hj : j < Γ.2.2.2 98) (hN : Γ.2.2.2 98 < 2 ^ 31) (kk : fx_E Γ μ d n0 n1 post n m (pc + 1) lv (.int (Int32.ofNat (Γ.2.2.2 (100 + j))) :: st)) : fx_E Γ μ d n0 n1 post n m pc lv (.int x :: .ref (Γ.2.2.2 99) :: st) := by
  intro p l e R s mid args below meth c H locs Q ls hX hH hz hS hl hn hK
  subst hx
  exact va_ti hX.1 hX.2.1 hX.2.2.2.2.2.1.2.2.2.2.1.2.2 hS (vp_in_nI hj hN) (v := .int (Int32.ofNat (Γ.2.2.2 (100 + j)))) (by simp only [nI_clamp (show j < 2 ^ 31 by omega)]) hd (kk p l e R s mid args below meth c H locs Q ls hX hH hz hS hl hn hK)
theorem e_xlen (hd : decode μ.2.1 pc = .ok (.arraylength, 1)) (kk : fx_E Γ μ d n0 n1 post n m (pc + 1) lv (.int (nI (Γ.2.2.2 98)) :: st)) : fx_E Γ μ d n0 n1 post n m pc lv (.ref (Γ.2.2.2 99) :: st) := by
  intro p l e R s mid args below meth c H locs Q ls hX hH hz hS hl hn hK
  exact va_tlen hX.1 hX.2.1 hX.2.2.2.2.2.1.2.2.2.2.1.2.2 hS rfl hd (kk p l e R s mid args below meth c H locs Q ls hX hH hz hS hl hn hK)
theorem e_lcmpE {x y : Int64} (hd : decode μ.2.1 pc = .ok (.lcmp, 1)) (hxy : x = y) (kk : fx_E Γ μ d n0 n1 post n m (pc + 1) lv (.int 0 :: st)) : fx_E Γ μ d n0 n1 post n m pc lv (.long y :: .long x :: st) := by
  intro p l e R s mid args below meth c H locs Q ls hX hH hz hS hl hn hK
  subst hxy
  refine W.lcmp hX.1 hX.2.1 hd ?_
  rw [show lg_cmp x x = 0 by simp [lg_cmp]]
  exact kk p l e R s mid args below meth c H locs Q ls hX hH hz hS hl hn hK
/-- as at the start: nothing but zeros from cell a on -/
def fx_Z (a : Nat) (m : fx_M) : Prop := ∀ o, a ≤ fx_pi o → (∀ k, m.1 o k = 0) ∧ (∀ k, m.2.1 o k = 0) ∧ ∀ k, m.2.2 o k = none
theorem fx_z_dv {N ci o : Nat} {ty0 : Nat → FieldType} (hZ : fx_Z (fx_pi o) m) (h : ∀ j, j < N → defaultValue (ty0 j) = if fx_ref ci j = true then .null else .int 0) : ∀ j, j < N → defaultValue (ty0 j) = fx_fv Γ m ci o j := fun j hj => by
  rw [h j hj]
  unfold fx_fv
  by_cases c : fx_ref ci j = true
  · rw [if_pos c, if_pos c, (hZ o (Nat.le_refl _)).2.2 j]; rfl
  · rw [if_neg c, if_neg c, (hZ o (Nat.le_refl _)).1 j]
end FQ
theorem fx_dv0 : ∀ j, j < 7 → defaultValue (tyX0 j) = if fx_ref 0 j = true then .null else .int 0 := fun j hj => by
  rcases (show j = 0 ∨ j = 1 ∨ j = 2 ∨ j = 3 ∨ j = 4 ∨ j = 5 ∨ j = 6 by omega) with rfl | rfl | rfl | rfl | rfl | rfl | rfl <;> rfl
theorem fx_dv1 : ∀ j, j < 8 → defaultValue (tyX1 j) = if fx_ref 1 j = true then .null else .int 0 := fun j hj => by
  rcases (show j = 0 ∨ j = 1 ∨ j = 2 ∨ j = 3 ∨ j = 4 ∨ j = 5 ∨ j = 6 ∨ j = 7 by omega) with rfl | rfl | rfl | rfl | rfl | rfl | rfl | rfl <;> rfl
theorem fx_dv2 : ∀ j, j < 4 → defaultValue (tyX2 j) = if fx_ref 2 j = true then .null else .int 0 := fun j hj => by
  rcases (show j = 0 ∨ j = 1 ∨ j = 2 ∨ j = 3 by omega) with rfl | rfl | rfl | rfl <;> rfl
theorem fx_dv3 : ∀ j, j < 12 → defaultValue (tyX3 j) = if fx_ref 3 j = true then .null else .int 0 := fun j hj => by
  rcases (show j = 0 ∨ j = 1 ∨ j = 2 ∨ j = 3 ∨ j = 4 ∨ j = 5 ∨ j = 6 ∨ j = 7 ∨ j = 8 ∨ j = 9 ∨ j = 10 ∨ j = 11 by omega) with rfl | rfl | rfl | rfl | rfl | rfl | rfl | rfl | rfl | rfl | rfl | rfl <;> rfl
theorem fx_dv4 : ∀ j, j < 7 → defaultValue (tyX4 j) = if fx_ref 4 j = true then .null else .int 0 := fun j hj => by
  rcases (show j = 0 ∨ j = 1 ∨ j = 2 ∨ j = 3 ∨ j = 4 ∨ j = 5 ∨ j = 6 by omega) with rfl | rfl | rfl | rfl | rfl | rfl | rfl <;> rfl
theorem fx_dv5 : ∀ j, j < 4 → defaultValue (tyX5 j) = if fx_ref 5 j = true then .null else .int 0 := fun j hj => by
  rcases (show j = 0 ∨ j = 1 ∨ j = 2 ∨ j = 3 by omega) with rfl | rfl | rfl | rfl <;> rfl
theorem fx_dv6 : ∀ j, j < 8 → defaultValue (tyX6 j) = if fx_ref 6 j = true then .null else .int 0 := fun j hj => by
  rcases (show j = 0 ∨ j = 1 ∨ j = 2 ∨ j = 3 ∨ j = 4 ∨ j = 5 ∨ j = 6 ∨ j = 7 by omega) with rfl | rfl | rfl | rfl | rfl | rfl | rfl | rfl <;> rfl
theorem fx_dv7 : ∀ j, j < 1 → defaultValue (tyX7 j) = if fx_ref 7 j = true then .null else .int 0 := fun j hj => by
  obtain rfl : j = 0 := by omega
  rfl
theorem fx_dv8 : ∀ j, j < 10 → defaultValue (tyX8 j) = if fx_ref 8 j = true then .null else .int 0 := fun j hj => by
  rcases (show j = 0 ∨ j = 1 ∨ j = 2 ∨ j = 3 ∨ j = 4 ∨ j = 5 ∨ j = 6 ∨ j = 7 ∨ j = 8 ∨ j = 9 by omega) with rfl | rfl | rfl | rfl | rfl | rfl | rfl | rfl | rfl | rfl <;> rfl
theorem fx_dv9 : ∀ j, j < 51 → defaultValue (tyX9 j) = if fx_ref 9 j = true then .null else .int 0 := fun j hj => by
  rcases (show j = 0 ∨ j = 1 ∨ j = 2 ∨ j = 3 ∨ j = 4 ∨ j = 5 ∨ j = 6 ∨ j = 7 ∨ j = 8 ∨ j = 9 ∨ j = 10 ∨ j = 11 ∨ j = 12 ∨ j = 13 ∨ j = 14 ∨ j = 15 ∨ j = 16 ∨ j = 17 ∨ j = 18 ∨ j = 19 ∨ j = 20 ∨ j = 21 ∨ j = 22 ∨ j = 23 ∨ j = 24 ∨ j = 25 ∨ j = 26 ∨ j = 27 ∨ j = 28 ∨ j = 29 ∨ j = 30 ∨ j = 31 ∨ j = 32 ∨ j = 33 ∨ j = 34 ∨ j = 35 ∨ j = 36 ∨ j = 37 ∨ j = 38 ∨ j = 39 ∨ j = 40 ∨ j = 41 ∨ j = 42 ∨ j = 43 ∨ j = 44 ∨ j = 45 ∨ j = 46 ∨ j = 47 ∨ j = 48 ∨ j = 49 ∨ j = 50 by omega) with rfl | rfl | rfl | rfl | rfl | rfl | rfl | rfl | rfl | rfl | rfl | rfl | rfl | rfl | rfl | rfl | rfl | rfl | rfl | rfl | rfl | rfl | rfl | rfl | rfl | rfl | rfl | rfl | rfl | rfl | rfl | rfl | rfl | rfl | rfl | rfl | rfl | rfl | rfl | rfl | rfl | rfl | rfl | rfl | rfl | rfl | rfl | rfl | rfl | rfl | rfl <;> rfl
