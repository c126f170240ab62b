theorem p_it_na {tx : Nat → Int32} {n p na nd : Nat} {t : p_Sg} : na ≤ (p_it tx n p na nd t).2.2.1 := by
  have hA : ∀ w q, na ≤ (p_armI tx n w q na nd t).2.2.1 := fun w q => by
    unfold p_armI
    split
    · exact Nat.le_refl _
    · split
      · exact Nat.le_refl _
      · exact Nat.le_succ na
  unfold p_it
  repeat' split
  all_goals first | exact hA _ _ | exact Nat.le_refl _ | (unfold p_dollI; repeat' split) | (unfold p_lieI; repeat' split) | (unfold p_offI; repeat' split) | (unfold p_onI; repeat' split)
  all_goals exact Nat.le_refl _
theorem p_rA_na {tx : Nat → Int32} {n : Nat} : ∀ (f it p na nd : Nat) (t : p_Sg), na ≤ (p_rA tx n f it p na nd t).2.2.1
  | 0, it, p, na, nd, t => Nat.le_refl _
  | f + 1, it, p, na, nd, t => by
    have hi := p_it_na (tx := tx) (n := n) (p := p) (na := na) (nd := nd) (t := t)
    have er : p_rA tx n (f + 1) it p na nd t = p_rS tx n f it na nd t (p_it tx n p na nd t) := rfl
    rw [er]
    generalize p_it tx n p na nd t = res at hi ⊢
    obtain ⟨o, p2, na3, nd3, t3⟩ := res
    have hi : na ≤ na3 := hi
    cases o with
    | some g => exact Nat.le_refl _
    | none =>
      show na ≤ (if p2 = n then (none, it, na3, nd3, t3) else match p_spI tx n [59] 1 0 p2 with | some g => (some g, it, na3, nd3, t3) | none => p_rA tx n f (it + 1) (p2 + 1) na3 nd3 t3 : p_IR).2.2.1
      split
      · exact hi
      · split
        · exact hi
        · exact Nat.le_trans hi (p_rA_na f (it + 1) (p2 + 1) na3 nd3 t3)
theorem fr_C.Kp {m m' : fx_M} (hL : fx_Lay m) (K : fx_Kp m m') : fr_C (fun o => 83 ≤ o ∧ ¬ (o = 84 ∨ (100 ≤ o ∧ o ≤ 103) ∨ (106 ≤ o ∧ o ≤ 109) ∨ o = 112 ∨ o = 118)) (fun _ => False) m m' := fr_C.of2 hL K.1 (fun o h => K.2.1 o (by omega))
def fr_sC (m m1 : fx_M) (RES : p_IR) : Prop := fx_J 33 m1 ∧ fx_J 1 m1 ∧ m1.2.1 = m.2.1 ∧ fx_Lay m1 ∧ (∀ f, RES.1 = some f → m1.1 51 0 = nI f ∧ ∀ o, (o < 33 ∨ 49 ≤ o) → o ≠ 51 → o ≠ 52 → m1.1 o = (fx_no m 6).1 o) ∧ (RES.1 = none → m1.1 51 0 = -1 ∧ fx_HT m1 1 RES.2.2.1 RES.2.2.2.1 RES.2.2.2.2 ∧ RES.2.2.1 ≤ 8 ∧ RES.2.2.2.1 ≤ 5 ∧ ∀ o, (o < 1 ∨ 17 ≤ o) → (o < 33 ∨ 49 ≤ o) → o ≠ 51 → o ≠ 52 → m1.1 o = m.1 o)
theorem fr_shopM {m m1 : fx_M} {na nd b : Nat} {RES : p_IR} (R : fr_R m na nd) (h1 : b ≠ 0 → m1 = fx_no m b) (h0 : b = 0 → fr_sC m m1 RES) : fr_C (fun o => o < 83) (fun _ => False) m m1 := by
  by_cases e : b = 0
  · obtain ⟨j1, j2, e1, hL, hf, hn⟩ := h0 e
    refine ⟨hL, fun o h => ?_, fun o _ => by rw [e1]⟩
    cases c : RES.1 with
    | some f =>
      rw [(hf f c).2 o (by omega) (by omega) (by omega)]
      exact (fr_C.no R.1 6).2.1 o (by omega)
    | none => exact (hn c).2.2.2.2 o (by omega) (by omega) (by omega) (by omega)
  · rw [h1 e]
    exact (fr_C.no R.1 b).to (fun o h => by omega) (fun _ h => h)
theorem fr_shop {m m1 m2 : fx_M} {na nd b : Nat} {RES : p_IR} (R : fr_R m na nd) (h1 : b ≠ 0 → m1 = fx_no m b) (h0 : b = 0 → fr_sC m m1 RES) (g1 : b ≠ 0 → m2 = fx_mno m1 b)
    (g0 : b = 0 → (∀ f, RES.1 = some f → m2.1 83 6 = nI f ∧ fx_MS m2 na nd (fx_tC m) ∧ fx_Kp (fx_mno m1 6) m2) ∧ (RES.1 = none → m2.1 83 6 = -1 ∧ fx_MS m2 RES.2.2.1 RES.2.2.2.1 RES.2.2.2.2 ∧ fx_Kp m1 m2)) (hsp : RES.1 = none → p_sp RES.2.2.1 RES.2.2.2.1 RES.2.2.2.2) (hna : na ≤ RES.2.2.1) : fx_Rel m2 := by
  by_cases e : b = 0
  · obtain ⟨j33, j1, e1, hL1, hf, hn⟩ := h0 e
    have g := g0 e
    cases c : RES.1 with
    | some f =>
      obtain ⟨hf1, hf2⟩ := hf f c
      obtain ⟨k1, k2, k3⟩ := g.1 f c
      have c3 := fr_C.mno hL1 6
      have c4 := fr_C.Kp c3.1 k3
      have e6 : ∀ o, o ≠ 50 → (fx_no m 6).1 o = m.1 o := fun o h => (fr_C.no R.1 6).2.1 o h
      have ei : ∀ o, (o < 33 ∨ 49 ≤ o) → o ≠ 50 → o ≠ 51 → o ≠ 52 → o ≠ 84 → ¬ (83 ≤ o ∧ ¬ (o = 84 ∨ (100 ≤ o ∧ o ≤ 103) ∨ (106 ≤ o ∧ o ≤ 109) ∨ o = 112 ∨ o = 118)) → m2.1 o = m.1 o := fun o a1 a2 a3 a4 a5 a6 => by
        rw [c4.2.1 o a6, c3.2.1 o a5, hf2 o a1 a3 a4, e6 o a2]
      have C : fr_C (fun o => (33 ≤ o ∧ o < 49) ∨ o = 50 ∨ o = 51 ∨ o = 52 ∨ o = 84 ∨ (83 ≤ o ∧ ¬ (o = 84 ∨ (100 ≤ o ∧ o ≤ 103) ∨ (106 ≤ o ∧ o ≤ 109) ∨ o = 112 ∨ o = 118))) (fun _ => False) m m2 := ⟨c4.1, fun o h => ei o (by omega) (by omega) (by omega) (by omega) (by omega) (by omega), fun o _ => by rw [c4.2.2 o (fun h => h), c3.2.2 o (fun h => h), e1]⟩
      have e83 : ∀ j, (j = 44 ∨ j = 49 ∨ j = 50) → m2.1 83 j = m.1 83 j := fun j hj => by rw [k3.2.2 j hj, c3.2.1 83 (by decide), hf2 83 (by omega) (by decide) (by decide), e6 83 (by decide)]
      obtain ⟨r1, r2, r3, r4, r5, r6, r7, r8, r9, r10, r11⟩ := R
      refine ⟨na, nd, C.1, r2, r3.keep r2.1 r2.2 C (fun o h q => by omega) k2, ⟨fr_J.fr r4.1 C (fun o h q => by omega), fun o k h => by rw [c4.2.1 o (by omega), c3.2.1 o (by omega)]; exact j33 o k h⟩, r5.fr C (fun o h q => by omega) (fun _ h _ => h) (Nat.le_refl _) (by omega), fun b => ?_, ?_, r8.fr C (fun o h q => by omega) (e83 49 (by omega)), r9.fr C (fun o h q => by omega) (e83 50 (by omega)), fr_W.fr r10 C (fun o h q => by omega) (e83 44 (by omega)), fr_M.fr r11 C (fun o h q => by omega)⟩
      · rw [c4.2.1 50 (by omega), c4.2.1 84 (by omega), c3.2.1 50 (by decide), fr_mno84, hf2 50 (by omega) (by decide) (by decide), fr_no50, hf2 84 (by omega) (by decide) (by decide), e6 84 (by decide), r6 b, r6 6]
      · rw [c4.2.1 51 (by omega), c3.2.1 51 (by decide), hf1, k1]
    | none =>
      obtain ⟨f1, H, h8, h5, hI⟩ := hn c
      obtain ⟨k1, k2, k3⟩ := g.2 c
      have c4 := fr_C.Kp hL1 k3
      have C : fr_C (fun o => (1 ≤ o ∧ o < 17) ∨ (33 ≤ o ∧ o < 49) ∨ o = 51 ∨ o = 52 ∨ (83 ≤ o ∧ ¬ (o = 84 ∨ (100 ≤ o ∧ o ≤ 103) ∨ (106 ≤ o ∧ o ≤ 109) ∨ o = 112 ∨ o = 118))) (fun _ => False) m m2 := ⟨c4.1, fun o h => by rw [c4.2.1 o (by omega)]; exact hI o (by omega) (by omega) (by omega) (by omega), fun o _ => by rw [c4.2.2 o (fun h => h), e1]⟩
      have e83 : ∀ j, (j = 44 ∨ j = 49 ∨ j = 50) → m2.1 83 j = m.1 83 j := fun j hj => by rw [k3.2.2 j hj, hI 83 (by omega) (by omega) (by decide) (by decide)]
      have el : ∀ o, o < 83 → m2.1 o = m1.1 o := fun o h => c4.2.1 o (by omega)
      obtain ⟨r1, r2, r3, r4, r5, r6, r7, r8, r9, r10, r11⟩ := R
      refine ⟨RES.2.2.1, RES.2.2.2.1, C.1, ⟨h8, h5⟩, fr_A.new (fr_HT.cg H h8 h5 (fun o ho => el o (by omega))) (fun o k h => by rw [el o (by omega)]; exact j1 o k h) k2 (hsp c), ⟨fr_J.fr r4.1 C (fun o h q => by omega), fun o k h => by rw [el o (by omega)]; exact j33 o k h⟩, r5.fr C (fun o h q => by omega) (fun _ h _ => h) hna (by omega), fun b => ?_, ?_, r8.fr C (fun o h q => by omega) (e83 49 (by omega)), r9.fr C (fun o h q => by omega) (e83 50 (by omega)), fr_W.fr r10 C (fun o h q => by omega) (e83 44 (by omega)), fr_M.fr r11 C (fun o h q => by omega)⟩
      · rw [C.2.1 50 (by omega), C.2.1 84 (by omega)]; exact r6 b
      · rw [el 51 (by decide), f1, k1]
  · rw [g1 e, h1 e]
    exact ⟨na, nd, R.q b⟩
