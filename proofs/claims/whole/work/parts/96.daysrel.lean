theorem fr_daysB {na nd : Nat} {n : Int32} (h : p_daB na nd n = 0) : 0 < nd := by
  rcases Nat.eq_zero_or_pos nd with c | c
  · subst c
    unfold p_daB at h
    split at h
    · cases h
    · rw [if_pos (show nI 0 = 0 from rfl)] at h
      cases h
  · exact c
theorem fr_days {m m1 m2 : fx_M} {na nd : Nat} {n : Int32} (R : fr_R m na nd) (hc : (p_daB na nd n ≠ 0 → m1 = fx_no m (p_daB na nd n)) ∧ (p_daB na nd n = 0 → fx_fr 1 m m1 ∧ fx_HT m1 1 na nd (p_dys na nd (p_ix n) (fx_tC m)))) (hm : (p_daB na nd n ≠ 0 → m2 = fx_mno m1 (p_daB na nd n)) ∧ (p_daB na nd n = 0 → fx_MS m2 na nd (p_dys na nd (p_ix n) (fx_tC m)) ∧ fx_KF m1 m2)) : fx_Rel m2 := by
  by_cases e : p_daB na nd n = 0
  · obtain ⟨f, H⟩ := hc.2 e
    have g := hm.2 e
    exact ⟨na, nd, R.stock ((fr_C.fr R.1 f).to (fun o h => by omega) (fun _ h => h)) H (f.J R.2.2.1.2.2.1) (f.JJ (by omega) R.2.2.2.1.2) g.2 g.1 (p_sp.days (fr_daysB e) _ _ R.sp) (Nat.le_refl _) R.2.1.1 R.2.1.2⟩
  · rw [hm.1 e, hc.1 e]
    exact ⟨na, nd, R.q _⟩
theorem fr_daysM {m m1 : fx_M} {na nd : Nat} {n : Int32} (R : fr_R m na nd) (hc : (p_daB na nd n ≠ 0 → m1 = fx_no m (p_daB na nd n)) ∧ (p_daB na nd n = 0 → fx_fr 1 m m1 ∧ fx_HT m1 1 na nd (p_dys na nd (p_ix n) (fx_tC m)))) : fx_Lay m1 ∧ fx_MS m1 na nd (fx_tC m) ∧ fx_MSh m1 na (fx_uC m) ∧ m1.1 83 44 = -1 ∧ fx_WC m1 := by
  by_cases e : p_daB na nd n = 0
  · exact R.mod (fr_C.fr R.1 (hc.2 e).1) (fun o h => by omega) (fun _ h => h.elim)
  · rw [hc.1 e]
    exact R.mod (fr_C.no R.1 _) (fun o h => by omega) (fun _ h => h.elim)
/-- judge, behind: told alone, and the refusals -/
theorem fr_toldM {m m1 : fx_M} {na nd b : Nat} (R : fr_R m na nd) (f : fx_fr 33 (fx_no m b) m1) : fx_Lay m1 ∧ fx_MS m1 na nd (fx_tC m) ∧ fx_MSh m1 na (fx_uC m) ∧ m1.1 83 44 = -1 ∧ fx_WC m1 :=
  R.mod (X := fun o => o < 83) (Y := fun _ => False) (((fr_C.no R.1 b).to (fun o h => by omega) (fun _ h => h)).trans ((fr_C.fr (fr_C.no R.1 b).1 f).to (fun o h => by omega) (fun _ h => h))) (fun o h => by omega) (fun _ h => h.elim)
theorem fr_told {m m1 m2 : fx_M} {na nd b : Nat} (R : fr_R m na nd) (f : fx_fr 33 (fx_no m b) m1) (M : fx_MS m2 na nd (fx_tC m)) (K : fx_KF (fx_mno m1 b) m2) : fr_R m2 na nd := by
  have c1 := fr_C.no R.1 b
  have c2 := fr_C.fr c1.1 f
  have c3 := fr_C.mno c2.1 b
  have c4 := fr_C.KF c3.1 K
  have C : fr_C (fun o => o = 50 ∨ o = 84 ∨ (33 ≤ o ∧ o < 49) ∨ (83 ≤ o ∧ ¬ (o = 84 ∨ (100 ≤ o ∧ o ≤ 103) ∨ (106 ≤ o ∧ o ≤ 109) ∨ o = 112 ∨ o = 118))) (fun _ => False) m m2 :=
    (((c1.to (fun o h => by omega) (fun _ h => h)).trans (c2.to (fun o h => by omega) (fun _ h => h))).trans (c3.to (fun o h => by omega) (fun _ h => h))).trans (c4.to (fun o h => by omega) (fun _ h => h))
  have e83 : ∀ j, (j = 6 ∨ j = 44 ∨ j = 49 ∨ j = 50) → m2.1 83 j = m.1 83 j := fun j hj => by
    rw [K.2.2 j hj, c3.2.1 83 (by decide), c2.2.1 83 (by decide), c1.2.1 83 (by decide)]
  refine R.keep C (fun o h => by omega) (fun _ h => h) e83 (fun k => ?_) (fun o k h => ?_) (fr_M.fr R.2.2.2.2.2.2.2.2.2.2 C (fun o h q => by omega)) M
  · rw [c4.2.1 50 (by omega), c4.2.1 84 (by omega), fr_mno84, c3.2.1 50 (by decide), c2.2.1 50 (by decide), fr_no50, c2.2.1 84 (by decide), c1.2.1 84 (by decide), R.2.2.2.2.2.1 k, R.2.2.2.2.2.1 b]
  · rw [c4.2.1 o (by omega), c3.2.1 o (by omega)]
    exact f.J (fr_J.fr R.2.2.2.1.2 c1 (fun o h q => by omega)) o k h
theorem fr_doneM {m m1 : fx_M} {na nd b : Nat} {t : p_Sg} (R : fr_R m na nd) (h1 : b ≠ 0 → fx_fr 33 (fx_no m b) m1) (h0 : b = 0 → fx_HT m1 1 na nd t ∧ ∃ ma, fx_fr 33 m ma ∧ fx_fr 1 ma m1) : fx_Lay m1 ∧ fx_MS m1 na nd (fx_tC m) ∧ fx_MSh m1 na (fx_uC m) ∧ m1.1 83 44 = -1 ∧ fx_WC m1 := by
  by_cases e : b = 0
  · obtain ⟨-, ma, f1, f2⟩ := h0 e
    have c1 := fr_C.fr R.1 f1
    exact R.mod (X := fun o => o < 83) (Y := fun _ => False) ((c1.to (fun o h => by omega) (fun _ h => h)).trans ((fr_C.fr c1.1 f2).to (fun o h => by omega) (fun _ h => h))) (fun o h => by omega) (fun _ h => h.elim)
  · exact fr_toldM R (h1 e)
theorem fr_done {m m1 m2 : fx_M} {na nd b : Nat} {t : p_Sg} (R : fr_R m na nd) (h1 : b ≠ 0 → fx_fr 33 (fx_no m b) m1) (h0 : b = 0 → fx_HT m1 1 na nd t ∧ ∃ ma, fx_fr 33 m ma ∧ fx_fr 1 ma m1) (g1 : b ≠ 0 → fx_MS m2 na nd (fx_tC m) ∧ fx_KF (fx_mno m1 b) m2) (g0 : b = 0 → fx_MS m2 na nd t ∧ fx_KF m1 m2) (sp : p_sp na nd t) : fx_Rel m2 := by
  by_cases e : b = 0
  · obtain ⟨H, ma, f1, f2⟩ := h0 e
    have g := g0 e
    have c1 := fr_C.fr R.1 f1
    have C := (c1.to (X' := fun o => (1 ≤ o ∧ o < 17) ∨ (33 ≤ o ∧ o < 49)) (Y' := fun _ => False) (fun o h => by omega) (fun _ h => h)).trans ((fr_C.fr c1.1 f2).to (fun o h => by omega) (fun _ h => h))
    exact ⟨na, nd, R.stock C H (f2.J (f1.JJ (by omega) R.2.2.1.2.2.1)) (f2.JJ (by omega) (f1.J R.2.2.2.1.2)) g.2 g.1 sp (Nat.le_refl _) R.2.1.1 R.2.1.2⟩
  · exact ⟨na, nd, fr_told R (h1 e) (g1 e).1 (g1 e).2⟩
