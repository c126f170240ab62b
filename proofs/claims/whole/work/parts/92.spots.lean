/-! where arms may be: kept by all that is done to a stock -/
def p_sp (na nd : Nat) (t : p_Sg) : Prop := ∀ x, x < na → p_in (t.1 x 2) 0 1 ∧ p_spot nd (t.1 x 6)
theorem p_spot_mk {nd d : Nat} {s : Int32} (hd : d < nd) (hs : p_in s 0 1) : p_spot nd (10 * nI d + s) := by
  obtain ⟨j, hj, rfl⟩ := nI_of (x := s) (Int32.not_lt.mpr hs.1)
  have h1 := (nI_leI (b := 1) hj (by decide)).mp hs.2
  exact Or.inr ⟨d, j, hd, h1, by rw [show (10 : Int32) = nI 10 from rfl, pk_mul, nI_add]⟩
theorem p_spot_mono {nd nd' : Nat} {v : Int32} (h : p_spot nd v) (hn : nd ≤ nd') : p_spot nd' v := by
  rcases h with h | ⟨d, s, h1, h2, h3⟩
  · exact Or.inl h
  · exact Or.inr ⟨d, s, by omega, h2, h3⟩
theorem p_sp.set {na nd x k : Nat} {t : p_Sg} {v : Int32} {D : Nat → Nat → Int32} {c : Nat → Int32} (h : p_sp na nd t) (h2 : k = 2 → p_in v 0 1) (h6 : k = 6 → p_spot nd v) : p_sp na nd (p_ua t.1 x (p_u (t.1 x) k v), D, c) := fun y hy => by
  show p_in (p_ua t.1 x (p_u (t.1 x) k v) y 2) 0 1 ∧ p_spot nd (p_ua t.1 x (p_u (t.1 x) k v) y 6)
  by_cases e : y = x
  · subst e
    rw [p_ua_at]
    refine ⟨?_, ?_⟩
    · show p_in (if 2 = k then v else t.1 y 2) 0 1
      by_cases c2 : 2 = k
      · rw [if_pos c2]; exact h2 c2.symm
      · rw [if_neg c2]; exact (h y hy).1
    · show p_spot nd (if 6 = k then v else t.1 y 6)
      by_cases c2 : 6 = k
      · rw [if_pos c2]; exact h6 c2.symm
      · rw [if_neg c2]; exact (h y hy).2
  · rw [p_ua, if_neg e]
    exact h y hy
theorem p_sp.add {na nd : Nat} {t : p_Sg} {V : Nat → Int32} {D : Nat → Nat → Int32} {c : Nat → Int32} (h : p_sp na nd t) (h2 : p_in (V 2) 0 1) : p_sp (na + 1) nd (p_ua t.1 na (p_recA V), D, c) := fun y hy => by
  show p_in (p_ua t.1 na (p_recA V) y 2) 0 1 ∧ p_spot nd (p_ua t.1 na (p_recA V) y 6)
  by_cases e : y = na
  · subst e
    rw [p_ua_at]
    exact ⟨h2, Or.inl rfl⟩
  · rw [p_ua, if_neg e]
    exact h y (by omega)
theorem p_sp.nd {na nd nd' : Nat} {t : p_Sg} {D : Nat → Nat → Int32} {c : Nat → Int32} (h : p_sp na nd t) (hn : nd ≤ nd') : p_sp na nd' (t.1, D, c) := fun y hy => ⟨(h y hy).1, p_spot_mono (h y hy).2 hn⟩
theorem p_sp.mend {na nd x d : Nat} {t : p_Sg} {s : Int32} (h : p_sp na nd t) (hd : d < nd) (hs : p_in s 0 1) : p_sp na nd (p_mend t x d s) := h.set (fun e => absurd e (by decide)) (fun _ => p_spot_mk hd hs)
theorem p_sp.off {na nd x : Nat} {t : p_Sg} (h : p_sp na nd t) : p_sp na nd (p_off t x) := h.set (fun e => absurd e (by decide)) (fun _ => Or.inl rfl)
theorem p_sp.tl {na nd : Nat} {rd : Nat → Int32} (h5 : nd ≤ 5) : ∀ (j i : Nat) (t : p_Sg), p_sp na nd t → p_sp na nd (p_tl na nd rd j i t).2
  | 0, _, _, h => h
  | j + 1, i, t, h => by
    unfold p_tl
    split
    · rename_i ok
      refine p_sp.tl h5 j (i + 1) _ (h.mend ?_ ok.2.2.1)
      obtain ⟨y, hy, e⟩ := nI_of (x := rd (2 * i + 1) / 10) (Int32.not_lt.mpr ok.2.1.1)
      have h2 := ok.2.1.2
      rw [e] at h2
      have h3 := (nI_ltI hy (by omega)).mp h2
      show (rd (2 * i + 1) / 10).toNatClampNeg < nd
      rw [e, nI_clamp hy]
      exact h3
    · exact h
theorem p_sp.day {na nd : Nat} {t : p_Sg} (h : p_sp na nd t) (hnd : 0 < nd) : p_sp na nd (p_day na nd t) := by
  have hu : p_sp na nd (t.1, p_D1 t.2.1, p_u (p_u t.2.2 2 (t.2.2 2 + 1)) 3 (p_nx (p_nx (p_nx (t.2.2 3))))) := h
  unfold p_day
  dsimp only
  split
  · refine hu.mend (p_dr_lt hnd) ?_
    have := p_dr_lt (sd := p_nx (p_nx (t.2.2 3))) (c := 2) (by decide)
    exact ⟨nI_pos' (by omega), (nI_leI (b := 1) (by omega) (by decide)).mpr (by omega)⟩
  · split
    · exact hu.off
    · exact hu
theorem p_sp.days {na nd : Nat} (hnd : 0 < nd) : ∀ (n : Nat) (t : p_Sg), p_sp na nd t → p_sp na nd (p_dys na nd n t)
  | 0, _, h => h
  | n + 1, t, h => by
    unfold p_dys
    exact p_sp.days hnd n _ (h.day hnd)
theorem p_sp.item {tx : Nat → Int32} {n p na nd : Nat} {t : p_Sg} (h : p_sp na nd t) : (p_it tx n p na nd t).1 = none → p_sp (p_it tx n p na nd t).2.2.1 (p_it tx n p na nd t).2.2.2.1 (p_it tx n p na nd t).2.2.2.2 := by
  have hA : ∀ w q, (p_armI tx n w q na nd t).1 = none → p_sp (p_armI tx n w q na nd t).2.2.1 (p_armI tx n w q na nd t).2.2.2.1 (p_armI tx n w q na nd t).2.2.2.2 := fun w q => by
    unfold p_armI
    split
    · intro e; cases e
    · split
      · intro e; cases e
      · rename_i hN
        intro _
        have g := p_nmsF_all 6 0 hN 2 (by decide) (by decide)
        exact h.add g
  have hD : ∀ w q, (p_dollI tx n w q na nd t).1 = none → p_sp (p_dollI tx n w q na nd t).2.2.1 (p_dollI tx n w q na nd t).2.2.2.1 (p_dollI tx n w q na nd t).2.2.2.2 := fun w q => by
    unfold p_dollI
    split
    · intro e; cases e
    · split
      · intro e; cases e
      · intro _
        exact h.nd (Nat.le_succ nd)
  have hL : ∀ q, (p_lieI tx n q na nd t).1 = none → p_sp (p_lieI tx n q na nd t).2.2.1 (p_lieI tx n q na nd t).2.2.2.1 (p_lieI tx n q na nd t).2.2.2.2 := fun q => by
    unfold p_lieI
    repeat' split
    all_goals first | (intro e; cases e; done) | (intro _; exact h)
  have hF : ∀ q, (p_offI tx n q na nd t).1 = none → p_sp (p_offI tx n q na nd t).2.2.1 (p_offI tx n q na nd t).2.2.2.1 (p_offI tx n q na nd t).2.2.2.2 := fun q => by
    unfold p_offI
    repeat' split
    all_goals first | (intro e; cases e; done) | (intro _; exact h.off)
  have hO : ∀ q, (p_onI tx n q na nd t).1 = none → p_sp (p_onI tx n q na nd t).2.2.1 (p_onI tx n q na nd t).2.2.2.1 (p_onI tx n q na nd t).2.2.2.2 := fun q => by
    unfold p_onI
    repeat' split
    all_goals first
      | (intro e; cases e; done)
      | (rename_i c1 c2 _ _ c3 c4
         intro _
         exact h.set (fun e => absurd e (by decide)) (fun _ => p_spot_mk (Decidable.not_not.mp c3) (h _ (Decidable.not_not.mp c1)).1))
  have hz : ∀ (f : Nat) (q : Nat) (na' nd' : Nat) (t' : p_Sg), ((some f, q, na', nd', t') : p_IR).1 = none → False := fun f q na' nd' t' e => by cases e
  unfold p_it
  repeat' split
  all_goals first | exact hA _ _ | exact hD _ _ | exact hL _ | exact hF _ | exact hO _ | (intro e; exact (hz _ _ _ _ _ e).elim)
theorem p_sp.text {tx : Nat → Int32} {n : Nat} : ∀ (f it p na nd : Nat) (t : p_Sg), p_sp na nd t → (p_rA tx n f it p na nd t).1 = none → p_sp (p_rA tx n f it p na nd t).2.2.1 (p_rA tx n f it p na nd t).2.2.2.1 (p_rA tx n f it p na nd t).2.2.2.2
  | 0, it, p, na, nd, t, _, e => by cases e
  | f + 1, it, p, na, nd, t, h, e => by
    have hi := h.item (tx := tx) (n := n) (p := p)
    have er : p_rA tx n (f + 1) it p na nd t = p_rS tx n f it na nd t (p_it tx n p na nd t) := rfl
    rw [er] at e ⊢
    generalize p_it tx n p na nd t = res at hi e ⊢
    obtain ⟨o, p2, na3, nd3, t3⟩ := res
    cases o with
    | some g => cases e
    | none =>
      have hi : p_sp na3 nd3 t3 := hi rfl
      by_cases c : p2 = n
      · subst c
        rw [p_rS_n]
        exact hi
      · by_cases d : p_tc tx n p2 = 59
        · rw [p_rS_s c d] at e ⊢
          exact p_sp.text f (it + 1) (p2 + 1) na3 nd3 t3 hi e
        · rw [p_rS_b c d] at e
          cases e
