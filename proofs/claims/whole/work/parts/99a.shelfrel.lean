/-! shelves -/
theorem fr_ix7 {s : Int32} (h : p_in s 0 7) : p_ix s < 8 := by
  obtain ⟨k, hk, rfl⟩ := p_in_ex7 h
  rw [p_ix_n (by omega)]
  exact hk
theorem fr_S.new {m : fx_M} {na : Nat} {u : p_Sh} (S : fx_MSh m na u) (h1 : ∀ k, k < 8 → m.1 (67 + 2 * k) 1 = u.1 k) (h3 : ∀ k, k < 8 → m.1 (67 + 2 * k) 3 = u.2.1 k) (h2 : ∀ k, k < 8 → m.1 (67 + 2 * k) 2 = nI (u.2.2.1 k)) (hc : ∀ k, k < 8 → u.2.2.1 k ≤ 160) (hj : ∀ k, k < 8 → ∀ i, i < u.2.2.1 k → m.2.1 (67 + 2 * k + 1) i = u.2.2.2 k i) : fr_S m na := by
  have ec : ∀ k, k < 8 → p_ix (m.1 (67 + 2 * k) 2) = u.2.2.1 k := fun k hk => by rw [h2 k hk]; exact p_ix_n (by have := hc k hk; omega)
  refine ⟨fun k hk => by rw [ec k hk]; exact ⟨h2 k hk, hc k hk⟩, fun k hk => ?_⟩
  obtain ⟨q1, q2, q3⟩ := S k hk
  show m.1 100 k = p_hld (m.1 (67 + 2 * k) 1) (m.1 (67 + 2 * k) 3) ∧ (m.1 (67 + 2 * k) 1 ≠ -1 → m.1 (67 + 2 * k) 3 = -1 ∧ p_in (m.1 (67 + 2 * k) 1) 0 3 ∧ m.1 101 k = m.1 (67 + 2 * k) 1 ∧ m.1 102 k = nI (p_ix (m.1 (67 + 2 * k) 2)) ∧ p_ix (m.1 (67 + 2 * k) 2) ≤ 160 ∧ ∀ i, i < p_ix (m.1 (67 + 2 * k) 2) → m.2.1 104 (160 * k + i) = m.2.1 (67 + 2 * k + 1) i) ∧ (m.1 (67 + 2 * k) 1 = -1 → p_ix (m.1 (67 + 2 * k) 2) = 0 ∧ (m.1 (67 + 2 * k) 3 ≠ -1 → p_el (m.1 (67 + 2 * k) 3) (nI na) ∧ m.1 103 k = m.1 (67 + 2 * k) 3))
  rw [h1 k hk, h3 k hk, ec k hk]
  refine ⟨q1, fun h => ?_, q3⟩
  obtain ⟨a, b, c, d, e, f⟩ := q2 h
  exact ⟨a, b, c, d, e, fun i hi => (f i hi).trans (hj k hk i hi).symm⟩
theorem fr_R.shelf {m M m2 : fx_M} {na nd : Nat} (R : fr_R m na nd) (CM : fr_C (fun o => 67 ≤ o ∧ o < 83) (fun o => 67 ≤ o ∧ o < 83) m M) (K : fx_KQ M m2) (S : fr_S m2 na) : fr_R m2 na nd := by
  have CK : fr_C (fun o => 100 ≤ o ∧ o ≤ 103) (fun o => o = 104 ∨ o = 105) M m2 := ⟨fun o k v q => by rw [K.1]; exact CM.1 o k v q, fun o h => K.2.1 o h, fun o h => K.2.2 o h⟩
  have C : fr_C (fun o => (67 ≤ o ∧ o < 83) ∨ (100 ≤ o ∧ o ≤ 103)) (fun o => (67 ≤ o ∧ o < 83) ∨ o = 104 ∨ o = 105) m m2 := (CM.to (fun o h => Or.inl h) (fun o h => Or.inl h)).trans (CK.to (fun o h => Or.inr h) (fun o h => Or.inr h))
  obtain ⟨r1, r2, r3, r4, r5, r6, r7, r8, r9, r10, r11⟩ := R
  refine ⟨C.1, r2, r3.keep r2.1 r2.2 C (fun o h q => by omega) (r3.2.2.2.1.cg (fun o h => C.2.1 o (by omega)) (fun j _ => by rw [C.2.1 83 (by omega)])), ⟨fr_J.fr r4.1 C (fun o h q => by omega), fr_J.fr r4.2 C (fun o h q => by omega)⟩, S, fun b => ?_, ?_, r8.fr C (fun o h q => by omega) (by rw [C.2.1 83 (by omega)]), r9.fr C (fun o h q => by omega) (by rw [C.2.1 83 (by omega)]), fr_W.fr r10 C (fun o h q => by omega) (by rw [C.2.1 83 (by omega)]), fr_M.fr r11 C (fun o h q => by omega)⟩
  · rw [C.2.1 50 (by omega), C.2.1 84 (by omega)]; exact r6 b
  · rw [C.2.1 51 (by omega), C.2.1 83 (by omega)]; exact r7
theorem fr_hmS {m M : fx_M} {na nd b : Nat} (R : fr_R m na nd) (C : b = 0 → fr_C (fun o => 67 ≤ o ∧ o < 83) (fun o => 67 ≤ o ∧ o < 83) m M) : fx_Lay (fx_qm m b M) ∧ fx_MS (fx_qm m b M) na nd (fx_tC m) ∧ fx_MSh (fx_qm m b M) na (fx_uC m) ∧ (fx_qm m b M).1 83 44 = -1 ∧ fx_WC (fx_qm m b M) := R.mod (fr_C.qm R.1 C) (fun o h => by omega) (fun o h => by omega)
/-- the class's rows as the relation has them -/
theorem fr_R.cs {m : fx_M} {na nd : Nat} (R : fr_R m na nd) : ∀ k, k < 8 → m.1 (67 + 2 * k) 2 = nI ((fx_uC m).2.2.1 k) ∧ (fx_uC m).2.2.1 k ≤ 160 := R.2.2.2.2.1.1
-- row
theorem fr_rowX {s o n : Int32} (e : (q_row s o n).1 = 0) : p_in s 0 7 ∧ 0 ≤ n ∧ n ≤ 160 := by
  unfold q_row at e
  repeat' split at e
  all_goals first | (cases e; done) | skip
  all_goals (rename_i c1 c2 c3 c4; exact ⟨Decidable.not_not.mp c1, Decidable.not_not.mp c2, Decidable.not_not.mp c4⟩)
theorem fr_mRow_n {m : fx_M} {h a : Nat} {so nn : Int32} (ha : a ≠ h) : (fx_mRow m h so nn).1 a = m.1 a := by
  unfold fx_mRow
  show (fx_sI (fx_sI (fx_sI (fx_sI (fx_sI m h 1 (-1)) h 2 0) h 3 (-1)) h 1 so) h 2 nn).1 a = m.1 a
  rw [fx_sI_n _ _ _ ha, fx_sI_n _ _ _ ha, fx_sI_n _ _ _ ha, fx_sI_n _ _ _ ha, fx_sI_n _ _ _ ha]
theorem fr_rowC {m : fx_M} {na nd : Nat} {s o n : Int32} (R : fr_R m na nd) (e : (q_row s o n).1 = 0) : fr_C (fun o => 67 ≤ o ∧ o < 83) (fun o => 67 ≤ o ∧ o < 83) m (fx_mRow m (67 + 2 * p_ix s) o n) := by
  have h8 := fr_ix7 (fr_rowX e).1
  refine ⟨fun a k v q => R.1 a k v q, fun a ha => fr_mRow_n (by omega), fun a ha => funext fun b => ?_⟩
  show (if a = 67 + 2 * p_ix s + 1 ∧ b < 160 then 0 else m.2.1 a b) = m.2.1 a b
  rw [if_neg (by omega)]
theorem fr_row {m m2 : fx_M} {na nd : Nat} {s o n : Int32} (R : fr_R m na nd) (h1 : (q_row s o n).1 ≠ 0 → m2 = fx_mno (fx_qm m (q_row s o n).1 (fx_mRow m (67 + 2 * p_ix s) o n)) (q_row s o n).1) (h0 : (q_row s o n).1 = 0 → fx_MSh m2 na (p_shR (fx_uC m) (p_ix s) o (p_ix n)) ∧ fx_KQ (fx_qm m (q_row s o n).1 (fx_mRow m (67 + 2 * p_ix s) o n)) m2) : fx_Rel m2 := by
  refine R.wr h1 (fun e => ?_)
  obtain ⟨g1, g2⟩ := h0 e
  have CM := fr_rowC R e
  rw [fx_qm_0 e] at g2
  have hx := fr_rowX e
  have h8 := fr_ix7 hx.1
  obtain ⟨j, hj, rfl⟩ := p_in_ex (hi := 160) ⟨hx.2.1, hx.2.2⟩ (by decide)
  rw [p_ix_n (show j < 2 ^ 31 by omega)] at g1
  have hcs := R.cs
  have ei : ∀ k, k < 8 → ∀ q, m2.1 (67 + 2 * k) q = (fx_mRow m (67 + 2 * p_ix s) o (nI j)).1 (67 + 2 * k) q := fun k hk q => by rw [g2.2.1 _ (by omega)]
  have ev : ∀ q, (fx_mRow m (67 + 2 * p_ix s) o (nI j)).1 (67 + 2 * p_ix s) q = if q = 2 then nI j else if q = 1 then o else if q = 3 then -1 else m.1 (67 + 2 * p_ix s) q := fun q => by
    unfold fx_mRow
    simp only [fx_zJ, fx_sI, if_true]
    by_cases c2 : q = 2
    · simp [c2]
    · by_cases c1 : q = 1
      · simp [c1]
      · by_cases c3 : q = 3
        · simp [c3]
        · simp [c1, c2, c3]
  have eo : ∀ k, k < 8 → k ≠ p_ix s → ∀ q, m2.1 (67 + 2 * k) q = m.1 (67 + 2 * k) q := fun k hk hne q => by rw [ei k hk q, fr_mRow_n (by omega)]
  refine ⟨na, nd, R.shelf CM g2 (fr_S.new g1 (fun k hk => ?_) (fun k hk => ?_) (fun k hk => ?_) (fun k hk => ?_) (fun k hk i hi => ?_))⟩
  · show _ = p_u (fx_uC m).1 (p_ix s) o k
    unfold p_u
    by_cases c : k = p_ix s
    · rw [if_pos c, c, ei _ h8, ev, if_neg (by decide), if_pos rfl]
    · rw [if_neg c, eo k hk c]; rfl
  · show _ = p_u (fx_uC m).2.1 (p_ix s) (-1) k
    unfold p_u
    by_cases c : k = p_ix s
    · rw [if_pos c, c, ei _ h8, ev, if_neg (by decide), if_neg (by decide), if_pos rfl]
    · rw [if_neg c, eo k hk c]; rfl
  · show _ = nI (if k = p_ix s then j else (fx_uC m).2.2.1 k)
    by_cases c : k = p_ix s
    · rw [if_pos c, c, ei _ h8, ev, if_pos rfl]
    · rw [if_neg c, eo k hk c]; exact (hcs k hk).1
  · show (if k = p_ix s then j else (fx_uC m).2.2.1 k) ≤ 160
    by_cases c : k = p_ix s
    · rw [if_pos c]; exact hj
    · rw [if_neg c]; exact (hcs k hk).2
  · have hi : i < (if k = p_ix s then j else (fx_uC m).2.2.1 k) := hi
    show m2.2.1 _ i = if k = p_ix s then 0 else (fx_uC m).2.2.2 k i
    rw [g2.2.2 _ (by omega)]
    show (if 67 + 2 * k + 1 = 67 + 2 * p_ix s + 1 ∧ i < 160 then 0 else m.2.1 (67 + 2 * k + 1) i) = _
    by_cases c : k = p_ix s
    · rw [if_pos c] at hi
      rw [if_pos c, if_pos ⟨by rw [c], by omega⟩]
    · rw [if_neg c, if_neg (by omega)]; rfl
-- set
theorem fr_setX {so sa : Nat → Int32} {cn : Nat → Nat} {s i : Int32} (e : (q_set so sa cn s i).1 = 0) (hc : ∀ k, k < 8 → cn k ≤ 160) : p_ix s < 8 ∧ p_ix i < cn (p_ix s) := by
  unfold q_set at e
  split at e
  · rename_i hb
    have h8 := fr_ix7 (p_bR_0 hb).1
    split at e
    · cases e
    · rename_i c
      exact ⟨h8, fr_ix (Decidable.not_not.mp c) (by have := hc _ h8; omega)⟩
  · rename_i hb
    exact absurd e hb
theorem fr_setC {m : fx_M} {na nd : Nat} {so sa : Nat → Int32} {s i : Int32} {v : Int64} (R : fr_R m na nd) (e : (q_set so sa (fx_uC m).2.2.1 s i).1 = 0) : fr_C (fun o => 67 ≤ o ∧ o < 83) (fun o => 67 ≤ o ∧ o < 83) m (fx_sJ m (67 + 2 * p_ix s + 1) (p_ix i) v) := by
  have h8 := (fr_setX e (fun k hk => (R.cs k hk).2)).1
  refine ⟨fun a k v q => R.1 a k v q, fun a ha => rfl, fun a ha => funext fun b => ?_⟩
  show (if a = 67 + 2 * p_ix s + 1 then (if b = p_ix i then v else m.2.1 a b) else m.2.1 a b) = m.2.1 a b
  rw [if_neg (by omega)]
theorem fr_set {m m2 : fx_M} {na nd : Nat} {s i : Int32} {v : Int64} (R : fr_R m na nd) (h1 : (q_set (fx_uC m).1 (fx_uC m).2.1 (fx_uC m).2.2.1 s i).1 ≠ 0 → m2 = fx_mno (fx_qm m (q_set (fx_uC m).1 (fx_uC m).2.1 (fx_uC m).2.2.1 s i).1 (fx_sJ m (67 + 2 * p_ix s + 1) (p_ix i) (p_nw (m.1 (67 + 2 * p_ix s) 1) v))) (q_set (fx_uC m).1 (fx_uC m).2.1 (fx_uC m).2.2.1 s i).1)
    (h0 : (q_set (fx_uC m).1 (fx_uC m).2.1 (fx_uC m).2.2.1 s i).1 = 0 → fx_MSh m2 na (p_shE (fx_uC m) (p_ix s) (p_ix i) (p_nw ((fx_uC m).1 (p_ix s)) v)) ∧ fx_KQ (fx_qm m (q_set (fx_uC m).1 (fx_uC m).2.1 (fx_uC m).2.2.1 s i).1 (fx_sJ m (67 + 2 * p_ix s + 1) (p_ix i) (p_nw (m.1 (67 + 2 * p_ix s) 1) v))) m2) : fx_Rel m2 := by
  refine R.wr h1 (fun e => ?_)
  obtain ⟨g1, g2⟩ := h0 e
  have CM := fr_setC (v := p_nw (m.1 (67 + 2 * p_ix s) 1) v) R e
  rw [fx_qm_0 e] at g2
  have hcs := R.cs
  have ei : ∀ k, k < 8 → m2.1 (67 + 2 * k) = m.1 (67 + 2 * k) := fun k hk => by rw [g2.2.1 _ (by omega)]; rfl
  refine ⟨na, nd, R.shelf CM g2 (fr_S.new g1 (fun k hk => by rw [ei k hk]; rfl) (fun k hk => by rw [ei k hk]; rfl) (fun k hk => by rw [ei k hk]; exact (hcs k hk).1) (fun k hk => (hcs k hk).2) (fun k hk j hj => ?_))⟩
  rw [g2.2.2 _ (by omega)]
  show (if 67 + 2 * k + 1 = 67 + 2 * p_ix s + 1 then (if j = p_ix i then p_nw (m.1 (67 + 2 * p_ix s) 1) v else m.2.1 (67 + 2 * k + 1) j) else m.2.1 (67 + 2 * k + 1) j) = if k = p_ix s ∧ j = p_ix i then p_nw ((fx_uC m).1 (p_ix s)) v else (fx_uC m).2.2.2 k j
  by_cases c : k = p_ix s
  · by_cases d : j = p_ix i
    · rw [if_pos (by rw [c]), if_pos d, if_pos ⟨c, d⟩]; rfl
    · rw [if_pos (by rw [c]), if_neg d, if_neg (fun q => d q.2)]; rfl
  · rw [if_neg (by omega), if_neg (fun q => c q.1)]; rfl
-- copy
theorem fr_copyX {so sa : Nat → Int32} {cn : Nat → Nat} {p q i j n : Int32} (e : (q_copy so sa cn p q i j n).1 = 0) : p_ix p < 8 ∧ p_ix q < 8 := by
  unfold q_copy at e
  split at e
  · rename_i hb
    exact ⟨fr_ix7 (p_bC_0 hb).1, fr_ix7 (p_bC_0 hb).2⟩
  · rename_i hb
    exact absurd e hb
theorem fr_copyC {m : fx_M} {na nd : Nat} {so sa : Nat → Int32} {cn : Nat → Nat} {p q i j n : Int32} (R : fr_R m na nd) (e : (q_copy so sa cn p q i j n).1 = 0) : fr_C (fun o => 67 ≤ o ∧ o < 83) (fun o => 67 ≤ o ∧ o < 83) m (fx_cpJ m (67 + 2 * p_ix p + 1) (67 + 2 * p_ix q + 1) (p_ix i) (p_ix j) (p_ix n)) := by
  have h8 := (fr_copyX e).2
  refine ⟨fun a k v q => R.1 a k v q, fun a ha => rfl, fun a ha => funext fun b => ?_⟩
  show (if a = 67 + 2 * p_ix q + 1 then _ else m.2.1 a b) = m.2.1 a b
  rw [if_neg (by omega)]
theorem fr_copy {m m2 : fx_M} {na nd : Nat} {p q i j n : Int32} (R : fr_R m na nd) (h1 : (q_copy (fx_uC m).1 (fx_uC m).2.1 (fx_uC m).2.2.1 p q i j n).1 ≠ 0 → m2 = fx_mno (fx_qm m (q_copy (fx_uC m).1 (fx_uC m).2.1 (fx_uC m).2.2.1 p q i j n).1 (fx_cpJ m (67 + 2 * p_ix p + 1) (67 + 2 * p_ix q + 1) (p_ix i) (p_ix j) (p_ix n))) (q_copy (fx_uC m).1 (fx_uC m).2.1 (fx_uC m).2.2.1 p q i j n).1)
    (h0 : (q_copy (fx_uC m).1 (fx_uC m).2.1 (fx_uC m).2.2.1 p q i j n).1 = 0 → fx_MSh m2 na (p_shC (fx_uC m) (p_ix p) (p_ix q) (p_ix i) (p_ix j) (p_ix n)) ∧ fx_KQ (fx_qm m (q_copy (fx_uC m).1 (fx_uC m).2.1 (fx_uC m).2.2.1 p q i j n).1 (fx_cpJ m (67 + 2 * p_ix p + 1) (67 + 2 * p_ix q + 1) (p_ix i) (p_ix j) (p_ix n))) m2) : fx_Rel m2 := by
  refine R.wr h1 (fun e => ?_)
  obtain ⟨g1, g2⟩ := h0 e
  have CM := fr_copyC (i := i) (j := j) (n := n) R e
  rw [fx_qm_0 e] at g2
  have hcs := R.cs
  have ei : ∀ k, k < 8 → m2.1 (67 + 2 * k) = m.1 (67 + 2 * k) := fun k hk => by rw [g2.2.1 _ (by omega)]; rfl
  refine ⟨na, nd, R.shelf CM g2 (fr_S.new g1 (fun k hk => by rw [ei k hk]; rfl) (fun k hk => by rw [ei k hk]; rfl) (fun k hk => by rw [ei k hk]; exact (hcs k hk).1) (fun k hk => (hcs k hk).2) (fun k hk b hb => ?_))⟩
  rw [g2.2.2 _ (by omega)]
  show (if 67 + 2 * k + 1 = 67 + 2 * p_ix q + 1 then va_cpy (m.2.1 (67 + 2 * p_ix p + 1)) (m.2.1 (67 + 2 * p_ix q + 1)) (p_ix i) (p_ix j) (p_ix n) b else m.2.1 (67 + 2 * k + 1) b) = if k = p_ix q ∧ p_ix j ≤ b ∧ b < p_ix j + p_ix n then (fx_uC m).2.2.2 (p_ix p) (p_ix i + (b - p_ix j)) else (fx_uC m).2.2.2 k b
  by_cases c : k = p_ix q
  · rw [if_pos (by rw [c])]
    unfold va_cpy
    by_cases d : p_ix j ≤ b ∧ b < p_ix j + p_ix n
    · rw [if_pos d, if_pos ⟨c, d⟩]; rfl
    · rw [if_neg d, if_neg (fun h => d h.2), c]; rfl
  · rw [if_neg (by omega), if_neg (fun h => c h.1)]; rfl
-- show
theorem fr_showX {na : Nat} {s x : Int32} (e : (q_show na s x).1 = 0) : p_ix s < 8 := by
  unfold q_show at e
  split at e
  · cases e
  · rename_i c
    exact fr_ix7 (Decidable.not_not.mp c)
theorem fr_mShow_n {m : fx_M} {h a : Nat} {x : Int32} (ha : a ≠ h) : (fx_mShow m h x).1 a = m.1 a := by
  unfold fx_mShow
  split
  · rw [fx_sI_n _ _ _ ha, fx_sI_n _ _ _ ha, fx_sI_n _ _ _ ha]
  · rw [fx_sI_n _ _ _ ha, fx_sI_n _ _ _ ha, fx_sI_n _ _ _ ha, fx_sI_n _ _ _ ha]
theorem fr_mShow_2 {m : fx_M} {h : Nat} {x : Int32} : (fx_mShow m h x).2 = m.2 := by
  unfold fx_mShow
  split <;> rfl
theorem fr_mShow_v {m : fx_M} {h : Nat} {x : Int32} (q : Nat) : (fx_mShow m h x).1 h q = if q = 1 then -1 else if q = 2 then 0 else if q = 3 then x else m.1 h q := by
  unfold fx_mShow
  by_cases c : x = -1
  · rw [if_pos c, c]
    simp only [fx_sI, if_true]
    by_cases c3 : q = 3
    · simp [c3]
    · by_cases c2 : q = 2
      · simp [c2]
      · simp [c2, c3]
  · rw [if_neg c]
    simp only [fx_sI, if_true]
    by_cases c3 : q = 3
    · simp [c3]
    · by_cases c2 : q = 2
      · simp [c2]
      · simp [c2, c3]
theorem fr_showC {m : fx_M} {na nd : Nat} {s x : Int32} (R : fr_R m na nd) (e : (q_show na s x).1 = 0) : fr_C (fun o => 67 ≤ o ∧ o < 83) (fun o => 67 ≤ o ∧ o < 83) m (fx_mShow m (67 + 2 * p_ix s) x) := by
  have h8 := fr_showX e
  exact fr_C.of2 R.1 fr_mShow_2 (fun a ha => fr_mShow_n (by omega))
theorem fr_show {m m2 : fx_M} {na nd : Nat} {s x : Int32} (R : fr_R m na nd) (h1 : (q_show na s x).1 ≠ 0 → m2 = fx_mno (fx_qm m (q_show na s x).1 (fx_mShow m (67 + 2 * p_ix s) x)) (q_show na s x).1) (h0 : (q_show na s x).1 = 0 → fx_MSh m2 na (p_shS (fx_uC m) (p_ix s) x) ∧ fx_KQ (fx_qm m (q_show na s x).1 (fx_mShow m (67 + 2 * p_ix s) x)) m2) : fx_Rel m2 := by
  refine R.wr h1 (fun e => ?_)
  obtain ⟨g1, g2⟩ := h0 e
  have CM := fr_showC R e
  rw [fx_qm_0 e] at g2
  have h8 := fr_showX e
  have hcs := R.cs
  have ei : ∀ k, k < 8 → ∀ q, m2.1 (67 + 2 * k) q = (fx_mShow m (67 + 2 * p_ix s) x).1 (67 + 2 * k) q := fun k hk q => by rw [g2.2.1 _ (by omega)]
  have eo : ∀ k, k < 8 → k ≠ p_ix s → ∀ q, m2.1 (67 + 2 * k) q = m.1 (67 + 2 * k) q := fun k hk hne q => by rw [ei k hk q, fr_mShow_n (by omega)]
  refine ⟨na, nd, R.shelf CM g2 (fr_S.new g1 (fun k hk => ?_) (fun k hk => ?_) (fun k hk => ?_) (fun k hk => ?_) (fun k hk i hi => ?_))⟩
  · show _ = p_u (fx_uC m).1 (p_ix s) (-1) k
    unfold p_u
    by_cases c : k = p_ix s
    · rw [if_pos c, c, ei _ h8, fr_mShow_v, if_pos rfl]
    · rw [if_neg c, eo k hk c]; rfl
  · show _ = p_u (fx_uC m).2.1 (p_ix s) x k
    unfold p_u
    by_cases c : k = p_ix s
    · rw [if_pos c, c, ei _ h8, fr_mShow_v, if_neg (by decide), if_neg (by decide), if_pos rfl]
    · rw [if_neg c, eo k hk c]; rfl
  · show _ = nI (if k = p_ix s then 0 else (fx_uC m).2.2.1 k)
    by_cases c : k = p_ix s
    · rw [if_pos c, c, ei _ h8, fr_mShow_v, if_neg (by decide), if_pos rfl]; rfl
    · rw [if_neg c, eo k hk c]; exact (hcs k hk).1
  · show (if k = p_ix s then 0 else (fx_uC m).2.2.1 k) ≤ 160
    by_cases c : k = p_ix s
    · rw [if_pos c]; decide
    · rw [if_neg c]; exact (hcs k hk).2
  · show m2.2.1 _ i = (fx_uC m).2.2.2 k i
    rw [g2.2.2 _ (by omega), fr_mShow_2]
    rfl
