theorem fr_C.KF {m m' : fx_M} (hL : fx_Lay m) (K : fx_KF m m') : fr_C (fun o => 83 ≤ o ∧ ¬ (o = 84 ∨ (100 ≤ o ∧ o ≤ 103) ∨ (106 ≤ o ∧ o ≤ 109) ∨ o = 112 ∨ o = 118)) (fun _ => False) m m' := fr_C.of2 hL K.1 (fun o h => K.2.1 o (by omega))
theorem fr_C.fr {S : Nat} {m m' : fx_M} (hL : fx_Lay m) (f : fx_fr S m m') : fr_C (fun o => S ≤ o ∧ o < S + 16) (fun _ => False) m m' := fr_C.of2 hL f.1 (fun o h => f.2.1 o (by omega))
theorem fr_C.oP {P : Nat → Prop} {m m' : fx_M} (hL : fx_Lay m) (f : fx_oP P m m') : fr_C P (fun _ => False) m m' := fr_C.of2 hL f.1 f.2
theorem fx_qm_0 {m M : fx_M} {b : Nat} (h : b = 0) : fx_qm m b M = M := if_pos h
theorem fr_qm_n {m M : fx_M} {b : Nat} (h : b ≠ 0) : fx_qm m b M = fx_no m b := by rw [fx_no_n h]; exact if_neg h
theorem fr_C.qm {X Y : Nat → Prop} {m M : fx_M} {b : Nat} (hL : fx_Lay m) (C : b = 0 → fr_C X Y m M) : fr_C (fun o => X o ∨ o = 50) Y m (fx_qm m b M) := by
  by_cases c : b = 0
  · rw [fx_qm_0 c]; exact (C c).to (fun o h => Or.inl h) (fun o h => h)
  · rw [fr_qm_n c]; exact (fr_C.no hL b).to (fun o h => Or.inr h) (fun o h => h.elim)
theorem fr_R.H {m : fx_M} {na nd : Nat} (R : fr_R m na nd) : fx_HT m 1 na nd (fx_tC m) := ⟨R.2.2.1.1, R.2.2.1.2.1, fun _ _ => rfl, fun _ _ => rfl, fun _ _ => rfl⟩
theorem fr_R.sp {m : fx_M} {na nd : Nat} (R : fr_R m na nd) : p_sp na nd (fx_tC m) := R.2.2.1.2.2.2.2
theorem fr_HT.cg {m m' : fx_M} {na nd : Nat} {t : p_Sg} (H : fx_HT m 1 na nd t) (h8 : na ≤ 8) (h5 : nd ≤ 5) (h : ∀ o, o < 17 → m'.1 o = m.1 o) : fx_HT m' 1 na nd t := ⟨by rw [h 1 (by omega)]; exact H.1, by rw [h 1 (by omega)]; exact H.2.1, fun x hx => by rw [h _ (by omega)]; exact H.2.2.1 x hx, fun d hd => by rw [h _ (by omega)]; exact H.2.2.2.1 d hd, fun k hk => by rw [h 1 (by omega)]; exact H.2.2.2.2 k hk⟩
/-- a stock that has changed, on both sides -/
theorem fr_R.stock {m M m2 : fx_M} {na nd na' nd' : Nat} {t : p_Sg} (R : fr_R m na nd) (CM : fr_C (fun o => (1 ≤ o ∧ o < 17) ∨ (33 ≤ o ∧ o < 49)) (fun _ => False) m M) (H : fx_HT M 1 na' nd' t) (J : fx_J 1 M) (J33 : fx_J 33 M) (K : fx_KF M m2) (MS : fx_MS m2 na' nd' t) (sp : p_sp na' nd' t) (hn : na ≤ na') (h8 : na' ≤ 8) (h5 : nd' ≤ 5) : fr_R m2 na' nd' := by
  have CK := fr_C.KF CM.1 K
  have C : fr_C (fun o => (1 ≤ o ∧ o < 17) ∨ (33 ≤ o ∧ o < 49) ∨ (83 ≤ o ∧ ¬ (o = 84 ∨ (100 ≤ o ∧ o ≤ 103) ∨ (106 ≤ o ∧ o ≤ 109) ∨ o = 112 ∨ o = 118))) (fun _ => False) m m2 := (CM.to (fun o h => by omega) (fun _ h => h)).trans (CK.to (fun o h => by omega) (fun _ h => h))
  have e83 : ∀ j, (j = 6 ∨ j = 44 ∨ j = 49 ∨ j = 50) → m2.1 83 j = m.1 83 j := fun j hj => (K.2.2 j hj).trans (by rw [CM.2.1 83 (by omega)])
  have el : ∀ o, o < 83 → m2.1 o = M.1 o := fun o ho => K.2.1 o (Or.inl ho)
  obtain ⟨r1, r2, r3, r4, r5, r6, r7, r8, r9, r10, r11⟩ := R
  refine ⟨C.1, ⟨h8, h5⟩, fr_A.new (fr_HT.cg H h8 h5 (fun o ho => el o (by omega))) (fun o k h => by rw [el o (by omega)]; exact J o k h) MS sp, ⟨fr_J.fr r4.1 C (fun o h q => by omega), fun o k h => by rw [el o (by omega)]; exact J33 o k h⟩, r5.fr C (fun o h q => by omega) (fun _ h _ => h) hn (by omega), fun b => ?_, ?_, r8.fr C (fun o h q => by omega) (e83 49 (by omega)), r9.fr C (fun o h q => by omega) (e83 50 (by omega)), fr_W.fr r10 C (fun o h q => by omega) (e83 44 (by omega)), fr_M.fr r11 C (fun o h q => by omega)⟩
  · rw [C.2.1 50 (by omega), C.2.1 84 (by omega)]; exact r6 b
  · rw [C.2.1 51 (by omega), e83 6 (by omega)]; exact r7
/-- a call that is refused, or changes the stock -/
theorem fr_R.wr {m M m2 : fx_M} {na nd b : Nat} (R : fr_R m na nd) (h1 : b ≠ 0 → m2 = fx_mno (fx_qm m b M) b) (h0 : b = 0 → fx_Rel m2) : fx_Rel m2 := by
  by_cases c : b = 0
  · exact h0 c
  · rw [h1 c, fr_qm_n c]
    exact ⟨na, nd, R.q b⟩
theorem fr_ix {x : Int32} {n : Nat} (h : p_el x (nI n)) (hn : n < 2 ^ 31) : p_ix x < n := by
  obtain ⟨j, hj, rfl⟩ := p_el_ex h hn
  rw [p_ix_n (by omega)]
  exact hj
theorem fr_J1sI {m : fx_M} {o k : Nat} {v : Int32} (J : fx_J 1 m) (h : ∀ q, (1 + 3 ≤ o ∧ o < 1 + 11 ∧ 7 ≤ q) ∨ (1 + 11 ≤ o ∧ o < 1 + 16 ∧ 8 ≤ q) → q ≠ k) : fx_J 1 (fx_sI m o k v) := fun a j hj => by
  by_cases c : a = o
  · subst c
    rw [fx_rd2 (Ne.symm (h j hj))]; exact J a j hj
  · rw [fx_sI_n _ _ _ c]; exact J a j hj
theorem fr_J33sI {m : fx_M} {o k : Nat} {v : Int32} (J : fx_J 33 m) (h : o < 17) : fx_J 33 (fx_sI m o k v) := fun a j hj => by rw [fx_sI_n _ _ _ (by omega)]; exact J a j hj
theorem fr_C1 {m : fx_M} {o k : Nat} {v : Int32} (hL : fx_Lay m) (h : 1 ≤ o ∧ o < 17) : fr_C (fun o => (1 ≤ o ∧ o < 17) ∨ (33 ≤ o ∧ o < 49)) (fun _ => False) m (fx_sI m o k v) := fr_C.of2 hL rfl (fun a ha => fx_sI_n _ _ _ (fun e => ha (by rw [e]; exact Or.inl h)))
theorem fr_hm {m M : fx_M} {na nd b : Nat} (R : fr_R m na nd) (C : b = 0 → fr_C (fun o => (1 ≤ o ∧ o < 17) ∨ (33 ≤ o ∧ o < 49)) (fun _ => False) m M) : fx_Lay (fx_qm m b M) ∧ fx_MS (fx_qm m b M) na nd (fx_tC m) ∧ fx_MSh (fx_qm m b M) na (fx_uC m) ∧ (fx_qm m b M).1 83 44 = -1 ∧ fx_WC (fx_qm m b M) := R.mod (fr_C.qm R.1 C) (fun o h => by omega) (fun _ h => h.elim)
theorem fr_arm {m m2 : fx_M} {na nd : Nat} {k a s z h w : Int32} (R : fr_R m na nd) (h1 : (q_arm na k a s z h w).1 ≠ 0 → m2 = fx_mno (fx_qm m (q_arm na k a s z h w).1 (fx_mArm m 1 na k a s z h w)) (q_arm na k a s z h w).1)
    (h0 : (q_arm na k a s z h w).1 = 0 → fx_MS m2 (na + 1) nd (p_ua (fx_tC m).1 na (p_recA (fun i => if i = 0 then k else if i = 1 then a else if i = 2 then s else if i = 3 then z else if i = 4 then h else if i = 5 then w else 0)), (fx_tC m).2.1, (fx_tC m).2.2) ∧ fx_KF (fx_qm m (q_arm na k a s z h w).1 (fx_mArm m 1 na k a s z h w)) m2) : fx_Rel m2 := by
  refine R.wr h1 (fun e => ?_)
  have g := h0 e
  rw [fx_qm_0 e] at g
  have hna : na < 8 := by
    unfold q_arm at e
    repeat' split at e
    all_goals first | (cases e; done) | skip
    all_goals (rename_i c; exact Decidable.not_not.mp c)
  have H := fx_HS.arm R.H R.2.2.1.2.2.1 hna (fun i => if i = 0 then k else if i = 1 then a else if i = 2 then s else if i = 3 then z else if i = 4 then h else if i = 5 then w else 0)
  have gA := g.1.2.2.2.2.2.2.2.1 na (Nat.lt_succ_self na)
  have gA2 : p_in s 0 1 := by
    have q := gA.2.2.1
    rw [show ((p_ua (fx_tC m).1 na (p_recA (fun i => if i = 0 then k else if i = 1 then a else if i = 2 then s else if i = 3 then z else if i = 4 then h else if i = 5 then w else 0)), (fx_tC m).2.1, (fx_tC m).2.2) : p_Sg).1 na = p_recA (fun i => if i = 0 then k else if i = 1 then a else if i = 2 then s else if i = 3 then z else if i = 4 then h else if i = 5 then w else 0) from p_ua_at] at q
    exact q
  have CM : fr_C (fun o => (1 ≤ o ∧ o < 17) ∨ (33 ≤ o ∧ o < 49)) (fun _ => False) m (fx_mArm m 1 na k a s z h w) := fr_C.of2 R.1 rfl (fun o ho => fx_mArm_n (by omega) (by omega))
  exact ⟨na + 1, nd, R.stock (t := (p_ua (fx_tC m).1 na (p_recA (fun i => if i = 0 then k else if i = 1 then a else if i = 2 then s else if i = 3 then z else if i = 4 then h else if i = 5 then w else 0)), (fx_tC m).2.1, (fx_tC m).2.2)) CM H.1 H.2 (fr_J.fr (X := fun o => (1 ≤ o ∧ o < 17)) (Y := fun _ => False) R.2.2.2.1.2 (fr_C.of2 R.1 rfl (fun o ho => fx_mArm_n (by omega) (by omega))) (fun o h q => by omega)) g.2 g.1 (R.sp.add gA2) (by omega) (by omega) R.2.1.2⟩
theorem fr_armC {m : fx_M} {na nd : Nat} {k a s z h w : Int32} (R : fr_R m na nd) (e : (q_arm na k a s z h w).1 = 0) : fr_C (fun o => (1 ≤ o ∧ o < 17) ∨ (33 ≤ o ∧ o < 49)) (fun _ => False) m (fx_mArm m 1 na k a s z h w) := by
  have hna : na < 8 := by
    unfold q_arm at e
    repeat' split at e
    all_goals first | (cases e; done) | skip
    all_goals (rename_i c; exact Decidable.not_not.mp c)
  exact fr_C.of2 R.1 rfl (fun o ho => fx_mArm_n (by omega) (by omega))
theorem fr_doll5 {nd : Nat} {z h w v n t b : Int32} (e : (q_doll nd z h w v n t b).1 = 0) : nd < 5 := by
  unfold q_doll at e
  repeat' split at e
  all_goals first | (cases e; done) | skip
  all_goals (rename_i c; exact Decidable.not_not.mp c)
theorem fr_dollC {m : fx_M} {na nd : Nat} {z h w v n t b : Int32} (R : fr_R m na nd) (e : (q_doll nd z h w v n t b).1 = 0) : fr_C (fun o => (1 ≤ o ∧ o < 17) ∨ (33 ≤ o ∧ o < 49)) (fun _ => False) m (fx_mDoll m 1 nd z h w v n t b) := by
  have := fr_doll5 e
  exact fr_C.of2 R.1 rfl (fun o ho => fx_mDoll_n (by omega) (by omega))
theorem fr_doll {m m2 : fx_M} {na nd : Nat} {z h w v n t b : Int32} (R : fr_R m na nd) (h1 : (q_doll nd z h w v n t b).1 ≠ 0 → m2 = fx_mno (fx_qm m (q_doll nd z h w v n t b).1 (fx_mDoll m 1 nd z h w v n t b)) (q_doll nd z h w v n t b).1)
    (h0 : (q_doll nd z h w v n t b).1 = 0 → fx_MS m2 na (nd + 1) ((fx_tC m).1, p_ua (fx_tC m).2.1 nd (p_recD (fun i => if i = 0 then z else if i = 1 then h else if i = 2 then w else if i = 3 then v else if i = 4 then n else if i = 5 then t else if i = 6 then b else 0)), (fx_tC m).2.2) ∧ fx_KF (fx_qm m (q_doll nd z h w v n t b).1 (fx_mDoll m 1 nd z h w v n t b)) m2) : fx_Rel m2 := by
  refine R.wr h1 (fun e => ?_)
  have g := h0 e
  have CM := fr_dollC (na := na) R e
  rw [fx_qm_0 e] at g
  have hnd := fr_doll5 e
  have H := fx_HS.doll R.H R.2.2.1.2.2.1 R.2.1.1 hnd (fun i => if i = 0 then z else if i = 1 then h else if i = 2 then w else if i = 3 then v else if i = 4 then n else if i = 5 then t else if i = 6 then b else 0)
  exact ⟨na, nd + 1, R.stock (t := ((fx_tC m).1, p_ua (fx_tC m).2.1 nd (p_recD (fun i => if i = 0 then z else if i = 1 then h else if i = 2 then w else if i = 3 then v else if i = 4 then n else if i = 5 then t else if i = 6 then b else 0)), (fx_tC m).2.2)) CM H.1 H.2 (fun o k hk => by rw [show (fx_mDoll m 1 nd z h w v n t b).1 o = m.1 o from fx_mDoll_n (by omega) (by omega)]; exact R.2.2.2.1.2 o k hk) g.2 g.1 (R.sp.nd (Nat.le_succ nd)) (Nat.le_refl _) R.2.1.1 (by omega)⟩
theorem fr_dyeX {A : Nat → Nat → Int32} {na : Nat} {x w v : Int32} (h8 : na ≤ 8) (e : (q_dye A na x w v).1 = 0) : p_ix x < na := by
  unfold q_dye at e
  split at e
  · cases e
  · rename_i c
    exact fr_ix (Decidable.not_not.mp c) (by omega)
theorem fr_dyeC {m : fx_M} {na nd : Nat} {x w v : Int32} (R : fr_R m na nd) (e : (q_dye (fx_ar m 1) na x w v).1 = 0) : fr_C (fun o => (1 ≤ o ∧ o < 17) ∨ (33 ≤ o ∧ o < 49)) (fun _ => False) m (fx_sI m (1 + 3 + p_ix x) (p_dyI w) v) := fr_C1 R.1 (by have := fr_dyeX R.2.1.1 e; have := R.2.1.1; omega)
theorem fr_dy45 (w : Int32) : p_dyI w = 4 ∨ p_dyI w = 5 := by
  unfold p_dyI
  split
  · exact Or.inl rfl
  · exact Or.inr rfl
theorem fr_dye {m m2 : fx_M} {na nd : Nat} {x w v : Int32} (R : fr_R m na nd) (h1 : (q_dye (fx_ar m 1) na x w v).1 ≠ 0 → m2 = fx_mno (fx_qm m (q_dye (fx_ar m 1) na x w v).1 (fx_sI m (1 + 3 + p_ix x) (p_dyI w) v)) (q_dye (fx_ar m 1) na x w v).1)
    (h0 : (q_dye (fx_ar m 1) na x w v).1 = 0 → fx_MS m2 na nd (p_ua (fx_tC m).1 (p_ix x) (p_u ((fx_tC m).1 (p_ix x)) (p_dyI w) v), (fx_tC m).2.1, (fx_tC m).2.2) ∧ fx_KF (fx_qm m (q_dye (fx_ar m 1) na x w v).1 (fx_sI m (1 + 3 + p_ix x) (p_dyI w) v)) m2) : fx_Rel m2 := by
  refine R.wr h1 (fun e => ?_)
  have g := h0 e
  have CM := fr_dyeC R e
  rw [fx_qm_0 e] at g
  have hx := fr_dyeX R.2.1.1 e
  have h8 := R.2.1.1
  have d := fr_dy45 w
  exact ⟨na, nd, R.stock CM (R.H.sArm hx h8) (fr_J1sI R.2.2.1.2.2.1 (fun q hq => by omega)) (fr_J33sI R.2.2.2.1.2 (by omega)) g.2 g.1 (R.sp.set (fun q => by omega) (fun q => by omega)) (Nat.le_refl _) h8 R.2.1.2⟩
theorem fr_tellX {D : Nat → Nat → Int32} {nd : Nat} {x w v : Int32} (h5 : nd ≤ 5) (e : (q_tell D nd x w v).1 = 0) : p_ix x < nd := by
  unfold q_tell at e
  split at e
  · cases e
  · rename_i c
    exact fr_ix (Decidable.not_not.mp c) (by omega)
theorem fr_tellC {m : fx_M} {na nd : Nat} {x w v : Int32} (R : fr_R m na nd) (e : (q_tell (fx_dr m 1) nd x w v).1 = 0) : fr_C (fun o => (1 ≤ o ∧ o < 17) ∨ (33 ≤ o ∧ o < 49)) (fun _ => False) m (fx_sI m (1 + 11 + p_ix x) (p_retI w) v) := fr_C1 R.1 (by have := fr_tellX R.2.1.2 e; have := R.2.1.2; omega)
theorem fr_ret8 (w : Int32) : p_retI w < 8 := by
  unfold p_retI
  repeat' split
  all_goals decide
theorem fr_tell {m m2 : fx_M} {na nd : Nat} {x w v : Int32} (R : fr_R m na nd) (h1 : (q_tell (fx_dr m 1) nd x w v).1 ≠ 0 → m2 = fx_mno (fx_qm m (q_tell (fx_dr m 1) nd x w v).1 (fx_sI m (1 + 11 + p_ix x) (p_retI w) v)) (q_tell (fx_dr m 1) nd x w v).1)
    (h0 : (q_tell (fx_dr m 1) nd x w v).1 = 0 → fx_MS m2 na nd ((fx_tC m).1, p_ua (fx_tC m).2.1 (p_ix x) (p_u ((fx_tC m).2.1 (p_ix x)) (p_retI w) v), (fx_tC m).2.2) ∧ fx_KF (fx_qm m (q_tell (fx_dr m 1) nd x w v).1 (fx_sI m (1 + 11 + p_ix x) (p_retI w) v)) m2) : fx_Rel m2 := by
  refine R.wr h1 (fun e => ?_)
  have g := h0 e
  have CM := fr_tellC R e
  rw [fx_qm_0 e] at g
  have hx := fr_tellX R.2.1.2 e
  have h8 := R.2.1.1
  have h5 := R.2.1.2
  have d := fr_ret8 w
  exact ⟨na, nd, R.stock CM (R.H.sDoll hx h8) (fr_J1sI R.2.2.1.2.2.1 (fun q hq => by omega)) (fr_J33sI R.2.2.2.1.2 (by omega)) g.2 g.1 (R.sp.nd (Nat.le_refl _)) (Nat.le_refl _) h8 R.2.1.2⟩
theorem fr_mendX {A D : Nat → Nat → Int32} {na nd : Nat} {sp x d s : Int32} (h8 : na ≤ 8) (h5 : nd ≤ 5) (e : (q_mend A D na nd sp x d s).1 = 0) : p_ix x < na ∧ p_ix d < nd ∧ p_in s 0 1 := by
  unfold q_mend at e
  repeat' split at e
  all_goals first | (cases e; done) | skip
  all_goals (rename_i c1 c2 c3 c4; exact ⟨fr_ix (Decidable.not_not.mp c1) (by omega), fr_ix (Decidable.not_not.mp c2) (by omega), Decidable.not_not.mp c3⟩)
theorem fr_mendC {m : fx_M} {na nd : Nat} {sp x d s : Int32} (R : fr_R m na nd) (e : (q_mend (fx_ar m 1) (fx_dr m 1) na nd sp x d s).1 = 0) : fr_C (fun o => (1 ≤ o ∧ o < 17) ∨ (33 ≤ o ∧ o < 49)) (fun _ => False) m (fx_mMend m 1 (p_ix x) (p_ix d) s) := by
  have hx := fr_mendX R.2.1.1 R.2.1.2 e
  have h8 := R.2.1.1
  exact (fr_C.fr R.1 ((fx_fr.refl 1 m).mend (by omega))).to (fun o h => by omega) (fun _ h => h)
theorem fr_mend {m m2 : fx_M} {na nd : Nat} {x d s : Int32} (R : fr_R m na nd) (h1 : (q_mend (fx_ar m 1) (fx_dr m 1) na nd (m.1 1 5) x d s).1 ≠ 0 → m2 = fx_mno (fx_qm m (q_mend (fx_ar m 1) (fx_dr m 1) na nd (m.1 1 5) x d s).1 (fx_mMend m 1 (p_ix x) (p_ix d) s)) (q_mend (fx_ar m 1) (fx_dr m 1) na nd (m.1 1 5) x d s).1)
    (h0 : (q_mend (fx_ar m 1) (fx_dr m 1) na nd (m.1 1 5) x d s).1 = 0 → fx_MS m2 na nd (p_mend (fx_tC m) (p_ix x) (p_ix d) s) ∧ fx_KF (fx_qm m (q_mend (fx_ar m 1) (fx_dr m 1) na nd (m.1 1 5) x d s).1 (fx_mMend m 1 (p_ix x) (p_ix d) s)) m2) : fx_Rel m2 := by
  refine R.wr h1 (fun e => ?_)
  have g := h0 e
  have CM := fr_mendC R e
  rw [fx_qm_0 e] at g
  have hx := fr_mendX R.2.1.1 R.2.1.2 e
  have h8 := R.2.1.1
  have f : fx_fr 1 m (fx_mMend m 1 (p_ix x) (p_ix d) s) := (fx_fr.refl 1 m).mend (by omega)
  exact ⟨na, nd, R.stock CM (fx_HS.mend R.H hx.1 hx.2.1 h8) (f.J R.2.2.1.2.2.1) (f.JJ (by omega) R.2.2.2.1.2) g.2 g.1 (R.sp.mend hx.2.1 hx.2.2) (Nat.le_refl _) h8 R.2.1.2⟩
theorem fr_offX {A : Nat → Nat → Int32} {na : Nat} {x : Int32} (h8 : na ≤ 8) (e : (q_off A na x).1 = 0) : p_ix x < na := by
  unfold q_off at e
  split at e
  · cases e
  · rename_i c
    exact fr_ix (Decidable.not_not.mp c) (by omega)
theorem fr_offC {m : fx_M} {na nd : Nat} {x : Int32} (R : fr_R m na nd) (e : (q_off (fx_ar m 1) na x).1 = 0) : fr_C (fun o => (1 ≤ o ∧ o < 17) ∨ (33 ≤ o ∧ o < 49)) (fun _ => False) m (fx_sI m (1 + 3 + p_ix x) 6 99) := fr_C1 R.1 (by have := fr_offX R.2.1.1 e; have := R.2.1.1; omega)
theorem fr_off {m m2 : fx_M} {na nd : Nat} {x : Int32} (R : fr_R m na nd) (h1 : (q_off (fx_ar m 1) na x).1 ≠ 0 → m2 = fx_mno (fx_qm m (q_off (fx_ar m 1) na x).1 (fx_sI m (1 + 3 + p_ix x) 6 99)) (q_off (fx_ar m 1) na x).1)
    (h0 : (q_off (fx_ar m 1) na x).1 = 0 → fx_MS m2 na nd (p_off (fx_tC m) (p_ix x)) ∧ fx_KF (fx_qm m (q_off (fx_ar m 1) na x).1 (fx_sI m (1 + 3 + p_ix x) 6 99)) m2) : fx_Rel m2 := by
  refine R.wr h1 (fun e => ?_)
  have g := h0 e
  have CM := fr_offC R e
  rw [fx_qm_0 e] at g
  have hx := fr_offX R.2.1.1 e
  have h8 := R.2.1.1
  exact ⟨na, nd, R.stock CM (R.H.sArm hx h8) (fr_J1sI R.2.2.1.2.2.1 (fun q hq => by omega)) (fr_J33sI R.2.2.2.1.2 (by omega)) g.2 g.1 R.sp.off (Nat.le_refl _) h8 R.2.1.2⟩
theorem fr_seed {m m2 : fx_M} {na nd : Nat} {v : Int32} (R : fr_R m na nd) (h0 : fx_MS m2 na nd ((fx_tC m).1, (fx_tC m).2.1, p_u (fx_tC m).2.2 3 v) ∧ fx_KF (fx_sI m 1 7 v) m2) : fx_Rel m2 :=
  ⟨na, nd, R.stock (fr_C1 R.1 (by omega)) (R.H.sCnt 7 rfl (by decide)) (fr_J1sI R.2.2.1.2.2.1 (fun q hq => by omega)) (fr_J33sI R.2.2.2.1.2 (by omega)) h0.2 h0.1 (R.sp.nd (Nat.le_refl _)) (Nat.le_refl _) R.2.1.1 R.2.1.2⟩
