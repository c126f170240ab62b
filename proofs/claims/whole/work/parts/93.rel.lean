/-! CLASS AND REFERENCE TOGETHER -/
def fx_tC (m : fx_M) : p_Sg := (fun x => m.1 (1 + 3 + x), fun d => m.1 (1 + 11 + d), fun k => m.1 1 (4 + k))
def fx_uC (m : fx_M) : p_Sh := (fun k => m.1 (67 + 2 * k) 1, fun k => m.1 (67 + 2 * k) 3, fun k => p_ix (m.1 (67 + 2 * k) 2), fun k => m.2.1 (67 + 2 * k + 1))
def fr_A (m : fx_M) (na nd : Nat) : Prop := m.1 1 2 = nI na ∧ m.1 1 3 = nI nd ∧ fx_J 1 m ∧ fx_MS m na nd (fx_tC m) ∧ p_sp na nd (fx_tC m)
def fr_S (m : fx_M) (na : Nat) : Prop := (∀ k, k < 8 → m.1 (67 + 2 * k) 2 = nI (p_ix (m.1 (67 + 2 * k) 2)) ∧ p_ix (m.1 (67 + 2 * k) 2) ≤ 160) ∧ fx_MSh m na (fx_uC m)
def fr_T (m : fx_M) : Prop := ∃ l : List Nat, fx_tr m l ∧ fx_trM m l
def fr_I (m : fx_M) : Prop := m.1 0 3 = m.1 83 50 ∧ (m.1 0 3 ≠ 0 → ∃ (ni di : Nat) (ti : p_Sg), fx_HT m 17 ni di ti ∧ fx_img m 112 ni di ti ∧ p_sp ni di ti)
def fr_R (m : fx_M) (na nd : Nat) : Prop := fx_Lay m ∧ (na ≤ 8 ∧ nd ≤ 5) ∧ fr_A m na nd ∧ (fx_J 17 m ∧ fx_J 33 m) ∧ fr_S m na ∧ (∀ b, m.1 50 b = m.1 84 b) ∧ m.1 51 0 = m.1 83 6 ∧ fr_T m ∧ fr_I m ∧ (m.1 83 44 = -1 ∧ fx_WC m) ∧ fx_memo m
def fx_Rel (m : fx_M) : Prop := ∃ na nd, fr_R m na nd
/-- ints but of X, longs but of Y, are the same -/
def fr_C (X Y : Nat → Prop) (m m' : fx_M) : Prop := fx_Lay m' ∧ (∀ o, ¬ X o → m'.1 o = m.1 o) ∧ ∀ o, ¬ Y o → m'.2.1 o = m.2.1 o
theorem fr_C.to {X Y X' Y' : Nat → Prop} {m m' : fx_M} (C : fr_C X Y m m') (hX : ∀ o, X o → X' o) (hY : ∀ o, Y o → Y' o) : fr_C X' Y' m m' := ⟨C.1, fun o h => C.2.1 o (fun q => h (hX o q)), fun o h => C.2.2 o (fun q => h (hY o q))⟩
theorem fr_C.trans {X Y : Nat → Prop} {a b c : fx_M} (C : fr_C X Y a b) (E : fr_C X Y b c) : fr_C X Y a c := ⟨E.1, fun o h => (E.2.1 o h).trans (C.2.1 o h), fun o h => (E.2.2 o h).trans (C.2.2 o h)⟩
theorem fr_C.of2 {X Y : Nat → Prop} {m m' : fx_M} (hL : fx_Lay m) (h : m'.2 = m.2) (h1 : ∀ o, ¬ X o → m'.1 o = m.1 o) : fr_C X Y m m' := ⟨fun o k v q => by rw [h]; exact hL o k v q, h1, fun o _ => by rw [h]⟩
theorem fr_C.no {m : fx_M} (hL : fx_Lay m) (b : Nat) : fr_C (fun o => o = 50) (fun _ => False) m (fx_no m b) := by
  unfold fx_no
  split
  · exact fr_C.of2 hL rfl (fun _ _ => rfl)
  · exact fr_C.of2 hL rfl (fun o h => fx_sI_n _ _ _ h)
theorem fr_C.mno {m : fx_M} (hL : fx_Lay m) (b : Nat) : fr_C (fun o => o = 84) (fun _ => False) m (fx_mno m b) := by
  unfold fx_mno
  split
  · exact fr_C.of2 hL rfl (fun _ _ => rfl)
  · exact fr_C.of2 hL rfl (fun o h => fx_sI_n _ _ _ h)
theorem fr_no50 {m : fx_M} (b k : Nat) : (fx_no m b).1 50 k = if b = 0 then m.1 50 k else if k = b then m.1 50 b + 1 else m.1 50 k := by
  unfold fx_no
  by_cases c : b = 0
  · rw [if_pos c, if_pos c]
  · rw [if_neg c, if_neg c]
    by_cases d : k = b
    · subst d; rw [if_pos rfl, fx_rd0]
    · rw [if_neg d, fx_rd2 (Ne.symm d)]
theorem fr_mno84 {m : fx_M} (b k : Nat) : (fx_mno m b).1 84 k = if b = 0 then m.1 84 k else if k = b then m.1 84 b + 1 else m.1 84 k := by
  unfold fx_mno
  by_cases c : b = 0
  · rw [if_pos c, if_pos c]
  · rw [if_neg c, if_neg c]
    by_cases d : k = b
    · subst d; rw [if_pos rfl, fx_rd0]
    · rw [if_neg d, fx_rd2 (Ne.symm d)]
theorem fx_MS.tc {m : fx_M} {na nd : Nat} {t t' : p_Sg} (H : fx_MS m na nd t) (h1 : ∀ x, x < na → t'.1 x = t.1 x) (h2 : ∀ d, d < nd → t'.2.1 d = t.2.1 d) (h3 : ∀ j, j < 4 → t'.2.2 j = t.2.2 j) : fx_MS m na nd t' := by
  obtain ⟨r1, r2, r3, r4, r5, r6, r7, r8, r9⟩ := H
  exact ⟨r1, r2, fun j hj => (r3 j hj).trans (h3 j hj).symm, fun x hx j hj => by rw [h1 x hx]; exact r4 x hx j hj, fun d hd j hj => by rw [h2 d hd]; exact r5 d hd j hj, r6, r7, fun x hx => by rw [h1 x hx]; exact r8 x hx, fun d hd => by rw [h2 d hd]; exact r9 d hd⟩
theorem p_sp.tc {na nd : Nat} {t t' : p_Sg} (H : p_sp na nd t) (h1 : ∀ x, x < na → t'.1 x = t.1 x) : p_sp na nd t' := fun x hx => by rw [h1 x hx]; exact H x hx
theorem fr_A.new {m : fx_M} {na nd : Nat} {t : p_Sg} (H : fx_HT m 1 na nd t) (hJ : fx_J 1 m) (M : fx_MS m na nd t) (sp : p_sp na nd t) : fr_A m na nd :=
  ⟨H.1, H.2.1, hJ, M.tc (fun x hx => H.2.2.1 x hx) (fun d hd => H.2.2.2.1 d hd) (fun j hj => H.2.2.2.2 j hj), sp.tc (fun x hx => H.2.2.1 x hx)⟩
theorem fr_A.keep {m m' : fx_M} {na nd : Nat} {X Y : Nat → Prop} (A : fr_A m na nd) (h8 : na ≤ 8) (h5 : nd ≤ 5) (C : fr_C X Y m m') (hX : ∀ o, X o → ¬ (o = 1 ∨ (4 ≤ o ∧ o < 17))) (M : fx_MS m' na nd (fx_tC m)) : fr_A m' na nd := by
  have e1 : m'.1 1 = m.1 1 := C.2.1 1 (fun h => hX 1 h (Or.inl rfl))
  have ec : ∀ o, 4 ≤ o → o < 17 → m'.1 o = m.1 o := fun o h1 h2 => C.2.1 o (fun h => hX o h (Or.inr ⟨h1, h2⟩))
  refine ⟨by rw [e1]; exact A.1, by rw [e1]; exact A.2.1, fun o k hk => by rw [ec o (by omega) (by omega)]; exact A.2.2.1 o k hk, M.tc (fun x hx => ec _ (by omega) (by omega)) (fun d hd => ec _ (by omega) (by omega)) (fun j _ => by show m'.1 1 _ = m.1 1 _; rw [e1]), A.2.2.2.2.tc (fun x hx => ec _ (by omega) (by omega))⟩
theorem fr_S.fr {m m' : fx_M} {na nb : Nat} {X Y : Nat → Prop} (S : fr_S m na) (C : fr_C X Y m m') (hX : ∀ o, X o → ¬ ((67 ≤ o ∧ o < 83) ∨ (100 ≤ o ∧ o ≤ 103))) (hY : ∀ o, Y o → ¬ ((67 ≤ o ∧ o < 83) ∨ o = 104)) (hn : na ≤ nb) (hb : nb ≤ 9) : fr_S m' nb := by
  have ei : ∀ o, (67 ≤ o ∧ o < 83) ∨ (100 ≤ o ∧ o ≤ 103) → m'.1 o = m.1 o := fun o h => C.2.1 o (fun q => hX o q h)
  have ej : ∀ o, (67 ≤ o ∧ o < 83) ∨ o = 104 → m'.2.1 o = m.2.1 o := fun o h => C.2.2 o (fun q => hY o q h)
  refine ⟨fun k hk => by rw [ei _ (by omega)]; exact S.1 k hk, fun k hk => ?_⟩
  have q := (S.2.na hn hb) k hk
  refine q.cg (fun o a b => by rw [ei o (by omega)]) (fun i _ => by rw [ej 104 (by omega)]) ?_ ?_ ?_ ?_
  · show m'.1 _ 1 = m.1 _ 1; rw [ei _ (by omega)]
  · show m'.1 _ 3 = m.1 _ 3; rw [ei _ (by omega)]
  · show p_ix (m'.1 _ 2) = p_ix (m.1 _ 2); rw [ei _ (by omega)]
  · exact ej _ (by omega)
theorem fr_T.fr {m m' : fx_M} {X Y : Nat → Prop} (T : fr_T m) (C : fr_C X Y m m') (hX : ∀ o, X o → ¬ (o = 65 ∨ o = 66 ∨ o = 118)) (h49 : m'.1 83 49 = m.1 83 49) : fr_T m' := by
  obtain ⟨l, a, b⟩ := T
  refine ⟨l, ⟨by rw [C.2.1 65 (fun h => hX 65 h (by omega))]; exact a.1, fun i v h => by rw [C.2.1 66 (fun h => hX 66 h (by omega))]; exact a.2 i v h⟩, h49.trans b.1, fun i v h => by rw [C.2.1 118 (fun h => hX 118 h (by omega))]; exact b.2 i v h⟩
theorem fr_I.fr {m m' : fx_M} {X Y : Nat → Prop} (I : fr_I m) (C : fr_C X Y m m') (hX : ∀ o, X o → ¬ (o = 0 ∨ (17 ≤ o ∧ o < 33) ∨ o = 112)) (h50 : m'.1 83 50 = m.1 83 50) : fr_I m' := by
  have e : ∀ o, (o = 0 ∨ (17 ≤ o ∧ o < 33) ∨ o = 112) → m'.1 o = m.1 o := fun o h => C.2.1 o (fun q => hX o q h)
  refine ⟨by rw [e 0 (by omega), h50]; exact I.1, fun h => ?_⟩
  rw [e 0 (by omega)] at h
  obtain ⟨ni, di, ti, a, b, c⟩ := I.2 h
  have hn : ni ≤ 8 := b.2.2.2.2.2.1
  have hd : di ≤ 5 := b.2.2.2.2.2.2.1
  exact ⟨ni, di, ti, ⟨by rw [e 17 (by omega)]; exact a.1, by rw [e 17 (by omega)]; exact a.2.1, fun x hx => by rw [e _ (by omega)]; exact a.2.2.1 x hx, fun x hx => by rw [e _ (by omega)]; exact a.2.2.2.1 x hx, fun k hk => by rw [e 17 (by omega)]; exact a.2.2.2.2 k hk⟩, b.cg (e 112 (by omega)), c⟩
theorem fr_M.fr {m m' : fx_M} {X Y : Nat → Prop} (M : fx_memo m) (C : fr_C X Y m m') (hX : ∀ o, X o → ¬ (o = 53 ∨ o = 54 ∨ o = 60 ∨ o = 61)) : fx_memo m' := by
  have e : ∀ o, (o = 53 ∨ o = 54 ∨ o = 60 ∨ o = 61) → m'.1 o = m.1 o := fun o h => C.2.1 o (fun q => hX o q h)
  unfold fx_memo fx_tb at M ⊢
  rw [e 53 (by omega), e 54 (by omega), e 60 (by omega), e 61 (by omega)]
  exact M
theorem fr_W.fr {m m' : fx_M} {X Y : Nat → Prop} (W : m.1 83 44 = -1 ∧ fx_WC m) (C : fr_C X Y m m') (hX : ∀ o, X o → ¬ (106 ≤ o ∧ o ≤ 109)) (h44 : m'.1 83 44 = m.1 83 44) : m'.1 83 44 = -1 ∧ fx_WC m' := ⟨h44.trans W.1, W.2.cg (fun o h => C.2.1 o (fun q => hX o q h))⟩
theorem fr_J.fr {m m' : fx_M} {S : Nat} {X Y : Nat → Prop} (J : fx_J S m) (C : fr_C X Y m m') (hX : ∀ o, X o → ¬ (S + 3 ≤ o ∧ o < S + 16)) : fx_J S m' := fun o k h => by rw [C.2.1 o (fun q => hX o q (by omega))]; exact J o k h
/-- the reference's side, while the class runs -/
theorem fr_R.mod {m m1 : fx_M} {na nd : Nat} {X Y : Nat → Prop} (R : fr_R m na nd) (C : fr_C X Y m m1) (hX : ∀ o, X o → ¬ 83 ≤ o) (hY : ∀ o, Y o → ¬ 83 ≤ o) : fx_Lay m1 ∧ fx_MS m1 na nd (fx_tC m) ∧ fx_MSh m1 na (fx_uC m) ∧ m1.1 83 44 = -1 ∧ fx_WC m1 := by
  have e : ∀ o, 83 ≤ o → m1.1 o = m.1 o := fun o h => C.2.1 o (fun q => hX o q h)
  have ej : ∀ o, 83 ≤ o → m1.2.1 o = m.2.1 o := fun o h => C.2.2 o (fun q => hY o q h)
  obtain ⟨r1, r2, r3, r4, r5, r6, r7, r8, r9, r10, r11⟩ := R
  exact ⟨C.1, r3.2.2.2.1.cg (fun o h => e o (by omega)) (fun j _ => by rw [e 83 (by omega)]), r5.2.cg (fun o a b => e o (by omega)) (ej 104 (by omega)), by rw [e 83 (by omega)]; exact r10.1, r10.2.cg (fun o h => e o (by omega))⟩
/-- all is kept, but refusals, told stocks, tables -/
theorem fr_R.keep {m m' : fx_M} {na nd : Nat} {X Y : Nat → Prop} (R : fr_R m na nd) (C : fr_C X Y m m') (hX : ∀ o, X o → o = 50 ∨ o = 84 ∨ (33 ≤ o ∧ o < 49) ∨ o = 52 ∨ (53 ≤ o ∧ o ≤ 62) ∨ o = 64 ∨ o = 83 ∨ (85 ≤ o ∧ o ≤ 99) ∨ o = 104 ∨ o = 105 ∨ o = 110 ∨ o = 111 ∨ (113 ≤ o ∧ o ≤ 117) ∨ 119 ≤ o) (hY : ∀ o, Y o → False)
    (h83 : ∀ j, (j = 6 ∨ j = 44 ∨ j = 49 ∨ j = 50) → m'.1 83 j = m.1 83 j) (hN : ∀ b, m'.1 50 b = m'.1 84 b) (hJ : fx_J 33 m') (hM : fx_memo m') (M : fx_MS m' na nd (fx_tC m)) : fr_R m' na nd := by
  obtain ⟨r1, r2, r3, r4, r5, r6, r7, r8, r9, r10, r11⟩ := R
  refine ⟨C.1, r2, r3.keep r2.1 r2.2 C (fun o h q => by have := hX o h; omega) M, ⟨fr_J.fr r4.1 C (fun o h q => by have := hX o h; omega), hJ⟩, r5.fr C (fun o h q => by have := hX o h; omega) (fun o h _ => hY o h) (Nat.le_refl _) (by omega), hN, ?_, r8.fr C (fun o h q => by have := hX o h; omega) (h83 49 (by omega)), r9.fr C (fun o h q => by have := hX o h; omega) (h83 50 (by omega)), fr_W.fr r10 C (fun o h q => by have := hX o h; omega) (h83 44 (by omega)), hM⟩
  rw [C.2.1 51 (fun h => by have := hX 51 h; omega), h83 6 (by omega)]
  exact r7
/-- a query's refusal, counted on both sides -/
theorem fr_R.q {m : fx_M} {na nd : Nat} (R : fr_R m na nd) (b : Nat) : fr_R (fx_mno (fx_no m b) b) na nd := by
  have c1 := fr_C.no R.1 b
  have c2 := fr_C.mno c1.1 b
  have C : fr_C (fun o => o = 50 ∨ o = 84) (fun _ => False) m (fx_mno (fx_no m b) b) := (c1.to (fun o h => Or.inl h) (fun _ h => h)).trans (c2.to (fun o h => Or.inr h) (fun _ h => h))
  have hm := R.mod c1 (fun o h => by omega) (fun _ h => h.elim)
  refine R.keep C (fun o h => by omega) (fun _ h => h) (fun j _ => by rw [C.2.1 83 (by omega)]) (fun k => ?_) (fr_J.fr R.2.2.2.1.2 C (fun o h q => by omega)) (fr_M.fr R.2.2.2.2.2.2.2.2.2.2 C (fun o h q => by omega)) (hm.2.1.no b)
  rw [fr_mno84, c2.2.1 50 (by decide), fr_no50, c1.2.1 84 (by decide), R.2.2.2.2.2.1 k, R.2.2.2.2.2.1 b]
