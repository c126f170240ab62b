/-! tables, moves, images -/
theorem fr_tabM {m m1 : fx_M} {na nd b : Nat} {P : Nat → Prop} (R : fr_R m na nd) (f : fx_oP P (fx_no m b) m1) (hP : ∀ o, P o → o < 83) : fx_Lay m1 ∧ fx_MS m1 na nd (fx_tC m) ∧ fx_MSh m1 na (fx_uC m) ∧ m1.1 83 44 = -1 ∧ fx_WC m1 :=
  R.mod (X := fun o => o < 83) (Y := fun _ => False) (((fr_C.no R.1 b).to (fun o h => by omega) (fun _ h => h)).trans ((fr_C.oP (fr_C.no R.1 b).1 f).to (fun o h => hP o h) (fun _ h => h))) (fun o h => by omega) (fun _ h => h.elim)
theorem fr_tab {m m1 m2 : fx_M} {na nd b : Nat} (R : fr_R m na nd) (f : fx_oP (fun o => o = 53 ∨ o = 54 ∨ o = 55 ∨ o = 56 ∨ o = 57 ∨ o = 58 ∨ o = 59 ∨ o = 60 ∨ o = 61 ∨ o = 62) (fx_no m b) m1) (hM : fx_memo m1) (K : fx_KP (fx_mno m1 b) m2) : fr_R m2 na nd := by
  have c1 := fr_C.no R.1 b
  have c2 := fr_C.oP c1.1 f
  have c3 := fr_C.mno c2.1 b
  have c4 : fr_C (fun o => o = 114 ∨ o = 115) (fun _ => False) (fx_mno m1 b) m2 := fr_C.of2 c3.1 K.1 (fun o h => K.2 o (by omega) (by omega))
  have C : fr_C (fun o => o = 50 ∨ (53 ≤ o ∧ o ≤ 62) ∨ o = 84 ∨ o = 114 ∨ o = 115) (fun _ => False) m m2 :=
    (((c1.to (fun o h => by omega) (fun _ h => h)).trans (c2.to (fun o h => by omega) (fun _ h => h))).trans (c3.to (fun o h => by omega) (fun _ h => h))).trans (c4.to (fun o h => by omega) (fun _ h => h))
  have C2 : fr_C (fun o => o = 84 ∨ o = 114 ∨ o = 115) (fun _ => False) m1 m2 := (c3.to (fun o h => by omega) (fun _ h => h)).trans (c4.to (fun o h => by omega) (fun _ h => h))
  refine R.keep C (fun o h => by omega) (fun _ h => h) (fun j _ => by rw [C.2.1 83 (by decide)]) (fun k => ?_) (fr_J.fr R.2.2.2.1.2 C (fun o h q => by omega)) (fr_M.fr hM C2 (fun o h q => by omega)) ?_
  · rw [c4.2.1 50 (by decide), c4.2.1 84 (by decide), fr_mno84, c3.2.1 50 (by decide), c2.2.1 50 (by decide), fr_no50, c2.2.1 84 (by decide), c1.2.1 84 (by decide), R.2.2.2.2.2.1 k, R.2.2.2.2.2.1 b]
  · exact R.2.2.1.2.2.2.1.cg (fun o h => C.2.1 o (by omega)) (fun j _ => by rw [C.2.1 83 (by decide)])
theorem fr_no0 {m : fx_M} : fx_no m 0 = m := if_pos rfl
theorem fr_mno0 {m : fx_M} : fx_mno m 0 = m := if_pos rfl
theorem fr_castR {m m1 m2 : fx_M} {na nd : Nat} (R : fr_R m na nd) (f : fx_oP (fun o => o = 53 ∨ o = 54 ∨ o = 55 ∨ o = 56 ∨ o = 57 ∨ o = 58 ∨ o = 59 ∨ o = 60 ∨ o = 61 ∨ o = 62) m m1) (hM : fx_memo m1) (M : fx_MS m2 na nd (fx_tC m)) (K : fx_KF m1 m2) : fr_R m2 na nd := by
  have c2 := fr_C.oP R.1 f
  have c4 := fr_C.KF c2.1 K
  have C : fr_C (fun o => (53 ≤ o ∧ o ≤ 62) ∨ (83 ≤ o ∧ ¬ (o = 84 ∨ (100 ≤ o ∧ o ≤ 103) ∨ (106 ≤ o ∧ o ≤ 109) ∨ o = 112 ∨ o = 118))) (fun _ => False) m m2 := (c2.to (fun o h => by omega) (fun _ h => h)).trans (c4.to (fun o h => by omega) (fun _ h => h))
  refine R.keep C (fun o h => by omega) (fun _ h => h) (fun j hj => by rw [K.2.2 j hj, c2.2.1 83 (by omega)]) (fun k => ?_) (fr_J.fr R.2.2.2.1.2 C (fun o h q => by omega)) (fr_M.fr hM c4 (fun o h q => by omega)) M
  rw [C.2.1 50 (by omega), C.2.1 84 (by omega)]
  exact R.2.2.2.2.2.1 k
theorem fr_queR {m m1 m2 : fx_M} {na nd b : Nat} (R : fr_R m na nd) (f : fx_oP (fun o => o = 64) (fx_no m b) m1) (K : fx_KW (fx_mno m1 b) m2) : fr_R m2 na nd := by
  have c1 := fr_C.no R.1 b
  have c2 := fr_C.oP c1.1 f
  have c3 := fr_C.mno c2.1 b
  have c4 : fr_C (fun o => o = 83 ∨ o = 116 ∨ o = 117) (fun _ => False) (fx_mno m1 b) m2 := fr_C.of2 c3.1 K.1 (fun o h => K.2.1 o (by omega) (by omega) (by omega))
  have C : fr_C (fun o => o = 50 ∨ o = 64 ∨ o = 84 ∨ o = 83 ∨ o = 116 ∨ o = 117) (fun _ => False) m m2 :=
    (((c1.to (fun o h => by omega) (fun _ h => h)).trans (c2.to (fun o h => by omega) (fun _ h => h))).trans (c3.to (fun o h => by omega) (fun _ h => h))).trans (c4.to (fun o h => by omega) (fun _ h => h))
  have e83 : ∀ j, j ≠ 47 → m2.1 83 j = m.1 83 j := fun j hj => by rw [K.2.2 j hj, c3.2.1 83 (by decide), c2.2.1 83 (by decide), c1.2.1 83 (by decide)]
  refine R.keep C (fun o h => by omega) (fun _ h => h) (fun j hj => e83 j (by omega)) (fun k => ?_) (fr_J.fr R.2.2.2.1.2 C (fun o h q => by omega)) (fr_M.fr R.2.2.2.2.2.2.2.2.2.2 C (fun o h q => by omega)) ?_
  · rw [c4.2.1 50 (by decide), c4.2.1 84 (by decide), fr_mno84, c3.2.1 50 (by decide), c2.2.1 50 (by decide), fr_no50, c2.2.1 84 (by decide), c1.2.1 84 (by decide), R.2.2.2.2.2.1 k, R.2.2.2.2.2.1 b]
  · exact R.2.2.1.2.2.2.1.cg (fun o h => C.2.1 o (by omega)) (fun j hj => e83 j (by omega))
theorem fr_gD {m : fx_M} {na nd : Nat} (R : fr_R m na nd) : (∀ d, d < nd → 0 ≤ (fx_dr m 1 d 4).toInt ∧ (fx_dr m 1 d 4).toInt ≤ 99) ∧ ∀ d, d < nd → 0 ≤ (fx_dr m 1 d 5).toInt ∧ (fx_dr m 1 d 5).toInt ≤ 9 := by
  have g := R.2.2.1.2.2.2.1.2.2.2.2.2.2.2.2
  refine ⟨fun d hd => ?_, fun d hd => ?_⟩
  · have h := (g d hd).2.2.2.2.1
    rw [p_inT, show (1 : Int32).toInt = 1 from rfl, show (99 : Int32).toInt = 99 from rfl] at h
    exact ⟨by have := h.1; show 0 ≤ (m.1 (1 + 11 + d) 4).toInt; have h2 : 1 ≤ (m.1 (1 + 11 + d) 4).toInt := h.1; omega, h.2⟩
  · exact p_in_Z (b := 9) (by decide) (g d hd).2.2.2.2.2.1
theorem fr_actM {m m1 : fx_M} {na nd : Nat} (R : fr_R m na nd) (h1 : m1.2.1 = m.2.1) (h2 : ∀ o, o ≠ 65 → o ≠ 66 → m1.1 o = m.1 o) (h3 : fx_Lay m1) : fx_Lay m1 ∧ fx_MS m1 na nd (fx_tC m) ∧ fx_MSh m1 na (fx_uC m) ∧ m1.1 83 44 = -1 ∧ fx_WC m1 :=
  R.mod (X := fun o => o = 65 ∨ o = 66) (Y := fun _ => False) ⟨h3, fun o h => h2 o (by omega) (by omega), fun o _ => by rw [h1]⟩ (fun o h => by omega) (fun _ h => h.elim)
theorem fr_act {m m1 m2 : fx_M} {na nd : Nat} {l : List Nat} (R : fr_R m na nd) (h0 : fx_tr m1 l) (h1 : m1.2.1 = m.2.1) (h2 : ∀ o, o ≠ 65 → o ≠ 66 → m1.1 o = m.1 o) (h3 : fx_Lay m1) (K : fx_TF m1 m2) (T : fx_trM m2 l) : fr_R m2 na nd := by
  have C : fr_C (fun o => o = 65 ∨ o = 66 ∨ o = 83 ∨ o = 118) (fun _ => False) m m2 := ⟨fun o k v q => by rw [K.1]; exact h3 o k v q, fun o h => by rw [K.2.1 o (by omega) (by omega)]; exact h2 o (by omega) (by omega), fun o _ => by rw [K.1, h1]⟩
  have e83 : ∀ j, j ≠ 49 → m2.1 83 j = m.1 83 j := fun j hj => by rw [K.2.2 j hj, h2 83 (by decide) (by decide)]
  obtain ⟨r1, r2, r3, r4, r5, r6, r7, r8, r9, r10, r11⟩ := R
  refine ⟨C.1, r2, r3.keep r2.1 r2.2 C (fun o h q => by omega) (r3.2.2.2.1.cg (fun o h => C.2.1 o (by omega)) (fun j hj => e83 j (by omega))), ⟨fr_J.fr r4.1 C (fun o h q => by omega), fr_J.fr r4.2 C (fun o h q => by omega)⟩, r5.fr C (fun o h q => by omega) (fun _ h _ => h) (Nat.le_refl _) (by omega), fun b => ?_, ?_, ⟨l, ⟨?_, fun i v h => ?_⟩, T⟩, r9.fr C (fun o h q => by omega) (e83 50 (by decide)), fr_W.fr r10 C (fun o h q => by omega) (e83 44 (by decide)), fr_M.fr r11 C (fun o h q => by omega)⟩
  · rw [C.2.1 50 (by omega), C.2.1 84 (by omega)]; exact r6 b
  · rw [C.2.1 51 (by omega), e83 6 (by decide)]; exact r7
  · rw [K.2.1 65 (by decide) (by decide)]; exact h0.1
  · rw [K.2.1 66 (by decide) (by decide)]; exact h0.2 i v h
theorem fr_imgM {m ma : fx_M} {na nd : Nat} (R : fr_R m na nd) (f : fx_fr 17 m ma) : fx_Lay (fx_sI ma 0 3 1) ∧ fx_MS (fx_sI ma 0 3 1) na nd (fx_tC m) ∧ fx_MSh (fx_sI ma 0 3 1) na (fx_uC m) ∧ (fx_sI ma 0 3 1).1 83 44 = -1 ∧ fx_WC (fx_sI ma 0 3 1) := by
  have c1 := fr_C.fr R.1 f
  have c2 : fr_C (fun o => o = 0) (fun _ => False) ma (fx_sI ma 0 3 1) := fr_C.of2 c1.1 rfl (fun o h => fx_sI_n _ _ _ h)
  exact R.mod (X := fun o => o < 83) (Y := fun _ => False) ((c1.to (fun o h => by omega) (fun _ h => h)).trans (c2.to (fun o h => by omega) (fun _ h => h))) (fun o h => by omega) (fun _ h => h.elim)
theorem fr_img {m ma m2 : fx_M} {na nd : Nat} (R : fr_R m na nd) (f : fx_fr 17 m ma) (H : fx_HT ma 17 na nd (fx_tC m)) (M : fx_MS m2 na nd (fx_tC m)) (I : fx_img m2 112 na nd (fx_tC m)) (h50 : m2.1 83 50 = 1) (K : fx_KI (fx_sI ma 0 3 1) m2) : fr_R m2 na nd := by
  have c1 := fr_C.fr R.1 f
  have c2 : fr_C (fun o => o = 0) (fun _ => False) ma (fx_sI ma 0 3 1) := fr_C.of2 c1.1 rfl (fun o h => fx_sI_n _ _ _ h)
  have c3 : fr_C (fun o => o = 83 ∨ o = 112) (fun _ => False) (fx_sI ma 0 3 1) m2 := fr_C.of2 c2.1 K.1 (fun o h => K.2.1 o (by omega) (by omega))
  have C : fr_C (fun o => o = 0 ∨ (17 ≤ o ∧ o < 33) ∨ o = 83 ∨ o = 112) (fun _ => False) m m2 := ((c1.to (fun o h => by omega) (fun _ h => h)).trans (c2.to (fun o h => by omega) (fun _ h => h))).trans (c3.to (fun o h => by omega) (fun _ h => h))
  have e83 : ∀ j, j ≠ 50 → m2.1 83 j = m.1 83 j := fun j hj => by rw [K.2.2 j hj, c2.2.1 83 (by decide), c1.2.1 83 (by decide)]
  have ea : ∀ o, o ≠ 0 → o < 83 → m2.1 o = ma.1 o := fun o h0 h => by rw [c3.2.1 o (by omega), c2.2.1 o h0]
  obtain ⟨r1, r2, r3, r4, r5, r6, r7, r8, r9, r10, r11⟩ := R
  refine ⟨C.1, r2, r3.keep r2.1 r2.2 C (fun o h q => by omega) M, ⟨fun o k h => by rw [ea o (by omega) (by omega)]; exact f.J r4.1 o k h, fr_J.fr r4.2 C (fun o h q => by omega)⟩, r5.fr C (fun o h q => by omega) (fun _ h _ => h) (Nat.le_refl _) (by omega), fun b => ?_, ?_, r8.fr C (fun o h q => by omega) (e83 49 (by decide)), ⟨?_, fun _ => ⟨na, nd, fx_tC m, ?_, I, r3.2.2.2.2⟩⟩, fr_W.fr r10 C (fun o h q => by omega) (e83 44 (by decide)), fr_M.fr r11 C (fun o h q => by omega)⟩
  · rw [C.2.1 50 (by omega), C.2.1 84 (by omega)]; exact r6 b
  · rw [C.2.1 51 (by omega), e83 6 (by decide)]; exact r7
  · rw [h50, c3.2.1 0 (by decide)]; exact fx_rd0
  · exact ⟨by rw [ea 17 (by omega) (by omega)]; exact H.1, by rw [ea 17 (by omega) (by omega)]; exact H.2.1, fun x hx => by rw [ea _ (by omega) (by omega)]; exact H.2.2.1 x hx, fun d hd => by rw [ea _ (by omega) (by omega)]; exact H.2.2.2.1 d hd, fun k hk => by rw [ea 17 (by omega) (by omega)]; exact H.2.2.2.2 k hk⟩
theorem fr_I.ex {m : fx_M} (I : fr_I m) : ∃ (ni di : Nat) (ti : p_Sg), ni ≤ 8 ∧ di ≤ 5 ∧ (m.1 0 3 ≠ 0 → fx_HT m 17 ni di ti ∧ fx_img m 112 ni di ti ∧ p_sp ni di ti) := by
  by_cases c : m.1 0 3 = 0
  · exact ⟨0, 0, (fun _ _ => 0, fun _ _ => 0, fun _ => 0), by decide, by decide, fun h => absurd c h⟩
  · obtain ⟨ni, di, ti, a, b, d⟩ := I.2 c
    exact ⟨ni, di, ti, b.2.2.2.2.2.1, b.2.2.2.2.2.2.1, fun _ => ⟨a, b, d⟩⟩
theorem fr_restM {m m1 : fx_M} {na nd ni di : Nat} {ti : p_Sg} (R : fr_R m na nd) (h1 : m.1 0 3 ≠ 0 → ∃ ma, fx_fr 1 m ma ∧ fx_HT ma 1 ni di ti ∧ fx_dA ni ma m1 8) (h0 : m.1 0 3 = 0 → m1 = fx_no m 6) : fr_C (fun o => o < 83) (fun _ => False) m m1 := by
  by_cases e : m.1 0 3 = 0
  · rw [h0 e]
    exact (fr_C.no R.1 6).to (fun o h => by omega) (fun _ h => h)
  · obtain ⟨ma, f, -, d⟩ := h1 e
    have c1 := fr_C.fr R.1 f
    exact (c1.to (fun o h => by omega) (fun _ h => h)).trans (fr_C.of2 c1.1 d.1 (fun o h => d.2.1 o (fun s hs => by omega)))
theorem fr_rest {m m1 m2 : fx_M} {na nd ni di : Nat} {ti : p_Sg} (R : fr_R m na nd) (hn : ni ≤ 8) (hd : di ≤ 5) (h1 : m.1 0 3 ≠ 0 → ∃ ma, fx_fr 1 m ma ∧ fx_HT ma 1 ni di ti ∧ fx_dA ni ma m1 8) (h0 : m.1 0 3 = 0 → m1 = fx_no m 6) (g1 : m1.1 83 50 ≠ 0 → fx_MS m2 ni di ti ∧ fx_MSh m2 ni (p_shD (fx_uC m) ni) ∧ fx_KR m1 m2) (g0 : m1.1 83 50 = 0 → m2 = fx_mno m1 6) (sp : m.1 0 3 ≠ 0 → p_sp ni di ti) : fx_Rel m2 := by
  have cm := fr_restM R h1 h0
  have e50 : m1.1 83 50 = m.1 0 3 := by rw [cm.2.1 83 (by omega)]; exact R.2.2.2.2.2.2.2.2.1.1.symm
  by_cases e : m.1 0 3 = 0
  · rw [g0 (e50.trans e), h0 e]
    exact ⟨na, nd, R.q 6⟩
  · obtain ⟨ma, f, H, d⟩ := h1 e
    obtain ⟨M, S, K⟩ := g1 (fun q => e (e50.symm.trans q))
    have c1 := fr_C.fr R.1 f
    have c2 : fr_C (fun o => 67 ≤ o ∧ o < 83) (fun _ => False) ma m1 := fr_C.of2 c1.1 d.1 (fun o h => d.2.1 o (fun s hs => by omega))
    have c3 : fr_C (fun o => o = 83 ∨ (85 ≤ o ∧ o ≤ 100)) (fun _ => False) m1 m2 := fr_C.of2 c2.1 K.1 (fun o h => K.2.1 o (by omega) (by omega))
    have C : fr_C (fun o => (1 ≤ o ∧ o < 17) ∨ (67 ≤ o ∧ o < 83) ∨ o = 83 ∨ (85 ≤ o ∧ o ≤ 100)) (fun _ => False) m m2 := ((c1.to (fun o h => by omega) (fun _ h => h)).trans (c2.to (fun o h => by omega) (fun _ h => h))).trans (c3.to (fun o h => by omega) (fun _ h => h))
    have e83 : ∀ j, 6 ≤ j → m2.1 83 j = m.1 83 j := fun j hj => by rw [K.2.2 j hj, c2.2.1 83 (by omega), c1.2.1 83 (by omega)]
    have es : ∀ s, s < 8 → ∀ j, m2.1 (67 + 2 * s) j = if j = 3 ∧ ¬ p_el (m.1 (67 + 2 * s) 3) (nI ni) then -1 else m.1 (67 + 2 * s) j := fun s hs j => by
      rw [c3.2.1 _ (by omega), d.2.2 s hs j, c1.2.1 _ (by omega)]
    have el : ∀ o, (67 ≤ o ∧ o < 83) → m2.2.1 o = m.2.1 o := fun o _ => C.2.2 o (fun h => h)
    have sp := sp e
    obtain ⟨r1, r2, r3, r4, r5, r6, r7, r8, r9, r10, r11⟩ := R
    refine ⟨ni, di, C.1, ⟨hn, hd⟩, fr_A.new (fr_HT.cg H hn hd (fun o ho => by rw [c3.2.1 o (by omega), c2.2.1 o (by omega)])) (fun o k h => by rw [c3.2.1 o (by omega), c2.2.1 o (by omega)]; exact f.J r3.2.2.1 o k h) M sp, ⟨fr_J.fr r4.1 C (fun o h q => by omega), fr_J.fr r4.2 C (fun o h q => by omega)⟩, ⟨fun k hk => ?_, fun k hk => ?_⟩, fun b => ?_, ?_, r8.fr C (fun o h q => by omega) (e83 49 (by decide)), r9.fr C (fun o h q => by omega) (e83 50 (by decide)), fr_W.fr r10 C (fun o h q => by omega) (e83 44 (by decide)), fr_M.fr r11 C (fun o h q => by omega)⟩
    · rw [es k hk 2, if_neg (by omega)]; exact r5.1 k hk
    · refine (S k hk).cg (fun _ _ _ => rfl) (fun _ _ => rfl) ?_ ?_ ?_ ?_
      · show m2.1 (67 + 2 * k) 1 = m.1 (67 + 2 * k) 1
        rw [es k hk 1, if_neg (by omega)]
      · show m2.1 (67 + 2 * k) 3 = if m.1 (67 + 2 * k) 1 = -1 ∧ ¬ p_el (m.1 (67 + 2 * k) 3) (nI ni) then -1 else m.1 (67 + 2 * k) 3
        rw [es k hk 3]
        by_cases c : m.1 (67 + 2 * k) 1 = -1
        · by_cases c2 : p_el (m.1 (67 + 2 * k) 3) (nI ni)
          · rw [if_neg (fun q => q.2 c2), if_neg (fun q => q.2 c2)]
          · rw [if_pos ⟨rfl, c2⟩, if_pos ⟨c, c2⟩]
        · have h3 : m.1 (67 + 2 * k) 3 = -1 := ((r5.2 k hk).2.1 c).1
          rw [if_neg (fun q : m.1 (67 + 2 * k) 1 = -1 ∧ _ => c q.1), h3]
          split <;> rfl
      · show p_ix (m2.1 (67 + 2 * k) 2) = p_ix (m.1 (67 + 2 * k) 2)
        rw [es k hk 2, if_neg (by omega)]
      · exact el _ (by omega)
    · rw [C.2.1 50 (by omega), C.2.1 84 (by omega)]; exact r6 b
    · rw [C.2.1 51 (by omega), e83 6 (by decide)]; exact r7
