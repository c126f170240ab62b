theorem p_fold_sn {σ : Type} (f : Nat → σ → σ) : ∀ (j k : Nat) (s : σ), p_fold f (j + 1) k s = f (k + j) (p_fold f j k s)
  | 0, _, _ => rfl
  | j + 1, k, s => by
    show p_fold f (j + 1) (k + 1) (f k s) = f (k + (j + 1)) (p_fold f j (k + 1) (f k s))
    rw [p_fold_sn f j (k + 1), show k + 1 + j = k + (j + 1) by omega]
/-- what the trying of all orders leaves -/
def p_QR (mi te : Nat → Int32) (nd : Nat) (T : Nat → Int32) (r g : Nat) (b : Int32) (s s' : p_Qs) : Prop :=
  (∀ k, k < nd - r → s'.2.1 k = s.2.1 k) ∧ (s.1 = -1 ∨ b + T g < s.1 → s'.1 = b + T g ∧ ∀ k, k < nd → s'.2.2 k = if k < nd - r then s.2.1 k else p_oi (p_nxt mi te nd T (p_gr (p_nxt mi te nd T) (k - (nd - r)) g))) ∧
  (¬ (s.1 = -1 ∨ b + T g < s.1) → s'.1 = s.1 ∧ ∀ k, k < nd → s'.2.2 k = s.2.2 k)
def p_QJ (mi te : Nat → Int32) (nd : Nat) (T : Nat → Int32) (r g : Nat) (b : Int32) (o : Option Nat) (s S : p_Qs) : Prop :=
  (∀ k, k < nd - (r + 1) → S.2.1 k = s.2.1 k) ∧
  (∀ d, o = some d → (s.1 = -1 ∨ b + p_cost mi te nd T g d < s.1) → S.1 = b + p_cost mi te nd T g d ∧ ∀ k, k < nd → S.2.2 k = if k < nd - (r + 1) then s.2.1 k else if k = nd - (r + 1) then nI d else p_oi (p_nxt mi te nd T (p_gr (p_nxt mi te nd T) (k - (nd - r)) (g ||| 2 ^ d)))) ∧
  ((o = none ∨ ∃ d, o = some d ∧ ¬ (s.1 = -1 ∨ b + p_cost mi te nd T g d < s.1)) → S.1 = s.1 ∧ ∀ k, k < nd → S.2.2 k = s.2.2 k)
theorem p_qs_all {mi te : Nat → Int32} {nd : Nat} {T : Nat → Int32} (h5 : nd ≤ 5) (hm : ∀ d, d < nd → 0 ≤ (mi d).toInt ∧ (mi d).toInt ≤ 99) (ht : ∀ d, d < nd → 0 ≤ (te d).toInt ∧ (te d).toInt ≤ 9) (hT : ∀ B, B < 2 ^ nd → p_LqE mi te nd T B) :
    ∀ (r g : Nat) (b : Int32) (s : p_Qs), r ≤ nd → g < 2 ^ nd → p_un g nd = r → 0 ≤ b.toInt → b.toInt + 4455 * r ≤ 22275 → p_QR mi te nd T r g b s (p_qs mi te nd r g (p_sum g mi nd) b s)
  | 0, g, b, s, _, hg, hu, _, _ => by
    have e := hT g hg
    unfold p_LqE at e
    rw [p_nxt_none hu] at e
    have e : T g = 0 := e
    unfold p_QR
    rw [e, Int32.add_zero]
    unfold p_qs
    by_cases c : s.1 = -1 ∨ b < s.1
    · rw [if_pos c]
      exact ⟨fun _ _ => rfl, fun _ => ⟨rfl, fun k hk => by show (if k < nd then s.2.1 k else s.2.2 k) = _; rw [if_pos hk, if_pos (by omega)]⟩, fun h => absurd c h⟩
    · rw [if_neg c]
      exact ⟨fun _ _ => rfl, fun h => absurd h c, fun _ => ⟨rfl, fun _ _ => rfl⟩⟩
  | r + 1, g, b, s, hr, hg, hu, hb0, hb => by
    -- each that is next
    have kid : ∀ d, d < nd → g.testBit d = false → p_un (g ||| 2 ^ d) nd = r ∧ g ||| 2 ^ d < 2 ^ nd ∧ 0 ≤ (te d * p_sum (g ||| 2 ^ d) mi nd).toInt ∧ (te d * p_sum (g ||| 2 ^ d) mi nd).toInt ≤ 4455 ∧ 0 ≤ (T (g ||| 2 ^ d)).toInt ∧ (T (g ||| 2 ^ d)).toInt ≤ 4455 * r := fun d hd hgd => by
      have u := p_un_or hgd nd
      rw [if_pos hd] at u
      have hl := p_or_lt hg hd
      have hs := p_sum_Z (B := g ||| 2 ^ d) hm h5
      have hmul := p_mul_b (ht d hd) hs
      have em : (te d * p_sum (g ||| 2 ^ d) mi nd).toInt = (te d).toInt * (p_sum (g ||| 2 ^ d) mi nd).toInt := fb_mulI (by omega) (by omega)
      have hTz := p_T_Z h5 hm ht hT r (g ||| 2 ^ d) (by omega) hl (by omega)
      exact ⟨by omega, hl, by omega, by omega, hTz.1, hTz.2⟩
    have cz : ∀ d, d < nd → g.testBit d = false → (b + p_cost mi te nd T g d).toInt = b.toInt + (p_cost mi te nd T g d).toInt ∧ b + te d * p_sum (g ||| 2 ^ d) mi nd + T (g ||| 2 ^ d) = b + p_cost mi te nd T g d ∧ 0 ≤ (p_cost mi te nd T g d).toInt := fun d hd hgd => by
      have k := kid d hd hgd
      have e : (p_cost mi te nd T g d).toInt = (te d * p_sum (g ||| 2 ^ d) mi nd).toInt + (T (g ||| 2 ^ d)).toInt := fb_addI (by omega) (by omega)
      exact ⟨fb_addI (by omega) (by omega), Int32.add_assoc _ _ _, by omega⟩
    have lt : ∀ d e, d < nd → g.testBit d = false → e < nd → g.testBit e = false → (b + p_cost mi te nd T g d < b + p_cost mi te nd T g e ↔ p_cost mi te nd T g d < p_cost mi te nd T g e) := fun d e h1 h2 h3 h4 => by
      rw [Int32.lt_iff_toInt_lt, Int32.lt_iff_toInt_lt, (cz d h1 h2).1, (cz e h3 h4).1]
      omega
    have ne1 : ∀ d, d < nd → g.testBit d = false → ¬ b + p_cost mi te nd T g d = -1 := fun d h1 h2 h => by
      have q := (cz d h1 h2).1
      have z := (cz d h1 h2).2.2
      rw [h, show (-1 : Int32).toInt = -1 from rfl] at q
      omega
    have key : ∀ (j k : Nat) (S : p_Qs), k + j = nd → p_QJ mi te nd T r g b (p_fold (p_bst (p_uns g) (p_cost mi te nd T g)) k 0 none) s S →
        p_QJ mi te nd T r g b (p_nxt mi te nd T g) s (p_fold (fun d s => if g.testBit d = true then s else p_qs mi te nd r (g + 2 ^ d) (p_sum g mi nd + mi d) (b + te d * (p_sum g mi nd + mi d)) (s.1, p_u s.2.1 (nd - (r + 1)) (nI d), s.2.2)) j k S) := by
      intro j
      induction j with
      | zero =>
        intro k S hk J
        obtain rfl : k = nd := by omega
        exact J
      | succ j ih =>
        intro k S hk J
        show p_QJ mi te nd T r g b (p_nxt mi te nd T g) s (p_fold _ j (k + 1) _)
        refine ih (k + 1) _ (by omega) ?_
        have snoc : p_fold (p_bst (p_uns g) (p_cost mi te nd T g)) (k + 1) 0 none = p_bst (p_uns g) (p_cost mi te nd T g) k (p_fold (p_bst (p_uns g) (p_cost mi te nd T g)) k 0 none) := by
          have := p_fold_sn (p_bst (p_uns g) (p_cost mi te nd T g)) k 0 none
          rw [Nat.zero_add] at this
          exact this
        rw [snoc]
        have hlt : ∀ d, p_fold (p_bst (p_uns g) (p_cost mi te nd T g)) k 0 none = some d → d < k ∧ g.testBit d = false := fun d hd => by
          rcases p_bs_lt_ hd with h | ⟨-, h2, h3⟩
          · cases h
          · exact ⟨by omega, h3⟩
        generalize p_fold (p_bst (p_uns g) (p_cost mi te nd T g)) k 0 none = o at J hlt ⊢
        obtain ⟨J1, J2, J3⟩ := J
        by_cases c : g.testBit k = true
        · rw [p_bs_no (show ¬ p_uns g k by show ¬ g.testBit k = false; rw [c]; decide)]
          dsimp only
          rw [if_pos c]
          exact ⟨J1, J2, J3⟩
        · have c' : g.testBit k = false := by cases h : g.testBit k with | true => exact absurd h c | false => rfl
          have hkn : k < nd := by omega
          dsimp only
          rw [if_neg c, p_add_or c', ← p_sum_o c' hkn]
          have kk := kid k hkn c'
          have R := p_qs_all h5 hm ht hT r (g ||| 2 ^ k) (b + te k * p_sum (g ||| 2 ^ k) mi nd) (S.1, p_u S.2.1 (nd - (r + 1)) (nI k), S.2.2) (by omega) kk.2.1 kk.1 (by rw [fb_addI (by omega) (by omega)]; omega) (by rw [fb_addI (by omega) (by omega)]; omega)
          obtain ⟨R1, R2, R3⟩ := R
          rw [(cz k hkn c').2.1] at R2 R3
          generalize p_qs mi te nd r (g ||| 2 ^ k) (p_sum (g ||| 2 ^ k) mi nd) (b + te k * p_sum (g ||| 2 ^ k) mi nd) (S.1, p_u S.2.1 (nd - (r + 1)) (nI k), S.2.2) = S' at R1 R2 R3 ⊢
          have pre : ∀ i, i < nd - (r + 1) → S'.2.1 i = s.2.1 i := fun i hi => by
            rw [R1 i (by omega)]
            show (if i = nd - (r + 1) then nI k else S.2.1 i) = _
            rw [if_neg (by omega)]
            exact J1 i hi
          -- taken: the state is that of k
          have take : (S.1 = -1 ∨ b + p_cost mi te nd T g k < S.1) → S'.1 = b + p_cost mi te nd T g k ∧ ∀ i, i < nd → S'.2.2 i = if i < nd - (r + 1) then s.2.1 i else if i = nd - (r + 1) then nI k else p_oi (p_nxt mi te nd T (p_gr (p_nxt mi te nd T) (i - (nd - r)) (g ||| 2 ^ k))) := fun h => by
            refine ⟨(R2 h).1, fun i hi => ?_⟩
            rw [(R2 h).2 i hi]
            by_cases c1 : i < nd - r
            · rw [if_pos c1]
              show (if i = nd - (r + 1) then nI k else S.2.1 i) = _
              by_cases c2 : i = nd - (r + 1)
              · rw [if_pos c2, if_neg (by omega), if_pos c2]
              · rw [if_neg c2, if_pos (by omega)]
                exact J1 i (by omega)
            · rw [if_neg c1, if_neg (by omega), if_neg (by omega)]
          have skip : ¬ (S.1 = -1 ∨ b + p_cost mi te nd T g k < S.1) → S'.1 = S.1 ∧ ∀ i, i < nd → S'.2.2 i = S.2.2 i := R3
          cases o with
          | none =>
            rw [p_bs_none (show p_uns g k from c') rfl]
            have q := J3 (Or.inl rfl)
            refine ⟨pre, fun d hd hc => ?_, fun h => ?_⟩
            · cases hd
              exact take (by rw [q.1]; exact hc)
            · rcases h with h | ⟨d, hd, hc⟩
              · cases h
              · cases hd
                have g2 := skip (by rw [q.1]; exact hc)
                exact ⟨g2.1.trans q.1, fun i hi => (g2.2 i hi).trans (q.2 i hi)⟩
          | some d =>
            have hd := hlt d rfl
            have hlk := lt k d hkn c' (by omega) hd.2
            by_cases c3 : s.1 = -1 ∨ b + p_cost mi te nd T g d < s.1
            · have q := J2 d rfl c3
              by_cases c4 : p_cost mi te nd T g k < p_cost mi te nd T g d
              · rw [p_bs_lt (show p_uns g k from c') rfl c4]
                have hk3 : s.1 = -1 ∨ b + p_cost mi te nd T g k < s.1 := by
                  rcases c3 with h | h
                  · exact Or.inl h
                  · have h2 := hlk.mpr c4
                    rw [Int32.lt_iff_toInt_lt] at h h2
                    exact Or.inr (Int32.lt_iff_toInt_lt.mpr (by omega))
                refine ⟨pre, fun e he _ => ?_, fun h => ?_⟩
                · cases he
                  exact take (Or.inr (by rw [q.1]; exact hlk.mpr c4))
                · rcases h with h | ⟨e, he, hc⟩
                  · cases h
                  · cases he
                    exact absurd hk3 hc
              · rw [p_bs_ge (show p_uns g k from c') rfl c4]
                have g2 := skip (by
                  rw [q.1]
                  rintro (h | h)
                  · exact ne1 d (by omega) hd.2 h
                  · exact c4 (hlk.mp h))
                refine ⟨pre, fun e he _ => ?_, fun h => ?_⟩
                · cases he
                  exact ⟨g2.1.trans q.1, fun i hi => (g2.2 i hi).trans (q.2 i hi)⟩
                · rcases h with h | ⟨e, he, hc⟩
                  · cases h
                  · cases he
                    exact absurd c3 hc
            · have q := J3 (Or.inr ⟨d, rfl, c3⟩)
              by_cases c5 : S.1 = -1 ∨ b + p_cost mi te nd T g k < S.1
              · have c6 : s.1 = -1 ∨ b + p_cost mi te nd T g k < s.1 := by rw [← q.1]; exact c5
                have c4 : p_cost mi te nd T g k < p_cost mi te nd T g d := by
                  rcases c6 with h | h
                  · exact absurd (Or.inl h) c3
                  · refine hlk.mp ?_
                    have h2 : ¬ b + p_cost mi te nd T g d < s.1 := fun h2 => c3 (Or.inr h2)
                    rw [Int32.lt_iff_toInt_lt] at h h2 ⊢
                    omega
                rw [p_bs_lt (show p_uns g k from c') rfl c4]
                refine ⟨pre, fun e he _ => ?_, fun h => ?_⟩
                · cases he
                  exact take c5
                · rcases h with h | ⟨e, he, hc⟩
                  · cases h
                  · cases he
                    exact absurd c6 hc
              · have g2 := skip c5
                have c6 : ¬ (s.1 = -1 ∨ b + p_cost mi te nd T g k < s.1) := by rw [← q.1]; exact c5
                have fin : S'.1 = s.1 ∧ ∀ i, i < nd → S'.2.2 i = s.2.2 i := ⟨g2.1.trans q.1, fun i hi => (g2.2 i hi).trans (q.2 i hi)⟩
                by_cases c4 : p_cost mi te nd T g k < p_cost mi te nd T g d
                · rw [p_bs_lt (show p_uns g k from c') rfl c4]
                  exact ⟨pre, fun e he hc => by cases he; exact absurd hc c6, fun _ => fin⟩
                · rw [p_bs_ge (show p_uns g k from c') rfl c4]
                  exact ⟨pre, fun e he hc => by cases he; exact absurd hc c3, fun _ => fin⟩
    have fin := key nd 0 s (by omega) ⟨fun _ _ => rfl, fun d h => (by cases h), fun _ => ⟨rfl, fun _ _ => rfl⟩⟩
    have e := hT g hg
    unfold p_LqE at e
    have he : ∃ d, p_nxt mi te nd T g = some d := by
      cases c : p_nxt mi te nd T g with
      | some d => exact ⟨d, rfl⟩
      | none =>
        obtain ⟨x, hx, hP, _⟩ := p_rk_ex (P := fun d => g.testBit d = false) (n := nd) (p := 0) (by have e2 : p_rk (fun d => g.testBit d = false) nd = r + 1 := hu; omega)
        exact absurd hP (p_bs_none_iff nd 0 c x (Nat.zero_le _) (by omega))
    obtain ⟨d, hd⟩ := he
    rw [hd] at e
    have e : T g = p_cost mi te nd T g d := e
    have hdl := p_nxt_lt hd
    show p_QR mi te nd T (r + 1) g b s (p_fold _ nd 0 s)
    obtain ⟨F1, F2, F3⟩ := fin
    refine ⟨F1, fun h => ?_, fun h => ?_⟩
    · rw [e] at h
      have q := F2 d hd h
      refine ⟨by rw [e]; exact q.1, fun k hk => ?_⟩
      rw [q.2 k hk]
      by_cases c1 : k < nd - (r + 1)
      · rw [if_pos c1, if_pos c1]
      · rw [if_neg c1, if_neg c1]
        by_cases c2 : k = nd - (r + 1)
        · rw [if_pos c2, c2, Nat.sub_self]
          show nI d = p_oi (p_nxt mi te nd T g)
          rw [hd]
          rfl
        · rw [if_neg c2, show k - (nd - (r + 1)) = (k - (nd - r)) + 1 by omega]
          have eg : p_gr (p_nxt mi te nd T) (k - (nd - r) + 1) g = p_gr (p_nxt mi te nd T) (k - (nd - r)) (g ||| 2 ^ d) := by
            show (match p_nxt mi te nd T g with | none => p_gr (p_nxt mi te nd T) (k - (nd - r)) g | some d => p_gr (p_nxt mi te nd T) (k - (nd - r)) (g ||| 2 ^ d)) = _
            rw [hd]
          rw [eg]
    · rw [e] at h
      exact F3 (Or.inr ⟨d, hd, h⟩)
theorem q_que_eq {mi te : Nat → Int32} {nd : Nat} {T : Nat → Int32} (h5 : nd ≤ 5) (hm : ∀ d, d < nd → 0 ≤ (mi d).toInt ∧ (mi d).toInt ≤ 99) (ht : ∀ d, d < nd → 0 ≤ (te d).toInt ∧ (te d).toInt ≤ 9) (i : Int32) (hT : (q_queue mi te nd T i).1 = 0 → ∀ B, B < 2 ^ nd → p_LqE mi te nd T B) (s : p_Qs) : q_mQue mi te nd s i = q_queue mi te nd T i := by
  have hun0 : p_un 0 nd = nd := by
    have : ∀ n, p_un 0 n = n := by
      intro n
      induction n with
      | zero => rfl
      | succ n ih => rw [show p_un 0 (n + 1) = p_un 0 n + 1 from p_rk_y (P := fun d => (0 : Nat).testBit d = false) (Nat.zero_testBit n), ih]
    exact this nd
  have hs0 : p_sum 0 mi nd = 0 := by
    have : ∀ j k, p_fold (p_sms 0 mi) j k 0 = 0 := by
      intro j
      induction j with
      | zero => intro k; rfl
      | succ j ih => intro k; rw [p_fold_s (p_sms_n (Nat.zero_testBit k))]; exact ih _
    exact this nd 0
  unfold q_mQue
  by_cases c : p_in i (-1) (nI nd - 1)
  · rw [if_neg (not_not_intro c)]
    have hq1 : (q_queue mi te nd T i).1 = 0 := by
      unfold q_queue
      by_cases d : i = -1
      · rw [if_pos d]
      · rw [if_neg d, if_neg (not_not_intro (p_in_m (by omega) c d))]
    have A := p_qs_all h5 hm ht (hT hq1) nd 0 0 (-1, s.2) (Nat.le_refl _) (Nat.two_pow_pos _) hun0 (by decide) (by rw [show (0 : Int32).toInt = 0 from rfl]; omega)
    rw [hs0] at A
    have A2 := A.2.1 (Or.inl rfl)
    unfold q_queue
    by_cases d : i = -1
    · rw [if_pos d, if_pos d, A2.1, Int32.zero_add]
    · have hel := p_in_m (show nd < 2 ^ 31 by omega) c d
      rw [if_neg d, if_neg d, if_neg (not_not_intro hel)]
      obtain ⟨x, hx, rfl⟩ := nI_of (x := i) (Int32.not_lt.mpr hel.1)
      have hxl := (nI_ltI hx (show nd < 2 ^ 31 by omega)).mp hel.2
      rw [p_ix_n hx, A2.2 x hxl, Nat.sub_self, if_neg (by omega), Nat.sub_zero]
  · rw [if_pos c]
    unfold q_queue
    by_cases d : i = -1
    · exact absurd (by rw [d]; exact ⟨by decide, by
        rw [Int32.le_iff_toInt_le, fb_subI (by rw [nI_toInt (by omega), show (1 : Int32).toInt = 1 from rfl]; omega) (by rw [nI_toInt (by omega), show (1 : Int32).toInt = 1 from rfl]; omega), nI_toInt (by omega), show (1 : Int32).toInt = 1 from rfl, show (-1 : Int32).toInt = -1 from rfl]
        omega⟩) c
    · rw [if_neg d, if_pos]
      intro h
      have q := (p_in_el (show nd < 2 ^ 31 by omega)).mpr h
      exact c ⟨Int32.le_trans (by decide) q.1, q.2⟩
