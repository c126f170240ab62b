/-! THE PARTING, BOTH WAYS: the reference's sets of taken arms, the class's sets of places -/
theorem p_fold_rk {σ τ : Type} {P : Nat → Prop} [DecidablePred P] {f : Nat → σ → σ} {g : Nat → τ → τ} (φ : τ → σ) (N : Nat) (I : Nat → τ → Prop) (h0 : ∀ x z, x < N → ¬ P x → f x z = z) (h1 : ∀ x z, x < N → P x → I (p_rk P x) z → f x (φ z) = φ (g (p_rk P x) z) ∧ I (p_rk P x + 1) (g (p_rk P x) z)) :
    ∀ (j k : Nat) (z : τ), k + j ≤ N → I (p_rk P k) z → p_fold f j k (φ z) = φ (p_fold g (p_rk P (k + j) - p_rk P k) (p_rk P k) z)
  | 0, k, z, _, _ => by rw [Nat.add_zero, Nat.sub_self]; rfl
  | j + 1, k, z, hN, hI => by
    have hm := p_rk_mono (P := P) (show k + 1 ≤ k + 1 + j by omega)
    rw [show k + (j + 1) = k + 1 + j by omega]
    by_cases c : P k
    · have e := h1 k z (by omega) c hI
      rw [p_rk_y c] at hm
      rw [show p_rk P (k + 1 + j) - p_rk P k = (p_rk P (k + 1 + j) - (p_rk P k + 1)) + 1 by omega, p_fold_s e.1, p_fold_s (f := g) rfl]
      have r := p_fold_rk φ N I h0 h1 j (k + 1) (g (p_rk P k) z) (by omega) (by rw [p_rk_y c]; exact e.2)
      rw [p_rk_y c] at r
      exact r
    · rw [p_fold_s (h0 k (φ z) (by omega) c)]
      have r := p_fold_rk φ N I h0 h1 j (k + 1) z (by omega) (by rw [p_rk_n c]; exact hI)
      rw [p_rk_n c] at r
      exact r
theorem p_max_gs (z g : Int32) : p_max z g = if g ≤ z then z else g := by
  unfold p_max
  by_cases c : z < g
  · rw [if_pos c, if_neg (Int32.not_le.mpr c)]
  · rw [if_neg c, if_pos (Int32.not_lt.mp c)]
theorem p_gs_c {a b z : Int32} (h : a = b) : (if a ≤ z then z else a) = (if b ≤ z then z else b) := by rw [h]
theorem p_pw2 (x d : Nat) : 2 ^ (x + 1) * d = 2 ^ x * (d * 2) := by rw [Nat.pow_succ, Nat.mul_assoc, Nat.mul_comm 2 d]
theorem p_addbit {s x y : Nat} (h : s.testBit x = false) : (s + 2 ^ x).testBit y = (s.testBit y || decide (y = x)) := by
  rw [show s + 2 ^ x = s ||| 2 ^ x by
    refine Nat.eq_of_testBit_eq fun i => ?_
    have hs : s = 2 ^ (x + 1) * (s / 2 ^ (x + 1)) + s % 2 ^ x := by
      have e1 := Nat.div_add_mod s (2 ^ (x + 1))
      have e2 : s % 2 ^ (x + 1) = s % 2 ^ x := by
        have hb : s / 2 ^ x % 2 = 0 := by rw [Nat.testBit_eq_decide_div_mod_eq] at h; have := Nat.mod_two_eq_zero_or_one (s / 2 ^ x); simp at h; omega
        rw [Nat.mod_pow_succ, hb, Nat.mul_zero, Nat.add_zero]
      omega
    have e3 : s + 2 ^ x = 2 ^ x * (s / 2 ^ (x + 1) * 2 + 1) + s % 2 ^ x := by
      have := p_pw2 x (s / 2 ^ (x + 1))
      rw [Nat.mul_add, Nat.mul_one]
      omega
    have e4 : s = 2 ^ x * (s / 2 ^ (x + 1) * 2) + s % 2 ^ x := by
      have := p_pw2 x (s / 2 ^ (x + 1))
      omega
    rw [e3, fb_bit_set, Nat.testBit_two_pow_mul_add _ (Nat.mod_lt _ (Nat.two_pow_pos x))]
    have e5 : s.testBit i = if i < x then (s % 2 ^ x).testBit i else (s / 2 ^ (x + 1) * 2).testBit (i - x) := by
      have := Nat.testBit_two_pow_mul_add (s / 2 ^ (x + 1) * 2) (Nat.mod_lt s (Nat.two_pow_pos x)) i
      rw [← e4] at this
      exact this
    rw [e5]
    by_cases c : i < x
    · rw [if_pos c, if_pos c, decide_eq_false (by omega), Bool.or_false]
    · rw [if_neg c, if_neg c]
      obtain ⟨d, rfl⟩ : ∃ d, i = x + d := ⟨i - x, by omega⟩
      rw [Nat.add_sub_cancel_left]
      cases d with
      | zero => simp [Nat.testBit_zero]
      | succ d => rw [decide_eq_false (by omega), Bool.or_false, Nat.testBit_succ, Nat.testBit_succ]; congr 1; omega]
  exact fb_bit_set s x y
def p_Rl (A : Nat → Nat → Int32) (na : Nat) (o : Option Nat) (s s' : Nat) : Prop := ∀ p, p < p_np A na → (s'.testBit p = true ↔ (s.testBit (p_pl A na p) = false ∧ o ≠ some (p_pl A na p)))
theorem p_pl_rk {A : Nat → Nat → Int32} {na x : Nat} (hx : x < na) (hf : A x 6 = 99) : p_pl A na (p_rk (p_Pf A) x) = x := p_kt_rk hx hf
theorem p_sl_rk {A : Nat → Nat → Int32} {na nd x : Nat} (hx : x < 2 * nd) (hf : p_Qf A na x) : p_sl A na nd (p_rk (p_Qf A na) x) = x := p_kt_rk (P := p_Qf A na) hx hf
theorem p_Rl.step {A : Nat → Nat → Int32} {na s s' x : Nat} {o : Option Nat} (R : p_Rl A na o s s') (hx : x < na) (hf : A x 6 = 99) (hs : s.testBit x = false) (ho : o ≠ some x) : p_Rl A na o (s + 2 ^ x) (s' ^^^ 2 ^ p_rk (p_Pf A) x) := fun q hq => by
  have hq' := p_pl_lt hq
  rw [fb_bit_flip, p_addbit hs]
  by_cases c : q = p_rk (p_Pf A) x
  · have e : p_pl A na q = x := by rw [c]; exact p_pl_rk hx hf
    have hb : s'.testBit q = true := (R q hq).mpr (by rw [e]; exact ⟨hs, ho⟩)
    rw [e, hb, decide_eq_true c, decide_eq_true rfl]
    simp
  · have e : ¬ p_pl A na q = x := fun h => c (by rw [← hq'.2.2, h])
    rw [decide_eq_false c, decide_eq_false e, Bool.xor_false, Bool.or_false]
    exact R q hq
theorem p_able {A D : Nat → Nat → Int32} {na nd i x s s' : Nat} {o : Option Nat} (hi : i < 2 * nd) (hq : p_Qf A na i) (R : p_Rl A na o s s') (hx : x < na) (hf : A x 6 = 99) : (s' &&& p_ab A D na nd (p_rk (p_Qf A na) i)).testBit (p_rk (p_Pf A) x) = true ↔ (p_PD A D na o i x ∧ s.testBit x = false) := by
  have hp : p_rk (p_Pf A) x < p_np A na := p_rk_lt hx hf
  have r := R _ hp
  rw [p_pl_rk hx hf] at r
  rw [Nat.testBit_and, Bool.and_eq_true, r]
  unfold p_ab p_slV
  rw [p_sN_bit, decide_eq_true_iff, p_pl_rk hx hf, p_sl_rk hi hq]
  constructor
  · rintro ⟨⟨h1, h2⟩, h3, h4⟩
    exact ⟨⟨⟨hf, h4, hq⟩, h2⟩, h1⟩
  · rintro ⟨⟨⟨h1, h2, h3⟩, h4⟩, h5⟩
    exact ⟨⟨h5, h4⟩, hp, h2⟩
theorem p_mG_TB {A D : Nat → Nat → Int32} {na nd : Nat} {o : Option Nat} : ∀ (j i s s' : Nat), i + j = 2 * nd → p_Rl A na o s s' → p_Gd (p_PD A D na o) (fun x i => p_farA A D x (i / 2)) na j i s = p_tb (p_wt A D na nd) (p_ab A D na nd) (p_np A na) (p_ns A na nd - p_rk (p_Qf A na) i) (p_rk (p_Qf A na) i) s'
  | 0, i, s, s', h, _ => by
    rw [show p_ns A na nd - p_rk (p_Qf A na) i = 0 by rw [show i = 2 * nd by omega]; exact Nat.sub_self _]
    rfl
  | j + 1, i, s, s', h, R => by
    by_cases hq : p_Qf A na i
    · have ht : p_rk (p_Qf A na) i < p_ns A na nd := p_rk_lt (P := p_Qf A na) (by omega) hq
      have ih := p_mG_TB (D := D) (nd := nd) j (i + 1) s s' (by omega) R
      rw [p_rk_y hq] at ih
      rw [show p_ns A na nd - p_rk (p_Qf A na) i = (p_ns A na nd - (p_rk (p_Qf A na) i + 1)) + 1 by omega]
      show p_fold _ na 0 _ = p_bw _ _ _ _ _ _
      unfold p_bw
      rw [ih, Nat.zero_add]
      have k := p_fold_rk (P := p_Pf A) (f := p_Gs (p_PD A D na o i) (fun x => 1000 - p_farA A D x (i / 2) + p_Gd (p_PD A D na o) (fun x i => p_farA A D x (i / 2)) na j (i + 1) (s + 2 ^ x)) s) (g := p_bw1 (fun x => p_tb (p_wt A D na nd) (p_ab A D na nd) (p_np A na) (p_ns A na nd - (p_rk (p_Qf A na) i + 1)) (p_rk (p_Qf A na) i + 1) x) (p_wt A D na nd (p_rk (p_Qf A na) i)) 0 s' (p_ab A D na nd (p_rk (p_Qf A na) i))) id na (fun _ _ => True)
        (fun x z _ hx => if_neg (fun q => hx q.1.1.1)) (fun x z hx hf _ => ⟨?_, trivial⟩) na 0 (p_tb (p_wt A D na nd) (p_ab A D na nd) (p_np A na) (p_ns A na nd - (p_rk (p_Qf A na) i + 1)) (p_rk (p_Qf A na) i + 1) s') (by omega) trivial
      · rw [Nat.zero_add] at k
        exact k
      · show p_Gs _ _ _ _ z = p_bw1 _ _ _ _ _ _ z
        have ab := p_able (D := D) (nd := nd) (show i < 2 * nd by omega) hq R hx hf
        by_cases c : p_PD A D na o i x ∧ s.testBit x = false
        · rw [p_bw1_y (ab.mpr c), p_max_gs]
          have ih2 := p_mG_TB (D := D) (nd := nd) j (i + 1) (s + 2 ^ x) (s' ^^^ 2 ^ p_rk (p_Pf A) x) (by omega) (R.step hx hf c.2 c.1.2)
          rw [p_rk_y hq] at ih2
          unfold p_Gs
          rw [if_pos c]
          refine p_gs_c ?_
          dsimp only
          rw [ih2, Nat.zero_add]
          unfold p_wt p_slW
          rw [p_pl_rk hx hf, p_sl_rk (show i < 2 * nd by omega) hq]
        · have c' : (s' &&& p_ab A D na nd (p_rk (p_Qf A na) i)).testBit (p_rk (p_Pf A) x) = false := by
            cases hb : (s' &&& p_ab A D na nd (p_rk (p_Qf A na) i)).testBit (p_rk (p_Pf A) x) with
            | false => rfl
            | true => exact absurd (ab.mp hb) c
          rw [p_bw1_n c']
          exact if_neg c
    · have ih := p_mG_TB (D := D) (nd := nd) j (i + 1) s s' (by omega) R
      rw [p_rk_n hq] at ih
      rw [← ih]
      show p_fold _ na 0 _ = _
      have e : ∀ (a b : Nat) (z : Int32), p_fold (p_Gs (p_PD A D na o i) (fun x => 1000 - p_farA A D x (i / 2) + p_Gd (p_PD A D na o) (fun x i => p_farA A D x (i / 2)) na j (i + 1) (s + 2 ^ x)) s) a b z = z := by
        intro a
        induction a with
        | zero => intro b z; rfl
        | succ a ih => intro b z; rw [p_fold_s (s2 := z) (show p_Gs (p_PD A D na o i) _ s b z = z from if_neg (fun q => hq q.1.1.2.2))]; exact ih _ _
      exact e na 0 _
theorem p_Rl.all (A : Nat → Nat → Int32) (na : Nat) : p_Rl A na none 0 (2 ^ p_np A na - 1) := fun p hp => by
  rw [Nat.testBit_two_pow_sub_one, decide_eq_true hp, Nat.zero_testBit]
  simp
theorem p_Rl.but {A : Nat → Nat → Int32} {na x : Nat} (hx : x < na) (hf : A x 6 = 99) : p_Rl A na (some x) 0 ((2 ^ p_np A na - 1) ^^^ 2 ^ p_rk (p_Pf A) x) := fun p hp => by
  rw [fb_bit_flip, Nat.testBit_two_pow_sub_one, decide_eq_true hp, Nat.zero_testBit]
  by_cases c : p = p_rk (p_Pf A) x
  · rw [decide_eq_true c, c, p_pl_rk hx hf]
    simp
  · have e : ¬ x = p_pl A na p := fun h => c (by rw [h]; exact (p_pl_lt hp).2.2.symm)
    rw [decide_eq_false c]
    simp [e]
theorem p_mG_B (A D : Nat → Nat → Int32) (na nd : Nat) : p_mG A D na nd none 0 0 = p_B A D na nd := by
  have := p_mG_TB (D := D) (nd := nd) (2 * nd) 0 0 _ (by omega) (p_Rl.all A na)
  exact this
theorem p_mG_bit {A D : Nat → Nat → Int32} {na nd x : Nat} (hx : x < na) (hf : A x 6 = 99) : p_mG A D na nd (some x) 0 0 = p_TB A D na nd 0 ((2 ^ p_np A na - 1) ^^^ 2 ^ p_rk (p_Pf A) x) := by
  have := p_mG_TB (D := D) (nd := nd) (2 * nd) 0 0 _ (by omega) (p_Rl.but hx hf)
  exact this
theorem q_whole_eq (A D : Nat → Nat → Int32) (na nd : Nat) (w : Int32) : q_mW (p_mG A D na nd none 0 0) w = q_whole A D na nd w := by
  rw [p_mG_B]
  unfold q_mW q_whole
  split
  · rfl
  · split <;> rfl
theorem p_dst_eq (A D : Nat → Nat → Int32) (na nd : Nat) : p_oi (p_fold (p_bst (fun x => A x 6 = 99) (fun x => p_mG A D na nd (some x) 0 0)) na 0 none) = p_dst A D na nd := by
  have k := p_fold_rk (P := p_Pf A) (f := p_bst (fun x => A x 6 = 99) (fun x => p_mG A D na nd (some x) 0 0)) (g := p_bst (fun _ => True) (fun p => p_TB A D na nd 0 ((2 ^ p_np A na - 1) ^^^ 2 ^ p))) (fun o : Option Nat => o.map (p_pl A na)) na (fun k o => ∀ b, o = some b → b < k ∧ k ≤ p_np A na)
    (fun x z _ hx => if_neg hx) (fun x z hx hf hI => ?_) na 0 none (by omega) (fun b hb => by cases hb)
  · rw [Nat.zero_add] at k
    rw [show (none : Option Nat) = (none : Option Nat).map (p_pl A na) from rfl, k]
    unfold p_dst
    show p_oi (Option.map _ (p_fold _ (p_np A na) 0 none)) = _
    cases p_fold (p_bst (fun _ => True) (fun p => p_TB A D na nd 0 ((2 ^ p_np A na - 1) ^^^ 2 ^ p))) (p_np A na) 0 none <;> rfl
  · have hp : p_rk (p_Pf A) x < p_np A na := p_rk_lt hx hf
    have hpl : p_pl A na (p_rk (p_Pf A) x) = x := p_pl_rk hx hf
    cases z with
    | none => exact ⟨by rw [show p_bst (fun x => A x 6 = 99) (fun x => p_mG A D na nd (some x) 0 0) x (Option.map (p_pl A na) none) = some x from if_pos hf, show p_bst (fun _ => True) (fun p => p_TB A D na nd 0 ((2 ^ p_np A na - 1) ^^^ 2 ^ p)) (p_rk (p_Pf A) x) none = some (p_rk (p_Pf A) x) from if_pos trivial]; show some x = some _; rw [hpl], fun b hb => by
        rw [show p_bst (fun _ => True) (fun p => p_TB A D na nd 0 ((2 ^ p_np A na - 1) ^^^ 2 ^ p)) (p_rk (p_Pf A) x) none = some (p_rk (p_Pf A) x) from if_pos trivial] at hb
        cases hb
        exact ⟨by omega, by omega⟩⟩
    | some b =>
      have hb := hI b rfl
      have hbl := p_pl_lt (A := A) (na := na) (show b < p_np A na by omega)
      have e1 := p_mG_bit (D := D) (nd := nd) hx hf
      have e2 := p_mG_bit (D := D) (nd := nd) hbl.1 hbl.2.1
      rw [hbl.2.2] at e2
      by_cases c : p_TB A D na nd 0 ((2 ^ p_np A na - 1) ^^^ 2 ^ p_rk (p_Pf A) x) < p_TB A D na nd 0 ((2 ^ p_np A na - 1) ^^^ 2 ^ b)
      · have g1 : p_bst (fun _ => True) (fun p => p_TB A D na nd 0 ((2 ^ p_np A na - 1) ^^^ 2 ^ p)) (p_rk (p_Pf A) x) (some b) = some (p_rk (p_Pf A) x) := p_bs_lt trivial rfl c
        rw [g1]
        refine ⟨?_, fun d hd => by cases hd; exact ⟨by omega, by omega⟩⟩
        exact (p_bs_lt (P := fun x => A x 6 = 99) (f := fun x => p_mG A D na nd (some x) 0 0) (b := p_pl A na b) hf rfl (by rw [e1, e2]; exact c)).trans (congrArg some hpl.symm)
      · have g1 : p_bst (fun _ => True) (fun p => p_TB A D na nd 0 ((2 ^ p_np A na - 1) ^^^ 2 ^ p)) (p_rk (p_Pf A) x) (some b) = some b := p_bs_ge trivial rfl c
        rw [g1]
        refine ⟨?_, fun d hd => by cases hd; exact ⟨by omega, by omega⟩⟩
        exact p_bs_ge (P := fun x => A x 6 = 99) (f := fun x => p_mG A D na nd (some x) 0 0) (b := p_pl A na b) hf rfl (by rw [e1, e2]; exact c)
theorem q_dea_eq (A D : Nat → Nat → Int32) (na nd : Nat) (w : Int32) : q_mDea A D na nd w = q_dearest A D na nd w := by
  unfold q_mDea q_dearest
  by_cases c : p_in w 0 1
  · rw [if_neg (not_not_intro c), if_neg (not_not_intro c), p_dst_eq]
    by_cases d : w = 0
    · subst d
      rw [if_pos rfl, if_neg (by decide)]
    · rw [if_neg d, if_pos]
      obtain ⟨j, hj, rfl⟩ := nI_of (x := w) (Int32.not_lt.mpr c.1)
      have h1 := (nI_leI (b := 1) hj (by decide)).mp c.2
      have h2 : j ≠ 0 := fun e => d (by rw [e]; rfl)
      rw [show j = 1 by omega]
      rfl
  · rw [if_pos c, if_pos c]
