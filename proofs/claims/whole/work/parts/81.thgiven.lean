theorem p_fd_rk {P M W : Nat → Prop} [DecidablePred P] [DecidablePred M] [DecidablePred W] {pl : Nat → Nat} (N : Nat) (h0 : ∀ x, x < N → ¬ P x → ¬ M x) (h1 : ∀ x, x < N → P x → (M x ↔ W (p_rk P x))) (hpl : ∀ x, x < N → P x → pl (p_rk P x) = x) :
    ∀ (j k : Nat), k + j ≤ N → p_fd M j k = (p_fd W (p_rk P (k + j) - p_rk P k) (p_rk P k)).map pl
  | 0, k, _ => by rw [Nat.add_zero, Nat.sub_self]; rfl
  | j + 1, k, hN => by
    have hm := p_rk_mono (P := P) (show k + 1 ≤ k + 1 + j by omega)
    rw [show k + (j + 1) = k + 1 + j by omega]
    have ih := p_fd_rk N h0 h1 hpl j (k + 1) (by omega)
    by_cases c : P k
    · rw [p_rk_y c] at hm ih
      rw [show p_rk P (k + 1 + j) - p_rk P k = (p_rk P (k + 1 + j) - (p_rk P k + 1)) + 1 by omega]
      by_cases d : M k
      · rw [p_fd_y d, p_fd_y ((h1 k (by omega) c).mp d)]
        show some k = some _
        rw [hpl k (by omega) c]
      · rw [p_fd_n d, p_fd_n (mt (h1 k (by omega) c).mpr d)]
        exact ih
    · rw [p_rk_n c] at ih
      rw [p_fd_n (h0 k (by omega) c)]
      exact ih
theorem p_mG_T {A D : Nat → Nat → Int32} {na nd i s s' : Nat} {o : Option Nat} (hi : i ≤ 2 * nd) (R : p_Rl A na o s s') : p_mG A D na nd o i s = p_TB A D na nd (p_rk (p_Qf A na) i) s' :=
  p_mG_TB (D := D) (nd := nd) (2 * nd - i) i s s' (by omega) R
theorem p_mf_eq {A D : Nat → Nat → Int32} {na nd i s s' : Nat} {o : Option Nat} (hi : i < 2 * nd) (hq : p_Qf A na i) (R : p_Rl A na o s s') : p_mf A D na nd o i s = (p_fpl A D na nd (p_rk (p_Qf A na) i) s').map (p_pl A na) := by
  have k := p_fd_rk (P := p_Pf A) (M := p_mQ A D na nd o i s) (W := fun p => (s' &&& p_ab A D na nd (p_rk (p_Qf A na) i)).testBit p = true ∧ p_wt A D na nd (p_rk (p_Qf A na) i) p + p_TB A D na nd (p_rk (p_Qf A na) i + 1) (s' ^^^ 2 ^ p) = p_TB A D na nd (p_rk (p_Qf A na) i) s') (pl := p_pl A na) na
    (fun x _ hx q => hx q.1.1.1) (fun x hx hf => ?_) (fun x hx hf => p_pl_rk hx hf) na 0 (by omega)
  · rw [Nat.zero_add] at k
    exact k
  · have ab := p_able (D := D) hi hq R hx hf
    have key : p_PD A D na o i x ∧ s.testBit x = false → (1000 - p_farA A D x (i / 2) + p_mG A D na nd o (i + 1) (s + 2 ^ x) = p_wt A D na nd (p_rk (p_Qf A na) i) (p_rk (p_Pf A) x) + p_TB A D na nd (p_rk (p_Qf A na) i + 1) (s' ^^^ 2 ^ p_rk (p_Pf A) x)) := fun c => by
      rw [p_mG_T (show i + 1 ≤ 2 * nd by omega) (R.step hx hf c.2 c.1.2), p_rk_y hq]
      unfold p_wt p_slW
      rw [p_pl_rk hx hf, p_sl_rk hi hq]
    rw [← p_mG_T (D := D) (show i ≤ 2 * nd by omega) R]
    constructor
    · rintro ⟨h1, h2, h3⟩
      exact ⟨ab.mpr ⟨h1, h2⟩, (key ⟨h1, h2⟩).symm.trans h3⟩
    · rintro ⟨h1, h2⟩
      have h := ab.mp h1
      exact ⟨h.1, h.2, (key h).trans h2⟩
theorem p_gvn_no {A D : Nat → Nat → Int32} {na nd x : Nat} (hx : ¬ p_Qf A na x) : ∀ (j t s : Nat), t + j = p_ns A na nd → p_gvn A D na nd x j t s = -1
  | 0, _, _, _ => rfl
  | j + 1, t, s, h => by
    have hs := (p_sl_lt (A := A) (na := na) (nd := nd) (show t < p_ns A na nd by omega)).2.1
    unfold p_gvn
    rw [if_neg (fun e => hx (by rw [← e]; exact hs))]
    exact p_gvn_no hx j (t + 1) _ (by omega)
theorem p_mf_no {A D : Nat → Nat → Int32} {na nd i s : Nat} {o : Option Nat} (hq : ¬ p_Qf A na i) : p_mf A D na nd o i s = none := by
  have e : ∀ (a b : Nat), p_fd (p_mQ A D na nd o i s) a b = none := by
    intro a
    induction a with
    | zero => intro b; rfl
    | succ a ih => intro b; rw [p_fd_n (fun q => hq q.1.1.2.2)]; exact ih _
  exact e na 0
theorem p_gvn_eq {A D : Nat → Nat → Int32} {na nd x : Nat} (hx : x < 2 * nd) : ∀ (r k s s' : Nat), k + r = x → p_Rl A na none s s' → p_oi (p_mgv A D na nd none r k s) = p_gvn A D na nd x (p_ns A na nd - p_rk (p_Qf A na) k) (p_rk (p_Qf A na) k) s'
  | 0, k, s, s', h, R => by
    obtain rfl : k = x := by omega
    by_cases hq : p_Qf A na k
    · have ht : p_rk (p_Qf A na) k < p_ns A na nd := p_rk_lt (P := p_Qf A na) hx hq
      rw [show p_ns A na nd - p_rk (p_Qf A na) k = (p_ns A na nd - (p_rk (p_Qf A na) k + 1)) + 1 by omega]
      unfold p_gvn
      rw [if_pos (p_sl_rk hx hq)]
      show p_oi (p_mf A D na nd none k s) = _
      rw [p_mf_eq hx hq R]
      cases p_fpl A D na nd (p_rk (p_Qf A na) k) s' <;> rfl
    · rw [p_gvn_no hq _ _ _ (by have := p_rk_mono (P := p_Qf A na) (show k ≤ 2 * nd by omega); show p_rk (p_Qf A na) k + (p_rk (p_Qf A na) (2 * nd) - p_rk (p_Qf A na) k) = p_rk (p_Qf A na) (2 * nd); omega)]
      show p_oi (p_mf A D na nd none k s) = _
      rw [p_mf_no hq]
      rfl
  | r + 1, k, s, s', h, R => by
    by_cases hq : p_Qf A na k
    · have ht : p_rk (p_Qf A na) k < p_ns A na nd := p_rk_lt (P := p_Qf A na) (by omega) hq
      rw [show p_ns A na nd - p_rk (p_Qf A na) k = (p_ns A na nd - (p_rk (p_Qf A na) k + 1)) + 1 by omega]
      have hm := p_mf_eq (D := D) (show k < 2 * nd by omega) hq R
      unfold p_gvn
      rw [if_neg (by rw [p_sl_rk (show k < 2 * nd by omega) hq]; omega)]
      cases hf : p_fpl A D na nd (p_rk (p_Qf A na) k) s' with
      | none =>
        rw [hf] at hm
        rw [p_mgv_n hm]
        have ih := p_gvn_eq (D := D) hx r (k + 1) s s' (by omega) R
        rw [p_rk_y hq] at ih
        exact ih
      | some p =>
        rw [hf] at hm
        have hm : p_mf A D na nd none k s = some (p_pl A na p) := hm
        have hp := (p_fd_some hf).2.1
        rw [Nat.zero_add] at hp
        have hpl := p_pl_lt hp
        rw [p_mgv_s hm]
        have ih := p_gvn_eq (D := D) hx r (k + 1) (s + 2 ^ p_pl A na p) (s' ^^^ 2 ^ p) (by omega) (by
          have q := R.step hpl.1 hpl.2.1 (p_mf_s hm).2 (fun e => by cases e)
          rw [hpl.2.2] at q
          exact q)
        rw [p_rk_y hq] at ih
        exact ih
    · rw [p_mgv_n (p_mf_no hq)]
      have ih := p_gvn_eq (D := D) hx r (k + 1) s s' (by omega) R
      rw [p_rk_n hq] at ih
      exact ih
theorem q_giv_eq {A D : Nat → Nat → Int32} {na nd : Nat} (h5 : nd ≤ 5) (x : Int32) : q_mGiv A D na nd x = q_given A D na nd x := by
  unfold q_mGiv q_given
  rw [i_mulc2]
  by_cases c : p_el x (nI (2 * nd))
  · rw [if_neg (not_not_intro c), if_neg (Int32.not_lt.mpr c.1), if_neg (not_not_intro c.2)]
    obtain ⟨j, hj, rfl⟩ := nI_of (x := x) (Int32.not_lt.mpr c.1)
    have hl := (nI_ltI hj (show 2 * nd < 2 ^ 31 by omega)).mp c.2
    rw [p_ix_n hj, p_gvn_eq hl j 0 0 _ (by omega) (p_Rl.all A na)]
    rfl
  · rw [if_pos c]
    by_cases d : x < 0
    · rw [if_pos d]
    · rw [if_neg d, if_pos (fun h => c ⟨Int32.not_lt.mp d, h⟩)]
