/-! the parting: the table -/
/-- the best that a set can do for j slots from t on -/
def p_tb (wt : Nat → Nat → Int32) (ab : Nat → Nat) (np : Nat) : Nat → Nat → Nat → Int32
  | 0, _, _ => 0
  | j + 1, t, s => p_bw (fun x => p_tb wt ab np j (t + 1) x) (wt t) 0 s (ab t) np
theorem p_bw_shift {R w : Nat → Int32} {b s a np : Nat} : p_bw R w b s a np = p_bw (fun x => R (b + x)) w 0 s a np := by
  unfold p_bw
  rw [Nat.zero_add]
  exact p_fold_congr np 0 _ (fun p z _ _ => by simp only [p_bw1, Nat.zero_add])
def fx_tb (m : fx_M) (np ns : Nat) (ab : Nat → Nat) : Prop := ∀ t, t ≤ ns → ∀ s, s < 2 ^ np → m.1 54 (t * 256 + s) = p_tb (fun t p => m.1 61 (t * 8 + p)) ab np (ns - t) t s
theorem p_tb_congr {wt wt' : Nat → Nat → Int32} {ab ab' : Nat → Nat} {np : Nat} : ∀ (j t s : Nat), (∀ u, t ≤ u → u < t + j → ab u = ab' u ∧ ∀ p, p < np → wt u p = wt' u p) → p_tb wt ab np j t s = p_tb wt' ab' np j t s
  | 0, _, _, _ => rfl
  | j + 1, t, s, h => by
    have h0 := h t (Nat.le_refl _) (by omega)
    show p_bw _ _ _ _ _ _ = p_bw _ _ _ _ _ _
    rw [h0.1]
    exact p_bw_congr (fun x _ => p_tb_congr j (t + 1) _ (fun u h1 h2 => h u (by omega) (by omega))) h0.2
