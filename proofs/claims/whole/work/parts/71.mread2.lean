/-- the reader's own slots alone are another -/
def fx_KZ (m m' : fx_M) : Prop := m'.2 = m.2 ∧ (∀ o, o ≠ 83 → m'.1 o = m.1 o) ∧ ∀ j, ¬ (36 ≤ j ∧ j ≤ 38) → m'.1 83 j = m.1 83 j
theorem fx_KZ.refl (m : fx_M) : fx_KZ m m := ⟨rfl, fun _ _ => rfl, fun _ _ => rfl⟩
theorem fx_KZ.trans {a b c : fx_M} (h : fx_KZ a b) (g : fx_KZ b c) : fx_KZ a c := ⟨g.1.trans h.1, fun o ho => (g.2.1 o ho).trans (h.2.1 o ho), fun j hj => (g.2.2 j hj).trans (h.2.2 j hj)⟩
theorem fx_KZ.lay {m m' : fx_M} (h : fx_KZ m m') (hL : fx_Lay m) : fx_Lay m' := fun o k v hv => by rw [h.1]; exact hL o k v hv
theorem fx_KZ.sI {m m' : fx_M} {j : Nat} {v : Int32} (h : fx_KZ m m') (hj : 36 ≤ j ∧ j ≤ 38) : fx_KZ m (fx_sI m' 83 j v) := ⟨h.1, fun o ho => by rw [fx_sI_n _ _ _ ho]; exact h.2.1 o ho, fun i hi => by rw [fx_rd2 (by rintro rfl; exact hi hj)]; exact h.2.2 i hi⟩
theorem fx_KZ.mr {m m' : fx_M} {k n p q : Nat} {tx : Nat → Int32} (h : fx_KZ m m') (R : fx_MR m k n tx p) (h3 : m'.1 83 36 = nI q) (hq : q ≤ n) : fx_MR m' k n tx q := R.cg h.1 (h.2.2 34 (by omega)) (h.2.2 35 (by omega)) h3 hq
def p_mrV (tx : Nat → Int32) (n p : Nat) : Int32 := if p_dg (p_tc tx n (p + 1)) then 10 * (p_tc tx n p - 48) + p_tc tx n (p + 1) - 48 else p_tc tx n p - 48
def p_mrP (tx : Nat → Int32) (n p : Nat) : Nat := if p_dg (p_tc tx n (p + 1)) then p + 2 else p + 1
theorem p_dg_lt {tx : Nat → Int32} {n p : Nat} (h : p_dg (p_tc tx n p)) : p < n := by
  rcases Nat.lt_or_ge p n with q | q
  · exact q
  · rw [show p_tc tx n p = -1 from if_neg (by omega)] at h
    exact absurd h (by decide)
