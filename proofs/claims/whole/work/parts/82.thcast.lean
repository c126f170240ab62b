/-! CAST: the best with one arm more, by the best ahead of and behind each slot. Counted in whole numbers. -/
def p_z1 (R : Nat → Int) (w : Nat → Int) (s a p : Nat) (z : Int) : Int := if (s &&& a).testBit p = true then (if z < w p + R (s ^^^ 2 ^ p) then w p + R (s ^^^ 2 ^ p) else z) else z
def p_zb (R : Nat → Int) (w : Nat → Int) (s a np : Nat) : Int := p_fold (p_z1 R w s a) np 0 (R s)
def p_zt (w : Nat → Nat → Int) (ab : Nat → Nat) (np : Nat) : Nat → Nat → Nat → Int
  | 0, _, _ => 0
  | j + 1, t, s => p_zb (p_zt w ab np j (t + 1)) (w t) s (ab t) np
def p_za (w : Nat → Nat → Int) (ab : Nat → Nat) (np : Nat) : Nat → Nat → Int
  | 0, _ => 0
  | t + 1, s => p_zb (p_za w ab np t) (w t) s (ab t) np
theorem p_z1_le {R : Nat → Int} {w : Nat → Int} {s a p : Nat} {z y : Int} : p_z1 R w s a p z ≤ y ↔ z ≤ y ∧ ((s &&& a).testBit p = true → w p + R (s ^^^ 2 ^ p) ≤ y) := by
  unfold p_z1
  by_cases c : (s &&& a).testBit p = true
  · rw [if_pos c]
    by_cases d : z < w p + R (s ^^^ 2 ^ p)
    · rw [if_pos d]
      exact ⟨fun h => ⟨by omega, fun _ => h⟩, fun h => h.2 c⟩
    · rw [if_neg d]
      exact ⟨fun h => ⟨h, fun _ => by omega⟩, fun h => h.1⟩
  · rw [if_neg c]
    exact ⟨fun h => ⟨h, fun q => absurd q c⟩, fun h => h.1⟩
theorem p_zf_le {R : Nat → Int} {w : Nat → Int} {s a : Nat} {y : Int} : ∀ (j k : Nat) (z : Int), p_fold (p_z1 R w s a) j k z ≤ y ↔ z ≤ y ∧ ∀ p, k ≤ p → p < k + j → (s &&& a).testBit p = true → w p + R (s ^^^ 2 ^ p) ≤ y
  | 0, k, z => ⟨fun h => ⟨h, fun p h1 h2 => absurd h2 (by omega)⟩, fun h => h.1⟩
  | j + 1, k, z => by
    show p_fold (p_z1 R w s a) j (k + 1) (p_z1 R w s a k z) ≤ y ↔ _
    rw [p_zf_le j (k + 1), p_z1_le]
    constructor
    · rintro ⟨⟨h1, h2⟩, h3⟩
      refine ⟨h1, fun p hp hq => ?_⟩
      by_cases c : p = k
      · subst c; exact h2
      · exact h3 p (by omega) (by omega)
    · rintro ⟨h1, h2⟩
      exact ⟨⟨h1, h2 k (by omega) (by omega)⟩, fun p hp hq => h2 p (by omega) (by omega)⟩
theorem p_zb_le {R : Nat → Int} {w : Nat → Int} {s a np : Nat} {y : Int} : p_zb R w s a np ≤ y ↔ R s ≤ y ∧ ∀ p, p < np → (s &&& a).testBit p = true → w p + R (s ^^^ 2 ^ p) ≤ y := by
  unfold p_zb
  rw [p_zf_le]
  exact ⟨fun h => ⟨h.1, fun p hp => h.2 p (by omega) (by omega)⟩, fun h => ⟨h.1, fun p _ hp => h.2 p (by omega)⟩⟩
theorem p_zmono {w : Nat → Nat → Int} {ab : Nat → Nat} {np : Nat} : ∀ (j t s r : Nat), (∀ p, p < np → s.testBit p = true → r.testBit p = true) → p_zt w ab np j t s ≤ p_zt w ab np j t r
  | 0, _, _, _, _ => Int.le_refl _
  | j + 1, t, s, r, h => by
    show p_zb _ _ _ _ _ ≤ p_zb _ _ _ _ _
    have k := (p_zb_le (R := p_zt w ab np j (t + 1)) (w := w t) (s := r) (a := ab t) (np := np)).mp (Int.le_refl _)
    refine p_zb_le.mpr ⟨Int.le_trans (p_zmono j (t + 1) s r h) k.1, fun p hp hb => ?_⟩
    rw [Nat.testBit_and, Bool.and_eq_true] at hb
    have k2 := k.2 p hp (by rw [Nat.testBit_and, Bool.and_eq_true]; exact ⟨h p hp hb.1, hb.2⟩)
    have ih := p_zmono (w := w) (ab := ab) (np := np) j (t + 1) (s ^^^ 2 ^ p) (r ^^^ 2 ^ p) (fun q hq hs => by
      rw [fb_bit_flip] at hs ⊢
      by_cases c : q = p
      · subst c; rw [hb.1] at hs; simp at hs
      · rw [decide_eq_false c, Bool.xor_false] at hs ⊢
        exact h q hq hs)
    omega
theorem p_all_x {np s : Nat} (hs : s < 2 ^ np) : (2 ^ np - 1) ^^^ s < 2 ^ np := Nat.xor_lt_two_pow (by have := Nat.two_pow_pos np; omega) hs
theorem p_all_b {np s p : Nat} (hp : p < np) : ((2 ^ np - 1) ^^^ s).testBit p = !(s.testBit p) := by
  rw [Nat.testBit_xor, Nat.testBit_two_pow_sub_one, decide_eq_true hp, Bool.true_xor]
theorem p_fl_lt {np s p : Nat} (hs : s < 2 ^ np) (hp : p < np) : s ^^^ 2 ^ p < 2 ^ np := Nat.xor_lt_two_pow hs (Nat.pow_lt_pow_right (by decide) hp)
theorem p_fl2 (s p : Nat) : (s ^^^ 2 ^ p) ^^^ 2 ^ p = s := by rw [Nat.xor_assoc, Nat.xor_self, Nat.xor_zero]
/-- one slot goes from behind to ahead -/
theorem p_zstep {w : Nat → Nat → Int} {ab : Nat → Nat} {np t : Nat} {H H' : Nat → Int} {X : Nat → Int → Prop} (hH : ∀ r, r < 2 ^ np → ∀ y, H r ≤ y ↔ H' r ≤ y ∧ (∀ p, p < np → (r &&& ab t).testBit p = true → w t p + H' (r ^^^ 2 ^ p) ≤ y) ∧ X r y) (z : Int) :
    (∀ s, s < 2 ^ np → p_za w ab np t s + H ((2 ^ np - 1) ^^^ s) ≤ z) ↔ (∀ s, s < 2 ^ np → p_za w ab np (t + 1) s + H' ((2 ^ np - 1) ^^^ s) ≤ z) ∧ ∀ s, s < 2 ^ np → X ((2 ^ np - 1) ^^^ s) (z - p_za w ab np t s) := by
  constructor
  · intro h
    have g : ∀ s, s < 2 ^ np → _ := fun s hs => (hH _ (p_all_x hs) (z - p_za w ab np t s)).mp (by have := h s hs; omega)
    refine ⟨fun s hs => ?_, fun s hs => (g s hs).2.2⟩
    have k : p_za w ab np (t + 1) s ≤ z - H' ((2 ^ np - 1) ^^^ s) := by
      refine p_zb_le.mpr ⟨by have := (g s hs).1; omega, fun p hp hb => ?_⟩
      rw [Nat.testBit_and, Bool.and_eq_true] at hb
      have q := (g (s ^^^ 2 ^ p) (p_fl_lt hs hp)).2.1 p hp (by
        rw [Nat.testBit_and, Bool.and_eq_true, p_all_b hp, fb_bit_flip, hb.1]
        simp [hb.2])
      rw [← Nat.xor_assoc, p_fl2] at q
      omega
    omega
  · rintro ⟨h1, h2⟩ s hs
    have k := (hH _ (p_all_x hs) (z - p_za w ab np t s)).mpr ⟨?_, fun p hp hb => ?_, h2 s hs⟩
    · omega
    · have q := h1 s hs
      have r := (p_zb_le (R := p_za w ab np t) (w := w t) (s := s) (a := ab t) (np := np)).mp (Int.le_refl _)
      have r1 : p_za w ab np t s ≤ p_za w ab np (t + 1) s := r.1
      omega
    · rw [Nat.testBit_and, Bool.and_eq_true, p_all_b hp] at hb
      have q := h1 (s ^^^ 2 ^ p) (p_fl_lt hs hp)
      have r := (p_zb_le (R := p_za w ab np t) (w := w t) (s := s ^^^ 2 ^ p) (a := ab t) (np := np)).mp (Int.le_refl _)
      have r2 := r.2 p hp (by
        rw [Nat.testBit_and, Bool.and_eq_true, fb_bit_flip]
        refine ⟨?_, hb.2⟩
        have hb1 := hb.1
        cases hsb : s.testBit p with
        | true => rw [hsb] at hb1; cases hb1
        | false => simp)
      rw [p_fl2] at r2
      have r3 : w t p + p_za w ab np t s ≤ p_za w ab np (t + 1) (s ^^^ 2 ^ p) := r2
      rw [← Nat.xor_assoc] at q
      omega
/-- the table with the new arm, whose place is np -/
theorem p_znew0 {w w' : Nat → Nat → Int} {ab ab' : Nat → Nat} {np ns : Nat} (hw : ∀ t, t < ns → ∀ p, p < np → w' t p = w t p) (hab : ∀ t, t < ns → ∀ p, p < np → (ab' t).testBit p = (ab t).testBit p) : ∀ (j t s : Nat), t + j ≤ ns → s < 2 ^ np → p_zt w' ab' (np + 1) j t s = p_zt w ab np j t s
  | 0, _, _, _, _ => rfl
  | j + 1, t, s, ht, hs => by
    have ih : ∀ r, r < 2 ^ np → p_zt w' ab' (np + 1) j (t + 1) r = p_zt w ab np j (t + 1) r := fun r hr => p_znew0 hw hab j (t + 1) r (by omega) hr
    have hk : ∀ y, p_zt w' ab' (np + 1) (j + 1) t s ≤ y ↔ p_zt w ab np (j + 1) t s ≤ y := fun y => by
      show p_zb _ _ _ _ _ ≤ y ↔ p_zb _ _ _ _ _ ≤ y
      rw [p_zb_le, p_zb_le, ih s hs]
      constructor
      · rintro ⟨h1, h2⟩
        refine ⟨h1, fun p hp hb => ?_⟩
        have q := h2 p (by omega) (by rw [Nat.testBit_and, hab t (by omega) p hp, ← Nat.testBit_and]; exact hb)
        rw [hw t (by omega) p hp, ih _ (p_fl_lt hs hp)] at q
        exact q
      · rintro ⟨h1, h2⟩
        refine ⟨h1, fun p hp hb => ?_⟩
        by_cases c : p = np
        · subst c
          rw [Nat.testBit_and, Nat.testBit_lt_two_pow hs] at hb
          cases hb
        · have hp' : p < np := by omega
          rw [hw t (by omega) p hp', ih _ (p_fl_lt hs hp')]
          exact h2 p hp' (by rw [Nat.testBit_and, ← hab t (by omega) p hp', ← Nat.testBit_and]; exact hb)
    exact Int.le_antisymm ((hk _).mpr (Int.le_refl _)) ((hk _).mp (Int.le_refl _))
theorem p_znew1 {w w' : Nat → Nat → Int} {ab ab' : Nat → Nat} {np ns : Nat} (hw : ∀ t, t < ns → ∀ p, p < np → w' t p = w t p) (hab : ∀ t, t < ns → ∀ p, p < np → (ab' t).testBit p = (ab t).testBit p) {j t s : Nat} (ht : t + (j + 1) ≤ ns) (hs : s < 2 ^ np) (y : Int) :
    p_zt w' ab' (np + 1) (j + 1) t (s ^^^ 2 ^ np) ≤ y ↔ p_zt w' ab' (np + 1) j (t + 1) (s ^^^ 2 ^ np) ≤ y ∧ (∀ p, p < np → (s &&& ab t).testBit p = true → w t p + p_zt w' ab' (np + 1) j (t + 1) ((s ^^^ 2 ^ p) ^^^ 2 ^ np) ≤ y) ∧ ((ab' t).testBit np = true → w' t np + p_zt w ab np j (t + 1) s ≤ y) := by
  show p_zb _ _ _ _ _ ≤ y ↔ _
  rw [p_zb_le]
  have hx : ∀ p, (s ^^^ 2 ^ np) ^^^ 2 ^ p = (s ^^^ 2 ^ p) ^^^ 2 ^ np := fun p => by rw [Nat.xor_assoc, Nat.xor_comm (2 ^ np), ← Nat.xor_assoc]
  have hbn : ∀ p, p < np → (s ^^^ 2 ^ np).testBit p = s.testBit p := fun p hp => by rw [fb_bit_flip, decide_eq_false (by omega), Bool.xor_false]
  have hbs : (s ^^^ 2 ^ np).testBit np = true := by rw [fb_bit_flip, Nat.testBit_lt_two_pow hs]; simp
  constructor
  · rintro ⟨h1, h2⟩
    refine ⟨h1, fun p hp hb => ?_, fun hf => ?_⟩
    · have q := h2 p (by omega) (by rw [Nat.testBit_and, hbn p hp, hab t (by omega) p hp, ← Nat.testBit_and]; exact hb)
      rw [hw t (by omega) p hp, hx] at q
      exact q
    · have q := h2 np (by omega) (by rw [Nat.testBit_and, hbs, hf]; rfl)
      rw [p_fl2, p_znew0 hw hab j (t + 1) s (by omega) hs] at q
      exact q
  · rintro ⟨h1, h2, h3⟩
    refine ⟨h1, fun p hp hb => ?_⟩
    rw [Nat.testBit_and, Bool.and_eq_true] at hb
    by_cases c : p = np
    · subst c
      rw [p_fl2, p_znew0 hw hab j (t + 1) s (by omega) hs]
      exact h3 hb.2
    · have hp' : p < np := by omega
      rw [hw t (by omega) p hp', hx]
      refine h2 p hp' ?_
      rw [Nat.testBit_and, Bool.and_eq_true]
      exact ⟨(hbn p hp') ▸ hb.1, (hab t (by omega) p hp') ▸ hb.2⟩
/-- the best with the new arm is at most z, if -/
theorem p_zcast {w w' : Nat → Nat → Int} {ab ab' : Nat → Nat} {np ns : Nat} (hw : ∀ t, t < ns → ∀ p, p < np → w' t p = w t p) (hab : ∀ t, t < ns → ∀ p, p < np → (ab' t).testBit p = (ab t).testBit p) (z : Int) :
    p_zt w' ab' (np + 1) ns 0 ((2 ^ np - 1) ^^^ 2 ^ np) ≤ z ↔ p_zt w ab np ns 0 (2 ^ np - 1) ≤ z ∧ ∀ t, t < ns → (ab' t).testBit np = true → ∀ s, s < 2 ^ np → p_za w ab np t s + (w' t np + p_zt w ab np (ns - (t + 1)) (t + 1) ((2 ^ np - 1) ^^^ s)) ≤ z := by
  have h2p := Nat.two_pow_pos np
  -- with the new arm
  have hM : ∀ j t, t + j = ns → ((∀ s, s < 2 ^ np → p_za w ab np t s + p_zt w' ab' (np + 1) j t (((2 ^ np - 1) ^^^ s) ^^^ 2 ^ np) ≤ z) ↔ (∀ s, s < 2 ^ np → p_za w ab np ns s ≤ z) ∧ ∀ u, t ≤ u → u < ns → (ab' u).testBit np = true → ∀ s, s < 2 ^ np → p_za w ab np u s + (w' u np + p_zt w ab np (ns - (u + 1)) (u + 1) ((2 ^ np - 1) ^^^ s)) ≤ z) := by
    intro j
    induction j with
    | zero =>
      intro t ht
      obtain rfl : t = ns := by omega
      constructor
      · intro h
        exact ⟨fun s hs => by have := h s hs; have e : p_za w ab np t s + 0 ≤ z := this; omega, fun u h1 h2 => absurd h2 (by omega)⟩
      · intro h s hs
        show p_za w ab np t s + 0 ≤ z
        have := h.1 s hs
        omega
    | succ j ih =>
      intro t ht
      have st := p_zstep (w := w) (ab := ab) (np := np) (t := t) (H := fun r => p_zt w' ab' (np + 1) (j + 1) t (r ^^^ 2 ^ np)) (H' := fun r => p_zt w' ab' (np + 1) j (t + 1) (r ^^^ 2 ^ np)) (X := fun r y => (ab' t).testBit np = true → w' t np + p_zt w ab np j (t + 1) r ≤ y) (fun r hr y => p_znew1 hw hab (by omega) hr y) z
      refine st.trans ((and_congr_left' (ih (t + 1) (by omega))).trans ?_)
      constructor
      · rintro ⟨⟨h1, h2⟩, h3⟩
        refine ⟨h1, fun u hu1 hu2 hf s hs => ?_⟩
        by_cases c : u = t
        · subst c
          have q := h3 s hs hf
          rw [show ns - (u + 1) = j by omega]
          omega
        · exact h2 u (by omega) hu2 hf s hs
      · rintro ⟨h1, h2⟩
        refine ⟨⟨h1, fun u hu1 hu2 => h2 u (by omega) hu2⟩, fun s hs hf => ?_⟩
        have q := h2 t (Nat.le_refl _) (by omega) hf s hs
        rw [show ns - (t + 1) = j by omega] at q
        omega
  -- without it
  have hN : ∀ j t, t + j = ns → ((∀ s, s < 2 ^ np → p_za w ab np t s + p_zt w ab np j t ((2 ^ np - 1) ^^^ s) ≤ z) ↔ (∀ s, s < 2 ^ np → p_za w ab np ns s ≤ z)) := by
    intro j
    induction j with
    | zero =>
      intro t ht
      obtain rfl : t = ns := by omega
      constructor
      · intro h s hs
        have e : p_za w ab np t s + 0 ≤ z := h s hs
        omega
      · intro h s hs
        show p_za w ab np t s + 0 ≤ z
        have := h s hs
        omega
    | succ j ih =>
      intro t ht
      have st := p_zstep (w := w) (ab := ab) (np := np) (t := t) (H := p_zt w ab np (j + 1) t) (H' := p_zt w ab np j (t + 1)) (X := fun _ _ => True) (fun r hr y => by
        show p_zb _ _ _ _ _ ≤ y ↔ _
        rw [p_zb_le]
        exact ⟨fun h => ⟨h.1, h.2, trivial⟩, fun h => ⟨h.1, h.2.1⟩⟩) z
      refine st.trans ⟨fun h => (ih (t + 1) (by omega)).mp h.1, fun h => ⟨(ih (t + 1) (by omega)).mpr h, fun _ _ => trivial⟩⟩
  have e0 : (2 ^ np - 1) ^^^ 0 = 2 ^ np - 1 := Nat.xor_zero _
  have m0 : (∀ s, s < 2 ^ np → p_za w ab np 0 s + p_zt w' ab' (np + 1) ns 0 (((2 ^ np - 1) ^^^ s) ^^^ 2 ^ np) ≤ z) ↔ p_zt w' ab' (np + 1) ns 0 ((2 ^ np - 1) ^^^ 2 ^ np) ≤ z := by
    constructor
    · intro h
      have q := h 0 h2p
      rw [e0] at q
      have e : (0 : Int) + p_zt w' ab' (np + 1) ns 0 ((2 ^ np - 1) ^^^ 2 ^ np) ≤ z := q
      omega
    · intro h s hs
      have q := p_zmono (w := w') (ab := ab') (np := np + 1) ns 0 (((2 ^ np - 1) ^^^ s) ^^^ 2 ^ np) ((2 ^ np - 1) ^^^ 2 ^ np) (fun p hp hb => by
        rw [fb_bit_flip] at hb ⊢
        by_cases c : p = np
        · subst c
          rw [Nat.testBit_two_pow_sub_one]
          simp
        · rw [Nat.testBit_two_pow_sub_one, decide_eq_true (show p < np by omega), decide_eq_false c]
          rfl)
      show (0 : Int) + _ ≤ z
      omega
  have n0 : (∀ s, s < 2 ^ np → p_za w ab np 0 s + p_zt w ab np ns 0 ((2 ^ np - 1) ^^^ s) ≤ z) ↔ p_zt w ab np ns 0 (2 ^ np - 1) ≤ z := by
    constructor
    · intro h
      have q := h 0 h2p
      rw [e0] at q
      have e : (0 : Int) + p_zt w ab np ns 0 (2 ^ np - 1) ≤ z := q
      omega
    · intro h s hs
      have q := p_zmono (w := w) (ab := ab) (np := np) ns 0 ((2 ^ np - 1) ^^^ s) (2 ^ np - 1) (fun p hp _ => by
        rw [Nat.testBit_two_pow_sub_one, decide_eq_true hp])
      show (0 : Int) + _ ≤ z
      omega
  rw [← m0, ← n0, hM ns 0 (by omega), hN ns 0 (by omega)]
  exact ⟨fun h => ⟨h.1, fun t ht => h.2 t (Nat.zero_le _) ht⟩, fun h => ⟨h.1, fun t _ ht => h.2 t ht⟩⟩
