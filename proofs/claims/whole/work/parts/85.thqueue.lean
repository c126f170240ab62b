/-! QUEUE: all orders tried against the least step by step -/
theorem p_add_or {s x : Nat} (h : s.testBit x = false) : s + 2 ^ x = s ||| 2 ^ x := Nat.eq_of_testBit_eq fun i => by rw [p_addbit h, fb_bit_set]
theorem p_sum_or {f : Nat → Int32} {B d : Nat} (h : B.testBit d = false) : ∀ (j k : Nat) (z : Int32), p_fold (p_sms (B ||| 2 ^ d) f) j k z = if k ≤ d ∧ d < k + j then p_fold (p_sms B f) j k z + f d else p_fold (p_sms B f) j k z
  | 0, k, z => by rw [if_neg (by omega)]; rfl
  | j + 1, k, z => by
    show p_fold _ j (k + 1) (p_sms (B ||| 2 ^ d) f k z) = if k ≤ d ∧ d < k + (j + 1) then p_fold (p_sms B f) j (k + 1) (p_sms B f k z) + f d else p_fold (p_sms B f) j (k + 1) (p_sms B f k z)
    have sh : ∀ (j k : Nat) (x y : Int32), p_fold (p_sms B f) j k (x + y) = p_fold (p_sms B f) j k x + y := by
      intro j
      induction j with
      | zero => intro k x y; rfl
      | succ j ih =>
        intro k x y
        show p_fold _ j (k + 1) (p_sms B f k (x + y)) = p_fold _ j (k + 1) (p_sms B f k x) + y
        have e : p_sms B f k (x + y) = p_sms B f k x + y := by
          unfold p_sms
          split
          · rw [Int32.add_assoc, Int32.add_comm y, ← Int32.add_assoc]
          · rfl
        rw [e, ih]
    rw [p_sum_or h j (k + 1)]
    by_cases c : k = d
    · subst c
      rw [if_neg (by omega), if_pos (by omega), p_sms_y (by rw [fb_bit_set, decide_eq_true rfl, Bool.or_true]), p_sms_n h, sh]
    · have e : p_sms (B ||| 2 ^ d) f k z = p_sms B f k z := by
        unfold p_sms
        rw [fb_bit_set, decide_eq_false c, Bool.or_false]
      rw [e]
      by_cases c2 : k + 1 ≤ d ∧ d < k + 1 + j
      · rw [if_pos c2, if_pos (by omega)]
      · rw [if_neg c2, if_neg (by omega)]
theorem p_sum_o {f : Nat → Int32} {B d n : Nat} (h : B.testBit d = false) (hd : d < n) : p_sum (B ||| 2 ^ d) f n = p_sum B f n + f d := by
  show p_fold _ n 0 0 = p_fold _ n 0 0 + _
  rw [p_sum_or h, if_pos (by omega)]
theorem p_sum_Z {f : Nat → Int32} {B n : Nat} (hf : ∀ d, d < n → 0 ≤ (f d).toInt ∧ (f d).toInt ≤ 99) (h5 : n ≤ 5) : 0 ≤ (p_sum B f n).toInt ∧ (p_sum B f n).toInt ≤ 495 := by
  have key : ∀ (j k : Nat) (z : Int32), k + j ≤ n → 0 ≤ z.toInt ∧ z.toInt + 99 * j ≤ 495 → 0 ≤ (p_fold (p_sms B f) j k z).toInt ∧ (p_fold (p_sms B f) j k z).toInt ≤ 495 := by
    intro j
    induction j with
    | zero => intro k z _ h; exact ⟨h.1, by have := h.2; show z.toInt ≤ 495; omega⟩
    | succ j ih =>
      intro k z hk hz
      refine ih (k + 1) (p_sms B f k z) (by omega) ?_
      have := hf k (by omega)
      unfold p_sms
      split
      · rw [fb_addI (by omega) (by omega)]
        omega
      · omega
  exact key n 0 0 (by omega) ⟨by decide, by rw [show (0 : Int32).toInt = 0 from rfl]; omega⟩
/-- how many are still to be done -/
def p_un (B : Nat) (n : Nat) : Nat := p_rk (fun d => B.testBit d = false) n
theorem p_un_or {B d : Nat} (h : B.testBit d = false) : ∀ n, p_un B n = p_un (B ||| 2 ^ d) n + if d < n then 1 else 0
  | 0 => by rw [if_neg (by omega)]; rfl
  | n + 1 => by
    have ih := p_un_or h n
    by_cases c : n = d
    · subst c
      have e1 : p_un B (n + 1) = p_un B n + 1 := p_rk_y (P := fun d => B.testBit d = false) h
      have e2 : p_un (B ||| 2 ^ n) (n + 1) = p_un (B ||| 2 ^ n) n := p_rk_n (P := fun d => (B ||| 2 ^ n).testBit d = false) (by rw [fb_bit_set, decide_eq_true rfl, Bool.or_true]; decide)
      rw [if_neg (by omega)] at ih
      rw [if_pos (by omega), e1, e2, ih]
    · have e : (B ||| 2 ^ d).testBit n = B.testBit n := by rw [fb_bit_set, decide_eq_false c, Bool.or_false]
      by_cases g : B.testBit n = false
      · have e1 : p_un B (n + 1) = p_un B n + 1 := p_rk_y (P := fun d => B.testBit d = false) g
        have e2 : p_un (B ||| 2 ^ d) (n + 1) = p_un (B ||| 2 ^ d) n + 1 := p_rk_y (P := fun k => (B ||| 2 ^ d).testBit k = false) (e.trans g)
        rw [e1, e2, ih]
        by_cases c2 : d < n
        · rw [if_pos c2, if_pos (by omega)]
        · rw [if_neg c2, if_neg (by omega)]
      · have e1 : p_un B (n + 1) = p_un B n := p_rk_n (P := fun d => B.testBit d = false) g
        have e2 : p_un (B ||| 2 ^ d) (n + 1) = p_un (B ||| 2 ^ d) n := p_rk_n (P := fun k => (B ||| 2 ^ d).testBit k = false) (by rw [e]; exact g)
        rw [e1, e2, ih]
        by_cases c2 : d < n
        · rw [if_pos c2, if_pos (by omega)]
        · rw [if_neg c2, if_neg (by omega)]
theorem p_bs_none_iff {P : Nat → Prop} [DecidablePred P] {f : Nat → Int32} : ∀ (j k : Nat), p_fold (p_bst P f) j k none = none → ∀ x, k ≤ x → x < k + j → ¬ P x
  | 0, _, _, x, h1, h2, _ => absurd h2 (by omega)
  | j + 1, k, h, x, h1, h2, hP => by
    have some_ne : ∀ (j k b : Nat), p_fold (p_bst P f) j k (some b) ≠ none := by
      intro j
      induction j with
      | zero => intro k b e; cases e
      | succ j ih =>
        intro k b
        show p_fold _ j (k + 1) (p_bst P f k (some b)) ≠ none
        unfold p_bst
        split
        · dsimp only
          split
          · exact ih _ _
          · exact ih _ _
        · exact ih _ _
    have h' : p_fold (p_bst P f) j (k + 1) (p_bst P f k none) = none := h
    by_cases c : P k
    · rw [p_bs_none c rfl] at h'
      exact some_ne _ _ _ h'
    · rw [p_bs_no c] at h'
      by_cases e : x = k
      · subst e; exact c hP
      · exact p_bs_none_iff j (k + 1) h' x (by omega) (by omega) hP
theorem p_un_0 {B n : Nat} (h : p_un B n = 0) : ∀ d, d < n → B.testBit d = true := fun d hd => by
  cases c : B.testBit d with
  | true => rfl
  | false =>
    have := p_rk_lt (P := fun d => B.testBit d = false) hd c
    have e : p_rk (fun d => B.testBit d = false) n = 0 := h
    omega
theorem p_nxt_none {mi te : Nat → Int32} {nd B : Nat} {T : Nat → Int32} (h : p_un B nd = 0) : p_nxt mi te nd T B = none := by
  cases c : p_nxt mi te nd T B with
  | none => rfl
  | some d =>
    have q := p_nxt_lt c
    rw [p_un_0 h d q.1] at q
    cases q.2
theorem p_or_lt2 {B d n : Nat} (hB : B < 2 ^ n) (hd : d < n) : B ||| 2 ^ d < 2 ^ n := p_or_lt hB hd
theorem p_mul_b {a b : Int} (ha : 0 ≤ a ∧ a ≤ 9) (hb : 0 ≤ b ∧ b ≤ 495) : 0 ≤ a * b ∧ a * b ≤ 4455 := by
  refine ⟨Int.mul_nonneg ha.1 hb.1, ?_⟩
  have := Int.mul_le_mul ha.2 hb.2 hb.1 (by decide)
  omega
/-- what is left to pay is bounded -/
theorem p_T_Z {mi te : Nat → Int32} {nd : Nat} {T : Nat → Int32} (h5 : nd ≤ 5) (hm : ∀ d, d < nd → 0 ≤ (mi d).toInt ∧ (mi d).toInt ≤ 99) (ht : ∀ d, d < nd → 0 ≤ (te d).toInt ∧ (te d).toInt ≤ 9) (hT : ∀ B, B < 2 ^ nd → p_LqE mi te nd T B) : ∀ (r B : Nat), r ≤ 5 → B < 2 ^ nd → p_un B nd = r → 0 ≤ (T B).toInt ∧ (T B).toInt ≤ 4455 * r
  | 0, B, _, hB, hu => by
    have e := hT B hB
    unfold p_LqE at e
    rw [p_nxt_none hu] at e
    have e0 : T B = 0 := e
    rw [e0, show (0 : Int32).toInt = 0 from rfl]
    omega
  | r + 1, B, hr, hB, hu => by
    have e := hT B hB
    unfold p_LqE at e
    cases c : p_nxt mi te nd T B with
    | none =>
      rw [c] at e
      have e0 : T B = 0 := e
      rw [e0, show (0 : Int32).toInt = 0 from rfl]
      omega
    | some d =>
      rw [c] at e
      have hd := p_nxt_lt c
      have u := p_un_or hd.2 nd
      rw [if_pos hd.1] at u
      have ih := p_T_Z h5 hm ht hT r (B ||| 2 ^ d) (by omega) (p_or_lt2 hB hd.1) (by omega)
      have hs := p_sum_Z (B := B ||| 2 ^ d) hm h5
      have htd := ht d hd.1
      have e : T B = te d * p_sum (B ||| 2 ^ d) mi nd + T (B ||| 2 ^ d) := e
      have hmul := p_mul_b htd hs
      have em : (te d * p_sum (B ||| 2 ^ d) mi nd).toInt = (te d).toInt * (p_sum (B ||| 2 ^ d) mi nd).toInt := fb_mulI (by omega) (by omega)
      rw [e, fb_addI (by omega) (by omega)]
      omega
