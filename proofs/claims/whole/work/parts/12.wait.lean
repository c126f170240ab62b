/-- one cell alone has changed -/
def fx_on (L : Nat) (m m' : fx_M) : Prop := m'.2 = m.2 ∧ ∀ o, o ≠ L → m'.1 o = m.1 o
theorem fx_on.refl (L : Nat) (m : fx_M) : fx_on L m m := ⟨rfl, fun _ _ => rfl⟩
theorem fx_on.sI {L k : Nat} {v : Int32} {m m' : fx_M} (h : fx_on L m m') : fx_on L m (fx_sI m' L k v) := ⟨h.1, fun o ho => by rw [fx_sI_n m' _ _ ho]; exact h.2 o ho⟩
theorem fx_on.lay {L : Nat} {m m' : fx_M} (h : fx_on L m m') (hL : fx_Lay m) : fx_Lay m' := by
  intro o k v hv
  rw [h.1]
  exact hL o k v hv
theorem fx_on.dr {m m' : fx_M} {L S : Nat} (h : fx_on L m m') (HS : fx_St S) (hl : 49 ≤ L) {d : Nat} (hd : d < 5) : fx_dr m' S d = fx_dr m S d := h.2 _ (by rcases HS with rfl | rfl | rfl <;> omega)
theorem fx_on.ar {m m' : fx_M} {L S : Nat} (h : fx_on L m m') (HS : fx_St S) (hl : 49 ≤ L) {d : Nat} (hd : d < 8) : fx_ar m' S d = fx_ar m S d := h.2 _ (by rcases HS with rfl | rfl | rfl <;> omega)
theorem fx_on.s {m m' : fx_M} {L S : Nat} (h : fx_on L m m') (HS : fx_St S) (hl : 49 ≤ L) : m'.1 S = m.1 S := h.2 _ (by rcases HS with rfl | rfl | rfl <;> omega)
/-- what it costs that d is next behind those of B, T being what the others cost -/
def p_cost (mi te : Nat → Int32) (nd : Nat) (T : Nat → Int32) (B d : Nat) : Int32 := te d * p_sum (B ||| 2 ^ d) mi nd + T (B ||| 2 ^ d)
abbrev p_uns (B d : Nat) : Prop := B.testBit d = false
def p_nxt (mi te : Nat → Int32) (nd : Nat) (T : Nat → Int32) (B : Nat) : Option Nat := p_fold (p_bst (p_uns B) (p_cost mi te nd T B)) nd 0 none
/-- the table's equation at B -/
def p_LqE (mi te : Nat → Int32) (nd : Nat) (T : Nat → Int32) (B : Nat) : Prop := T B = match p_nxt mi te nd T B with | none => 0 | some d => p_cost mi te nd T B d
theorem p_or_lt {B d nd : Nat} (hB : B < 2 ^ nd) (hd : d < nd) : B ||| 2 ^ d < 2 ^ nd := Nat.or_lt_two_pow hB (Nat.pow_lt_pow_right (by decide) hd)
theorem p_bs_lt_ {P : Nat → Prop} [DecidablePred P] {f : Nat → Int32} : ∀ {j k x : Nat} {o : Option Nat}, p_fold (p_bst P f) j k o = some x → o = some x ∨ (k ≤ x ∧ x < k + j ∧ P x)
  | 0, k, x, o, h => Or.inl h
  | j + 1, k, x, o, h => by
    have h1 := p_bs_lt_ (j := j) (k := k + 1) (o := p_bst P f k o) h
    rcases h1 with h1 | ⟨a, b, c⟩
    · unfold p_bst at h1
      split at h1
      next hP =>
        cases o with
        | none => cases h1; exact Or.inr ⟨Nat.le_refl _, by omega, hP⟩
        | some y =>
          dsimp only at h1
          split at h1
          · cases h1; exact Or.inr ⟨Nat.le_refl _, by omega, hP⟩
          · exact Or.inl h1
      next => exact Or.inl h1
    · exact Or.inr ⟨by omega, by omega, c⟩
theorem p_nxt_lt {mi te : Nat → Int32} {nd : Nat} {T : Nat → Int32} {B d : Nat} (h : p_nxt mi te nd T B = some d) : d < nd ∧ B.testBit d = false := by
  rcases p_bs_lt_ h with h | ⟨-, h2, h3⟩
  · cases h
  · exact ⟨by omega, h3⟩
theorem i_or {a b : Nat} : nI a ||| nI b = nI (a ||| b) := fa_or a b
set_option maxRecDepth 100000 in
set_option maxHeartbeats 600000 in
theorem s_X7_costOfNext {Γ : fx_G} {m : fx_M} (S : Nat) (HS : fx_St S) (hL : fx_Lay m) {nd : Nat} (hnd : m.1 S 3 = nI nd) (h5 : nd ≤ 5) {B d : Nat} (hB : B < 2 ^ nd) (hd : d < nd) : fx_Ct Γ mX7_costOfNext 1 119 119 [fx_rf Γ 63, fx_rf Γ S, .int (nI B), .int (nI d)] m (fx_is (some (.int (p_cost (fun d => fx_dr m S d 4) (fun d => fx_dr m S d 5) nd (m.1 64) B d))) m) := by
  refine fx_Ct.of (j := 1) (by decide) (Nat.le_of_ble_eq_true rfl) (Nat.le_of_ble_eq_true rfl) ?_
  show fx_E Γ mX7_costOfNext 1 119 119 _ 119 m 0 [some (fx_rf Γ 63), some (fx_rf Γ S), some (.int (nI B)), some (.int (nI d)), none] []
  have h32 := p_two h5
  have hBd := p_or_lt hB hd
  refine e_iload_n dX7_costOfNext_0 rfl ?_
  refine e_iconst dX7_costOfNext_1 kci_1 ?_
  refine e_iload_n dX7_costOfNext_2 rfl ?_
  refine e_ishl dX7_costOfNext_3 ?_
  refine e_ior dX7_costOfNext_4 ?_
  rw [i_shl1 (by omega), i_or]
  refine e_istore dX7_costOfNext_5 (by decide) rfl ?_
  refine e_aload_n dX7_costOfNext_7 rfl ?_
  refine e_getr (o2 := S + 2) dX7_costOfNext_8 ff_X7_29 HS.sh HS.lt (by decide) rfl (HS.r1 hL) ?_
  refine e_iload_n dX7_costOfNext_11 rfl ?_
  refine e_aald (j := d) (o2 := S + 11 + d) dX7_costOfNext_12 HS.s2 (Or.inr (Or.inl rfl)) HS.l2 rfl (by omega) (by decide) (HS.rd hL (by omega)) ?_
  refine e_get dX7_costOfNext_13 ff_X7_33 (HS.sd (by omega)) (HS.ld (by omega)) (by decide) rfl ?_
  refine e_aload_n dX7_costOfNext_16 rfl ?_
  refine e_aload_n dX7_costOfNext_17 rfl ?_
  refine e_iload dX7_costOfNext_18 rfl ?_
  refine e_callV1 (μ' := mX7_minutesOf) (ci := 7) (As := [fx_rf Γ S, .int (nI (B ||| 2 ^ d))]) dX7_costOfNext_20 wl_X7_38 ok_X7_minutesOf rfl rfl (by decide) (by decide) (Nat.le_of_ble_eq_true rfl) fx_n1 (s_X7_minutesOf (m := m) S HS hL hnd h5 (B := (B ||| 2 ^ d)) (by omega)) rfl ?_
  refine e_imul dX7_costOfNext_23 ?_
  refine e_aload_n dX7_costOfNext_24 rfl ?_
  refine e_getr (o2 := 64) dX7_costOfNext_25 ff_X7_13 rfl (by decide) (by decide) rfl (hL _ _ _ rfl) ?_
  refine e_iload dX7_costOfNext_28 rfl ?_
  refine e_iald (j := B ||| 2 ^ d) dX7_costOfNext_30 rfl (by decide) rfl (by omega) (by decide) ?_
  refine e_iadd dX7_costOfNext_31 ?_
  exact e_iret dX7_costOfNext_32 rfl rfl rfl ⟨rfl, rfl⟩
set_option maxRecDepth 100000 in
set_option maxHeartbeats 600000 in
theorem s_X7_firstNext {Γ : fx_G} {m : fx_M} (S : Nat) (HS : fx_St S) (hL : fx_Lay m) {nd : Nat} (hnd : m.1 S 3 = nI nd) (h5 : nd ≤ 5) {B : Nat} (hB : B < 2 ^ nd) : fx_Ct Γ mX7_firstNext 2 119 119 [fx_rf Γ 63, fx_rf Γ S, .int (nI B)] m (fx_is (some (.int (p_oi (p_nxt (fun d => fx_dr m S d 4) (fun d => fx_dr m S d 5) nd (m.1 64) B)))) m) := by
  refine fx_Ct.of (j := 4) (by decide) (Nat.le_of_ble_eq_true rfl) (Nat.le_of_ble_eq_true rfl) ?_
  show fx_E Γ mX7_firstNext 2 119 119 _ 119 m 0 [some (fx_rf Γ 63), some (fx_rf Γ S), some (.int (nI B)), none, none, none, none] []
  have lp : ∀ (j : Nat) (k : Nat) (o : Option Nat) (b l : Int32), k + j = nd → b = p_oi o → (∀ x, o = some x → x < 8 ∧ l = (p_cost (fun d => fx_dr m S d 4) (fun d => fx_dr m S d 5) nd (m.1 64) B) x) → fx_E Γ mX7_firstNext 2 119 119 (fx_is (some (.int (p_oi (p_fold (p_bst (p_uns B) (p_cost (fun d => fx_dr m S d 4) (fun d => fx_dr m S d 5) nd (m.1 64) B)) j k o)))) m) 119 m 8 [some (fx_rf Γ 63), some (fx_rf Γ S), some (.int (nI B)), some (.int b), some (.int l), some (.int (nI k)), none] [] := by
    intro j
    induction j with
    | zero =>
      intro k o b l hk hb hl
      have h32 := p_two h5
      refine e_iload dX7_firstNext_8 rfl ?_
      refine e_aload_n dX7_firstNext_10 rfl ?_
      refine e_getv (v := nI nd) dX7_firstNext_11 ff_X7_17 HS.sh HS.lt (by decide) rfl hnd ?_
      refine e_icmp_ge 61 dX7_firstNext_14 rfl (fun _ => ?_) (fun h => absurd (nI_le (by omega) (by omega)) h)
      refine e_iload_n dX7_firstNext_61 rfl ?_
      exact e_iret dX7_firstNext_62 rfl rfl rfl ⟨by rw [hb]; rfl, rfl⟩
    | succ j ih =>
      intro k o b l hk hb hl
      have h32 := p_two h5
      refine e_iload dX7_firstNext_8 rfl ?_
      refine e_aload_n dX7_firstNext_10 rfl ?_
      refine e_getv (v := nI nd) dX7_firstNext_11 ff_X7_17 HS.sh HS.lt (by decide) rfl hnd ?_
      refine e_icmp_ge 61 dX7_firstNext_14 rfl (fun h => absurd h (nI_ge (by omega) (by omega))) (fun _ => ?_)
      refine e_iload_n dX7_firstNext_17 rfl ?_
      refine e_iload dX7_firstNext_18 rfl ?_
      refine e_ishr dX7_firstNext_20 ?_
      refine e_iconst dX7_firstNext_21 kci_1 ?_
      refine e_iand dX7_firstNext_22 ?_
      refine e_if_ne 55 dX7_firstNext_23 rfl (fun c_b => ?_) (fun c_b => ?_)
      · refine e_iinc (v := nI (k + 1)) dX7_firstNext_55 rfl (fx_inc _) (by decide) rfl ?_
        refine e_goto 8 dX7_firstNext_58 rfl ?_
        refine e_weak (lv2 := [some (fx_rf Γ 63), some (fx_rf Γ S), some (.int (nI B)), some (.int b), some (.int l), some (.int (nI (k + 1))), none]) ⟨rfl, rfl, rfl, rfl, rfl, rfl, trivial⟩ ?_
        first
          | (rw [p_fold_s (p_bs_no (P := p_uns B) (k := k) (show ¬ B.testBit k = false by rw [i_bit1 (B := B) (k := k) (by omega) (by omega) c_b]; decide))]; exact ih (k + 1) o _ _ (by omega) hb hl)
          | (obtain ⟨y, hy⟩ : ∃ y, o = some y := Option.ne_none_iff_exists'.mp (fun h => c_n (by rw [hb, h]; rfl)); rw [p_fold_s (p_bs_ge (f := (p_cost (fun d => fx_dr m S d 4) (fun d => fx_dr m S d 5) nd (m.1 64) B)) ((i_bit0 (by omega) (by omega)).mp c_b) hy (by rw [show (p_cost (fun d => fx_dr m S d 4) (fun d => fx_dr m S d 5) nd (m.1 64) B) y = l from (hl y hy).2.symm]; exact Int32.not_lt.mpr c_l)), ← hy]; exact ih (k + 1) o _ _ (by omega) hb hl)
      · refine e_aload_n dX7_firstNext_26 rfl ?_
        refine e_aload_n dX7_firstNext_27 rfl ?_
        refine e_iload_n dX7_firstNext_28 rfl ?_
        refine e_iload dX7_firstNext_29 rfl ?_
        refine e_callV1 (μ' := mX7_costOfNext) (ci := 7) (As := [fx_rf Γ S, .int (nI B), .int (nI k)]) dX7_firstNext_31 wl_X7_25 ok_X7_costOfNext rfl rfl (by decide) (by decide) (Nat.le_of_ble_eq_true rfl) fx_n1 (s_X7_costOfNext (m := m) S HS hL hnd h5 (B := B) (d := k) hB (by omega)) rfl ?_
        refine e_istore dX7_firstNext_34 (by decide) rfl ?_
        refine e_iload_n dX7_firstNext_36 rfl ?_
        refine e_iconst dX7_firstNext_37 kci_m1 ?_
        refine e_icmp_eq 48 dX7_firstNext_38 rfl (fun c_n => ?_) (fun c_n => ?_)
        · refine e_iload dX7_firstNext_48 rfl ?_
          refine e_istore_n dX7_firstNext_50 (by decide) rfl ?_
          refine e_iload dX7_firstNext_51 rfl ?_
          refine e_istore dX7_firstNext_53 (by decide) rfl ?_
          refine e_iinc (v := nI (k + 1)) dX7_firstNext_55 rfl (fx_inc _) (by decide) rfl ?_
          refine e_goto 8 dX7_firstNext_58 rfl ?_
          refine e_weak (lv2 := [some (fx_rf Γ 63), some (fx_rf Γ S), some (.int (nI B)), some (.int (nI k)), some (.int (p_cost (fun d => fx_dr m S d 4) (fun d => fx_dr m S d 5) nd (m.1 64) B k)), some (.int (nI (k + 1))), none]) ⟨rfl, rfl, rfl, rfl, rfl, rfl, trivial⟩ ?_
          first
            | (rw [p_fold_s (p_bs_none ((i_bit0 (by omega) (by omega)).mp c_b) ((p_oi_ne (fun x hx => by have := (hl x hx).1; omega)).mp (hb.symm.trans c_n)))]; exact ih (k + 1) (some k) _ _ (by omega) rfl (fun x hx => by cases hx; exact ⟨by omega, rfl⟩))
            | (obtain ⟨y, hy⟩ : ∃ y, o = some y := Option.ne_none_iff_exists'.mp (fun h => c_n (by rw [hb, h]; rfl)); rw [p_fold_s (p_bs_lt (f := (p_cost (fun d => fx_dr m S d 4) (fun d => fx_dr m S d 5) nd (m.1 64) B)) ((i_bit0 (by omega) (by omega)).mp c_b) hy (by rw [show (p_cost (fun d => fx_dr m S d 4) (fun d => fx_dr m S d 5) nd (m.1 64) B) y = l from (hl y hy).2.symm]; exact Int32.not_le.mp c_l))]; exact ih (k + 1) (some k) _ _ (by omega) rfl (fun x hx => by cases hx; exact ⟨by omega, rfl⟩))
        · refine e_iload dX7_firstNext_41 rfl ?_
          refine e_iload dX7_firstNext_43 rfl ?_
          refine e_icmp_ge 55 dX7_firstNext_45 rfl (fun c_l => ?_) (fun c_l => ?_)
          · refine e_iinc (v := nI (k + 1)) dX7_firstNext_55 rfl (fx_inc _) (by decide) rfl ?_
            refine e_goto 8 dX7_firstNext_58 rfl ?_
            refine e_weak (lv2 := [some (fx_rf Γ 63), some (fx_rf Γ S), some (.int (nI B)), some (.int b), some (.int l), some (.int (nI (k + 1))), none]) ⟨rfl, rfl, rfl, rfl, rfl, rfl, trivial⟩ ?_
            first
              | (rw [p_fold_s (p_bs_no (P := p_uns B) (k := k) (show ¬ B.testBit k = false by rw [i_bit1 (B := B) (k := k) (by omega) (by omega) c_b]; decide))]; exact ih (k + 1) o _ _ (by omega) hb hl)
              | (obtain ⟨y, hy⟩ : ∃ y, o = some y := Option.ne_none_iff_exists'.mp (fun h => c_n (by rw [hb, h]; rfl)); rw [p_fold_s (p_bs_ge (f := (p_cost (fun d => fx_dr m S d 4) (fun d => fx_dr m S d 5) nd (m.1 64) B)) ((i_bit0 (by omega) (by omega)).mp c_b) hy (by rw [show (p_cost (fun d => fx_dr m S d 4) (fun d => fx_dr m S d 5) nd (m.1 64) B) y = l from (hl y hy).2.symm]; exact Int32.not_lt.mpr c_l)), ← hy]; exact ih (k + 1) o _ _ (by omega) hb hl)
          · refine e_iload dX7_firstNext_48 rfl ?_
            refine e_istore_n dX7_firstNext_50 (by decide) rfl ?_
            refine e_iload dX7_firstNext_51 rfl ?_
            refine e_istore dX7_firstNext_53 (by decide) rfl ?_
            refine e_iinc (v := nI (k + 1)) dX7_firstNext_55 rfl (fx_inc _) (by decide) rfl ?_
            refine e_goto 8 dX7_firstNext_58 rfl ?_
            refine e_weak (lv2 := [some (fx_rf Γ 63), some (fx_rf Γ S), some (.int (nI B)), some (.int (nI k)), some (.int (p_cost (fun d => fx_dr m S d 4) (fun d => fx_dr m S d 5) nd (m.1 64) B k)), some (.int (nI (k + 1))), none]) ⟨rfl, rfl, rfl, rfl, rfl, rfl, trivial⟩ ?_
            first
              | (rw [p_fold_s (p_bs_none ((i_bit0 (by omega) (by omega)).mp c_b) ((p_oi_ne (fun x hx => by have := (hl x hx).1; omega)).mp (hb.symm.trans c_n)))]; exact ih (k + 1) (some k) _ _ (by omega) rfl (fun x hx => by cases hx; exact ⟨by omega, rfl⟩))
              | (obtain ⟨y, hy⟩ : ∃ y, o = some y := Option.ne_none_iff_exists'.mp (fun h => c_n (by rw [hb, h]; rfl)); rw [p_fold_s (p_bs_lt (f := (p_cost (fun d => fx_dr m S d 4) (fun d => fx_dr m S d 5) nd (m.1 64) B)) ((i_bit0 (by omega) (by omega)).mp c_b) hy (by rw [show (p_cost (fun d => fx_dr m S d 4) (fun d => fx_dr m S d 5) nd (m.1 64) B) y = l from (hl y hy).2.symm]; exact Int32.not_le.mp c_l))]; exact ih (k + 1) (some k) _ _ (by omega) rfl (fun x hx => by cases hx; exact ⟨by omega, rfl⟩))
  refine e_iconst dX7_firstNext_0 kci_m1 ?_
  refine e_istore_n dX7_firstNext_1 (by decide) rfl ?_
  refine e_iconst dX7_firstNext_2 kci_0 ?_
  refine e_istore dX7_firstNext_3 (by decide) rfl ?_
  refine e_iconst dX7_firstNext_5 kci_0 ?_
  refine e_istore dX7_firstNext_6 (by decide) rfl ?_
  have h32 := p_two h5
  exact lp nd 0 none _ _ (by omega) rfl (fun x hx => by cases hx)
set_option maxRecDepth 100000 in
set_option maxHeartbeats 600000 in
theorem s_X7_tearsInAll {Γ : fx_G} {m : fx_M} (hL : fx_Lay m) : fx_Ct Γ mX7_tearsInAll 0 119 119 [fx_rf Γ 63] m (fx_is (some (.int (m.1 64 0))) m) := by
  refine fx_Ct.of (j := 0) (by decide) (Nat.le_of_ble_eq_true rfl) (Nat.le_of_ble_eq_true rfl) ?_
  show fx_E Γ mX7_tearsInAll 0 119 119 _ 119 m 0 [some (fx_rf Γ 63)] []
  refine e_aload_n dX7_tearsInAll_0 rfl ?_
  refine e_getr (o2 := 64) dX7_tearsInAll_1 ff_X7_13 rfl (by decide) (by decide) rfl (hL _ _ _ rfl) ?_
  refine e_iconst dX7_tearsInAll_4 kci_0 ?_
  refine e_iald (j := 0) dX7_tearsInAll_5 rfl (by decide) rfl (by decide) (by decide) ?_
  exact e_iret dX7_tearsInAll_6 rfl rfl rfl ⟨rfl, rfl⟩
