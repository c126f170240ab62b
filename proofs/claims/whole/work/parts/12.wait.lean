/-- one cell alone has changed -/
def fx_on (L : Nat) (m m' : fx_M) : Prop := m'.2 = m.2 ∧ ∀ o, o ≠ L → m'.1 o = m.1 o
theorem fx_on.refl (L : Nat) (m : fx_M) : fx_on L m m := ⟨rfl, fun _ _ => rfl⟩
theorem fx_on.sI {L k : Nat} {v : Int32} {m m' : fx_M} (h : fx_on L m m') : fx_on L m (fx_sI m' L k v) := ⟨h.1, fun o ho => by rw [fx_sI_n m' _ _ ho]; exact h.2 o ho⟩
theorem fx_on.lay {L : Nat} {m m' : fx_M} (h : fx_on L m m') (hL : fx_Lay m) : fx_Lay m' := by
  intro o k v hv
  rw [h.1]
  exact hL o k v hv
theorem fx_on.dr {m m' : fx_M} {L S : Nat} (h : fx_on L m m') (HS : fx_St S) (hl : 49 ≤ L) {d : Nat} (hd : d < 5) : fx_dr m' S d = fx_dr m S d := h.2 _ (by rcases HS with rfl | rfl | rfl <;> omega)
theorem fx_on.ar {m m' : fx_M} {L S : Nat} (h : fx_on L m m') (HS : fx_St S) (hl : 49 ≤ L) {d : Nat} (hd : d < 8) : fx_ar m' S d = fx_ar m S d := h.2 _ (by rcases HS with rfl | rfl | rfl <;> omega)
theorem fx_on.s {m m' : fx_M} {L S : Nat} (h : fx_on L m m') (HS : fx_St S) (hl : 49 ≤ L) : m'.1 S = m.1 S := h.2 _ (by rcases HS with rfl | rfl | rfl <;> omega)
/-- what it costs that d is next behind those of B, T being what the others cost -/
def p_cost (mi te : Nat → Int32) (nd : Nat) (T : Nat → Int32) (B d : Nat) : Int32 := te d * p_sum (B ||| 2 ^ d) mi nd + T (B ||| 2 ^ d)
abbrev p_uns (B d : Nat) : Prop := B.testBit d = false
def p_nxt (mi te : Nat → Int32) (nd : Nat) (T : Nat → Int32) (B : Nat) : Option Nat := p_fold (p_bst (p_uns B) (p_cost mi te nd T B)) nd 0 none
/-- the table's equation at B -/
def p_LqE (mi te : Nat → Int32) (nd : Nat) (T : Nat → Int32) (B : Nat) : Prop := T B = match p_nxt mi te nd T B with | none => 0 | some d => p_cost mi te nd T B d
theorem p_or_lt {B d nd : Nat} (hB : B < 2 ^ nd) (hd : d < nd) : B ||| 2 ^ d < 2 ^ nd := Nat.or_lt_two_pow hB (Nat.pow_lt_pow_right (by decide) hd)
theorem p_bs_lt_ {P : Nat → Prop} [DecidablePred P] {f : Nat → Int32} : ∀ {j k x : Nat} {o : Option Nat}, p_fold (p_bst P f) j k o = some x → o = some x ∨ (k ≤ x ∧ x < k + j ∧ P x)
  | 0, k, x, o, h => Or.inl h
  | j + 1, k, x, o, h => by
    have h1 := p_bs_lt_ (j := j) (k := k + 1) (o := p_bst P f k o) h
    rcases h1 with h1 | ⟨a, b, c⟩
    · unfold p_bst at h1
      split at h1
      next hP =>
        cases o with
        | none => cases h1; exact Or.inr ⟨Nat.le_refl _, by omega, hP⟩
        | some y =>
          dsimp only at h1
          split at h1
          · cases h1; exact Or.inr ⟨Nat.le_refl _, by omega, hP⟩
          · exact Or.inl h1
      next => exact Or.inl h1
    · exact Or.inr ⟨by omega, by omega, c⟩
theorem p_nxt_lt {mi te : Nat → Int32} {nd : Nat} {T : Nat → Int32} {B d : Nat} (h : p_nxt mi te nd T B = some d) : d < nd ∧ B.testBit d = false := by
  rcases p_bs_lt_ h with h | ⟨-, h2, h3⟩
  · cases h
  · exact ⟨by omega, h3⟩
theorem i_or {a b : Nat} : nI a ||| nI b = nI (a ||| b) := fa_or a b
set_option maxRecDepth 100000 in
set_option maxHeartbeats 600000 in
theorem s_X7_costOfNext {Γ : fx_G} {m : fx_M} (S : Nat) (HS : fx_St S) (hL : fx_Lay m) {nd : Nat} (hnd : m.1 S 3 = nI nd) (h5 : nd ≤ 5) {B d : Nat} (hB : B < 2 ^ nd) (hd : d < nd) : fx_Ct Γ mX7_costOfNext 1 119 119 [fx_rf Γ 63, fx_rf Γ S, .int (nI B), .int (nI d)] m (fx_is (some (.int (p_cost (fun d => fx_dr m S d 4) (fun d => fx_dr m S d 5) nd (m.1 64) B d))) m) := by
  refine fx_Ct.of (j := 1) (by decide) (Nat.le_of_ble_eq_true rfl) (Nat.le_of_ble_eq_true rfl) ?_
  show fx_E Γ mX7_costOfNext 1 119 119 _ 119 m 0 [some (fx_rf Γ 63), some (fx_rf Γ S), some (.int (nI B)), some (.int (nI d)), none] []
  have h32 := p_two h5
  have hBd := p_or_lt hB hd
  refine e_iload_n dX7_costOfNext_0 rfl ?_
  refine e_iconst dX7_costOfNext_1 kci_1 ?_
  refine e_iload_n dX7_costOfNext_2 rfl ?_
  refine e_ishl dX7_costOfNext_3 ?_
  refine e_ior dX7_costOfNext_4 ?_
  rw [i_shl1 (by omega), i_or]
  refine e_istore dX7_costOfNext_5 (by decide) rfl ?_
  refine e_aload_n dX7_costOfNext_7 rfl ?_
  refine e_getr (o2 := S + 2) dX7_costOfNext_8 ff_X7_29 HS.sh (fx_pi_lt HS.lt) (by decide) rfl (HS.r1 hL) ?_
  refine e_iload_n dX7_costOfNext_11 rfl ?_
  refine e_aald (j := d) (o2 := S + 11 + d) dX7_costOfNext_12 HS.s2 (Or.inr (Or.inl rfl)) (fx_pi_lt HS.l2) rfl (by omega) (by decide) (HS.rd hL (by omega)) ?_
  refine e_get dX7_costOfNext_13 ff_X7_33 (HS.sd (by omega)) (fx_pi_lt (HS.ld (by omega))) (by decide) rfl ?_
  refine e_aload_n dX7_costOfNext_16 rfl ?_
  refine e_aload_n dX7_costOfNext_17 rfl ?_
  refine e_iload dX7_costOfNext_18 rfl ?_
  refine e_callV1 (μ' := mX7_minutesOf) (ci := 7) (As := [fx_rf Γ S, .int (nI (B ||| 2 ^ d))]) dX7_costOfNext_20 wl_X7_38 ok_X7_minutesOf rfl rfl (fx_pi_lt (by decide)) (by decide) (Nat.le_of_ble_eq_true rfl) fx_n1 (s_X7_minutesOf (m := m) S HS hL hnd h5 (B := (B ||| 2 ^ d)) (by omega)) rfl ?_
  refine e_imul dX7_costOfNext_23 ?_
  refine e_aload_n dX7_costOfNext_24 rfl ?_
  refine e_getr (o2 := 64) dX7_costOfNext_25 ff_X7_13 rfl (fx_pi_lt (by decide)) (by decide) rfl (hL _ _ _ rfl) ?_
  refine e_iload dX7_costOfNext_28 rfl ?_
  refine e_iald (j := B ||| 2 ^ d) dX7_costOfNext_30 rfl (fx_pi_lt (by decide)) rfl (by omega) (by decide) ?_
  refine e_iadd dX7_costOfNext_31 ?_
  exact e_iret dX7_costOfNext_32 rfl rfl rfl ⟨rfl, rfl⟩
set_option maxRecDepth 100000 in
set_option maxHeartbeats 600000 in
theorem s_X7_firstNext {Γ : fx_G} {m : fx_M} (S : Nat) (HS : fx_St S) (hL : fx_Lay m) {nd : Nat} (hnd : m.1 S 3 = nI nd) (h5 : nd ≤ 5) {B : Nat} (hB : B < 2 ^ nd) : fx_Ct Γ mX7_firstNext 2 119 119 [fx_rf Γ 63, fx_rf Γ S, .int (nI B)] m (fx_is (some (.int (p_oi (p_nxt (fun d => fx_dr m S d 4) (fun d => fx_dr m S d 5) nd (m.1 64) B)))) m) := by
  refine fx_Ct.of (j := 4) (by decide) (Nat.le_of_ble_eq_true rfl) (Nat.le_of_ble_eq_true rfl) ?_
  show fx_E Γ mX7_firstNext 2 119 119 _ 119 m 0 [some (fx_rf Γ 63), some (fx_rf Γ S), some (.int (nI B)), none, none, none, none] []
  have lp : ∀ (j : Nat) (k : Nat) (o : Option Nat) (b l : Int32), k + j = nd → b = p_oi o → (∀ x, o = some x → x < 8 ∧ l = (p_cost (fun d => fx_dr m S d 4) (fun d => fx_dr m S d 5) nd (m.1 64) B) x) → fx_E Γ mX7_firstNext 2 119 119 (fx_is (some (.int (p_oi (p_fold (p_bst (p_uns B) (p_cost (fun d => fx_dr m S d 4) (fun d => fx_dr m S d 5) nd (m.1 64) B)) j k o)))) m) 119 m 8 [some (fx_rf Γ 63), some (fx_rf Γ S), some (.int (nI B)), some (.int b), some (.int l), some (.int (nI k)), none] [] := by
    intro j
    induction j with
    | zero =>
      intro k o b l hk hb hl
      have h32 := p_two h5
      refine e_iload dX7_firstNext_8 rfl ?_
      refine e_aload_n dX7_firstNext_10 rfl ?_
      refine e_getv (v := nI nd) dX7_firstNext_11 ff_X7_17 HS.sh (fx_pi_lt HS.lt) (by decide) rfl hnd ?_
      refine e_icmp_ge 61 dX7_firstNext_14 rfl (fun _ => ?_) (fun h => absurd (nI_le (by omega) (by omega)) h)
      refine e_iload_n dX7_firstNext_61 rfl ?_
      exact e_iret dX7_firstNext_62 rfl rfl rfl ⟨by rw [hb]; rfl, rfl⟩
    | succ j ih =>
      intro k o b l hk hb hl
      have h32 := p_two h5
      refine e_iload dX7_firstNext_8 rfl ?_
      refine e_aload_n dX7_firstNext_10 rfl ?_
      refine e_getv (v := nI nd) dX7_firstNext_11 ff_X7_17 HS.sh (fx_pi_lt HS.lt) (by decide) rfl hnd ?_
      refine e_icmp_ge 61 dX7_firstNext_14 rfl (fun h => absurd h (nI_ge (by omega) (by omega))) (fun _ => ?_)
      refine e_iload_n dX7_firstNext_17 rfl ?_
      refine e_iload dX7_firstNext_18 rfl ?_
      refine e_ishr dX7_firstNext_20 ?_
      refine e_iconst dX7_firstNext_21 kci_1 ?_
      refine e_iand dX7_firstNext_22 ?_
      refine e_if_ne 55 dX7_firstNext_23 rfl (fun c_b => ?_) (fun c_b => ?_)
      · refine e_iinc (v := nI (k + 1)) dX7_firstNext_55 rfl (fx_inc _) (by decide) rfl ?_
        refine e_goto 8 dX7_firstNext_58 rfl ?_
        refine e_weak (lv2 := [some (fx_rf Γ 63), some (fx_rf Γ S), some (.int (nI B)), some (.int b), some (.int l), some (.int (nI (k + 1))), none]) ⟨rfl, rfl, rfl, rfl, rfl, rfl, trivial⟩ ?_
        first
          | (rw [p_fold_s (p_bs_no (P := p_uns B) (k := k) (show ¬ B.testBit k = false by rw [i_bit1 (B := B) (k := k) (by omega) (by omega) c_b]; decide))]; exact ih (k + 1) o _ _ (by omega) hb hl)
          | (obtain ⟨y, hy⟩ : ∃ y, o = some y := Option.ne_none_iff_exists'.mp (fun h => c_n (by rw [hb, h]; rfl)); rw [p_fold_s (p_bs_ge (f := (p_cost (fun d => fx_dr m S d 4) (fun d => fx_dr m S d 5) nd (m.1 64) B)) ((i_bit0 (by omega) (by omega)).mp c_b) hy (by rw [show (p_cost (fun d => fx_dr m S d 4) (fun d => fx_dr m S d 5) nd (m.1 64) B) y = l from (hl y hy).2.symm]; exact Int32.not_lt.mpr c_l)), ← hy]; exact ih (k + 1) o _ _ (by omega) hb hl)
      · refine e_aload_n dX7_firstNext_26 rfl ?_
        refine e_aload_n dX7_firstNext_27 rfl ?_
        refine e_iload_n dX7_firstNext_28 rfl ?_
        refine e_iload dX7_firstNext_29 rfl ?_
        refine e_callV1 (μ' := mX7_costOfNext) (ci := 7) (As := [fx_rf Γ S, .int (nI B), .int (nI k)]) dX7_firstNext_31 wl_X7_25 ok_X7_costOfNext rfl rfl (fx_pi_lt (by decide)) (by decide) (Nat.le_of_ble_eq_true rfl) fx_n1 (s_X7_costOfNext (m := m) S HS hL hnd h5 (B := B) (d := k) hB (by omega)) rfl ?_
        refine e_istore dX7_firstNext_34 (by decide) rfl ?_
        refine e_iload_n dX7_firstNext_36 rfl ?_
        refine e_iconst dX7_firstNext_37 kci_m1 ?_
        refine e_icmp_eq 48 dX7_firstNext_38 rfl (fun c_n => ?_) (fun c_n => ?_)
        · refine e_iload dX7_firstNext_48 rfl ?_
          refine e_istore_n dX7_firstNext_50 (by decide) rfl ?_
          refine e_iload dX7_firstNext_51 rfl ?_
          refine e_istore dX7_firstNext_53 (by decide) rfl ?_
          refine e_iinc (v := nI (k + 1)) dX7_firstNext_55 rfl (fx_inc _) (by decide) rfl ?_
          refine e_goto 8 dX7_firstNext_58 rfl ?_
          refine e_weak (lv2 := [some (fx_rf Γ 63), some (fx_rf Γ S), some (.int (nI B)), some (.int (nI k)), some (.int (p_cost (fun d => fx_dr m S d 4) (fun d => fx_dr m S d 5) nd (m.1 64) B k)), some (.int (nI (k + 1))), none]) ⟨rfl, rfl, rfl, rfl, rfl, rfl, trivial⟩ ?_
          first
            | (rw [p_fold_s (p_bs_none ((i_bit0 (by omega) (by omega)).mp c_b) ((p_oi_ne (fun x hx => by have := (hl x hx).1; omega)).mp (hb.symm.trans c_n)))]; exact ih (k + 1) (some k) _ _ (by omega) rfl (fun x hx => by cases hx; exact ⟨by omega, rfl⟩))
            | (obtain ⟨y, hy⟩ : ∃ y, o = some y := Option.ne_none_iff_exists'.mp (fun h => c_n (by rw [hb, h]; rfl)); rw [p_fold_s (p_bs_lt (f := (p_cost (fun d => fx_dr m S d 4) (fun d => fx_dr m S d 5) nd (m.1 64) B)) ((i_bit0 (by omega) (by omega)).mp c_b) hy (by rw [show (p_cost (fun d => fx_dr m S d 4) (fun d => fx_dr m S d 5) nd (m.1 64) B) y = l from (hl y hy).2.symm]; exact Int32.not_le.mp c_l))]; exact ih (k + 1) (some k) _ _ (by omega) rfl (fun x hx => by cases hx; exact ⟨by omega, rfl⟩))
        · refine e_iload dX7_firstNext_41 rfl ?_
          refine e_iload dX7_firstNext_43 rfl ?_
          refine e_icmp_ge 55 dX7_firstNext_45 rfl (fun c_l => ?_) (fun c_l => ?_)
          · refine e_iinc (v := nI (k + 1)) dX7_firstNext_55 rfl (fx_inc _) (by decide) rfl ?_
            refine e_goto 8 dX7_firstNext_58 rfl ?_
            refine e_weak (lv2 := [some (fx_rf Γ 63), some (fx_rf Γ S), some (.int (nI B)), some (.int b), some (.int l), some (.int (nI (k + 1))), none]) ⟨rfl, rfl, rfl, rfl, rfl, rfl, trivial⟩ ?_
            first
              | (rw [p_fold_s (p_bs_no (P := p_uns B) (k := k) (show ¬ B.testBit k = false by rw [i_bit1 (B := B) (k := k) (by omega) (by omega) c_b]; decide))]; exact ih (k + 1) o _ _ (by omega) hb hl)
              | (obtain ⟨y, hy⟩ : ∃ y, o = some y := Option.ne_none_iff_exists'.mp (fun h => c_n (by rw [hb, h]; rfl)); rw [p_fold_s (p_bs_ge (f := (p_cost (fun d => fx_dr m S d 4) (fun d => fx_dr m S d 5) nd (m.1 64) B)) ((i_bit0 (by omega) (by omega)).mp c_b) hy (by rw [show (p_cost (fun d => fx_dr m S d 4) (fun d => fx_dr m S d 5) nd (m.1 64) B) y = l from (hl y hy).2.symm]; exact Int32.not_lt.mpr c_l)), ← hy]; exact ih (k + 1) o _ _ (by omega) hb hl)
          · refine e_iload dX7_firstNext_48 rfl ?_
            refine e_istore_n dX7_firstNext_50 (by decide) rfl ?_
            refine e_iload dX7_firstNext_51 rfl ?_
            refine e_istore dX7_firstNext_53 (by decide) rfl ?_
            refine e_iinc (v := nI (k + 1)) dX7_firstNext_55 rfl (fx_inc _) (by decide) rfl ?_
            refine e_goto 8 dX7_firstNext_58 rfl ?_
            refine e_weak (lv2 := [some (fx_rf Γ 63), some (fx_rf Γ S), some (.int (nI B)), some (.int (nI k)), some (.int (p_cost (fun d => fx_dr m S d 4) (fun d => fx_dr m S d 5) nd (m.1 64) B k)), some (.int (nI (k + 1))), none]) ⟨rfl, rfl, rfl, rfl, rfl, rfl, trivial⟩ ?_
            first
              | (rw [p_fold_s (p_bs_none ((i_bit0 (by omega) (by omega)).mp c_b) ((p_oi_ne (fun x hx => by have := (hl x hx).1; omega)).mp (hb.symm.trans c_n)))]; exact ih (k + 1) (some k) _ _ (by omega) rfl (fun x hx => by cases hx; exact ⟨by omega, rfl⟩))
              | (obtain ⟨y, hy⟩ : ∃ y, o = some y := Option.ne_none_iff_exists'.mp (fun h => c_n (by rw [hb, h]; rfl)); rw [p_fold_s (p_bs_lt (f := (p_cost (fun d => fx_dr m S d 4) (fun d => fx_dr m S d 5) nd (m.1 64) B)) ((i_bit0 (by omega) (by omega)).mp c_b) hy (by rw [show (p_cost (fun d => fx_dr m S d 4) (fun d => fx_dr m S d 5) nd (m.1 64) B) y = l from (hl y hy).2.symm]; exact Int32.not_le.mp c_l))]; exact ih (k + 1) (some k) _ _ (by omega) rfl (fun x hx => by cases hx; exact ⟨by omega, rfl⟩))
  refine e_iconst dX7_firstNext_0 kci_m1 ?_
  refine e_istore_n dX7_firstNext_1 (by decide) rfl ?_
  refine e_iconst dX7_firstNext_2 kci_0 ?_
  refine e_istore dX7_firstNext_3 (by decide) rfl ?_
  refine e_iconst dX7_firstNext_5 kci_0 ?_
  refine e_istore dX7_firstNext_6 (by decide) rfl ?_
  have h32 := p_two h5
  exact lp nd 0 none _ _ (by omega) rfl (fun x hx => by cases hx)
set_option maxRecDepth 100000 in
set_option maxHeartbeats 600000 in
theorem s_X7_tearsInAll {Γ : fx_G} {m : fx_M} (hL : fx_Lay m) : fx_Ct Γ mX7_tearsInAll 0 119 119 [fx_rf Γ 63] m (fx_is (some (.int (m.1 64 0))) m) := by
  refine fx_Ct.of (j := 0) (by decide) (Nat.le_of_ble_eq_true rfl) (Nat.le_of_ble_eq_true rfl) ?_
  show fx_E Γ mX7_tearsInAll 0 119 119 _ 119 m 0 [some (fx_rf Γ 63)] []
  refine e_aload_n dX7_tearsInAll_0 rfl ?_
  refine e_getr (o2 := 64) dX7_tearsInAll_1 ff_X7_13 rfl (fx_pi_lt (by decide)) (by decide) rfl (hL _ _ _ rfl) ?_
  refine e_iconst dX7_tearsInAll_4 kci_0 ?_
  refine e_iald (j := 0) dX7_tearsInAll_5 rfl (fx_pi_lt (by decide)) rfl (by decide) (by decide) ?_
  exact e_iret dX7_tearsInAll_6 rfl rfl rfl ⟨rfl, rfl⟩
theorem p_fold_congrI {σ : Type} {f g : Nat → σ → σ} (I : Nat → σ → Prop) : ∀ (j k : Nat) (s : σ), I k s → (∀ x s, k ≤ x → x < k + j → I x s → f x s = g x s ∧ I (x + 1) (f x s)) → p_fold f j k s = p_fold g j k s
  | 0, _, _, _, _ => rfl
  | j + 1, k, s, hI, h => by
    have h1 := h k s (Nat.le_refl _) (by omega) hI
    show p_fold f j (k + 1) (f k s) = p_fold g j (k + 1) (g k s)
    rw [← h1.1]
    exact p_fold_congrI I j (k + 1) _ h1.2 (fun x s h2 h3 => h x s (by omega) (by omega))
theorem p_bs_congr {P : Nat → Prop} [DecidablePred P] {f g : Nat → Int32} {n : Nat} (h : ∀ x, x < n → P x → f x = g x) : p_fold (p_bst P f) n 0 none = p_fold (p_bst P g) n 0 none := by
  refine p_fold_congrI (fun k o => ∀ b, o = some b → b < k ∧ P b) n 0 none (fun b hb => by cases hb) (fun x o _ hx hI => ?_)
  by_cases hP : P x
  · cases o with
    | none => exact ⟨by simp only [p_bst, if_pos hP], fun b hb => by rw [p_bst, if_pos hP] at hb; cases hb; exact ⟨by omega, hP⟩⟩
    | some y =>
      have hy := hI y rfl
      have e1 := h x (by omega) hP
      have e2 := h y (by omega) hy.2
      refine ⟨by simp only [p_bst, if_pos hP, e1, e2], fun b hb => ?_⟩
      rw [p_bst, if_pos hP] at hb
      split at hb <;> cases hb
      · exact ⟨by omega, hP⟩
      · exact ⟨by omega, hy.2⟩
  · exact ⟨by rw [p_bs_no hP, p_bs_no hP], fun b hb => by rw [p_bs_no hP] at hb; exact ⟨by have := (hI b hb).1; omega, (hI b hb).2⟩⟩
theorem p_sum_congr {B n : Nat} {f g : Nat → Int32} (h : ∀ x, x < n → f x = g x) : p_sum B f n = p_sum B g n := p_fold_congr n 0 0 (fun x s _ hx => by rw [p_sms, p_sms, h x (by omega)])
theorem p_cost_congr {mi te mi' te' T T' : Nat → Int32} {nd B d : Nat} (hm : ∀ d, d < nd → mi d = mi' d) (ht : ∀ d, d < nd → te d = te' d) (hd : d < nd) (hT : T (B ||| 2 ^ d) = T' (B ||| 2 ^ d)) : p_cost mi te nd T B d = p_cost mi' te' nd T' B d := by
  rw [p_cost, p_cost, ht d hd, p_sum_congr hm, hT]
theorem p_or_gt {B d : Nat} (h : B.testBit d = false) : B < B ||| 2 ^ d := by
  refine Nat.lt_of_le_of_ne Nat.left_le_or (fun e => ?_)
  have : (B ||| 2 ^ d).testBit d = true := by rw [Nat.testBit_or, Nat.testBit_two_pow_self, Bool.or_true]
  rw [← e, h] at this
  cases this
theorem p_nxt_congr {mi te mi' te' T T' : Nat → Int32} {nd B : Nat} (hm : ∀ d, d < nd → mi d = mi' d) (ht : ∀ d, d < nd → te d = te' d) (hB : B < 2 ^ nd) (hT : ∀ C, B < C → C < 2 ^ nd → T C = T' C) : p_nxt mi te nd T B = p_nxt mi' te' nd T' B :=
  p_bs_congr fun x hx hP => p_cost_congr hm ht hx (hT _ (p_or_gt hP) (p_or_lt hB hx))
theorem p_LqE_congr {mi te mi' te' T T' : Nat → Int32} {nd B : Nat} (hm : ∀ d, d < nd → mi d = mi' d) (ht : ∀ d, d < nd → te d = te' d) (hB : B < 2 ^ nd) (hT : ∀ C, B ≤ C → C < 2 ^ nd → T C = T' C) (h : p_LqE mi te nd T B) : p_LqE mi' te' nd T' B := by
  unfold p_LqE at h ⊢
  rw [← hT B (Nat.le_refl _) hB, h, ← p_nxt_congr hm ht hB (fun C h1 h2 => hT C (by omega) h2)]
  cases e : p_nxt mi te nd T B with
  | none => rfl
  | some d =>
    have hd := p_nxt_lt e
    exact p_cost_congr hm ht hd.1 (hT _ Nat.left_le_or (p_or_lt hB hd.1))
def p_pm : Nat → Int32 | 0 => -1 | j + 1 => nI j
theorem p_pm_dec (j : Nat) : p_pm (j + 1) + Int32.ofInt (-1) = p_pm j := by
  cases j with
  | zero => decide
  | succ j => rw [show Int32.ofInt (-1) = -1 by decide]; exact pk_m1 j
theorem p_pm_start (j : Nat) : nI j - 1 = p_pm j := by
  cases j with
  | zero => decide
  | succ j => exact nI_pred j
theorem p_all (nd : Nat) (h : 1 ≤ 2 ^ nd) : nI (2 ^ nd) - 1 = nI (2 ^ nd - 1) := by
  obtain ⟨k, hk⟩ : ∃ k, 2 ^ nd = k + 1 := ⟨2 ^ nd - 1, by omega⟩
  rw [hk]
  exact nI_pred k
theorem fx_sI_64 {m : fx_M} {k C : Nat} {v : Int32} (h : C ≠ k) : (fx_sI m 64 k v).1 64 C = m.1 64 C := fx_rd2 (Ne.symm h)
set_option maxRecDepth 100000 in
set_option maxHeartbeats 600000 in
theorem s_X7_weigh {Γ : fx_G} {m : fx_M} (S : Nat) (HS : fx_St S) (hL : fx_Lay m) {nd : Nat} (hnd : m.1 S 3 = nI nd) (h5 : nd ≤ 5) : fx_Ct Γ mX7_weigh 3 119 119 [fx_rf Γ 63, fx_rf Γ S] m (fun r m' => r = none ∧ fx_on 64 m m' ∧ ∀ B, B < 2 ^ nd → p_LqE (fun d => fx_dr m S d 4) (fun d => fx_dr m S d 5) nd (m'.1 64) B) := by
  refine fx_Ct.of (j := 3) (by decide) (Nat.le_of_ble_eq_true rfl) (Nat.le_of_ble_eq_true rfl) ?_
  show fx_E Γ mX7_weigh 3 119 119 _ 119 m 0 [some (fx_rf Γ 63), some (fx_rf Γ S), none, none, none] []
  have h32 := p_two h5
  have lp : ∀ (j : Nat) (m1 : fx_M), j < 2 ^ nd → fx_on 64 m m1 → (∀ B, j ≤ B → B < 2 ^ nd → p_LqE (fun d => fx_dr m S d 4) (fun d => fx_dr m S d 5) nd (m1.1 64) B) → fx_E Γ mX7_weigh 3 119 119 (fun r m' => r = none ∧ fx_on 64 m m' ∧ ∀ B, B < 2 ^ nd → p_LqE (fun d => fx_dr m S d 4) (fun d => fx_dr m S d 5) nd (m'.1 64) B) 119 m1 20 [some (fx_rf Γ 63), some (fx_rf Γ S), some (.int (nI (2 ^ nd - 1))), some (.int (p_pm j)), none] [] := by
    intro j
    induction j with
    | zero =>
      intro m1 hj o1 q1
      have h32 := p_two h5
      have hL1 := o1.lay hL
      have hnd1 : m1.1 S 3 = nI nd := by rw [o1.s HS (by decide)]; exact hnd
      have hm : ∀ d, d < nd → (fun d => fx_dr m1 S d 4) d = (fun d => fx_dr m S d 4) d := fun d hd => by show fx_dr m1 S d 4 = _; rw [o1.dr HS (by decide) (by omega)]
      have ht : ∀ d, d < nd → (fun d => fx_dr m1 S d 5) d = (fun d => fx_dr m S d 5) d := fun d hd => by show fx_dr m1 S d 5 = _; rw [o1.dr HS (by decide) (by omega)]
      refine e_iload_n dX7_weigh_20 rfl ?_
      refine e_if_lt 62 dX7_weigh_21 rfl (fun _ => ?_) (fun h => absurd (by decide) h)
      exact e_vret dX7_weigh_62 rfl rfl ⟨rfl, o1, fun B hB => q1 B (by omega) hB⟩
    | succ j ih =>
      intro m1 hj o1 q1
      have h32 := p_two h5
      have hL1 := o1.lay hL
      have hnd1 : m1.1 S 3 = nI nd := by rw [o1.s HS (by decide)]; exact hnd
      have hm : ∀ d, d < nd → (fun d => fx_dr m1 S d 4) d = (fun d => fx_dr m S d 4) d := fun d hd => by show fx_dr m1 S d 4 = _; rw [o1.dr HS (by decide) (by omega)]
      have ht : ∀ d, d < nd → (fun d => fx_dr m1 S d 5) d = (fun d => fx_dr m S d 5) d := fun d hd => by show fx_dr m1 S d 5 = _; rw [o1.dr HS (by decide) (by omega)]
      refine e_iload_n dX7_weigh_20 rfl ?_
      refine e_if_lt 62 dX7_weigh_21 rfl (fun h => absurd h (nI_pos (by omega))) (fun _ => ?_)
      refine e_aload_n dX7_weigh_24 rfl ?_
      refine e_aload_n dX7_weigh_25 rfl ?_
      refine e_iload_n dX7_weigh_26 rfl ?_
      refine e_callV1 (μ' := mX7_firstNext) (ci := 7) (As := [fx_rf Γ S, .int (nI j)]) dX7_weigh_27 wl_X7_21 ok_X7_firstNext rfl rfl (fx_pi_lt (by decide)) (by decide) (Nat.le_of_ble_eq_true rfl) fx_n1 (s_X7_firstNext (m := m1) S HS hL1 hnd1 h5 (B := j) (by omega)) rfl ?_
      refine e_istore dX7_weigh_30 (by decide) rfl ?_
      refine e_aload_n dX7_weigh_32 rfl ?_
      refine e_getr (o2 := 64) dX7_weigh_33 ff_X7_13 rfl (fx_pi_lt (by decide)) (by decide) rfl (hL1 _ _ _ rfl) ?_
      refine e_iload_n dX7_weigh_36 rfl ?_
      refine e_iload dX7_weigh_37 rfl ?_
      refine e_iconst dX7_weigh_39 kci_m1 ?_
      refine e_icmp_ne 47 dX7_weigh_40 rfl (fun c_n => ?_) (fun c_n => ?_)
      · obtain ⟨y, hy0⟩ : ∃ y, p_nxt (fun d => fx_dr m1 S d 4) (fun d => fx_dr m1 S d 5) nd (m1.1 64) j = some y := Option.ne_none_iff_exists'.mp (fun h => c_n (by rw [h]; rfl))
        have hy := p_nxt_lt hy0
        rw [hy0]
        refine e_aload_n dX7_weigh_47 rfl ?_
        refine e_aload_n dX7_weigh_48 rfl ?_
        refine e_iload_n dX7_weigh_49 rfl ?_
        refine e_iload dX7_weigh_50 rfl ?_
        refine e_callV1 (μ' := mX7_costOfNext) (ci := 7) (As := [fx_rf Γ S, .int (nI j), .int (nI y)]) dX7_weigh_52 wl_X7_25 ok_X7_costOfNext rfl rfl (fx_pi_lt (by decide)) (by decide) (Nat.le_of_ble_eq_true rfl) fx_n1 (s_X7_costOfNext (m := m1) S HS hL1 hnd1 h5 (B := j) (d := y) (by omega) hy.1) rfl ?_
        refine e_iast (j := j) dX7_weigh_55 rfl (fx_pi_lt (by decide)) rfl (by omega) (by decide) ?_
        refine e_iinc dX7_weigh_56 rfl rfl (by decide) rfl ?_
        refine e_goto 20 dX7_weigh_59 rfl ?_
        rw [p_pm_dec]
        refine e_weak (lv2 := [some (fx_rf Γ 63), some (fx_rf Γ S), some (.int (nI (2 ^ nd - 1))), some (.int (p_pm j)), none]) ⟨rfl, rfl, rfl, rfl, trivial⟩ ?_
        refine ih _ (by omega) o1.sI (fun B h1 h2 => ?_)
        by_cases e : B = j
        · subst e
          have eN : p_nxt (fun d => fx_dr m S d 4) (fun d => fx_dr m S d 5) nd ((fx_sI m1 64 B (p_cost (fun d => fx_dr m1 S d 4) (fun d => fx_dr m1 S d 5) nd (m1.1 64) B y)).1 64) B = some y := (p_nxt_congr (fun d hd => (hm d hd).symm) (fun d hd => (ht d hd).symm) h2 (fun C h3 h4 => fx_sI_64 (by omega))).trans hy0
          rw [p_LqE, eN]
          exact fx_rd0.trans (p_cost_congr hm ht hy.1 (fx_sI_64 (by have := p_or_gt hy.2; omega)).symm)
        · exact p_LqE_congr (fun d hd => rfl) (fun d hd => rfl) h2 (fun C h3 h4 => (fx_sI_64 (by omega)).symm) (q1 B (by omega) h2)
      · refine e_iconst dX7_weigh_43 kci_0 ?_
        refine e_goto 55 dX7_weigh_44 rfl ?_
        refine e_iast (j := j) dX7_weigh_55 rfl (fx_pi_lt (by decide)) rfl (by omega) (by decide) ?_
        refine e_iinc dX7_weigh_56 rfl rfl (by decide) rfl ?_
        refine e_goto 20 dX7_weigh_59 rfl ?_
        rw [p_pm_dec]
        refine e_weak (lv2 := [some (fx_rf Γ 63), some (fx_rf Γ S), some (.int (nI (2 ^ nd - 1))), some (.int (p_pm j)), none]) ⟨rfl, rfl, rfl, rfl, trivial⟩ ?_
        refine ih _ (by omega) o1.sI (fun B h1 h2 => ?_)
        by_cases e : B = j
        · subst e
          have eN : p_nxt (fun d => fx_dr m S d 4) (fun d => fx_dr m S d 5) nd ((fx_sI m1 64 B (0)).1 64) B = none := (p_nxt_congr (fun d hd => (hm d hd).symm) (fun d hd => (ht d hd).symm) h2 (fun C h3 h4 => fx_sI_64 (by omega))).trans ((p_oi_ne (fun x hx => by have := (p_nxt_lt hx).1; omega)).mp c_n)
          rw [p_LqE, eN]
          exact fx_rd0
        · exact p_LqE_congr (fun d hd => rfl) (fun d hd => rfl) h2 (fun C h3 h4 => (fx_sI_64 (by omega)).symm) (q1 B (by omega) h2)
  refine e_iconst dX7_weigh_0 kci_1 ?_
  refine e_aload_n dX7_weigh_1 rfl ?_
  refine e_getv (v := nI nd) dX7_weigh_2 ff_X7_17 HS.sh (fx_pi_lt HS.lt) (by decide) rfl hnd ?_
  refine e_ishl dX7_weigh_5 ?_
  rw [i_shl1 (by omega)]
  refine e_iconst dX7_weigh_6 kci_1 ?_
  refine e_isub dX7_weigh_7 ?_
  rw [p_all nd h32.1]
  refine e_istore_n dX7_weigh_8 (by decide) rfl ?_
  refine e_aload_n dX7_weigh_9 rfl ?_
  refine e_getr (o2 := 64) dX7_weigh_10 ff_X7_13 rfl (fx_pi_lt (by decide)) (by decide) rfl (hL _ _ _ rfl) ?_
  refine e_iload_n dX7_weigh_13 rfl ?_
  refine e_iconst dX7_weigh_14 kci_0 ?_
  refine e_iast (j := 2 ^ nd - 1) dX7_weigh_15 rfl (fx_pi_lt (by decide)) rfl (by omega) (by decide) ?_
  refine e_iload_n dX7_weigh_16 rfl ?_
  refine e_iconst dX7_weigh_17 kci_1 ?_
  refine e_isub dX7_weigh_18 ?_
  rw [p_pm_start]
  refine e_istore_n dX7_weigh_19 (by decide) rfl ?_
  refine lp (2 ^ nd - 1) _ (by omega) (fx_on.refl 64 m).sI (fun B h1 h2 => ?_)
  have e : B = 2 ^ nd - 1 := by omega
  subst e
  have hno : p_nxt (fun d => fx_dr m S d 4) (fun d => fx_dr m S d 5) nd ((fx_sI m 64 (2 ^ nd - 1) 0).1 64) (2 ^ nd - 1) = none := by
    cases q : p_nxt (fun d => fx_dr m S d 4) (fun d => fx_dr m S d 5) nd ((fx_sI m 64 (2 ^ nd - 1) 0).1 64) (2 ^ nd - 1) with
    | none => rfl
    | some d => have := p_nxt_lt q; rw [Nat.testBit_two_pow_sub_one] at this; simp at this; omega
  rw [p_LqE, hno]
  exact fx_rd0
def p_gr (N : Nat → Option Nat) : Nat → Nat → Nat
  | 0, B => B
  | i + 1, B => match N B with | none => p_gr N i B | some d => p_gr N i (B ||| 2 ^ d)
set_option maxRecDepth 100000 in
set_option maxHeartbeats 600000 in
theorem s_X7_dollAt {Γ : fx_G} {m : fx_M} (S : Nat) (HS : fx_St S) (hL : fx_Lay m) {nd : Nat} (hnd : m.1 S 3 = nI nd) (h5 : nd ≤ 5) {i : Nat} (hi : i < 8) : fx_Ct Γ mX7_dollAt 3 119 119 [fx_rf Γ 63, fx_rf Γ S, .int (nI i)] m (fx_is (some (.int (p_oi (p_nxt (fun d => fx_dr m S d 4) (fun d => fx_dr m S d 5) nd (m.1 64) (p_gr (p_nxt (fun d => fx_dr m S d 4) (fun d => fx_dr m S d 5) nd (m.1 64)) i 0))))) m) := by
  refine fx_Ct.of (j := 3) (by decide) (Nat.le_of_ble_eq_true rfl) (Nat.le_of_ble_eq_true rfl) ?_
  show fx_E Γ mX7_dollAt 3 119 119 _ 119 m 0 [some (fx_rf Γ 63), some (fx_rf Γ S), some (.int (nI i)), none, none, none] []
  have lp : ∀ (j : Nat) (k B : Nat), k + j = i → B < 2 ^ nd → fx_E Γ mX7_dollAt 3 119 119 (fx_is (some (.int (p_oi (p_nxt (fun d => fx_dr m S d 4) (fun d => fx_dr m S d 5) nd (m.1 64) (p_gr (p_nxt (fun d => fx_dr m S d 4) (fun d => fx_dr m S d 5) nd (m.1 64)) j B))))) m) 119 m 5 [some (fx_rf Γ 63), some (fx_rf Γ S), some (.int (nI i)), some (.int (nI B)), some (.int (nI k)), none] [] := by
    intro j
    induction j with
    | zero =>
      intro k B hk hB
      have h32 := p_two h5
      refine e_iload dX7_dollAt_5 rfl ?_
      refine e_iload_n dX7_dollAt_7 rfl ?_
      refine e_icmp_ge 38 dX7_dollAt_8 rfl (fun _ => ?_) (fun h => absurd (nI_le (by omega) (by omega)) h)
      refine e_aload_n dX7_dollAt_38 rfl ?_
      refine e_aload_n dX7_dollAt_39 rfl ?_
      refine e_iload_n dX7_dollAt_40 rfl ?_
      refine e_callV1 (μ' := mX7_firstNext) (ci := 7) (As := [fx_rf Γ S, .int (nI B)]) dX7_dollAt_41 wl_X7_21 ok_X7_firstNext rfl rfl (fx_pi_lt (by decide)) (by decide) (Nat.le_of_ble_eq_true rfl) fx_n1 (s_X7_firstNext (m := m) S HS hL hnd h5 (B := B) (by omega)) rfl ?_
      exact e_iret dX7_dollAt_44 rfl rfl rfl ⟨rfl, rfl⟩
    | succ j ih =>
      intro k B hk hB
      have h32 := p_two h5
      refine e_iload dX7_dollAt_5 rfl ?_
      refine e_iload_n dX7_dollAt_7 rfl ?_
      refine e_icmp_ge 38 dX7_dollAt_8 rfl (fun h => absurd h (nI_ge (by omega) (by omega))) (fun _ => ?_)
      refine e_aload_n dX7_dollAt_11 rfl ?_
      refine e_aload_n dX7_dollAt_12 rfl ?_
      refine e_iload_n dX7_dollAt_13 rfl ?_
      refine e_callV1 (μ' := mX7_firstNext) (ci := 7) (As := [fx_rf Γ S, .int (nI B)]) dX7_dollAt_14 wl_X7_21 ok_X7_firstNext rfl rfl (fx_pi_lt (by decide)) (by decide) (Nat.le_of_ble_eq_true rfl) fx_n1 (s_X7_firstNext (m := m) S HS hL hnd h5 (B := B) (by omega)) rfl ?_
      refine e_istore dX7_dollAt_17 (by decide) rfl ?_
      refine e_iload dX7_dollAt_19 rfl ?_
      refine e_iconst dX7_dollAt_21 kci_m1 ?_
      refine e_icmp_eq 32 dX7_dollAt_22 rfl (fun c_n => ?_) (fun c_n => ?_)
      · refine e_iinc (v := nI (k + 1)) dX7_dollAt_32 rfl (fx_inc _) (by decide) rfl ?_
        refine e_goto 5 dX7_dollAt_35 rfl ?_
        refine e_weak (lv2 := [some (fx_rf Γ 63), some (fx_rf Γ S), some (.int (nI i)), some (.int (nI B)), some (.int (nI (k + 1))), none]) ⟨rfl, rfl, rfl, rfl, rfl, trivial⟩ ?_
        rw [show p_gr (p_nxt (fun d => fx_dr m S d 4) (fun d => fx_dr m S d 5) nd (m.1 64)) (j + 1) B = p_gr (p_nxt (fun d => fx_dr m S d 4) (fun d => fx_dr m S d 5) nd (m.1 64)) j B from by rw [p_gr, (p_oi_ne (fun x hx => by have := (p_nxt_lt hx).1; omega)).mp c_n]]
        exact ih (k + 1) _ (by omega) hB
      · obtain ⟨y, hy0⟩ : ∃ y, p_nxt (fun d => fx_dr m S d 4) (fun d => fx_dr m S d 5) nd (m.1 64) B = some y := Option.ne_none_iff_exists'.mp (fun h => c_n (by rw [h]; rfl))
        have hy := p_nxt_lt hy0
        rw [hy0]
        refine e_iload_n dX7_dollAt_25 rfl ?_
        refine e_iconst dX7_dollAt_26 kci_1 ?_
        refine e_iload dX7_dollAt_27 rfl ?_
        refine e_ishl dX7_dollAt_29 ?_
        refine e_ior dX7_dollAt_30 ?_
        refine e_istore_n dX7_dollAt_31 (by decide) rfl ?_
        refine e_iinc (v := nI (k + 1)) dX7_dollAt_32 rfl (fx_inc _) (by decide) rfl ?_
        refine e_goto 5 dX7_dollAt_35 rfl ?_
        rw [show p_oi (some y) = nI y from rfl, i_shl1 (by omega), i_or]
        refine e_weak (lv2 := [some (fx_rf Γ 63), some (fx_rf Γ S), some (.int (nI i)), some (.int (nI (B ||| 2 ^ y))), some (.int (nI (k + 1))), none]) ⟨rfl, rfl, rfl, rfl, rfl, trivial⟩ ?_
        rw [show p_gr (p_nxt (fun d => fx_dr m S d 4) (fun d => fx_dr m S d 5) nd (m.1 64)) (j + 1) B = p_gr (p_nxt (fun d => fx_dr m S d 4) (fun d => fx_dr m S d 5) nd (m.1 64)) j (B ||| 2 ^ y) from by rw [p_gr, hy0]]
        exact ih (k + 1) _ (by omega) (p_or_lt hB hy.1)
  refine e_iconst dX7_dollAt_0 kci_0 ?_
  refine e_istore_n dX7_dollAt_1 (by decide) rfl ?_
  refine e_iconst dX7_dollAt_2 kci_0 ?_
  refine e_istore dX7_dollAt_3 (by decide) rfl ?_
  have h32 := p_two h5
  exact lp i 0 0 (by omega) (by omega)
