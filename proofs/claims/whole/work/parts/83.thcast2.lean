theorem p_in_Z {v : Int32} {b : Nat} (hb : b < 2 ^ 31) (h : p_in v 0 (nI b)) : 0 ≤ v.toInt ∧ v.toInt ≤ b := by
  rw [p_inT, nI_toInt hb, show (0 : Int32).toInt = 0 from rfl] at h
  exact h
theorem p_max_Z {x y : Int32} : (p_max x y).toInt = if x.toInt < y.toInt then y.toInt else x.toInt := by
  unfold p_max
  by_cases c : x < y
  · rw [if_pos c, if_pos (Int32.lt_iff_toInt_lt.mp c)]
  · rw [if_neg c, if_neg (mt Int32.lt_iff_toInt_lt.mpr c)]
theorem p_bw_Z {R w : Nat → Int32} {s a np : Nat} {B : Int} (hB : B ≤ 10000) (hR : ∀ x, 0 ≤ (R x).toInt ∧ (R x).toInt ≤ B) (hw : ∀ p, p < np → 0 ≤ (w p).toInt ∧ (w p).toInt ≤ 1000) :
    (p_bw R w 0 s a np).toInt = p_zb (fun x => (R x).toInt) (fun p => (w p).toInt) s a np ∧ 0 ≤ (p_bw R w 0 s a np).toInt ∧ (p_bw R w 0 s a np).toInt ≤ B + 1000 := by
  have key : ∀ (j k : Nat) (z : Int32), k + j ≤ np → 0 ≤ z.toInt ∧ z.toInt ≤ B + 1000 → (p_fold (p_bw1 R w 0 s a) j k z).toInt = p_fold (p_z1 (fun x => (R x).toInt) (fun p => (w p).toInt) s a) j k z.toInt ∧ 0 ≤ (p_fold (p_bw1 R w 0 s a) j k z).toInt ∧ (p_fold (p_bw1 R w 0 s a) j k z).toInt ≤ B + 1000 := by
    intro j
    induction j with
    | zero => intro k z _ h; exact ⟨rfl, h⟩
    | succ j ih =>
      intro k z hk hz
      have hr := hR (s ^^^ 2 ^ k)
      have hwk := hw k (by omega)
      have e : (w k + R (0 + (s ^^^ 2 ^ k))).toInt = (w k).toInt + (R (s ^^^ 2 ^ k)).toInt := by
        rw [Nat.zero_add]
        exact fb_addI (by omega) (by omega)
      have st : (p_bw1 R w 0 s a k z).toInt = p_z1 (fun x => (R x).toInt) (fun p => (w p).toInt) s a k z.toInt ∧ 0 ≤ (p_bw1 R w 0 s a k z).toInt ∧ (p_bw1 R w 0 s a k z).toInt ≤ B + 1000 := by
        unfold p_bw1 p_z1
        by_cases c : (s &&& a).testBit k = true
        · rw [if_pos c, if_pos c, p_max_Z, e]
          refine ⟨rfl, ?_⟩
          split <;> omega
        · rw [if_neg c, if_neg c]
          exact ⟨rfl, hz⟩
      have r := ih (k + 1) (p_bw1 R w 0 s a k z) (by omega) st.2
      rw [st.1] at r
      exact r
  have h0 := hR (0 + s)
  have r := key np 0 (R (0 + s)) (by omega) (by omega)
  unfold p_bw p_zb
  rw [Nat.zero_add] at r ⊢
  exact r
theorem p_tb_Z {wt : Nat → Nat → Int32} {ab : Nat → Nat} {np ns : Nat} (hw : ∀ t, t < ns → ∀ p, p < np → 0 ≤ (wt t p).toInt ∧ (wt t p).toInt ≤ 1000) (h10 : ns ≤ 10) : ∀ (j t s : Nat), t + j ≤ ns → (p_tb wt ab np j t s).toInt = p_zt (fun t p => (wt t p).toInt) ab np j t s ∧ 0 ≤ (p_tb wt ab np j t s).toInt ∧ (p_tb wt ab np j t s).toInt ≤ 1000 * j
  | 0, _, _, _ => ⟨rfl, Int.le_refl _, Int.le_refl _⟩
  | j + 1, t, s, ht => by
    have ih := fun x => p_tb_Z (ab := ab) hw h10 j (t + 1) x (by omega)
    have r := p_bw_Z (R := fun x => p_tb wt ab np j (t + 1) x) (w := wt t) (s := s) (a := ab t) (np := np) (B := 1000 * j) (by omega) (fun x => (ih x).2) (hw t (by omega))
    have e : (fun x => (p_tb wt ab np j (t + 1) x).toInt) = p_zt (fun t p => (wt t p).toInt) ab np j (t + 1) := funext fun x => (ih x).1
    rw [e] at r
    refine ⟨r.1, r.2.1, ?_⟩
    have := r.2.2
    show (p_bw _ _ _ _ _ _).toInt ≤ _
    omega
theorem p_ahs_Z {wt : Nat → Nat → Int32} {ab : Nat → Nat} {np ns : Nat} (hw : ∀ t, t < ns → ∀ p, p < np → 0 ≤ (wt t p).toInt ∧ (wt t p).toInt ≤ 1000) (h10 : ns ≤ 10) : ∀ (t s : Nat), t ≤ ns → (p_ahs wt ab np t s).toInt = p_za (fun t p => (wt t p).toInt) ab np t s ∧ 0 ≤ (p_ahs wt ab np t s).toInt ∧ (p_ahs wt ab np t s).toInt ≤ 1000 * t
  | 0, _, _ => ⟨rfl, Int.le_refl _, Int.le_refl _⟩
  | t + 1, s, ht => by
    have ih := fun x => p_ahs_Z (ab := ab) hw h10 t x (by omega)
    have r := p_bw_Z (R := p_ahs wt ab np t) (w := wt t) (s := s) (a := ab t) (np := np) (B := 1000 * t) (by omega) (fun x => (ih x).2) (hw t (by omega))
    have e : (fun x => (p_ahs wt ab np t x).toInt) = p_za (fun t p => (wt t p).toInt) ab np t := funext fun x => (ih x).1
    rw [e] at r
    refine ⟨r.1, r.2.1, ?_⟩
    have := r.2.2
    show (p_bw _ _ _ _ _ _).toInt ≤ _
    omega
theorem p_mx_Z {f : Nat → Int32} {y : Int} : ∀ (j : Nat) (z : Int32), (p_mx f j z).toInt ≤ y ↔ z.toInt ≤ y ∧ ∀ s, s < j → (f s).toInt ≤ y
  | 0, z => ⟨fun h => ⟨h, fun s hs => absurd hs (Nat.not_lt_zero _)⟩, fun h => h.1⟩
  | j + 1, z => by
    show (p_mx f j (p_max z (f j))).toInt ≤ y ↔ _
    rw [p_mx_Z j, p_max_Z]
    constructor
    · rintro ⟨h1, h2⟩
      have h3 : z.toInt ≤ y ∧ (f j).toInt ≤ y := by split at h1 <;> omega
      refine ⟨h3.1, fun s hs => ?_⟩
      by_cases c : s = j
      · subst c; exact h3.2
      · exact h2 s (by omega)
    · rintro ⟨h1, h2⟩
      have h3 := h2 j (by omega)
      exact ⟨by split <;> omega, fun s hs => h2 s (by omega)⟩
theorem p_caf_Z {N : Nat → Int32} {D : Nat → Nat → Int32} {dl : Nat → Nat} {sd Wo : Nat → Int32} {ns : Nat} {y : Int} : ∀ (j k : Nat) (z : Int32), k + j ≤ ns → ((p_fold (p_bwa1 N D dl sd Wo) j k z).toInt ≤ y ↔ z.toInt ≤ y ∧ ∀ t, k ≤ t → t < k + j → p_fit N (D (dl t)) (sd t) → (Wo t + 1000 - p_far N (D (dl t)) (N 4) (N 5)).toInt ≤ y)
  | 0, k, z, _ => ⟨fun h => ⟨h, fun t h1 h2 => absurd h2 (by omega)⟩, fun h => h.1⟩
  | j + 1, k, z, hk => by
    show (p_fold (p_bwa1 N D dl sd Wo) j (k + 1) (p_bwa1 N D dl sd Wo k z)).toInt ≤ y ↔ _
    rw [p_caf_Z (ns := ns) j (k + 1) _ (by omega)]
    have e : (p_bwa1 N D dl sd Wo k z).toInt ≤ y ↔ z.toInt ≤ y ∧ (p_fit N (D (dl k)) (sd k) → (Wo k + 1000 - p_far N (D (dl k)) (N 4) (N 5)).toInt ≤ y) := by
      unfold p_bwa1
      by_cases c : p_fit N (D (dl k)) (sd k)
      · rw [if_pos c, p_max_Z]
        exact ⟨fun h => by split at h <;> exact ⟨by omega, fun _ => by omega⟩, fun h => by have := h.2 c; split <;> omega⟩
      · rw [if_neg c]
        exact ⟨fun h => ⟨h, fun q => absurd q c⟩, fun h => h.1⟩
    rw [e]
    constructor
    · rintro ⟨⟨h1, h2⟩, h3⟩
      refine ⟨h1, fun t ht1 ht2 => ?_⟩
      by_cases c : t = k
      · subst c; exact h2
      · exact h3 t (by omega) (by omega)
    · rintro ⟨h1, h2⟩
      exact ⟨⟨h1, h2 k (by omega) (by omega)⟩, fun t ht1 ht2 => h2 t (by omega) (by omega)⟩
theorem p_fd_sn {P : Nat → Prop} [DecidablePred P] : ∀ (j k : Nat), ¬ P (k + j) → p_fd P (j + 1) k = p_fd P j k
  | 0, k, h => (p_fd_n (j := 0) (k := k) h).trans rfl
  | j + 1, k, h => by
    by_cases c : P k
    · rw [p_fd_y c, p_fd_y c]
    · rw [p_fd_n c, p_fd_n (j := j) c]
      exact p_fd_sn j (k + 1) (by rw [show k + 1 + j = k + (j + 1) by omega]; exact h)
/-- one arm more in the drawer -/
theorem p_Qf_new {A : Nat → Nat → Int32} {N : Nat → Int32} {na i : Nat} (hN : N 6 = 99) (hi : i < 10) : p_Qf (p_ua A na N) (na + 1) i ↔ p_Qf A na i := by
  show p_at _ _ _ _ = none ↔ p_at _ _ _ _ = none
  have e : p_at (p_ua A na N) (na + 1) (nI (i / 2)) (nI (i % 2)) = p_at A na (nI (i / 2)) (nI (i % 2)) := by
    unfold p_at
    rw [p_fd_sn na 0 (by
      rw [Nat.zero_add, p_ua_at, hN, show (10 : Int32) = nI 10 from rfl, pk_mul, nI_add]
      intro h
      have := (nI_eq (a := 99) (by decide) (by omega)).mp h
      omega)]
    exact p_fd_congr na 0 (fun x _ hx => by rw [p_ua, if_neg (by omega)])
  rw [e]
theorem p_np_new {A : Nat → Nat → Int32} {N : Nat → Int32} {na : Nat} (hN : N 6 = 99) : p_np (p_ua A na N) (na + 1) = p_np A na + 1 := by
  unfold p_np
  rw [p_rk_y (P := p_Pf (p_ua A na N)) (by show p_ua A na N na 6 = 99; rw [p_ua_at]; exact hN)]
  rw [p_rk_congr (P := p_Pf (p_ua A na N)) (P' := p_Pf A) (fun k hk => by show p_ua A na N k 6 = 99 ↔ _; rw [p_ua, if_neg (by omega)])]
theorem p_ns_new {A : Nat → Nat → Int32} {N : Nat → Int32} {na nd : Nat} (hN : N 6 = 99) (h5 : nd ≤ 5) : p_ns (p_ua A na N) (na + 1) nd = p_ns A na nd := p_rk_congr (fun k hk => p_Qf_new hN (by omega))
theorem p_sl_new {A : Nat → Nat → Int32} {N : Nat → Int32} {na nd t : Nat} (hN : N 6 = 99) (h5 : nd ≤ 5) (ht : t < p_ns A na nd) : p_sl (p_ua A na N) (na + 1) nd t = p_sl A na nd t := by
  have h := p_sl_lt ht
  have hq : p_Qf (p_ua A na N) (na + 1) (p_sl A na nd t) := (p_Qf_new hN (by omega)).mpr h.2.1
  have r : p_rk (p_Qf (p_ua A na N) (na + 1)) (p_sl A na nd t) = t := by
    rw [p_rk_congr (P' := p_Qf A na) (fun k hk => p_Qf_new hN (by omega))]
    exact h.2.2
  have e := p_sl_rk (A := p_ua A na N) (na := na + 1) h.1 hq
  rw [r] at e
  exact e
theorem p_pl_new {A : Nat → Nat → Int32} {N : Nat → Int32} {na p : Nat} (hp : p < p_np A na) : p_pl (p_ua A na N) (na + 1) p = p_pl A na p := by
  have h := p_pl_lt hp
  have e : ∀ k, k < na → p_ua A na N k = A k := fun k hk => if_neg (by omega)
  have r : p_rk (p_Pf (p_ua A na N)) (p_pl A na p) = p := by
    rw [p_rk_congr (P' := p_Pf A) (fun k hk => by show p_ua A na N k 6 = 99 ↔ _; rw [e k (by omega)])]
    exact h.2.2
  have g := p_pl_rk (A := p_ua A na N) (na := na + 1) (x := p_pl A na p) (by omega) (by rw [e _ h.1]; exact h.2.1)
  rw [r] at g
  exact g
theorem p_pl_newn {A : Nat → Nat → Int32} {N : Nat → Int32} {na : Nat} (hN : N 6 = 99) : p_pl (p_ua A na N) (na + 1) (p_np A na) = na := by
  have r : p_rk (p_Pf (p_ua A na N)) na = p_np A na := p_rk_congr (P' := p_Pf A) (fun k hk => by show p_ua A na N k 6 = 99 ↔ _; rw [p_ua, if_neg (by omega)])
  have g := p_pl_rk (A := p_ua A na N) (na := na + 1) (x := na) (by omega) (by rw [p_ua_at]; exact hN)
  rw [r] at g
  exact g
