theorem p_fa3 {n : Nat} {P Q R S : Nat → Prop} (h : ∀ t, t < n → ((P t → Q t) ↔ (R t → S t))) : (∀ t, t < n → P t → Q t) ↔ (∀ t, 0 ≤ t → t < 0 + n → R t → S t) :=
  ⟨fun q t _ ht => (h t (by omega)).mp (q t (by omega)), fun q t ht => (h t ht).mpr (q t (Nat.zero_le _) (by omega))⟩
theorem p_new6 (c : Nat) : p_new c 6 = 99 := rfl
theorem p_new_g {c : Nat} (hc : c < 200) : p_gA (p_new c) := p_nwR_g (p_cR hc).1 (p_cR hc).2.1 (p_cR hc).2.2
theorem p_far_Z {A D : Nat → Int32} (hA : p_gA A) (hD : p_gD D) : 0 ≤ (p_far A D (A 4) (A 5)).toInt ∧ (p_far A D (A 4) (A 5)).toInt ≤ 36 := p_in_Z (b := 36) (by decide) (p_far_in hA hD hA.2.2.2.2.1 hA.2.2.2.2.2)
theorem p_1000_Z {v : Int32} (h : 0 ≤ v.toInt ∧ v.toInt ≤ 36) : (1000 - v).toInt = 1000 - v.toInt := by
  rw [fb_subI (by rw [show (1000 : Int32).toInt = 1000 from rfl]; omega) (by rw [show (1000 : Int32).toInt = 1000 from rfl]; omega)]
  rfl
theorem p_wt_Z {A D : Nat → Nat → Int32} {na nd : Nat} (gA : ∀ x, x < na → p_gA (A x)) (gD : ∀ d, d < nd → p_gD (D d)) : ∀ t, t < p_ns A na nd → ∀ p, p < p_np A na → 0 ≤ (p_wt A D na nd t p).toInt ∧ (p_wt A D na nd t p).toInt ≤ 1000 := fun t ht p hp => by
  have h1 := (p_sl_lt ht).1
  have h2 := (p_pl_lt hp).1
  have h := p_far_Z (gA _ h2) (gD (p_sl A na nd t / 2) (by omega))
  have e : (p_wt A D na nd t p).toInt = 1000 - (p_far (A (p_pl A na p)) (D (p_sl A na nd t / 2)) (A (p_pl A na p) 4) (A (p_pl A na p) 5)).toInt := p_1000_Z h
  rw [e]
  omega
set_option maxHeartbeats 1000000 in
theorem p_cast_v {A D : Nat → Nat → Int32} {na nd c : Nat} (gA : ∀ x, x < na → p_gA (A x)) (gD : ∀ d, d < nd → p_gD (D d)) (h5 : nd ≤ 5) (hc : c < 200) : p_mG (p_ua A na (p_new c)) D (na + 1) nd none 0 0 = p_caV D (fun t => p_sl A na nd t / 2) (fun t => nI (p_sl A na nd t % 2)) (p_woT A D na nd) (p_ns A na nd) (p_B A D na nd) c := by
  have hN := p_new6 c
  have gN := p_new_g hc
  have hns10 : p_ns A na nd ≤ 10 := Nat.le_trans (p_ns_le A na nd) (by omega)
  have gA' : ∀ x, x < na + 1 → p_gA (p_ua A na (p_new c) x) := fun x hx => by
    by_cases e : x = na
    · subst e; rw [p_ua_at]; exact gN
    · rw [p_ua, if_neg e]; exact gA x (by omega)
  have hwZ := p_wt_Z (A := A) (D := D) (na := na) (nd := nd) gA gD
  have hwZ' := p_wt_Z (A := p_ua A na (p_new c)) (D := D) (na := na + 1) (nd := nd) gA' gD
  have hns := p_ns_new (A := A) (N := p_new c) (na := na) (nd := nd) hN h5
  have hnp := p_np_new (A := A) (N := p_new c) (na := na) hN
  rw [hns, hnp] at hwZ'
  rw [p_mG_B]
  unfold p_B p_TB p_caV
  rw [hns, hnp, Nat.sub_zero]
  have e2 : 2 ^ (p_np A na + 1) - 1 = (2 ^ p_np A na - 1) ^^^ 2 ^ p_np A na := by
    refine Nat.eq_of_testBit_eq fun i => ?_
    rw [fb_bit_flip, Nat.testBit_two_pow_sub_one, Nat.testBit_two_pow_sub_one]
    by_cases c1 : i < p_np A na
    · rw [decide_eq_true c1, decide_eq_true (show i < p_np A na + 1 by omega), decide_eq_false (show ¬ i = p_np A na by omega)]; rfl
    · by_cases c2 : i = p_np A na
      · rw [decide_eq_false c1, decide_eq_true c2, decide_eq_true (show i < p_np A na + 1 by omega)]; rfl
      · rw [decide_eq_false c1, decide_eq_false c2, decide_eq_false (show ¬ i < p_np A na + 1 by omega)]; rfl
  rw [e2]
  have zl := p_tb_Z (ab := p_ab (p_ua A na (p_new c)) D (na + 1) nd) hwZ' hns10 (p_ns A na nd) 0 ((2 ^ p_np A na - 1) ^^^ 2 ^ p_np A na) (by omega)
  have zb := p_tb_Z (ab := p_ab A D na nd) hwZ hns10 (p_ns A na nd) 0 (2 ^ p_np A na - 1) (by omega)
  have hweq : ∀ t, t < p_ns A na nd → ∀ p, p < p_np A na → p_wt (p_ua A na (p_new c)) D (na + 1) nd t p = p_wt A D na nd t p := fun t ht p hp => by
    unfold p_wt p_slW p_farA
    rw [p_pl_new hp, p_sl_new hN h5 ht, p_ua, if_neg (by have := (p_pl_lt hp).1; omega)]
  have hwn : ∀ t, t < p_ns A na nd → p_wt (p_ua A na (p_new c)) D (na + 1) nd t (p_np A na) = 1000 - p_far (p_new c) (D (p_sl A na nd t / 2)) (p_new c 4) (p_new c 5) := fun t ht => by
    unfold p_wt p_slW p_farA
    rw [p_pl_newn hN, p_sl_new hN h5 ht, p_ua_at]
  have hab : ∀ t, t < p_ns A na nd → ∀ p, p < p_np A na → (p_ab (p_ua A na (p_new c)) D (na + 1) nd t).testBit p = (p_ab A D na nd t).testBit p := fun t ht p hp => by
    unfold p_ab p_slV
    rw [p_sN_bit, p_sN_bit]
    refine decide_eq_decide.mpr ?_
    rw [p_pl_new hp, p_sl_new hN h5 ht, p_ua, if_neg (by have := (p_pl_lt hp).1; omega), hnp]
    exact ⟨fun h => ⟨hp, h.2⟩, fun h => ⟨by omega, h.2⟩⟩
  have habn : ∀ t, t < p_ns A na nd → ((p_ab (p_ua A na (p_new c)) D (na + 1) nd t).testBit (p_np A na) = true ↔ p_fit (p_new c) (D (p_sl A na nd t / 2)) (nI (p_sl A na nd t % 2))) := fun t ht => by
    unfold p_ab p_slV
    rw [p_sN_bit, decide_eq_true_iff, p_pl_newn hN, p_sl_new hN h5 ht, p_ua_at, hnp]
    exact ⟨fun h => h.2, fun h => ⟨by omega, h⟩⟩
  have cast := fun z => p_zcast (w := fun t p => (p_wt A D na nd t p).toInt) (w' := fun t p => (p_wt (p_ua A na (p_new c)) D (na + 1) nd t p).toInt) (ab := p_ab A D na nd) (ab' := p_ab (p_ua A na (p_new c)) D (na + 1) nd) (np := p_np A na) (ns := p_ns A na nd) (fun t ht p hp => congrArg Int32.toInt (hweq t ht p hp)) hab z
  have key : ∀ z : Int, (p_tb (p_wt (p_ua A na (p_new c)) D (na + 1) nd) (p_ab (p_ua A na (p_new c)) D (na + 1) nd) (p_np A na + 1) (p_ns A na nd) 0 ((2 ^ p_np A na - 1) ^^^ 2 ^ p_np A na)).toInt ≤ z ↔ (p_fold (p_bwa1 (p_new c) D (fun t => p_sl A na nd t / 2) (fun t => nI (p_sl A na nd t % 2)) (p_woT A D na nd)) (p_ns A na nd) 0 (p_tb (p_wt A D na nd) (p_ab A D na nd) (p_np A na) (p_ns A na nd) 0 (2 ^ p_np A na - 1))).toInt ≤ z := fun z => by
    rw [zl.1, cast z, p_caf_Z (ns := p_ns A na nd) _ _ _ (by omega), zb.1]
    refine and_congr_right' (p_fa3 (fun t ht => ?_))
    rw [habn t ht]
    refine imp_congr Iff.rfl ?_
    have hD2 : p_sl A na nd t / 2 < nd := by have := (p_sl_lt ht).1; omega
    have hf := p_far_Z gN (gD _ hD2)
    have hs : ∀ s, (p_ahs (p_wt A D na nd) (p_ab A D na nd) (p_np A na) t s + p_TB A D na nd (t + 1) ((2 ^ p_np A na - 1) ^^^ s)).toInt = p_za (fun t p => (p_wt A D na nd t p).toInt) (p_ab A D na nd) (p_np A na) t s + p_zt (fun t p => (p_wt A D na nd t p).toInt) (p_ab A D na nd) (p_np A na) (p_ns A na nd - (t + 1)) (t + 1) ((2 ^ p_np A na - 1) ^^^ s) ∧ 0 ≤ (p_ahs (p_wt A D na nd) (p_ab A D na nd) (p_np A na) t s + p_TB A D na nd (t + 1) ((2 ^ p_np A na - 1) ^^^ s)).toInt ∧ (p_ahs (p_wt A D na nd) (p_ab A D na nd) (p_np A na) t s + p_TB A D na nd (t + 1) ((2 ^ p_np A na - 1) ^^^ s)).toInt ≤ 10000 := fun s => by
      have a := p_ahs_Z (ab := p_ab A D na nd) hwZ hns10 t s (by omega)
      have b := p_tb_Z (ab := p_ab A D na nd) hwZ hns10 (p_ns A na nd - (t + 1)) (t + 1) ((2 ^ p_np A na - 1) ^^^ s) (by omega)
      unfold p_TB
      rw [fb_addI (by omega) (by omega), ← a.1, ← b.1]
      exact ⟨rfl, by omega, by omega⟩
    have wo := fun y => p_mx_Z (f := fun s => p_ahs (p_wt A D na nd) (p_ab A D na nd) (p_np A na) t s + p_TB A D na nd (t + 1) ((2 ^ p_np A na - 1) ^^^ s)) (y := y) (2 ^ p_np A na) 0
    have wo1 : (p_woT A D na nd t).toInt ≤ 10000 := (wo 10000).mpr ⟨by decide, fun s _ => (hs s).2.2⟩
    have wo0 : 0 ≤ (p_woT A D na nd t).toInt := ((wo (p_woT A D na nd t).toInt).mp (Int.le_refl _)).1
    have es : (p_woT A D na nd t + 1000 - p_far (p_new c) (D (p_sl A na nd t / 2)) (p_new c 4) (p_new c 5)).toInt = (p_woT A D na nd t).toInt + 1000 - (p_far (p_new c) (D (p_sl A na nd t / 2)) (p_new c 4) (p_new c 5)).toInt := by
      have e1 : (p_woT A D na nd t + 1000).toInt = (p_woT A D na nd t).toInt + 1000 := fb_addI (by rw [show (1000 : Int32).toInt = 1000 from rfl]; omega) (by rw [show (1000 : Int32).toInt = 1000 from rfl]; omega)
      rw [fb_subI (by rw [e1]; omega) (by rw [e1]; omega), e1]
    rw [es]
    have ew : (p_wt (p_ua A na (p_new c)) D (na + 1) nd t (p_np A na)).toInt = 1000 - (p_far (p_new c) (D (p_sl A na nd t / 2)) (p_new c 4) (p_new c 5)).toInt := by rw [hwn t ht]; exact p_1000_Z hf
    have w3 := wo (z - (p_wt (p_ua A na (p_new c)) D (na + 1) nd t (p_np A na)).toInt)
    constructor
    · intro h
      have g := w3.mpr ⟨by have := h 0 (Nat.two_pow_pos _); have := (hs 0).2.1; rw [(hs 0).1] at this; show (0 : Int) ≤ _; omega, fun s hs2 => by have := h s hs2; rw [(hs s).1]; omega⟩
      have g' : (p_woT A D na nd t).toInt ≤ z - (p_wt (p_ua A na (p_new c)) D (na + 1) nd t (p_np A na)).toInt := g
      omega
    · intro h s hs2
      have g := (w3.mp (by show (p_woT A D na nd t).toInt ≤ _; omega)).2 s hs2
      rw [(hs s).1] at g
      omega
  exact Int32.toInt_inj.mp (Int.le_antisymm ((key _).mpr (Int.le_refl _)) ((key _).mp (Int.le_refl _)))
theorem p_ca1_c {v v' : Nat → Int32} {k : Nat} {s : Int32 × Int32} (h : v k = v' k) : p_ca1 v k s = p_ca1 v' k s := by
  unfold p_ca1
  rw [h]
theorem p_cst_eq {A D : Nat → Nat → Int32} {na nd : Nat} (gA : ∀ x, x < na → p_gA (A x)) (gD : ∀ d, d < nd → p_gD (D d)) (h5 : nd ≤ 5) : (p_fold (p_ca1 (fun c => p_mG (p_ua A na (p_new c)) D (na + 1) nd none 0 0)) 200 0 (-1, -1)).1 = p_cst A D na nd := by
  have hns10 : p_ns A na nd ≤ 10 := Nat.le_trans (p_ns_le A na nd) (by omega)
  have zb := (p_tb_Z (ab := p_ab A D na nd) (p_wt_Z (A := A) (D := D) (na := na) (nd := nd) gA gD) hns10 (p_ns A na nd) 0 (2 ^ p_np A na - 1) (by omega)).2.1
  have hB : 0 ≤ (p_B A D na nd).toInt := zb
  unfold p_cst p_ca
  have e1 : p_fold (p_ca1 (fun c => p_mG (p_ua A na (p_new c)) D (na + 1) nd none 0 0)) 200 0 (-1, -1) = p_fold (p_ca1 (p_caV D (fun t => p_sl A na nd t / 2) (fun t => nI (p_sl A na nd t % 2)) (p_woT A D na nd) (p_ns A na nd) (p_B A D na nd))) 200 0 (-1, -1) := p_fold_congr 200 0 _ (fun x s _ hx =>
    p_ca1_c (p_cast_v gA gD h5 (by omega)))
  rw [e1]
  have h0 : (p_B A D na nd).toInt ≤ (p_caV D (fun t => p_sl A na nd t / 2) (fun t => nI (p_sl A na nd t % 2)) (p_woT A D na nd) (p_ns A na nd) (p_B A D na nd) 0).toInt := ((p_caf_Z (ns := p_ns A na nd) _ _ _ (by omega)).mp (Int.le_refl _)).1
  generalize p_caV D (fun t => p_sl A na nd t / 2) (fun t => nI (p_sl A na nd t % 2)) (p_woT A D na nd) (p_ns A na nd) (p_B A D na nd) = v at h0 ⊢
  have s1 : p_ca1 v 0 (-1, -1) = (nI 0, v 0) := p_ca1_y (Int32.lt_iff_toInt_lt.mpr (by rw [show (-1 : Int32).toInt = -1 from rfl]; omega))
  have s2 : p_ca1 v 0 (0, p_B A D na nd) = (nI 0, v 0) := by
    by_cases c : p_B A D na nd < v 0
    · exact p_ca1_y c
    · rw [p_ca1_n c]
      have c' := mt Int32.lt_iff_toInt_lt.mpr c
      have e : p_B A D na nd = v 0 := Int32.toInt_inj.mp (by omega)
      rw [e]
      rfl
  rw [show (200 : Nat) = 199 + 1 from rfl, p_fold_s s1, p_fold_s s2]
