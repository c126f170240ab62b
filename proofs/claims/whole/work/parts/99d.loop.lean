theorem fx_lay_o {o k v : Nat} (h : fx_lay o k = some v) : o < 119 := by
  rcases Nat.lt_or_ge o 119 with q | q
  · exact q
  · unfold fx_lay at h
    rw [List.getD_eq_getElem?_getD (l := fx_layT), List.getElem?_eq_none (show fx_layT.length ≤ o from q)] at h
    cases h
theorem fr_start {m0 m1 m2 : fx_M} (N1 : fx_NB 0 83 m0 m1) (N2 : fx_NB 83 119 m1 m2) : fr_R m2 0 0 := by
  have fin : ∀ o, o < 119 → fx_fin o m2 := fun o ho => by
    by_cases c : fx_pi o < 83
    · have q := N2.1 o (by omega)
      exact (N1.2 o (Nat.zero_le _) c).cg q.1 q.2.1 q.2.2
    · exact N2.2 o (by omega) (fx_pi_lt ho)
  have I : ∀ o k, o < 119 → m2.1 o k = fx_I0 o k := fun o k h => (fin o h).1 k
  have hL : fx_Lay m2 := fun o k v h => (fin o (fx_lay_o h)).2.2 k v h
  have iz : ∀ o k, ((4 ≤ o ∧ o < 12) ∨ (20 ≤ o ∧ o < 28) ∨ (36 ≤ o ∧ o < 44)) → 7 ≤ k → fx_I0 o k = 0 := fun o k h hk => by
    unfold fx_I0
    rw [if_neg (by omega), if_pos (by omega), if_neg (by omega)]
  have id : ∀ o k, ((12 ≤ o ∧ o < 17) ∨ (28 ≤ o ∧ o < 33) ∨ (44 ≤ o ∧ o < 49)) → fx_I0 o k = 0 := fun o k h => by
    unfold fx_I0
    rw [if_neg (by omega), if_neg (by omega), if_neg (by omega), if_neg (by omega), if_neg (by omega), if_neg (by omega), if_neg (by omega), if_neg (by omega), if_neg (by omega), if_neg (by omega)]
  have J : ∀ S, S = 1 ∨ S = 17 ∨ S = 33 → fx_J S m2 := fun S hS o k h => by
    rw [I o k (by omega)]
    rcases h with h | h
    · exact iz o k (by omega) h.2.2
    · exact id o k (by omega)
  have sh : ∀ k, k < 8 → (m2.1 (67 + 2 * k) 1 = -1 ∧ m2.1 (67 + 2 * k) 3 = -1 ∧ m2.1 (67 + 2 * k) 2 = 0) := fun k hk => by
    have e : ∀ j, fx_I0 (67 + 2 * k) j = if j = 1 ∨ j = 3 then -1 else 0 := fun j => by
      unfold fx_I0
      rw [if_neg (by omega), if_neg (by omega), if_pos (by omega)]
    rw [I _ _ (by omega), I _ _ (by omega), I _ _ (by omega), e, e, e]
    exact ⟨rfl, rfl, rfl⟩
  refine ⟨hL, by decide, ⟨(I 1 2 (by decide)).trans rfl, (I 1 3 (by decide)).trans rfl, J 1 (by omega), ⟨(I 83 0 (by decide)).trans rfl, (I 83 1 (by decide)).trans rfl, fun j hj => ?_, fun x hx => absurd hx (Nat.not_lt_zero _), fun x hx => absurd hx (Nat.not_lt_zero _), by decide, by decide, fun x hx => absurd hx (Nat.not_lt_zero _), fun x hx => absurd hx (Nat.not_lt_zero _)⟩, fun x hx => absurd hx (Nat.not_lt_zero _)⟩, ⟨J 17 (by omega), J 33 (by omega)⟩, ⟨fun k hk => ?_, fun k hk => ?_⟩, fun b => ?_, ?_, ⟨[], ⟨(I 65 0 (by decide)).trans rfl, fun i v h => by simp at h⟩, (I 83 49 (by decide)).trans rfl, fun i v h => by simp at h⟩, ⟨?_, fun h => ?_⟩, ⟨(I 83 44 (by decide)).trans rfl, ⟨fun j hj => (I 106 j (by decide)).trans rfl, fun j hj => (I 107 j (by decide)).trans rfl, fun j hj => ?_, fun j hj => ?_⟩⟩, ⟨0, 0, fun _ => 0, by decide, by decide, (I 53 9 (by decide)).trans rfl, (I 53 10 (by decide)).trans rfl, fun t h => absurd h (Nat.not_lt_zero _), fun t ht s hs => ?_⟩⟩
  · show m2.1 83 (2 + j) = m2.1 1 (4 + j)
    rw [I _ _ (by decide), I _ _ (by decide)]
    have : j = 0 ∨ j = 1 ∨ j = 2 ∨ j = 3 := by omega
    rcases this with rfl | rfl | rfl | rfl <;> rfl
  · rw [(sh k hk).2.2]
    exact ⟨rfl, by decide⟩
  · obtain ⟨s1, s3, s2⟩ := sh k hk
    have e1 : (fx_uC m2).1 k = -1 := s1
    have e3 : (fx_uC m2).2.1 k = -1 := s3
    have e2 : (fx_uC m2).2.2.1 k = 0 := by show p_ix (m2.1 (67 + 2 * k) 2) = 0; rw [s2]; rfl
    refine ⟨?_, fun h => absurd e1 h, fun _ => ⟨e2, fun h => absurd e3 h⟩⟩
    rw [e1, e3, I 100 k (by decide)]
    rfl
  · rw [I 50 b (by decide), I 84 b (by decide)]
    rfl
  · rw [I 51 0 (by decide), I 83 6 (by decide)]
    rfl
  · rw [I 0 3 (by decide), I 83 50 (by decide)]
    rfl
  · rw [I 0 3 (by decide)] at h
    exact absurd rfl h
  · rw [I 108 j (by decide)]
    show (if j < 6 then fx_tab 1 j else 0) = _
    rw [if_pos hj]
  · rw [I 109 j (by decide)]
    show (if j < 7 then fx_tab 3 j else 0) = _
    rw [if_pos hj]
  · obtain rfl : t = 0 := by omega
    obtain rfl : s = 0 := by omega
    exact (I 54 0 (by decide)).trans rfl
theorem fr_cond {i L : Nat} (hi : i < 2 ^ 30) (hL : L < 2 ^ 30) : nI L - 8 < nI i ↔ L < i + 8 := by
  rw [Int32.lt_iff_toInt_lt, fb_subI (by rw [nI_toInt (by omega), show (8 : Int32).toInt = 8 from rfl]; omega) (by rw [nI_toInt (by omega), show (8 : Int32).toInt = 8 from rfl]; omega), nI_toInt (by omega), nI_toInt (by omega), show (8 : Int32).toInt = 8 from rfl]
  omega
set_option maxRecDepth 100000 in
set_option maxHeartbeats 4000000 in
theorem s_lawloop {Γ : fx_G} {nm : String} (hN : Γ.2.2.2 98 ≤ 4096) : ∀ (j i : Nat) (m : fx_M), Γ.2.2.2 98 < i + 8 * j + 8 → i ≤ Γ.2.2.2 98 + 8 → fx_Rel m → fx_E Γ (mL_law nm) 20 0 119 (fun r _ => r = some (.int 1)) 119 m 18 [some (.ref (Γ.2.2.2 99)), some (fx_rf Γ 0), some (fx_rf Γ 83), some (.int (nI i))] [] := by
  intro j
  induction j with
  | zero =>
    intro i m hj hiL hR
    obtain ⟨na, nd, R⟩ := hR
    refine e_iload_n dL_law_18 rfl ?_
    refine e_aload_n dL_law_19 rfl ?_
    refine e_xlen dL_law_20 ?_
    refine e_bipush dL_law_21 kcb_8 ?_
    refine e_isub dL_law_23 ?_
    refine e_icmp_gt 1628 dL_law_24 rfl (fun _ => ?_) (fun h => absurd ((fr_cond (i := i) (L := Γ.2.2.2 98) (by omega) (by omega)).mpr (by omega)) h)
    refine e_iconst dL_law_1628 kci_1 ?_
    exact e_iret dL_law_1629 rfl rfl rfl rfl
  | succ j ih =>
    intro i m hj hiL hR
    obtain ⟨na, nd, R⟩ := hR
    by_cases hl : Γ.2.2.2 98 < i + 8
    · refine e_iload_n dL_law_18 rfl ?_
      refine e_aload_n dL_law_19 rfl ?_
      refine e_xlen dL_law_20 ?_
      refine e_bipush dL_law_21 kcb_8 ?_
      refine e_isub dL_law_23 ?_
      refine e_icmp_gt 1628 dL_law_24 rfl (fun _ => ?_) (fun h => absurd ((fr_cond (i := i) (L := Γ.2.2.2 98) (by omega) (by omega)).mpr hl) h)
      refine e_iconst dL_law_1628 kci_1 ?_
      exact e_iret dL_law_1629 rfl rfl rfl rfl
    · have hi : i + 8 ≤ Γ.2.2.2 98 := by omega
      have hN31 : Γ.2.2.2 98 < 2 ^ 31 := by omega
      have n1622 : ∀ m', fx_Rel m' → fx_E Γ (mL_law nm) 20 0 119 (fun r _ => r = some (.int 1)) 119 m' 1622 [some (.ref (Γ.2.2.2 99)), some (fx_rf Γ 0), some (fx_rf Γ 83), some (.int (nI i))] [] := by
        intro m' hR'
        refine e_iinc (v := nI (i + 8)) dL_law_1622 rfl (by rw [show Int32.ofInt 8 = nI 8 from rfl, nI_add]) (by show _ < 4; decide) rfl ?_
        refine e_goto 18 dL_law_1625 rfl ?_
        exact ih (i + 8) m' (by omega) (by omega) hR'
      refine e_iload_n dL_law_18 rfl ?_
      refine e_aload_n dL_law_19 rfl ?_
      refine e_xlen dL_law_20 ?_
      refine e_bipush dL_law_21 kcb_8 ?_
      refine e_isub dL_law_23 ?_
      refine e_icmp_gt 1628 dL_law_24 rfl (fun h => absurd h (mt (fr_cond (i := i) (L := Γ.2.2.2 98) (by omega) (by omega)).mp hl)) (fun _ => ?_)
      refine e_aload_n dL_law_27 rfl ?_
      refine e_iload_n dL_law_28 rfl ?_
      refine e_xald (j := i) dL_law_29 rfl (by omega) hN31 ?_
      refine e_bipush dL_law_30 kcb_63 ?_
      refine e_iand dL_law_32 ?_
      by_cases c_1 : ((Int32.ofNat (Γ.2.2.2 (100 + i))) &&& 63) = 0
      · refine e_tableIn (off := 179) 212 dL_law_33 (by rw [c_1]; decide) (by rw [c_1]; decide) (by rw [c_1]; decide) rfl ?_
        exact s_law0 hN31 hi R n1622
      by_cases c_2 : ((Int32.ofNat (Γ.2.2.2 (100 + i))) &&& 63) = 1
      · refine e_tableIn (off := 222) 255 dL_law_33 (by rw [c_2]; decide) (by rw [c_2]; decide) (by rw [c_2]; decide) rfl ?_
        exact s_law1 hN31 hi R n1622
      by_cases c_3 : ((Int32.ofNat (Γ.2.2.2 (100 + i))) &&& 63) = 2
      · refine e_tableIn (off := 295) 328 dL_law_33 (by rw [c_3]; decide) (by rw [c_3]; decide) (by rw [c_3]; decide) rfl ?_
        exact s_law2 hN31 hi R n1622
      by_cases c_4 : ((Int32.ofNat (Γ.2.2.2 (100 + i))) &&& 63) = 3
      · refine e_tableIn (off := 358) 391 dL_law_33 (by rw [c_4]; decide) (by rw [c_4]; decide) (by rw [c_4]; decide) rfl ?_
        exact s_law3 hN31 hi R n1622
      by_cases c_5 : ((Int32.ofNat (Γ.2.2.2 (100 + i))) &&& 63) = 4
      · refine e_tableIn (off := 392) 425 dL_law_33 (by rw [c_5]; decide) (by rw [c_5]; decide) (by rw [c_5]; decide) rfl ?_
        exact s_law4 hN31 hi R n1622
      by_cases c_6 : ((Int32.ofNat (Γ.2.2.2 (100 + i))) &&& 63) = 5
      · refine e_tableIn (off := 425) 458 dL_law_33 (by rw [c_6]; decide) (by rw [c_6]; decide) (by rw [c_6]; decide) rfl ?_
        exact s_law5 hN31 hi R n1622
      by_cases c_7 : ((Int32.ofNat (Γ.2.2.2 (100 + i))) &&& 63) = 6
      · refine e_tableIn (off := 448) 481 dL_law_33 (by rw [c_7]; decide) (by rw [c_7]; decide) (by rw [c_7]; decide) rfl ?_
        exact s_law6 hN31 hi R n1622
      by_cases c_8 : ((Int32.ofNat (Γ.2.2.2 (100 + i))) &&& 63) = 7
      · refine e_tableIn (off := 481) 514 dL_law_33 (by rw [c_8]; decide) (by rw [c_8]; decide) (by rw [c_8]; decide) rfl ?_
        exact s_law7 hN31 hi R n1622
      by_cases c_9 : ((Int32.ofNat (Γ.2.2.2 (100 + i))) &&& 63) = 8
      · refine e_tableIn (off := 556) 589 dL_law_33 (by rw [c_9]; decide) (by rw [c_9]; decide) (by rw [c_9]; decide) rfl ?_
        exact s_law8 hN31 hi R n1622
      by_cases c_10 : ((Int32.ofNat (Γ.2.2.2 (100 + i))) &&& 63) = 9
      · refine e_tableIn (off := 643) 676 dL_law_33 (by rw [c_10]; decide) (by rw [c_10]; decide) (by rw [c_10]; decide) rfl ?_
        exact s_law9 hN31 hi R n1622
      by_cases c_11 : ((Int32.ofNat (Γ.2.2.2 (100 + i))) &&& 63) = 10
      · refine e_tableIn (off := 686) 719 dL_law_33 (by rw [c_11]; decide) (by rw [c_11]; decide) (by rw [c_11]; decide) rfl ?_
        exact s_law10 hN31 hi R n1622
      by_cases c_12 : ((Int32.ofNat (Γ.2.2.2 (100 + i))) &&& 63) = 11
      · refine e_tableIn (off := 729) 762 dL_law_33 (by rw [c_12]; decide) (by rw [c_12]; decide) (by rw [c_12]; decide) rfl ?_
        exact s_law11 hN31 hi R n1622
      by_cases c_13 : ((Int32.ofNat (Γ.2.2.2 (100 + i))) &&& 63) = 12
      · refine e_tableIn (off := 762) 795 dL_law_33 (by rw [c_13]; decide) (by rw [c_13]; decide) (by rw [c_13]; decide) rfl ?_
        exact s_law12 hN31 hi R n1622
      by_cases c_14 : ((Int32.ofNat (Γ.2.2.2 (100 + i))) &&& 63) = 13
      · refine e_tableIn (off := 795) 828 dL_law_33 (by rw [c_14]; decide) (by rw [c_14]; decide) (by rw [c_14]; decide) rfl ?_
        exact s_law13 hN31 hi R n1622
      by_cases c_15 : ((Int32.ofNat (Γ.2.2.2 (100 + i))) &&& 63) = 14
      · refine e_tableIn (off := 828) 861 dL_law_33 (by rw [c_15]; decide) (by rw [c_15]; decide) (by rw [c_15]; decide) rfl ?_
        exact s_law14 hN31 hi R n1622
      by_cases c_16 : ((Int32.ofNat (Γ.2.2.2 (100 + i))) &&& 63) = 15
      · refine e_tableIn (off := 851) 884 dL_law_33 (by rw [c_16]; decide) (by rw [c_16]; decide) (by rw [c_16]; decide) rfl ?_
        exact s_law15 hN31 hi R n1622
      by_cases c_17 : ((Int32.ofNat (Γ.2.2.2 (100 + i))) &&& 63) = 16
      · refine e_tableIn (off := 864) 897 dL_law_33 (by rw [c_17]; decide) (by rw [c_17]; decide) (by rw [c_17]; decide) rfl ?_
        exact s_law16 hN31 hi R n1622
      by_cases c_18 : ((Int32.ofNat (Γ.2.2.2 (100 + i))) &&& 63) = 17
      · refine e_tableIn (off := 907) 940 dL_law_33 (by rw [c_18]; decide) (by rw [c_18]; decide) (by rw [c_18]; decide) rfl ?_
        exact s_law17 hN31 hi R n1622
      by_cases c_19 : ((Int32.ofNat (Γ.2.2.2 (100 + i))) &&& 63) = 18
      · refine e_tableIn (off := 940) 973 dL_law_33 (by rw [c_19]; decide) (by rw [c_19]; decide) (by rw [c_19]; decide) rfl ?_
        exact s_law18 hN31 hi R n1622
      by_cases c_20 : ((Int32.ofNat (Γ.2.2.2 (100 + i))) &&& 63) = 19
      · refine e_tableIn (off := 973) 1006 dL_law_33 (by rw [c_20]; decide) (by rw [c_20]; decide) (by rw [c_20]; decide) rfl ?_
        exact s_law19 hN31 hi R n1622
      by_cases c_21 : ((Int32.ofNat (Γ.2.2.2 (100 + i))) &&& 63) = 20
      · refine e_tableIn (off := 1006) 1039 dL_law_33 (by rw [c_21]; decide) (by rw [c_21]; decide) (by rw [c_21]; decide) rfl ?_
        exact s_law20 hN31 hi R n1622
      by_cases c_22 : ((Int32.ofNat (Γ.2.2.2 (100 + i))) &&& 63) = 21
      · refine e_tableIn (off := 1029) 1062 dL_law_33 (by rw [c_22]; decide) (by rw [c_22]; decide) (by rw [c_22]; decide) rfl ?_
        exact s_law21 hN31 hi R n1622
      by_cases c_23 : ((Int32.ofNat (Γ.2.2.2 (100 + i))) &&& 63) = 22
      · refine e_tableIn (off := 1052) 1085 dL_law_33 (by rw [c_23]; decide) (by rw [c_23]; decide) (by rw [c_23]; decide) rfl ?_
        exact s_law22 hN31 hi R n1622
      by_cases c_24 : ((Int32.ofNat (Γ.2.2.2 (100 + i))) &&& 63) = 23
      · refine e_tableIn (off := 1065) 1098 dL_law_33 (by rw [c_24]; decide) (by rw [c_24]; decide) (by rw [c_24]; decide) rfl ?_
        exact s_law23 hN31 hi R n1622
      by_cases c_25 : ((Int32.ofNat (Γ.2.2.2 (100 + i))) &&& 63) = 24
      · refine e_tableIn (off := 1098) 1131 dL_law_33 (by rw [c_25]; decide) (by rw [c_25]; decide) (by rw [c_25]; decide) rfl ?_
        exact s_law24 hN31 hi R n1622
      by_cases c_26 : ((Int32.ofNat (Γ.2.2.2 (100 + i))) &&& 63) = 25
      · refine e_tableIn (off := 1131) 1164 dL_law_33 (by rw [c_26]; decide) (by rw [c_26]; decide) (by rw [c_26]; decide) rfl ?_
        exact s_law25 hN31 hi R n1622
      by_cases c_27 : ((Int32.ofNat (Γ.2.2.2 (100 + i))) &&& 63) = 26
      · refine e_tableIn (off := 1154) 1187 dL_law_33 (by rw [c_27]; decide) (by rw [c_27]; decide) (by rw [c_27]; decide) rfl ?_
        exact s_law26 hN31 hi R n1622
      by_cases c_28 : ((Int32.ofNat (Γ.2.2.2 (100 + i))) &&& 63) = 27
      · refine e_tableIn (off := 1187) 1220 dL_law_33 (by rw [c_28]; decide) (by rw [c_28]; decide) (by rw [c_28]; decide) rfl ?_
        exact s_law27 hN31 hi R n1622
      by_cases c_29 : ((Int32.ofNat (Γ.2.2.2 (100 + i))) &&& 63) = 28
      · refine e_tableIn (off := 1230) 1263 dL_law_33 (by rw [c_29]; decide) (by rw [c_29]; decide) (by rw [c_29]; decide) rfl ?_
        exact s_law28 hN31 hi R n1622
      by_cases c_30 : ((Int32.ofNat (Γ.2.2.2 (100 + i))) &&& 63) = 29
      · refine e_tableIn (off := 1253) 1286 dL_law_33 (by rw [c_30]; decide) (by rw [c_30]; decide) (by rw [c_30]; decide) rfl ?_
        exact s_law29 hN31 hi R n1622
      by_cases c_31 : ((Int32.ofNat (Γ.2.2.2 (100 + i))) &&& 63) = 30
      · refine e_tableIn (off := 1286) 1319 dL_law_33 (by rw [c_31]; decide) (by rw [c_31]; decide) (by rw [c_31]; decide) rfl ?_
        exact s_law30 hN31 hi R n1622
      by_cases c_32 : ((Int32.ofNat (Γ.2.2.2 (100 + i))) &&& 63) = 31
      · refine e_tableIn (off := 1329) 1362 dL_law_33 (by rw [c_32]; decide) (by rw [c_32]; decide) (by rw [c_32]; decide) rfl ?_
        exact s_law31 hN31 hi R n1622
      by_cases c_33 : ((Int32.ofNat (Γ.2.2.2 (100 + i))) &&& 63) = 32
      · refine e_tableIn (off := 1362) 1395 dL_law_33 (by rw [c_33]; decide) (by rw [c_33]; decide) (by rw [c_33]; decide) rfl ?_
        exact s_law32 hN31 hi R n1622
      by_cases c_34 : ((Int32.ofNat (Γ.2.2.2 (100 + i))) &&& 63) = 33
      · refine e_tableIn (off := 1405) 1438 dL_law_33 (by rw [c_34]; decide) (by rw [c_34]; decide) (by rw [c_34]; decide) rfl ?_
        exact s_law33 hN31 hi R n1622
      by_cases c_35 : ((Int32.ofNat (Γ.2.2.2 (100 + i))) &&& 63) = 34
      · refine e_tableIn (off := 1428) 1461 dL_law_33 (by rw [c_35]; decide) (by rw [c_35]; decide) (by rw [c_35]; decide) rfl ?_
        exact s_law34 hN31 hi R n1622
      by_cases c_36 : ((Int32.ofNat (Γ.2.2.2 (100 + i))) &&& 63) = 35
      · refine e_tableIn (off := 1451) 1484 dL_law_33 (by rw [c_36]; decide) (by rw [c_36]; decide) (by rw [c_36]; decide) rfl ?_
        exact s_law35 hN31 hi R n1622
      by_cases c_37 : ((Int32.ofNat (Γ.2.2.2 (100 + i))) &&& 63) = 36
      · refine e_tableIn (off := 1474) 1507 dL_law_33 (by rw [c_37]; decide) (by rw [c_37]; decide) (by rw [c_37]; decide) rfl ?_
        exact s_law36 hN31 hi R n1622
      by_cases c_38 : ((Int32.ofNat (Γ.2.2.2 (100 + i))) &&& 63) = 37
      · refine e_tableIn (off := 1517) 1550 dL_law_33 (by rw [c_38]; decide) (by rw [c_38]; decide) (by rw [c_38]; decide) rfl ?_
        exact s_law37 hN31 hi R n1622
      by_cases c_39 : ((Int32.ofNat (Γ.2.2.2 (100 + i))) &&& 63) = 38
      · refine e_tableIn (off := 1540) 1573 dL_law_33 (by rw [c_39]; decide) (by rw [c_39]; decide) (by rw [c_39]; decide) rfl ?_
        exact s_law38 hN31 hi R n1622
      by_cases c_40 : ((Int32.ofNat (Γ.2.2.2 (100 + i))) &&& 63) = 39
      · refine e_tableIn (off := 1553) 1586 dL_law_33 (by rw [c_40]; decide) (by rw [c_40]; decide) (by rw [c_40]; decide) rfl ?_
        exact s_law39 hN31 hi R n1622
      by_cases c_41 : ((Int32.ofNat (Γ.2.2.2 (100 + i))) &&& 63) = 40
      · refine e_tableIn (off := 1566) 1599 dL_law_33 (by rw [c_41]; decide) (by rw [c_41]; decide) (by rw [c_41]; decide) rfl ?_
        exact s_law40 hN31 hi R n1622
      have tc_1 := lv_neT c_1 (show (0 : Int32).toInt = 0 by decide)
      have tc_2 := lv_neT c_2 (show (1 : Int32).toInt = 1 by decide)
      have tc_3 := lv_neT c_3 (show (2 : Int32).toInt = 2 by decide)
      have tc_4 := lv_neT c_4 (show (3 : Int32).toInt = 3 by decide)
      have tc_5 := lv_neT c_5 (show (4 : Int32).toInt = 4 by decide)
      have tc_6 := lv_neT c_6 (show (5 : Int32).toInt = 5 by decide)
      have tc_7 := lv_neT c_7 (show (6 : Int32).toInt = 6 by decide)
      have tc_8 := lv_neT c_8 (show (7 : Int32).toInt = 7 by decide)
      have tc_9 := lv_neT c_9 (show (8 : Int32).toInt = 8 by decide)
      have tc_10 := lv_neT c_10 (show (9 : Int32).toInt = 9 by decide)
      have tc_11 := lv_neT c_11 (show (10 : Int32).toInt = 10 by decide)
      have tc_12 := lv_neT c_12 (show (11 : Int32).toInt = 11 by decide)
      have tc_13 := lv_neT c_13 (show (12 : Int32).toInt = 12 by decide)
      have tc_14 := lv_neT c_14 (show (13 : Int32).toInt = 13 by decide)
      have tc_15 := lv_neT c_15 (show (14 : Int32).toInt = 14 by decide)
      have tc_16 := lv_neT c_16 (show (15 : Int32).toInt = 15 by decide)
      have tc_17 := lv_neT c_17 (show (16 : Int32).toInt = 16 by decide)
      have tc_18 := lv_neT c_18 (show (17 : Int32).toInt = 17 by decide)
      have tc_19 := lv_neT c_19 (show (18 : Int32).toInt = 18 by decide)
      have tc_20 := lv_neT c_20 (show (19 : Int32).toInt = 19 by decide)
      have tc_21 := lv_neT c_21 (show (20 : Int32).toInt = 20 by decide)
      have tc_22 := lv_neT c_22 (show (21 : Int32).toInt = 21 by decide)
      have tc_23 := lv_neT c_23 (show (22 : Int32).toInt = 22 by decide)
      have tc_24 := lv_neT c_24 (show (23 : Int32).toInt = 23 by decide)
      have tc_25 := lv_neT c_25 (show (24 : Int32).toInt = 24 by decide)
      have tc_26 := lv_neT c_26 (show (25 : Int32).toInt = 25 by decide)
      have tc_27 := lv_neT c_27 (show (26 : Int32).toInt = 26 by decide)
      have tc_28 := lv_neT c_28 (show (27 : Int32).toInt = 27 by decide)
      have tc_29 := lv_neT c_29 (show (28 : Int32).toInt = 28 by decide)
      have tc_30 := lv_neT c_30 (show (29 : Int32).toInt = 29 by decide)
      have tc_31 := lv_neT c_31 (show (30 : Int32).toInt = 30 by decide)
      have tc_32 := lv_neT c_32 (show (31 : Int32).toInt = 31 by decide)
      have tc_33 := lv_neT c_33 (show (32 : Int32).toInt = 32 by decide)
      have tc_34 := lv_neT c_34 (show (33 : Int32).toInt = 33 by decide)
      have tc_35 := lv_neT c_35 (show (34 : Int32).toInt = 34 by decide)
      have tc_36 := lv_neT c_36 (show (35 : Int32).toInt = 35 by decide)
      have tc_37 := lv_neT c_37 (show (36 : Int32).toInt = 36 by decide)
      have tc_38 := lv_neT c_38 (show (37 : Int32).toInt = 37 by decide)
      have tc_39 := lv_neT c_39 (show (38 : Int32).toInt = 38 by decide)
      have tc_40 := lv_neT c_40 (show (39 : Int32).toInt = 39 by decide)
      have tc_41 := lv_neT c_41 (show (40 : Int32).toInt = 40 by decide)
      refine e_tableOut 1622 dL_law_33 (by omega) rfl ?_
      exact n1622 m ⟨na, nd, R⟩
def fx_m0 : fx_M := (fun _ _ => 0, fun _ _ => 0, fun _ _ => none)
theorem fx_m0_z : fx_Z 0 fx_m0 := fun _ _ => ⟨fun _ => rfl, fun _ => rfl, fun _ => rfl⟩
set_option maxRecDepth 100000 in
set_option maxHeartbeats 1000000 in
theorem s_lawstart {Γ : fx_G} {nm : String} (hN : Γ.2.2.2 98 ≤ 4096) : fx_E Γ (mL_law nm) 20 0 119 (fun r _ => r = some (.int 1)) 0 fx_m0 0 [some (.ref (Γ.2.2.2 99)), none, none, none] [] := by
  refine e_new (o := 0) (ci := 8) dL_law_0 wk_L_7 wn_DrawerOfArms wz_DrawerOfArms fx_cl8 (by decide) rfl (by decide) (by decide) (fx_z_dv fx_m0_z fx_dv8) ?_
  refine e_dup dL_law_3 rfl ?_
  refine e_callI (μ' := mX8_init) (As := []) dL_law_4 wl_L_9 ok_X8_init (by decide) (Nat.le_of_ble_eq_true rfl) ⟨by decide, by decide⟩ (s_X8_init (m := fx_m0) fx_m0_z) rfl (fun r_ m_ hpost => ?_)
  revert r_ m_
  intro r_ m1 hpost
  obtain ⟨rfl, N1⟩ := hpost
  have hZ1 : fx_Z 83 m1 := N1.z (fx_m0_z.mono (by decide)) (by decide)
  refine e_astore_n dL_law_7 (by show _ < 4; decide) rfl ?_
  refine e_new (o := 83) (ci := 9) dL_law_8 wk_L_10 wn_DrawerOfArmsModel wz_DrawerOfArmsModel fx_cl9 (by decide) rfl (by decide) (by decide) (fx_z_dv hZ1 fx_dv9) ?_
  refine e_dup dL_law_11 rfl ?_
  refine e_callI (μ' := mX9_init) (As := []) dL_law_12 wl_L_12 ok_X9_init (by decide) (Nat.le_of_ble_eq_true rfl) ⟨by decide, by decide⟩ (s_X9_init (m := m1) hZ1) rfl (fun r_ m_ hpost => ?_)
  revert r_ m_
  intro r_ m2 hpost
  obtain ⟨rfl, N2⟩ := hpost
  refine e_astore_n dL_law_15 (by show _ < 4; decide) rfl ?_
  refine e_iconst dL_law_16 kci_0 ?_
  refine e_istore_n dL_law_17 (by show _ < 4; decide) rfl ?_
  exact s_lawloop hN (Γ.2.2.2 98) 0 m2 (by omega) (by omega) ⟨0, 0, fr_start N1 N2⟩
