/-! THE START: what the Statement gives of the machine is what the flat logic asks -/
abbrev lq_F : List Cond := flatC (Jvm.Cond.and given_1 narrow_1)
theorem lq_statof {s : State} {a : Array Value} {C n : String} {xs : List Int32} {A : Nat → Prop} (hN : xs.length < 2 ^ 31) (hl : (Cond.laysStatic C n "[I").before a s = true) (hini : (Cond.initialized C).before a s = true) (harr : (Cond.arrayOf (.static C n "[I") .int).before a s = true) (hlen : (Cond.eq (.length (.static C n "[I")) (.int (Int32.ofNat xs.length))).before a s = true) (hel : ∀ j, j < xs.length → (Cond.eq (.elem (.static C n "[I") (.int (Int32.ofNat j))) (.int (xs.getD j 0))).before a s = true) (hA : ∀ q : Nat, q < s.heap.size → ¬ A q) : ∃ t : Nat, va_Z C n "[I" (.ref t) A s s.heap ∧ va_T .int t xs.length (fun i => .int (xs.getD i 0)) A s s.heap := by
  obtain ⟨t, ht, hT⟩ := va_Tof (f := fun j => .int (xs.getD j 0)) (A := A) hN harr (va_eqt hlen) (fun j hj => va_eqt (hel j hj)) hA
  exact ⟨t, va_Zof hl hini ht hA, hT⟩
set_option maxRecDepth 100000 in
theorem lq_stat : ∀ q ∈ fx_stat, Cond.arrayOf (.static q.1 q.2.1 "[I") .int ∈ lq_F ∧ Cond.eq (.length (.static q.1 q.2.1 "[I")) (.int (Int32.ofNat q.2.2.length)) ∈ lq_F ∧ (∀ j, j < q.2.2.length → Cond.eq (.elem (.static q.1 q.2.1 "[I") (.int (Int32.ofNat j))) (.int (q.2.2.getD j 0)) ∈ lq_F) ∧ q.2.2.length < 2 ^ 31 := by decide +kernel
set_option maxRecDepth 100000 in
theorem lq_lays : ∀ q ∈ fx_stat, Cond.laysStatic q.1 q.2.1 "[I" ∈ tables_1 ∧ Cond.initialized q.1 ∈ tables_1 := by decide +kernel
abbrev lq_tm (i : Nat) : Term := .string RX4 (fx_txt.getD i (0, "", [])).1
abbrev lq_len : List Nat := fx_txt.map (fun q => q.2.2.length)
abbrev lq_byt : List (List Int32) := fx_txt.map (fun q => q.2.2)
set_option maxRecDepth 100000 in
theorem lq_txt : ∀ i, i < 6 → Cond.exactly (lq_tm i) "java/lang/String" ∈ lq_F ∧ Cond.eq (.field (lq_tm i) "java/lang/String" "coder" "B") (.int 0) ∈ lq_F ∧ Cond.arrayOf (.field (lq_tm i) "java/lang/String" "value" "[B") .byte ∈ lq_F ∧ Cond.eq (.length (.field (lq_tm i) "java/lang/String" "value" "[B")) (.int (Int32.ofNat (lq_len.getD i 0))) ∈ lq_F ∧ (∀ j, j < lq_len.getD i 0 → Cond.eq (.elem (.field (lq_tm i) "java/lang/String" "value" "[B") (.int (Int32.ofNat j))) (.int ((lq_byt.getD i []).getD j 0)) ∈ lq_F) ∧ lq_len.getD i 0 < 2 ^ 31 := by decide +kernel
set_option maxRecDepth 100000 in
theorem lq_ne : ∀ i, i < 6 → ∀ j, j < 6 → i ≠ j → Cond.not (Cond.eq (lq_tm i) (lq_tm j)) ∈ lq_F ∨ Cond.not (Cond.eq (lq_tm j) (lq_tm i)) ∈ lq_F := by decide +kernel
set_option maxRecDepth 100000 in
theorem lq_sref : ∀ i, i < 6 → Cond.stringRef RX4 (fx_txt.getD i (0, "", [])).1 (fx_txt.getD i (0, "", [])).2.1 ∈ tables_1 := by decide +kernel
set_option maxRecDepth 100000 in
theorem lq_nest : ∀ q ∈ fx_nest, Cond.methodLinkNest q.1 q.2.1 q.2.2 "DrawerOfArms" ∈ tables_1 := by decide +kernel
set_option maxRecDepth 100000 in
theorem lq_misc : (Cond.laysStatic "java/lang/String" "COMPACT_STRINGS" "Z" ∈ tables_1 ∧ Cond.initialized "java/lang/String" ∈ tables_1) ∧ (Cond.laysStatic "jdk/internal/util/Preconditions" "SIOOBE_FORMATTER" "Ljava/util/function/BiFunction;" ∈ tables_1 ∧ Cond.initialized "jdk/internal/util/Preconditions" ∈ tables_1) ∧ Cond.eq (.static "java/lang/String" "COMPACT_STRINGS" "Z") (.int 1) ∈ lq_F ∧ Cond.isRef (.static "jdk/internal/util/Preconditions" "SIOOBE_FORMATTER" "Ljava/util/function/BiFunction;") ∈ lq_F := by decide +kernel
theorem lq_int (x : Int32) : Int32.ofNat x.toUInt32.toNat = x := by
  apply Int32.toBitVec.inj
  simp
theorem lq_arr {s : State} {a : Array Value} {ty : FieldType} (h : (Cond.arrayClass ty).before a s = true) (hty : ∀ C, ty ≠ .object C) : ∃ x : ClassId, ArrOfT s x ty ∧ va_RA s x ty := by
  obtain ⟨c, k, comp, h1, h2, h3⟩ := Cond.arrayClass_spec h
  refine ⟨c, fun N z => ⟨(fun k h => by cases h), k, h2, comp, h3⟩, ?_⟩
  cases ty with
  | object C => exact absurd rfl (hty C)
  | _ => exact h1
theorem lq_arrO {s : State} {a : Array Value} {C : String} (h : (Cond.arrayOver (.object C)).before a s = true) : ∃ x : ClassId, ArrOfT s x (.object C) ∧ va_RA s x (.object C) := by
  obtain ⟨comp, c, k, h1, h2, h3, h4, h5⟩ := Cond.arrayOver_spec h
  exact ⟨c, fun N z => ⟨(fun k h => by cases h), k, h3, comp, h4⟩, k, comp, h3, h4, h1, h5⟩
theorem lq_cls {s : State} {a : Array Value} (hg : ∀ w ∈ fx_gw, w.before a s = true) (c : Nat) : ∃ x : ClassId × (Nat → Nat), ∀ q : vw_C, vwCl[c]? = some q → u_Kn s q.1 q.2.1 q.2.2 x.1 x.2 := by
  have K : ∀ {C : String} {T : u_T} {N ci : Nat} {ty0 : Nat → FieldType}, fx_Cl C T N ci ty0 → Cond.instantiable C N ∈ fx_gw → ∃ x : ClassId × (Nat → Nat), ∀ q : vw_C, vwCl[ci]? = some q → u_Kn s q.1 q.2.1 q.2.2 x.1 x.2 := by
    intro C T N ci ty0 h1 h2
    obtain ⟨x, y, h⟩ := u_known (C := C) (T := T) (N := N) (n := N) hg h1.2.1 (hg _ h2)
    refine ⟨(x, y), fun q hq => ?_⟩
    cases (h1.1.symm.trans hq)
    exact h
  match c with
  | 0 => exact K fx_cl0 wn_DrawerOfArmsArm
  | 1 => exact K fx_cl1 wn_DrawerOfArmsDoll
  | 2 => exact K fx_cl2 wn_DrawerOfArmsMoves
  | 3 => exact K fx_cl3 wn_DrawerOfArmsParting
  | 4 => exact K fx_cl4 wn_DrawerOfArmsReader
  | 5 => exact K fx_cl5 wn_DrawerOfArmsShelf
  | 6 => exact K fx_cl6 wn_DrawerOfArmsStock
  | 7 => exact K fx_cl7 wn_DrawerOfArmsWaiting
  | 8 => exact K fx_cl8 wn_DrawerOfArms
  | 9 => exact K fx_cl9 wn_DrawerOfArmsModel
  | c + 10 => exact ⟨(0, fun _ => 0), fun q hq => absurd hq (by rw [List.getElem?_eq_none (show vwCl.length ≤ c + 10 by show 10 ≤ c + 10; omega)]; intro h; cases h)⟩
theorem lq_start {s : State} {b L : Nat} {xs : Nat → Int32} (hts : ∀ w ∈ lw_tbl, w.before #[Value.ref b] s = true) (hX : va_X b L xs s s.heap) (hbl : b < s.heap.size) (hgv : (Jvm.Cond.and given_1 narrow_1).before #[Value.ref b] s = true) : ∃ Γ : fx_G, Γ.1 = s.heap.size ∧ Γ.2.2.2 98 = L ∧ Γ.2.2.2 99 = b ∧ fx_S Γ s := by
  have hs : ∀ w ∈ lq_F, w.before #[Value.ref b] s = true := flat_of_before _ hgv
  have hg : ∀ w ∈ fx_gw, w.before #[Value.ref b] s = true := fun w hw => hts w (List.mem_filter.mp hw).1
  have ht1 : ∀ w ∈ tables_1, w.before #[Value.ref b] s = true := fun w hw => hts w (List.mem_append_right _ hw)
  have hA : ∀ q : Nat, q < s.heap.size → ¬ (fun q : Nat => s.heap.size ≤ q) q := fun q h => Nat.not_le.mpr h
  obtain ⟨G1, hG1⟩ := Classical.axiomOfChoice (lq_cls hg)
  obtain ⟨x0, hx0⟩ := lq_arr (hg _ wa_int) (fun C h => by cases h)
  obtain ⟨x1, hx1⟩ := lq_arr (hg _ wa_long) (fun C h => by cases h)
  obtain ⟨x2, hx2⟩ := lq_arrO (hts _ wa_objectDrawerOfArmsArmo)
  obtain ⟨x3, hx3⟩ := lq_arrO (hts _ wa_objectDrawerOfArmsDollo)
  obtain ⟨x4, hx4⟩ := lq_arrO (hts _ wa_objectDrawerOfArmsShelfo)
  have hst : ∀ j : Nat, ∃ t : Nat, ∀ q : String × String × List Int32, fx_stat[j]? = some q → va_Z q.1 q.2.1 "[I" (.ref t) (fun q : Nat => s.heap.size ≤ q) s s.heap ∧ va_T .int t q.2.2.length (fun i => .int (q.2.2.getD i 0)) (fun q : Nat => s.heap.size ≤ q) s s.heap := by
    intro j
    cases h : fx_stat[j]? with
    | none => exact ⟨0, fun q hq => by cases hq⟩
    | some q0 =>
      have hm := List.mem_of_getElem? h
      obtain ⟨h1, h2, h3, h6⟩ := lq_stat q0 hm
      obtain ⟨h4, h5⟩ := lq_lays q0 hm
      obtain ⟨t, z⟩ := lq_statof h6 (ht1 _ h4) (ht1 _ h5) (hs _ h1) (hs _ h2) (fun j hj => hs _ (h3 j hj)) hA
      exact ⟨t, fun q hq => by cases hq; exact z⟩
  obtain ⟨adS, hadS⟩ := Classical.axiomOfChoice hst
  obtain ⟨adK, adV, hV, hE⟩ := vk_Sof (args := #[Value.ref b]) (s := s) (N := 6) (tm := lq_tm) (len := lq_len) (byt := lq_byt) (A := fun q : Nat => s.heap.size ≤ q) (fun i hi => (lq_txt i hi).2.2.2.2.2) (fun i hi => hs _ (lq_txt i hi).1) (fun i hi => hs _ (lq_txt i hi).2.1) (fun i hi => hs _ (lq_txt i hi).2.2.1) (fun i hi => hs _ (lq_txt i hi).2.2.2.1) (fun i hi j hj => hs _ ((lq_txt i hi).2.2.2.2.1 j hj)) (fun i j hi hj hij => (lq_ne i hi j hj hij).imp (hs _) (hs _)) hA
  obtain ⟨⟨n1, n2⟩, ⟨n3, n4⟩, n5, n6⟩ := lq_misc
  obtain ⟨ad, ead⟩ : ∃ ad : Nat → Nat, ad = fun k => if k < 6 then adS k else if k < 20 then adK (k - 10) else if k < 98 then adV (k - 20) else if k = 98 then L else if k = 99 then b else (xs (k - 100)).toUInt32.toNat := ⟨_, rfl⟩
  have e0 : ∀ j, j < 6 → ad j = adS j := fun j hj => by rw [ead]; exact if_pos hj
  have e10 : ∀ j, j < 6 → ad (10 + j) = adK j := fun j hj => by
    rw [ead]
    dsimp only
    rw [if_neg (by omega), if_pos (by omega), show 10 + j - 10 = j by omega]
  have e20 : ∀ j, j < 6 → ad (20 + j) = adV j := fun j hj => by
    rw [ead]
    dsimp only
    rw [if_neg (by omega), if_neg (by omega), if_pos (by omega), show 20 + j - 20 = j by omega]
  have e98 : ad 98 = L := by rw [ead]; rfl
  have e99 : ad 99 = b := by rw [ead]; rfl
  have e100 : ∀ i, Int32.ofNat (ad (100 + i)) = xs i := fun i => by
    rw [ead]
    dsimp only
    rw [if_neg (by omega), if_neg (by omega), if_neg (by omega), if_neg (by omega), if_neg (by omega), show 100 + i - 100 = i by omega]
    exact lq_int _
  clear ead
  refine ⟨(s.heap.size, (fun c => (G1 c).1, fun c => (G1 c).2), fun k => if k = 0 then x0 else if k = 1 then x1 else if k = 2 then x2 else if k = 3 then x3 else x4, ad), rfl, e98, e99, ⟨fun c q hq => hG1 c q hq, ?_⟩, ?_, ?_, ?_, ⟨?_, ?_, ?_⟩, ?_, ?_⟩
  · intro k q hk
    match k, hk with
    | 0, hk => cases hk; exact hx0
    | 1, hk => cases hk; exact hx1
    | 2, hk => cases hk; exact hx2
    | 3, hk => cases hk; exact hx3
    | 4, hk => cases hk; exact hx4
    | k + 5, hk => cases hk
  · intro j q hq
    have hj : j < 6 := (List.getElem?_eq_some_iff.mp hq).1
    have h := hadS j q hq
    rw [← e0 j hj] at h
    exact h
  · intro j q hq
    have hj : j < 6 := (List.getElem?_eq_some_iff.mp hq).1
    have hq' : fx_txt.getD j (0, "", []) = q := by rw [List.getD_eq_getElem?_getD, hq]; rfl
    have h1 := ht1 _ (lq_sref j hj)
    have h2 := hE j hj
    rw [← e10 j hj] at h2
    rw [lq_tm, hq'] at h2
    rw [hq'] at h1
    exact vk_R.of h1 h2
  · refine ⟨fun i hi => ?_, fun i j hi hj h => ?_⟩
    · have h := hV.1 i hi
      rw [← e10 i hi, ← e20 i hi] at h
      exact h
    · dsimp only at h
      rw [e10 i hi, e10 j hj] at h
      exact hV.2 i j hi hj h
  · exact va_Zof (ht1 _ n1) (ht1 _ n2) (va_eqt (hs _ n5)) hA
  · exact va_Zqof (ht1 _ n3) (ht1 _ n4) (hs _ n6) hA
  · obtain ⟨scr, h1, h2, h3, h4, h5⟩ := hX
    show va_T .int (ad 99) (ad 98) (fun i => .int (Int32.ofNat (ad (100 + i)))) _ s s.heap
    rw [e98, e99]
    refine ⟨scr, h1, h2, h3, Nat.le_of_eq h4.symm, ?_, fun j hj => ?_, hA b hbl⟩
    · rw [h4]
    · dsimp only
      rw [e100]
      exact h5 j hj
  · intro C hC
    rcases List.mem_cons.mp hC with rfl | hC
    · exact va_AO.of (hts _ wa_objectDrawerOfArmsArmo)
    · rcases List.mem_cons.mp hC with rfl | hC
      · exact va_AO.of (hts _ wa_objectDrawerOfArmsDollo)
      · rcases List.mem_cons.mp hC with rfl | hC
        · exact va_AO.of (hts _ wa_objectDrawerOfArmsShelfo)
        · exact absurd hC List.not_mem_nil
  · exact fun q hq => va_Nw.of rfl (ht1 _ (lq_nest q hq))
