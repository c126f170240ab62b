/-! texts: length and letters -/
section FT
variable {Γ : fx_G} {μ μ' : fx_MD} {d d' n0 n1 n n' : Nat} {post post' : Option Value → fx_M → Prop} {m : fx_M} {pc : Nat} {lv : List (Option Value)} {st : List Value}
theorem e_i2c {x : Int32} (hd : decode μ.2.1 pc = .ok (.i2c, 1)) (kk : fx_E Γ μ d n0 n1 post n m (pc + 1) lv (.int ((x.toUInt32 % 65536).toInt32) :: st)) : fx_E Γ μ d n0 n1 post n m (pc) lv (.int x :: st) := by
  intro p l e R s mid args below meth c H locs Q ls hX hH hz hS hl hn hK
  exact lv_i2c hX.1 hX.2.1 hd rfl (kk p l e R s mid args below meth c H locs Q ls hX hH hz hS hl hn hK)
theorem e_getCS {idx : Nat} (hd : decode μ.2.1 pc = .ok (.getstatic idx, 3)) (hlink : Cond.fieldLink μ.1.cls idx "java/lang/String" "COMPACT_STRINGS" "Z" ∈ fx_gw) (kk : fx_E Γ μ d n0 n1 post n m (pc + 3) lv (.int 1 :: st)) : fx_E Γ μ d n0 n1 post n m (pc) lv (st) := by
  intro p l e R s mid args below meth c H locs Q ls hX hH hz hS hl hn hK
  exact va_gets hX.1 hX.2.1 hX.2.2.2.2.2.1.2.2.2.2.1.1 hS hX.2.2.2.1 (hX.2.2.2.2.1 _ hlink) (fun _ h => h) hd (kk p l e R s mid args below meth c H locs Q ls hX hH hz hS hl hn hK)
theorem e_getSio {idx : Nat} (hd : decode μ.2.1 pc = .ok (.getstatic idx, 3)) (hlink : Cond.fieldLink μ.1.cls idx "jdk/internal/util/Preconditions" "SIOOBE_FORMATTER" "Ljava/util/function/BiFunction;" ∈ fx_gw) (k0 : fx_E Γ μ d n0 n1 post n m (pc + 3) lv (.null :: st)) (k1 : ∀ t : Nat, fx_E Γ μ d n0 n1 post n m (pc + 3) lv (.ref t :: st)) : fx_E Γ μ d n0 n1 post n m (pc) lv (st) := by
  intro p l e R s mid args below meth c H locs Q ls hX hH hz hS hl hn hK
  rcases hX.2.2.2.2.2.1.2.2.2.2.1.2 with h | ⟨t, h⟩
  · exact va_gets hX.1 hX.2.1 h hS hX.2.2.2.1 (hX.2.2.2.2.1 _ hlink) (fun _ h => h) hd (k0 p l e R s mid args below meth c H locs Q ls hX hH hz hS hl hn hK)
  · exact va_gets hX.1 hX.2.1 h hS hX.2.2.2.1 (hX.2.2.2.2.1 _ hlink) (fun _ h => h) hd (k1 t p l e R s mid args below meth c H locs Q ls hX hH hz hS hl hn hK)
theorem fx_tx6 {j : Nat} {q : Nat × String × List Int32} (hq : fx_txt[j]? = some q) : j < 6 := (List.getElem?_eq_some_iff.mp hq).1
theorem fx_txl {j : Nat} {q : Nat × String × List Int32} (hq : fx_txt[j]? = some q) : (fx_txt.map (fun q => q.2.2.length)).getD j 0 = q.2.2.length := by simp [List.getD, hq]
theorem fx_txb {j : Nat} {q : Nat × String × List Int32} (hq : fx_txt[j]? = some q) : (fx_txt.map (fun q => q.2.2)).getD j [] = q.2.2 := by simp [List.getD, hq]
theorem e_strC {idx j : Nat} {q : Nat × String × List Int32} (hd : decode μ.2.1 pc = .ok (.getfield idx, 3)) (hq : fx_txt[j]? = some q) (hlink : Cond.fieldLink μ.1.cls idx "java/lang/String" "coder" "B" ∈ fx_gw) (kk : fx_E Γ μ d n0 n1 post n m (pc + 3) lv (.int 0 :: st)) : fx_E Γ μ d n0 n1 post n m (pc) lv (.ref (Γ.2.2.2 (10 + j)) :: st) := by
  intro p l e R s mid args below meth c H locs Q ls hX hH hz hS hl hn hK
  exact vk_getf hX.1 hX.2.1 (hX.2.2.2.2.2.1.2.2.2.1.1 j (fx_tx6 hq)).2.1 hS hX.2.2.2.1 (hX.2.2.2.2.1 _ hlink) (fun _ h => h) hd (kk p l e R s mid args below meth c H locs Q ls hX hH hz hS hl hn hK)
theorem e_strV {idx j : Nat} {q : Nat × String × List Int32} (hd : decode μ.2.1 pc = .ok (.getfield idx, 3)) (hq : fx_txt[j]? = some q) (hlink : Cond.fieldLink μ.1.cls idx "java/lang/String" "value" "[B" ∈ fx_gw) (kk : fx_E Γ μ d n0 n1 post n m (pc + 3) lv (.ref (Γ.2.2.2 (20 + j)) :: st)) : fx_E Γ μ d n0 n1 post n m (pc) lv (.ref (Γ.2.2.2 (10 + j)) :: st) := by
  intro p l e R s mid args below meth c H locs Q ls hX hH hz hS hl hn hK
  exact vk_getf hX.1 hX.2.1 (hX.2.2.2.2.2.1.2.2.2.1.1 j (fx_tx6 hq)).2.2.1 hS hX.2.2.2.1 (hX.2.2.2.2.1 _ hlink) (fun _ h => h) hd (kk p l e R s mid args below meth c H locs Q ls hX hH hz hS hl hn hK)
theorem e_blen {j : Nat} {q : Nat × String × List Int32} (hd : decode μ.2.1 pc = .ok (.arraylength, 1)) (hq : fx_txt[j]? = some q) (kk : fx_E Γ μ d n0 n1 post n m (pc + 1) lv (.int (nI q.2.2.length) :: st)) : fx_E Γ μ d n0 n1 post n m (pc) lv (.ref (Γ.2.2.2 (20 + j)) :: st) := by
  intro p l e R s mid args below meth c H locs Q ls hX hH hz hS hl hn hK
  exact va_tlen hX.1 hX.2.1 (hX.2.2.2.2.2.1.2.2.2.1.1 j (fx_tx6 hq)).2.2.2 hS (by rw [fx_txl hq]; rfl) hd (kk p l e R s mid args below meth c H locs Q ls hX hH hz hS hl hn hK)
theorem e_bald {j i : Nat} {q : Nat × String × List Int32} (hd : decode μ.2.1 pc = .ok (.baload, 1)) (hq : fx_txt[j]? = some q) (hi : i < q.2.2.length) (hN : q.2.2.length < 2 ^ 31) (kk : fx_E Γ μ d n0 n1 post n m (pc + 1) lv (.int (q.2.2.getD i 0) :: st)) : fx_E Γ μ d n0 n1 post n m (pc) lv (.int (nI i) :: .ref (Γ.2.2.2 (20 + j)) :: st) := by
  intro p l e R s mid args below meth c H locs Q ls hX hH hz hS hl hn hK
  exact va_tb hX.1 hX.2.1 (hX.2.2.2.2.2.1.2.2.2.1.1 j (fx_tx6 hq)).2.2.2 hS (by rw [fx_txl hq]; exact vp_in_nI hi hN) (v := .int (q.2.2.getD i 0)) (by rw [fx_txb hq]; simp only [nI_clamp (show i < 2 ^ 31 by omega)]) hd (kk p l e R s mid args below meth c H locs Q ls hX hH hz hS hl hn hK)
theorem e_callVT {idx j : Nat} {As stk : List Value} {q : Nat × String × List Int32} (hd : decode μ.2.1 pc = .ok (.invokevirtual idx, 3)) (hlk : Cond.methodLink μ.1.cls idx μ'.1 ∈ fx_gw) (hok : fx_OKV μ' As.length) (hq : fx_txt[j]? = some q) (hcls : μ'.1.cls = "java/lang/String") (hdd : d' + 1 ≤ d) (hst : (st.map (fun v => v.category)).sum ≤ 8) (hn1 : n ≤ n' ∧ n' ≤ n1)
    (S : fx_Ct Γ μ' d' n n' (.ref (Γ.2.2.2 (10 + j)) :: As) m post') (hk : stk = As.reverse ++ .ref (Γ.2.2.2 (10 + j)) :: st) (kk : ∀ (r : Option Value) (m' : fx_M), post' r m' → fx_E Γ μ d n0 n1 post n' m' (pc + 3) lv (r.toList ++ st)) : fx_E Γ μ d n0 n1 post n m (pc) lv (stk) := by
  intro p l e R s mid args below meth c H locs Q ls hX hH hz hS hl hn hK
  subst hk
  have hts := hX.2.2.2.2.1
  have hSt := hX.2.2.2.2.2.1
  obtain ⟨-, -, -, -, -, -, -, hfr, hlo, hce, hsl, hb, hn01⟩ := id hX
  have m1 := fx_sl_mono hn.1
  have m2 := fx_sl_mono hn1.1
  have m3 := fx_sl_mono hn1.2
  have hG : GoodIn fx_gw (wsV μ.1.cls idx μ'.1.cls μ'.1 (fx_ws μ')) := fx_good (fun w hw => by
    rcases List.mem_append.mp hw with h | h
    · simp only [List.mem_cons, List.not_mem_nil, or_false] at h
      rcases h with rfl | rfl | rfl | rfl
      · exact hlk
      · exact hok.2.1
      · exact hok.2.2
      · exact hok.1.2.1
    · exact fx_ws_in hok.1.1 w h)
  exact fx_after hX hS hl hn hn1 hK (va_runV (As := As) (rest := st) ⟨hX.1, hX.2.1, hX.2.2.1, hX.2.2.2.1, hts⟩ (S l)
    (cwV As.length hts hG rfl rfl rfl ⟨rfl, hok.1.2.2.1.1, hok.1.2.2.1.2⟩ ⟨Nat.le_trans (show d' + 1 ≤ d from hdd) hfr, by show 8 + (μ'.2.2.1 + 11) + 64 * d' ≤ _; have := hok.1.2.2.2; omega⟩)
    ⟨fx_Pc.blind Γ n _ m, by rw [hcls]; have q0 := vk_recv hSt.2.2.2.1 (fx_tx6 hq) hS; exact q0, fx_PcU hSt hH hz hS hb⟩ rfl rfl hl.1 rfl (by show 2 * 0 + _ ≤ 8; omega) hd ⟨by omega, by omega⟩) kk
end FT
theorem s_J0_coder {Γ : fx_G} {m : fx_M} {j : Nat} {q : Nat × String × List Int32} (hq : fx_txt[j]? = some q) : fx_Ct Γ mJ0_coder_7d493 0 119 119 [.ref (Γ.2.2.2 (10 + j))] m (fx_is (some (.int 0)) m) := by
  refine fx_Ct.of (j := 0) (by decide) (Nat.le_of_ble_eq_true rfl) (Nat.le_of_ble_eq_true rfl) ?_
  show fx_E Γ mJ0_coder_7d493 0 119 119 _ 119 m 0 [some (.ref (Γ.2.2.2 (10 + j)))] []
  refine e_getCS dJ0_coder_7d493_0 wf_J0_38 ?_
  refine e_if_eq 13 dJ0_coder_7d493_3 rfl (fun h => absurd h (by decide)) (fun _ => ?_)
  refine e_aload_n dJ0_coder_7d493_6 rfl ?_
  refine e_strC dJ0_coder_7d493_7 hq wf_J0_15 ?_
  refine e_goto 14 dJ0_coder_7d493_10 rfl ?_
  exact e_iret dJ0_coder_7d493_14 rfl rfl rfl ⟨rfl, rfl⟩
theorem s_J0_isLatin1 {Γ : fx_G} {m : fx_M} {j : Nat} {q : Nat × String × List Int32} (hq : fx_txt[j]? = some q) : fx_Ct Γ mJ0_isLatin1_aae02 0 119 119 [.ref (Γ.2.2.2 (10 + j))] m (fx_is (some (.int 1)) m) := by
  refine fx_Ct.of (j := 0) (by decide) (Nat.le_of_ble_eq_true rfl) (Nat.le_of_ble_eq_true rfl) ?_
  show fx_E Γ mJ0_isLatin1_aae02 0 119 119 _ 119 m 0 [some (.ref (Γ.2.2.2 (10 + j)))] []
  refine e_getCS dJ0_isLatin1_aae02_0 wf_J0_38 ?_
  refine e_if_eq 17 dJ0_isLatin1_aae02_3 rfl (fun h => absurd h (by decide)) (fun _ => ?_)
  refine e_aload_n dJ0_isLatin1_aae02_6 rfl ?_
  refine e_strC dJ0_isLatin1_aae02_7 hq wf_J0_15 ?_
  refine e_if_ne 17 dJ0_isLatin1_aae02_10 rfl (fun h => absurd rfl h) (fun _ => ?_)
  refine e_iconst dJ0_isLatin1_aae02_13 kci_1 ?_
  refine e_goto 18 dJ0_isLatin1_aae02_14 rfl ?_
  exact e_iret dJ0_isLatin1_aae02_18 rfl rfl rfl ⟨rfl, rfl⟩
/-- what holds of the six texts -/
theorem fx_txts : ∀ {j : Nat} {q : Nat × String × List Int32}, fx_txt[j]? = some q → q.2.2.length ≤ 4 ∧ nI q.2.2.length >>> ((0 : Int32) &&& 31) = nI q.2.2.length ∧ ∀ i, i < q.2.2.length → ((q.2.2.getD i 0 &&& 255).toUInt32 % 65536).toInt32 = q.2.2.getD i 0 ∧ narrow .char (.int (q.2.2.getD i 0)) = .int (q.2.2.getD i 0)
  | 0, _, h => by cases h; exact ⟨by decide, by decide, by decide⟩
  | 1, _, h => by cases h; exact ⟨by decide, by decide, by decide⟩
  | 2, _, h => by cases h; exact ⟨by decide, by decide, by decide⟩
  | 3, _, h => by cases h; exact ⟨by decide, by decide, by decide⟩
  | 4, _, h => by cases h; exact ⟨by decide, by decide, by decide⟩
  | 5, _, h => by cases h; exact ⟨by decide, by decide, by decide⟩
  | k + 6, _, h => absurd (fx_tx6 h) (by omega)
theorem s_J0_length {Γ : fx_G} {m : fx_M} {j : Nat} {q : Nat × String × List Int32} (hq : fx_txt[j]? = some q) : fx_Ct Γ mJ0_length_8abf5 1 119 119 [.ref (Γ.2.2.2 (10 + j))] m (fx_is (some (.int (nI q.2.2.length))) m) := by
  refine fx_Ct.of (j := 0) (by decide) (Nat.le_of_ble_eq_true rfl) (Nat.le_of_ble_eq_true rfl) ?_
  show fx_E Γ mJ0_length_8abf5 1 119 119 _ 119 m 0 [some (.ref (Γ.2.2.2 (10 + j)))] []
  refine e_aload_n dJ0_length_8abf5_0 rfl ?_
  refine e_strV dJ0_length_8abf5_1 hq wf_J0_9 ?_
  refine e_blen dJ0_length_8abf5_4 hq ?_
  refine e_aload_n dJ0_length_8abf5_5 rfl ?_
  refine e_callVT (μ' := mJ0_coder_7d493) (As := []) dJ0_length_8abf5_6 wl_J0_335 ok_J0_coder_7d493 hq rfl (by decide) (Nat.le_of_ble_eq_true rfl) fx_n1 (s_J0_coder hq) rfl (fun r_ m_ hpost => ?_)
  obtain ⟨rfl, rfl⟩ := hpost
  refine e_ishr dJ0_length_8abf5_9 ?_
  rw [(fx_txts hq).2.1]
  exact e_iret dJ0_length_8abf5_10 rfl rfl rfl ⟨rfl, rfl⟩
theorem s_J3_check0 {Γ : fx_G} {m : fx_M} {i n : Nat} (hi : i < n) (hn : n < 2 ^ 31) : fx_Ct Γ mJ3_checkIndex_8e157 0 119 119 [.int (nI i), .int (nI n), .null] m (fx_is (some (.int (nI i))) m) := by
  refine fx_Ct.of (j := 0) (by decide) (Nat.le_of_ble_eq_true rfl) (Nat.le_of_ble_eq_true rfl) ?_
  show fx_E Γ mJ3_checkIndex_8e157 0 119 119 _ 119 m 0 [some (.int (nI i)), some (.int (nI n)), some .null] []
  refine e_iload_n dJ3_checkIndex_8e157_0 rfl ?_
  refine e_if_lt 9 dJ3_checkIndex_8e157_1 rfl (fun h => absurd h (nI_pos (by omega))) (fun _ => ?_)
  refine e_iload_n dJ3_checkIndex_8e157_4 rfl ?_
  refine e_iload_n dJ3_checkIndex_8e157_5 rfl ?_
  refine e_icmp_lt 16 dJ3_checkIndex_8e157_6 rfl (fun _ => ?_) (fun h => absurd (nI_lt hi hn) h)
  refine e_iload_n dJ3_checkIndex_8e157_16 rfl ?_
  exact e_iret dJ3_checkIndex_8e157_17 rfl rfl rfl ⟨rfl, rfl⟩
theorem s_J3_check1 {Γ : fx_G} {m : fx_M} {i n t : Nat} (hi : i < n) (hn : n < 2 ^ 31) : fx_Ct Γ mJ3_checkIndex_8e157 0 119 119 [.int (nI i), .int (nI n), .ref t] m (fx_is (some (.int (nI i))) m) := by
  refine fx_Ct.of (j := 0) (by decide) (Nat.le_of_ble_eq_true rfl) (Nat.le_of_ble_eq_true rfl) ?_
  show fx_E Γ mJ3_checkIndex_8e157 0 119 119 _ 119 m 0 [some (.int (nI i)), some (.int (nI n)), some (.ref t)] []
  refine e_iload_n dJ3_checkIndex_8e157_0 rfl ?_
  refine e_if_lt 9 dJ3_checkIndex_8e157_1 rfl (fun h => absurd h (nI_pos (by omega))) (fun _ => ?_)
  refine e_iload_n dJ3_checkIndex_8e157_4 rfl ?_
  refine e_iload_n dJ3_checkIndex_8e157_5 rfl ?_
  refine e_icmp_lt 16 dJ3_checkIndex_8e157_6 rfl (fun _ => ?_) (fun h => absurd (nI_lt hi hn) h)
  refine e_iload_n dJ3_checkIndex_8e157_16 rfl ?_
  exact e_iret dJ3_checkIndex_8e157_17 rfl rfl rfl ⟨rfl, rfl⟩
theorem s_J0_check {Γ : fx_G} {m : fx_M} {i n : Nat} (hi : i < n) (hn : n < 2 ^ 31) : fx_Ct Γ mJ0_checkIndex_df160 1 119 119 [.int (nI i), .int (nI n)] m (fx_is none m) := by
  refine fx_Ct.of (j := 0) (by decide) (Nat.le_of_ble_eq_true rfl) (Nat.le_of_ble_eq_true rfl) ?_
  show fx_E Γ mJ0_checkIndex_df160 1 119 119 _ 119 m 0 [some (.int (nI i)), some (.int (nI n))] []
  refine e_iload_n dJ0_checkIndex_df160_0 rfl ?_
  refine e_iload_n dJ0_checkIndex_df160_1 rfl ?_
  refine e_getSio dJ0_checkIndex_df160_2 wf_J0_1053 ?_ (fun t => ?_)
  · refine e_callS1 (μ' := mJ3_checkIndex_8e157) (As := [.int (nI i), .int (nI n), .null]) dJ0_checkIndex_df160_5 wl_J0_1059 ok_J3_checkIndex_8e157 (by decide) (Nat.le_of_ble_eq_true rfl) fx_n1 (s_J3_check0 hi hn) rfl ?_
    refine e_pop dJ0_checkIndex_df160_8 rfl ?_
    exact e_vret dJ0_checkIndex_df160_9 rfl rfl ⟨rfl, rfl⟩
  · refine e_callS1 (μ' := mJ3_checkIndex_8e157) (As := [.int (nI i), .int (nI n), .ref t]) dJ0_checkIndex_df160_5 wl_J0_1059 ok_J3_checkIndex_8e157 (by decide) (Nat.le_of_ble_eq_true rfl) fx_n1 (s_J3_check1 hi hn) rfl ?_
    refine e_pop dJ0_checkIndex_df160_8 rfl ?_
    exact e_vret dJ0_checkIndex_df160_9 rfl rfl ⟨rfl, rfl⟩
theorem s_J1_charAt {Γ : fx_G} {m : fx_M} {j i : Nat} {q : Nat × String × List Int32} (hq : fx_txt[j]? = some q) (hi : i < q.2.2.length) : fx_Ct Γ mJ1_charAt_3b067 2 119 119 [.ref (Γ.2.2.2 (20 + j)), .int (nI i)] m (fx_is (some (.int (q.2.2.getD i 0))) m) := by
  have h4 := (fx_txts hq).1
  refine fx_Ct.of (j := 0) (by decide) (Nat.le_of_ble_eq_true rfl) (Nat.le_of_ble_eq_true rfl) ?_
  show fx_E Γ mJ1_charAt_3b067 2 119 119 _ 119 m 0 [some (.ref (Γ.2.2.2 (20 + j))), some (.int (nI i))] []
  refine e_iload_n dJ1_charAt_3b067_0 rfl ?_
  refine e_aload_n dJ1_charAt_3b067_1 rfl ?_
  refine e_blen dJ1_charAt_3b067_2 hq ?_
  refine e_callS1 (μ' := mJ0_checkIndex_df160) (As := [.int (nI i), .int (nI q.2.2.length)]) dJ1_charAt_3b067_3 wl_J1_9 ok_J0_checkIndex_df160 (by decide) (Nat.le_of_ble_eq_true rfl) fx_n1 (s_J0_check hi (by omega)) rfl ?_
  refine e_aload_n dJ1_charAt_3b067_6 rfl ?_
  refine e_iload_n dJ1_charAt_3b067_7 rfl ?_
  refine e_bald dJ1_charAt_3b067_8 hq hi (by omega) ?_
  refine e_sipush dJ1_charAt_3b067_9 (v := 255) (by decide) ?_
  refine e_iand dJ1_charAt_3b067_12 ?_
  refine e_i2c dJ1_charAt_3b067_13 ?_
  rw [((fx_txts hq).2.2 i hi).1]
  exact e_iret dJ1_charAt_3b067_14 rfl rfl ((fx_txts hq).2.2 i hi).2 ⟨rfl, rfl⟩
theorem s_J0_charAt {Γ : fx_G} {m : fx_M} {j i : Nat} {q : Nat × String × List Int32} (hq : fx_txt[j]? = some q) (hi : i < q.2.2.length) : fx_Ct Γ mJ0_charAt_5068e 3 119 119 [.ref (Γ.2.2.2 (10 + j)), .int (nI i)] m (fx_is (some (.int (q.2.2.getD i 0))) m) := by
  refine fx_Ct.of (j := 0) (by decide) (Nat.le_of_ble_eq_true rfl) (Nat.le_of_ble_eq_true rfl) ?_
  show fx_E Γ mJ0_charAt_5068e 3 119 119 _ 119 m 0 [some (.ref (Γ.2.2.2 (10 + j))), some (.int (nI i))] []
  refine e_aload_n dJ0_charAt_5068e_0 rfl ?_
  refine e_callVT (μ' := mJ0_isLatin1_aae02) (As := []) dJ0_charAt_5068e_1 wl_J0_492 ok_J0_isLatin1_aae02 hq rfl (by decide) (Nat.le_of_ble_eq_true rfl) fx_n1 (s_J0_isLatin1 hq) rfl (fun r_ m_ hpost => ?_)
  obtain ⟨rfl, rfl⟩ := hpost
  refine e_if_eq 16 dJ0_charAt_5068e_4 rfl (fun h => absurd h (by decide)) (fun _ => ?_)
  refine e_aload_n dJ0_charAt_5068e_7 rfl ?_
  refine e_strV dJ0_charAt_5068e_8 hq wf_J0_9 ?_
  refine e_iload_n dJ0_charAt_5068e_11 rfl ?_
  refine e_callS1 (μ' := mJ1_charAt_3b067) (As := [.ref (Γ.2.2.2 (20 + j)), .int (nI i)]) dJ0_charAt_5068e_12 wl_J0_495 ok_J1_charAt_3b067 (by decide) (Nat.le_of_ble_eq_true rfl) fx_n1 (s_J1_charAt hq hi) rfl ?_
  exact e_iret dJ0_charAt_5068e_15 rfl rfl ((fx_txts hq).2.2 i hi).2 ⟨rfl, rfl⟩
