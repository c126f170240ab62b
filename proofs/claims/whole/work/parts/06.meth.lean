section FM
variable {Γ : fx_G} {μ μ' : fx_MD} {d d' n0 n1 n n' : Nat} {post : Option Value → fx_M → Prop} {m m2 : fx_M} {pc : Nat} {lv : List (Option Value)} {st : List Value}
/-- a known answer -/
def fx_is (r : Option Value) (m : fx_M) : Option Value → fx_M → Prop := fun r' m' => r' = r ∧ m' = m
theorem fx_inc (k : Nat) : nI k + Int32.ofInt 1 = nI (k + 1) := nI_1 k
def fx_tab (j i : Nat) : Int32 := ((fx_stat.getD j ("", "", [])).2.2).getD i 0
theorem e_getv {idx ci k o N : Nat} {ty : FieldType} {fin : Bool} {v : Int32} (hd : decode μ.2.1 pc = .ok (.getfield idx, 3)) (hf : fx_F μ.1.cls idx ci k ty fin) (hs : fx_shapes[o]? = some (10 + ci, N)) (ho : fx_pi o < n) (hk : k < N) (hr : fx_ref ci k = false) (hv : m.1 o k = v) (kk : fx_E Γ μ d n0 n1 post n m (pc + 3) lv (.int v :: st)) : fx_E Γ μ d n0 n1 post n m (pc) lv (fx_rf Γ o :: st) :=
  e_get hd hf hs ho hk hr (by rw [hv]; exact kk)
theorem e_ialdv {o j N : Nat} {x v : Int32} (hd : decode μ.2.1 pc = .ok (.iaload, 1)) (hs : fx_shapes[o]? = some (0, N)) (ho : fx_pi o < n) (hx : x = nI j) (hj : j < N) (hN : N < 2 ^ 31) (hv : m.1 o j = v) (kk : fx_E Γ μ d n0 n1 post n m (pc + 1) lv (.int v :: st)) : fx_E Γ μ d n0 n1 post n m (pc) lv (.int x :: fx_rf Γ o :: st) :=
  e_iald hd hs ho hx hj hN (by rw [hv]; exact kk)
theorem e_callV1 {idx : Nat} {As stk : List Value} {r : Option Value} {o ci N N2 : Nat} {T : u_T} (hd : decode μ.2.1 pc = .ok (.invokevirtual idx, 3)) (hlk : Cond.methodLink μ.1.cls idx μ'.1 ∈ fx_gw) (hok : fx_OKV μ' As.length) (hs : fx_shapes[o]? = some (10 + ci, N)) (hc : vwCl[ci]? = some (μ'.1.cls, T, N2)) (ho : fx_pi o < n) (hdd : d' + 1 ≤ d) (hst : (st.map (fun v => v.category)).sum ≤ 8) (hn1 : n ≤ n' ∧ n' ≤ n1)
    (S : fx_Ct Γ μ' d' n n' (fx_rf Γ o :: As) m (fx_is r m2)) (hk : stk = As.reverse ++ fx_rf Γ o :: st) (kk : fx_E Γ μ d n0 n1 post n' m2 (pc + 3) lv (r.toList ++ st)) : fx_E Γ μ d n0 n1 post n m (pc) lv (stk) :=
  e_callV hd hlk hok hs hc ho hdd hst hn1 S hk (fun r' m' h => by obtain ⟨rfl, rfl⟩ := h; exact kk)
theorem e_callS1 {idx : Nat} {As stk : List Value} {r : Option Value} (hd : decode μ.2.1 pc = .ok (.invokestatic idx, 3)) (hlk : Cond.methodLink μ.1.cls idx μ'.1 ∈ fx_gw) (hok : fx_OKS μ' As.length) (hdd : d' + 1 ≤ d) (hst : (st.map (fun v => v.category)).sum ≤ 8) (hn1 : n ≤ n' ∧ n' ≤ n1)
    (S : fx_Ct Γ μ' d' n n' As m (fx_is r m2)) (hk : stk = As.reverse ++ st) (kk : fx_E Γ μ d n0 n1 post n' m2 (pc + 3) lv (r.toList ++ st)) : fx_E Γ μ d n0 n1 post n m (pc) lv (stk) :=
  e_callS hd hlk hok hdd hst hn1 S hk (fun r' m' h => by obtain ⟨rfl, rfl⟩ := h; exact kk)
theorem e_callI1 {idx : Nat} {As stk : List Value} {r : Option Value} {o : Nat} (hd : decode μ.2.1 pc = .ok (.invokespecial idx, 3)) (hlk : Cond.methodLink μ.1.cls idx μ'.1 ∈ fx_gw) (hok : fx_OKI μ' As.length) (hdd : d' + 1 ≤ d) (hst : (st.map (fun v => v.category)).sum ≤ 8) (hn1 : n ≤ n' ∧ n' ≤ n1)
    (S : fx_Ct Γ μ' d' n n' (fx_rf Γ o :: As) m (fx_is r m2)) (hk : stk = As.reverse ++ fx_rf Γ o :: st) (kk : fx_E Γ μ d n0 n1 post n' m2 (pc + 3) lv (r.toList ++ st)) : fx_E Γ μ d n0 n1 post n m (pc) lv (stk) :=
  e_callI hd hlk hok hdd hst hn1 S hk (fun r' m' h => by obtain ⟨rfl, rfl⟩ := h; exact kk)
theorem e_callN1 {idx : Nat} {As stk : List Value} {r : Option Value} {o : Nat} (hd : decode μ.2.1 pc = .ok (.invokespecial idx, 3)) (hlk : (μ.1.cls, idx, μ'.1) ∈ fx_nest) (hok : fx_OKI μ' As.length) (hdd : d' + 1 ≤ d) (hst : (st.map (fun v => v.category)).sum ≤ 8) (hn1 : n ≤ n' ∧ n' ≤ n1)
    (S : fx_Ct Γ μ' d' n n' (fx_rf Γ o :: As) m (fx_is r m2)) (hk : stk = As.reverse ++ fx_rf Γ o :: st) (kk : fx_E Γ μ d n0 n1 post n' m2 (pc + 3) lv (r.toList ++ st)) : fx_E Γ μ d n0 n1 post n m (pc) lv (stk) :=
  e_callN hd hlk hok hdd hst hn1 S hk (fun r' m' h => by obtain ⟨rfl, rfl⟩ := h; exact kk)
theorem e_callSN1 {idx : Nat} {As stk : List Value} {r : Option Value} (hd : decode μ.2.1 pc = .ok (.invokestatic idx, 3)) (hlk : (μ.1.cls, idx, μ'.1) ∈ fx_nest) (hok : fx_OKS μ' As.length) (hdd : d' + 1 ≤ d) (hst : (st.map (fun v => v.category)).sum ≤ 8) (hn1 : n ≤ n' ∧ n' ≤ n1)
    (S : fx_Ct Γ μ' d' n n' As m (fx_is r m2)) (hk : stk = As.reverse ++ st) (kk : fx_E Γ μ d n0 n1 post n' m2 (pc + 3) lv (r.toList ++ st)) : fx_E Γ μ d n0 n1 post n m (pc) lv (stk) :=
  e_callSN hd hlk hok hdd hst hn1 S hk (fun r' m' h => by obtain ⟨rfl, rfl⟩ := h; exact kk)
theorem e_if_eqB {c : Prop} [Decidable c] {off : Int} (tgt : Nat) (hd : decode μ.2.1 pc = .ok (.ifCond .eq off, 3)) (ht : (pc : Int) + off = (tgt : Int)) (kt : ¬ c → fx_E Γ μ d n0 n1 post n m (tgt) lv (st)) (kf : c → fx_E Γ μ d n0 n1 post n m (pc + 3) lv (st)) : fx_E Γ μ d n0 n1 post n m (pc) lv (.int (if c then 1 else 0) :: st) :=
  e_if_eq tgt hd ht (fun h => kt (fun hc => by rw [if_pos hc] at h; exact absurd h (by decide))) (fun h => kf (Decidable.byContradiction fun hc => by rw [if_neg hc] at h; exact h rfl))
theorem e_if_neB {c : Prop} [Decidable c] {off : Int} (tgt : Nat) (hd : decode μ.2.1 pc = .ok (.ifCond .ne off, 3)) (ht : (pc : Int) + off = (tgt : Int)) (kt : c → fx_E Γ μ d n0 n1 post n m (tgt) lv (st)) (kf : ¬ c → fx_E Γ μ d n0 n1 post n m (pc + 3) lv (st)) : fx_E Γ μ d n0 n1 post n m (pc) lv (.int (if c then 1 else 0) :: st) :=
  e_if_ne tgt hd ht (fun h => kt (Decidable.byContradiction fun hc => by rw [if_neg hc] at h; exact h rfl)) (fun h => kf (fun hc => by rw [if_pos hc] at h; exact absurd h (by decide)))
def p_abs (x : Int32) : Int32 := if 0 ≤ x then x else 0 - x
def p_max (x y : Int32) : Int32 := if x < y then y else x
def p_min (x y : Int32) : Int32 := if y < x then y else x
theorem e_maxP {idx : Nat} {x y : Int32} (hd : decode μ.2.1 pc = .ok (.invokestatic idx, 3)) (hlk : Cond.methodLink μ.1.cls idx Lib.Math.max.name ∈ fx_gw) (h1 : Cond.static Lib.Math.max.name ∈ fx_gw) (h2 : Cond.initialized "java/lang/Math" ∈ fx_gw) (h3 : Cond.code Lib.Math.max.name Lib.Math.max.code 2 (some .int) ∈ fx_gw) (hdd : 1 ≤ d) (hst : (st.map (fun v => v.category)).sum ≤ 8) (kk : fx_E Γ μ d n0 n1 post n m (pc + 3) lv (.int (p_max x y) :: st)) : fx_E Γ μ d n0 n1 post n m (pc) lv (.int y :: .int x :: st) :=
  e_max hd hlk h1 h2 h3 hdd hst kk
theorem e_minP {idx : Nat} {x y : Int32} (hd : decode μ.2.1 pc = .ok (.invokestatic idx, 3)) (hlk : Cond.methodLink μ.1.cls idx Lib.Math.min.name ∈ fx_gw) (h1 : Cond.static Lib.Math.min.name ∈ fx_gw) (h2 : Cond.initialized "java/lang/Math" ∈ fx_gw) (h3 : Cond.code Lib.Math.min.name Lib.Math.min.code 2 (some .int) ∈ fx_gw) (hdd : 1 ≤ d) (hst : (st.map (fun v => v.category)).sum ≤ 8) (kk : fx_E Γ μ d n0 n1 post n m (pc + 3) lv (.int (p_min x y) :: st)) : fx_E Γ μ d n0 n1 post n m (pc) lv (.int y :: .int x :: st) :=
  e_min hd hlk h1 h2 h3 hdd hst kk
theorem e_absP {idx : Nat} {x : Int32} (hd : decode μ.2.1 pc = .ok (.invokestatic idx, 3)) (hlk : Cond.methodLink μ.1.cls idx Lib.Math.abs.name ∈ fx_gw) (h1 : Cond.static Lib.Math.abs.name ∈ fx_gw) (h2 : Cond.initialized "java/lang/Math" ∈ fx_gw) (h3 : Cond.code Lib.Math.abs.name Lib.Math.abs.code 1 (some .int) ∈ fx_gw) (hdd : 1 ≤ d) (hst : (st.map (fun v => v.category)).sum ≤ 8) (kk : fx_E Γ μ d n0 n1 post n m (pc + 3) lv (.int (p_abs x) :: st)) : fx_E Γ μ d n0 n1 post n m (pc) lv (.int x :: st) :=
  e_abs hd hlk h1 h2 h3 hdd hst kk
theorem fx_n1 : (119 : Nat) ≤ 119 ∧ (119 : Nat) ≤ 119 := ⟨Nat.le_refl _, Nat.le_refl _⟩
theorem e_ldcS {idx j : Nat} {q : Nat × String × List Int32} (hd : decode μ.2.1 pc = .ok (.ldc idx, 2)) (hq : fx_txt[j]? = some q) (hi : (μ.1.cls, idx) = (RX4, q.1)) (kk : fx_E Γ μ d n0 n1 post n m (pc + 2) lv (.ref (Γ.2.2.2 (10 + j)) :: st)) : fx_E Γ μ d n0 n1 post n m (pc) lv (st) := by
  intro p l e R s mid args below meth c H locs Q ls hX hH hz hS hl hn hK
  have h1 : μ.1.cls = RX4 := (Prod.mk.inj hi).1
  have h2 : idx = q.1 := (Prod.mk.inj hi).2
  subst h2
  exact va_ldcS (own := μ.1.cls) hX.1 hX.2.1 hX.2.2.2.1 (by rw [h1]; exact hX.2.2.2.2.2.1.2.2.1 j q hq) hd (kk p l e R s mid args below meth c H locs Q ls hX hH hz hS hl hn hK)
theorem fx_uws {C : String} {T : u_T} {N : Nat} (h : ∀ k, k < N → u_lay C T k ∈ fx_gw) : ∀ w ∈ u_ws C T N, w ∈ fx_gw := by
  intro w hw
  obtain ⟨k, hk, rfl⟩ := List.mem_map.mp hw
  exact h k (List.mem_range.mp hk)
end FM
theorem fx_cl0 : fx_Cl RX0 TX0 7 0 tyX0 := ⟨rfl, fx_uws (fun k hk => match k, hk with | 0, _ => fx_g1 (List.mem_of_getElem? (i := 54) rfl) rfl | 1, _ => fx_g1 (List.mem_of_getElem? (i := 56) rfl) rfl | 2, _ => fx_g1 (List.mem_of_getElem? (i := 58) rfl) rfl | 3, _ => fx_g1 (List.mem_of_getElem? (i := 60) rfl) rfl | 4, _ => fx_g1 (List.mem_of_getElem? (i := 62) rfl) rfl | 5, _ => fx_g1 (List.mem_of_getElem? (i := 64) rfl) rfl | 6, _ => fx_g1 (List.mem_of_getElem? (i := 66) rfl) rfl | k + 7, hk => absurd hk (by omega)), tyX0_ok, nmX0, by decide +kernel⟩
theorem fx_cl1 : fx_Cl RX1 TX1 8 1 tyX1 := ⟨rfl, fx_uws (fun k hk => match k, hk with | 0, _ => fx_g1 (List.mem_of_getElem? (i := 93) rfl) rfl | 1, _ => fx_g1 (List.mem_of_getElem? (i := 95) rfl) rfl | 2, _ => fx_g1 (List.mem_of_getElem? (i := 97) rfl) rfl | 3, _ => fx_g1 (List.mem_of_getElem? (i := 99) rfl) rfl | 4, _ => fx_g1 (List.mem_of_getElem? (i := 101) rfl) rfl | 5, _ => fx_g1 (List.mem_of_getElem? (i := 103) rfl) rfl | 6, _ => fx_g1 (List.mem_of_getElem? (i := 105) rfl) rfl | 7, _ => fx_g1 (List.mem_of_getElem? (i := 107) rfl) rfl | k + 8, hk => absurd hk (by omega)), tyX1_ok, nmX1, by decide +kernel⟩
theorem fx_cl2 : fx_Cl RX2 TX2 4 2 tyX2 := ⟨rfl, fx_uws (fun k hk => match k, hk with | 0, _ => fx_g2 (List.mem_of_getElem? (i := 33) rfl) rfl | 1, _ => fx_g2 (List.mem_of_getElem? (i := 35) rfl) rfl | 2, _ => fx_g2 (List.mem_of_getElem? (i := 37) rfl) rfl | 3, _ => fx_g2 (List.mem_of_getElem? (i := 39) rfl) rfl | k + 4, hk => absurd hk (by omega)), tyX2_ok, nmX2, by decide +kernel⟩
theorem fx_cl3 : fx_Cl RX3 TX3 12 3 tyX3 := ⟨rfl, fx_uws (fun k hk => match k, hk with | 0, _ => fx_g1 (List.mem_of_getElem? (i := 173) rfl) rfl | 1, _ => fx_g1 (List.mem_of_getElem? (i := 175) rfl) rfl | 2, _ => fx_g1 (List.mem_of_getElem? (i := 177) rfl) rfl | 3, _ => fx_g1 (List.mem_of_getElem? (i := 179) rfl) rfl | 4, _ => fx_g1 (List.mem_of_getElem? (i := 181) rfl) rfl | 5, _ => fx_g1 (List.mem_of_getElem? (i := 183) rfl) rfl | 6, _ => fx_g1 (List.mem_of_getElem? (i := 185) rfl) rfl | 7, _ => fx_g1 (List.mem_of_getElem? (i := 187) rfl) rfl | 8, _ => fx_g1 (List.mem_of_getElem? (i := 189) rfl) rfl | 9, _ => fx_g1 (List.mem_of_getElem? (i := 191) rfl) rfl | 10, _ => fx_g1 (List.mem_of_getElem? (i := 193) rfl) rfl | 11, _ => fx_g1 (List.mem_of_getElem? (i := 195) rfl) rfl | k + 12, hk => absurd hk (by omega)), tyX3_ok, nmX3, by decide +kernel⟩
theorem fx_cl4 : fx_Cl RX4 TX4 7 4 tyX4 := ⟨rfl, fx_uws (fun k hk => match k, hk with | 0, _ => fx_g2 (List.mem_of_getElem? (i := 7) rfl) rfl | 1, _ => fx_g2 (List.mem_of_getElem? (i := 9) rfl) rfl | 2, _ => fx_g2 (List.mem_of_getElem? (i := 11) rfl) rfl | 3, _ => fx_g2 (List.mem_of_getElem? (i := 13) rfl) rfl | 4, _ => fx_g2 (List.mem_of_getElem? (i := 15) rfl) rfl | 5, _ => fx_g2 (List.mem_of_getElem? (i := 17) rfl) rfl | 6, _ => fx_g2 (List.mem_of_getElem? (i := 19) rfl) rfl | k + 7, hk => absurd hk (by omega)), tyX4_ok, nmX4, by decide +kernel⟩
theorem fx_cl5 : fx_Cl RX5 TX5 4 5 tyX5 := ⟨rfl, fx_uws (fun k hk => match k, hk with | 0, _ => fx_g1 (List.mem_of_getElem? (i := 223) rfl) rfl | 1, _ => fx_g1 (List.mem_of_getElem? (i := 225) rfl) rfl | 2, _ => fx_g1 (List.mem_of_getElem? (i := 227) rfl) rfl | 3, _ => fx_g1 (List.mem_of_getElem? (i := 229) rfl) rfl | k + 4, hk => absurd hk (by omega)), tyX5_ok, nmX5, by decide +kernel⟩
theorem fx_cl6 : fx_Cl RX6 TX6 8 6 tyX6 := ⟨rfl, fx_uws (fun k hk => match k, hk with | 0, _ => fx_g1 (List.mem_of_getElem? (i := 134) rfl) rfl | 1, _ => fx_g1 (List.mem_of_getElem? (i := 136) rfl) rfl | 2, _ => fx_g1 (List.mem_of_getElem? (i := 138) rfl) rfl | 3, _ => fx_g1 (List.mem_of_getElem? (i := 140) rfl) rfl | 4, _ => fx_g1 (List.mem_of_getElem? (i := 142) rfl) rfl | 5, _ => fx_g1 (List.mem_of_getElem? (i := 144) rfl) rfl | 6, _ => fx_g1 (List.mem_of_getElem? (i := 146) rfl) rfl | 7, _ => fx_g1 (List.mem_of_getElem? (i := 148) rfl) rfl | k + 8, hk => absurd hk (by omega)), tyX6_ok, nmX6, by decide +kernel⟩
theorem fx_cl7 : fx_Cl RX7 TX7 1 7 tyX7 := ⟨rfl, fx_uws (fun k hk => match k, hk with | 0, _ => fx_g1 (List.mem_of_getElem? (i := 206) rfl) rfl | k + 1, hk => absurd hk (by omega)), tyX7_ok, nmX7, by decide +kernel⟩
theorem fx_cl8 : fx_Cl RX8 TX8 10 8 tyX8 := ⟨rfl, fx_uws (fun k hk => match k, hk with | 0, _ => fx_g2 (List.mem_of_getElem? (i := 52) rfl) rfl | 1, _ => fx_g2 (List.mem_of_getElem? (i := 54) rfl) rfl | 2, _ => fx_g2 (List.mem_of_getElem? (i := 56) rfl) rfl | 3, _ => fx_g2 (List.mem_of_getElem? (i := 58) rfl) rfl | 4, _ => fx_g2 (List.mem_of_getElem? (i := 60) rfl) rfl | 5, _ => fx_g2 (List.mem_of_getElem? (i := 62) rfl) rfl | 6, _ => fx_g2 (List.mem_of_getElem? (i := 64) rfl) rfl | 7, _ => fx_g2 (List.mem_of_getElem? (i := 66) rfl) rfl | 8, _ => fx_g2 (List.mem_of_getElem? (i := 68) rfl) rfl | 9, _ => fx_g2 (List.mem_of_getElem? (i := 70) rfl) rfl | k + 10, hk => absurd hk (by omega)), tyX8_ok, nmX8, by decide +kernel⟩
theorem fx_cl9 : fx_Cl RX9 TX9 51 9 tyX9 := ⟨rfl, fx_uws (fun k hk => match k, hk with | 0, _ => fx_g5 (List.mem_of_getElem? (i := 115) rfl) rfl | 1, _ => fx_g5 (List.mem_of_getElem? (i := 117) rfl) rfl | 2, _ => fx_g5 (List.mem_of_getElem? (i := 119) rfl) rfl | 3, _ => fx_g5 (List.mem_of_getElem? (i := 121) rfl) rfl | 4, _ => fx_g5 (List.mem_of_getElem? (i := 123) rfl) rfl | 5, _ => fx_g5 (List.mem_of_getElem? (i := 125) rfl) rfl | 6, _ => fx_g5 (List.mem_of_getElem? (i := 127) rfl) rfl | 7, _ => fx_g5 (List.mem_of_getElem? (i := 129) rfl) rfl | 8, _ => fx_g5 (List.mem_of_getElem? (i := 131) rfl) rfl | 9, _ => fx_g5 (List.mem_of_getElem? (i := 133) rfl) rfl | 10, _ => fx_g5 (List.mem_of_getElem? (i := 135) rfl) rfl | 11, _ => fx_g5 (List.mem_of_getElem? (i := 137) rfl) rfl | 12, _ => fx_g5 (List.mem_of_getElem? (i := 139) rfl) rfl | 13, _ => fx_g5 (List.mem_of_getElem? (i := 141) rfl) rfl | 14, _ => fx_g5 (List.mem_of_getElem? (i := 143) rfl) rfl | 15, _ => fx_g5 (List.mem_of_getElem? (i := 145) rfl) rfl | 16, _ => fx_g5 (List.mem_of_getElem? (i := 147) rfl) rfl | 17, _ => fx_g5 (List.mem_of_getElem? (i := 149) rfl) rfl | 18, _ => fx_g5 (List.mem_of_getElem? (i := 151) rfl) rfl | 19, _ => fx_g5 (List.mem_of_getElem? (i := 153) rfl) rfl | 20, _ => fx_g5 (List.mem_of_getElem? (i := 155) rfl) rfl | 21, _ => fx_g5 (List.mem_of_getElem? (i := 157) rfl) rfl | 22, _ => fx_g5 (List.mem_of_getElem? (i := 159) rfl) rfl | 23, _ => fx_g5 (List.mem_of_getElem? (i := 161) rfl) rfl | 24, _ => fx_g5 (List.mem_of_getElem? (i := 163) rfl) rfl | 25, _ => fx_g5 (List.mem_of_getElem? (i := 165) rfl) rfl | 26, _ => fx_g5 (List.mem_of_getElem? (i := 167) rfl) rfl | 27, _ => fx_g5 (List.mem_of_getElem? (i := 169) rfl) rfl | 28, _ => fx_g5 (List.mem_of_getElem? (i := 171) rfl) rfl | 29, _ => fx_g5 (List.mem_of_getElem? (i := 173) rfl) rfl | 30, _ => fx_g5 (List.mem_of_getElem? (i := 175) rfl) rfl | 31, _ => fx_g5 (List.mem_of_getElem? (i := 177) rfl) rfl | 32, _ => fx_g5 (List.mem_of_getElem? (i := 179) rfl) rfl | 33, _ => fx_g5 (List.mem_of_getElem? (i := 181) rfl) rfl | 34, _ => fx_g5 (List.mem_of_getElem? (i := 183) rfl) rfl | 35, _ => fx_g5 (List.mem_of_getElem? (i := 185) rfl) rfl | 36, _ => fx_g5 (List.mem_of_getElem? (i := 187) rfl) rfl | 37, _ => fx_g5 (List.mem_of_getElem? (i := 189) rfl) rfl | 38, _ => fx_g5 (List.mem_of_getElem? (i := 191) rfl) rfl | 39, _ => fx_g5 (List.mem_of_getElem? (i := 193) rfl) rfl | 40, _ => fx_g5 (List.mem_of_getElem? (i := 195) rfl) rfl | 41, _ => fx_g5 (List.mem_of_getElem? (i := 197) rfl) rfl | 42, _ => fx_g5 (List.mem_of_getElem? (i := 199) rfl) rfl | 43, _ => fx_g5 (List.mem_of_getElem? (i := 201) rfl) rfl | 44, _ => fx_g5 (List.mem_of_getElem? (i := 203) rfl) rfl | 45, _ => fx_g5 (List.mem_of_getElem? (i := 205) rfl) rfl | 46, _ => fx_g5 (List.mem_of_getElem? (i := 207) rfl) rfl | 47, _ => fx_g5 (List.mem_of_getElem? (i := 209) rfl) rfl | 48, _ => fx_g5 (List.mem_of_getElem? (i := 211) rfl) rfl | 49, _ => fx_g5 (List.mem_of_getElem? (i := 213) rfl) rfl | 50, _ => fx_g5 (List.mem_of_getElem? (i := 215) rfl) rfl | k + 51, hk => absurd hk (by omega)), tyX9_ok, nmX9, by decide +kernel⟩
abbrev mX8_init : fx_MD := (yX8_init, cX8_init, 2, none)
theorem ok_X8_init : fx_OKI mX8_init 0 := ⟨⟨wc_X8_init, wz_DrawerOfArms, ⟨by decide, by decide, by decide⟩, by decide⟩, wi_X8_init, rfl, rfl⟩
abbrev mX6_init : fx_MD := (yX6_init, cX6_init, 2, none)
theorem ok_X6_init : fx_OKI mX6_init 0 := ⟨⟨wc_X6_init, wz_DrawerOfArmsStock, ⟨by decide, by decide, by decide⟩, by decide⟩, wi_X6_init, rfl, rfl⟩
abbrev mX0_init : fx_MD := (yX0_init, cX0_init, 1, none)
theorem ok_X0_init : fx_OKI mX0_init 0 := ⟨⟨wc_X0_init, wz_DrawerOfArmsArm, ⟨by decide, by decide, by decide⟩, by decide⟩, wi_X0_init, rfl, rfl⟩
abbrev mX1_init : fx_MD := (yX1_init, cX1_init, 1, none)
theorem ok_X1_init : fx_OKI mX1_init 0 := ⟨⟨wc_X1_init, wz_DrawerOfArmsDoll, ⟨by decide, by decide, by decide⟩, by decide⟩, wi_X1_init, rfl, rfl⟩
abbrev mX3_init : fx_MD := (yX3_init, cX3_init, 1, none)
theorem ok_X3_init : fx_OKI mX3_init 0 := ⟨⟨wc_X3_init, wz_DrawerOfArmsParting, ⟨by decide, by decide, by decide⟩, by decide⟩, wi_X3_init, rfl, rfl⟩
abbrev mX7_init : fx_MD := (yX7_init, cX7_init, 1, none)
theorem ok_X7_init : fx_OKI mX7_init 0 := ⟨⟨wc_X7_init, wz_DrawerOfArmsWaiting, ⟨by decide, by decide, by decide⟩, by decide⟩, wi_X7_init, rfl, rfl⟩
abbrev mX5_init : fx_MD := (yX5_init, cX5_init, 1, none)
theorem ok_X5_init : fx_OKI mX5_init 0 := ⟨⟨wc_X5_init, wz_DrawerOfArmsShelf, ⟨by decide, by decide, by decide⟩, by decide⟩, wi_X5_init, rfl, rfl⟩
abbrev mX4_init : fx_MD := (yX4_init, cX4_init, 3, none)
theorem ok_X4_init : fx_OKI mX4_init 2 := ⟨⟨wc_X4_init, wz_DrawerOfArmsReader, ⟨by decide, by decide, by decide⟩, by decide⟩, wi_X4_init, rfl, rfl⟩
abbrev mX2_init : fx_MD := (yX2_init, cX2_init, 2, none)
theorem ok_X2_init : fx_OKI mX2_init 1 := ⟨⟨wc_X2_init, wz_DrawerOfArmsMoves, ⟨by decide, by decide, by decide⟩, by decide⟩, wi_X2_init, rfl, rfl⟩
abbrev mX8_row : fx_MD := (yX8_row, cX8_row, 4, (some .int))
theorem ok_X8_row : fx_OKV mX8_row 3 := ⟨⟨wc_X8_row, wz_DrawerOfArms, ⟨by decide, by decide, by decide⟩, by decide⟩, wi_X8_row, ws_X8_row⟩
abbrev mX8_isShelf : fx_MD := (yX8_isShelf, cX8_isShelf, 1, (some .boolean))
theorem ok_X8_isShelf : fx_OKS mX8_isShelf 1 := ⟨⟨wc_X8_isShelf, wz_DrawerOfArms, ⟨by decide, by decide, by decide⟩, by decide⟩, wt_X8_isShelf⟩
abbrev mX8_within : fx_MD := (yX8_within, cX8_within, 3, (some .boolean))
theorem ok_X8_within : fx_OKS mX8_within 3 := ⟨⟨wc_X8_within, wz_DrawerOfArms, ⟨by decide, by decide, by decide⟩, by decide⟩, wt_X8_within⟩
abbrev mX8_refuse : fx_MD := (yX8_refuse, cX8_refuse, 2, (some .int))
theorem ok_X8_refuse : fx_OKV mX8_refuse 1 := ⟨⟨wc_X8_refuse, wz_DrawerOfArms, ⟨by decide, by decide, by decide⟩, by decide⟩, wi_X8_refuse, ws_X8_refuse⟩
abbrev mX5_holdRow : fx_MD := (yX5_holdRow, cX5_holdRow, 4, none)
theorem ok_X5_holdRow : fx_OKV mX5_holdRow 2 := ⟨⟨wc_X5_holdRow, wz_DrawerOfArmsShelf, ⟨by decide, by decide, by decide⟩, by decide⟩, wi_X5_holdRow, ws_X5_holdRow⟩
abbrev mX5_holdNothing : fx_MD := (yX5_holdNothing, cX5_holdNothing, 1, none)
theorem ok_X5_holdNothing : fx_OKV mX5_holdNothing 0 := ⟨⟨wc_X5_holdNothing, wz_DrawerOfArmsShelf, ⟨by decide, by decide, by decide⟩, by decide⟩, wi_X5_holdNothing, ws_X5_holdNothing⟩
abbrev mX8_set : fx_MD := (yX8_set, cX8_set, 6, (some .int))
theorem ok_X8_set : fx_OKV mX8_set 3 := ⟨⟨wc_X8_set, wz_DrawerOfArms, ⟨by decide, by decide, by decide⟩, by decide⟩, wi_X8_set, ws_X8_set⟩
abbrev mX8_barToRow : fx_MD := (yX8_barToRow, cX8_barToRow, 2, (some .int))
theorem ok_X8_barToRow : fx_OKV mX8_barToRow 1 := ⟨⟨wc_X8_barToRow, wz_DrawerOfArms, ⟨by decide, by decide, by decide⟩, by decide⟩, wi_X8_barToRow, ws_X8_barToRow⟩
abbrev mX5_hasArm : fx_MD := (yX5_hasArm, cX5_hasArm, 1, (some .boolean))
theorem ok_X5_hasArm : fx_OKV mX5_hasArm 0 := ⟨⟨wc_X5_hasArm, wz_DrawerOfArmsShelf, ⟨by decide, by decide, by decide⟩, by decide⟩, wi_X5_hasArm, ws_X5_hasArm⟩
abbrev mX5_hasRow : fx_MD := (yX5_hasRow, cX5_hasRow, 1, (some .boolean))
theorem ok_X5_hasRow : fx_OKV mX5_hasRow 0 := ⟨⟨wc_X5_hasRow, wz_DrawerOfArmsShelf, ⟨by decide, by decide, by decide⟩, by decide⟩, wi_X5_hasRow, ws_X5_hasRow⟩
abbrev mX5_hasElement : fx_MD := (yX5_hasElement, cX5_hasElement, 2, (some .boolean))
theorem ok_X5_hasElement : fx_OKV mX5_hasElement 1 := ⟨⟨wc_X5_hasElement, wz_DrawerOfArmsShelf, ⟨by decide, by decide, by decide⟩, by decide⟩, wi_X5_hasElement, ws_X5_hasElement⟩
abbrev mX5_put : fx_MD := (yX5_put, cX5_put, 4, none)
theorem ok_X5_put : fx_OKV mX5_put 2 := ⟨⟨wc_X5_put, wz_DrawerOfArmsShelf, ⟨by decide, by decide, by decide⟩, by decide⟩, wi_X5_put, ws_X5_put⟩
abbrev mX8_copy : fx_MD := (yX8_copy, cX8_copy, 7, (some .int))
theorem ok_X8_copy : fx_OKV mX8_copy 5 := ⟨⟨wc_X8_copy, wz_DrawerOfArms, ⟨by decide, by decide, by decide⟩, by decide⟩, wi_X8_copy, ws_X8_copy⟩
abbrev mX8_barToCopy : fx_MD := (yX8_barToCopy, cX8_barToCopy, 5, (some .int))
theorem ok_X8_barToCopy : fx_OKV mX8_barToCopy 2 := ⟨⟨wc_X8_barToCopy, wz_DrawerOfArms, ⟨by decide, by decide, by decide⟩, by decide⟩, wi_X8_barToCopy, ws_X8_barToCopy⟩
abbrev mX5_hasStretch : fx_MD := (yX5_hasStretch, cX5_hasStretch, 3, (some .boolean))
theorem ok_X5_hasStretch : fx_OKV mX5_hasStretch 2 := ⟨⟨wc_X5_hasStretch, wz_DrawerOfArmsShelf, ⟨by decide, by decide, by decide⟩, by decide⟩, wi_X5_hasStretch, ws_X5_hasStretch⟩
abbrev mX8_element : fx_MD := (yX8_element, cX8_element, 3, (some .long))
theorem ok_X8_element : fx_OKV mX8_element 2 := ⟨⟨wc_X8_element, wz_DrawerOfArms, ⟨by decide, by decide, by decide⟩, by decide⟩, wi_X8_element, ws_X8_element⟩
abbrev mX8_show : fx_MD := (yX8_show, cX8_show, 3, (some .int))
theorem ok_X8_show : fx_OKV mX8_show 2 := ⟨⟨wc_X8_show, wz_DrawerOfArms, ⟨by decide, by decide, by decide⟩, by decide⟩, wi_X8_show, ws_X8_show⟩
abbrev mX6_isArm : fx_MD := (yX6_isArm, cX6_isArm, 2, (some .boolean))
theorem ok_X6_isArm : fx_OKV mX6_isArm 1 := ⟨⟨wc_X6_isArm, wz_DrawerOfArmsStock, ⟨by decide, by decide, by decide⟩, by decide⟩, wi_X6_isArm, ws_X6_isArm⟩
abbrev mX5_holdArm : fx_MD := (yX5_holdArm, cX5_holdArm, 2, none)
theorem ok_X5_holdArm : fx_OKV mX5_holdArm 1 := ⟨⟨wc_X5_holdArm, wz_DrawerOfArmsShelf, ⟨by decide, by decide, by decide⟩, by decide⟩, wi_X5_holdArm, ws_X5_holdArm⟩
abbrev mX8_holds : fx_MD := (yX8_holds, cX8_holds, 3, (some .int))
theorem ok_X8_holds : fx_OKV mX8_holds 1 := ⟨⟨wc_X8_holds, wz_DrawerOfArms, ⟨by decide, by decide, by decide⟩, by decide⟩, wi_X8_holds, ws_X8_holds⟩
abbrev mX8_says : fx_MD := (yX8_says, cX8_says, 5, (some .int))
theorem ok_X8_says : fx_OKV mX8_says 2 := ⟨⟨wc_X8_says, wz_DrawerOfArms, ⟨by decide, by decide, by decide⟩, by decide⟩, wi_X8_says, ws_X8_says⟩
abbrev mX0_isOf : fx_MD := (yX0_isOf, cX0_isOf, 4, (some .boolean))
theorem ok_X0_isOf : fx_OKV mX0_isOf 1 := ⟨⟨wc_X0_isOf, wz_DrawerOfArmsArm, ⟨by decide, by decide, by decide⟩, by decide⟩, wi_X0_isOf, ws_X0_isOf⟩
abbrev mX0_above : fx_MD := (yX0_above, cX0_above, 1, (some .int))
theorem ok_X0_above : fx_OKS mX0_above 1 := ⟨⟨wc_X0_above, wz_DrawerOfArmsArm, ⟨by decide, by decide, by decide⟩, by decide⟩, wt_X0_above⟩
abbrev mX0_saysAs : fx_MD := (yX0_saysAs, cX0_saysAs, 2, (some .int))
theorem ok_X0_saysAs : fx_OKV mX0_saysAs 1 := ⟨⟨wc_X0_saysAs, wz_DrawerOfArmsArm, ⟨by decide, by decide, by decide⟩, by decide⟩, wi_X0_saysAs, ws_X0_saysAs⟩
abbrev mX0_wearSeen : fx_MD := (yX0_wearSeen, cX0_wearSeen, 2, (some .int))
theorem ok_X0_wearSeen : fx_OKV mX0_wearSeen 1 := ⟨⟨wc_X0_wearSeen, wz_DrawerOfArmsArm, ⟨by decide, by decide, by decide⟩, by decide⟩, wi_X0_wearSeen, ws_X0_wearSeen⟩
abbrev mX0_shadeSeen : fx_MD := (yX0_shadeSeen, cX0_shadeSeen, 3, (some .int))
theorem ok_X0_shadeSeen : fx_OKV mX0_shadeSeen 1 := ⟨⟨wc_X0_shadeSeen, wz_DrawerOfArmsArm, ⟨by decide, by decide, by decide⟩, by decide⟩, wi_X0_shadeSeen, ws_X0_shadeSeen⟩
abbrev mX8_arm : fx_MD := (yX8_arm, cX8_arm, 7, (some .int))
theorem ok_X8_arm : fx_OKV mX8_arm 6 := ⟨⟨wc_X8_arm, wz_DrawerOfArms, ⟨by decide, by decide, by decide⟩, by decide⟩, wi_X8_arm, ws_X8_arm⟩
abbrev mX8_isFigure : fx_MD := (yX8_isFigure, cX8_isFigure, 1, (some .boolean))
theorem ok_X8_isFigure : fx_OKS mX8_isFigure 1 := ⟨⟨wc_X8_isFigure, wz_DrawerOfArms, ⟨by decide, by decide, by decide⟩, by decide⟩, wt_X8_isFigure⟩
abbrev mX8_isSide : fx_MD := (yX8_isSide, cX8_isSide, 1, (some .boolean))
theorem ok_X8_isSide : fx_OKS mX8_isSide 1 := ⟨⟨wc_X8_isSide, wz_DrawerOfArms, ⟨by decide, by decide, by decide⟩, by decide⟩, wt_X8_isSide⟩
abbrev mX6_hasRoomForArm : fx_MD := (yX6_hasRoomForArm, cX6_hasRoomForArm, 1, (some .boolean))
theorem ok_X6_hasRoomForArm : fx_OKV mX6_hasRoomForArm 0 := ⟨⟨wc_X6_hasRoomForArm, wz_DrawerOfArmsStock, ⟨by decide, by decide, by decide⟩, by decide⟩, wi_X6_hasRoomForArm, ws_X6_hasRoomForArm⟩
abbrev mX6_addArm : fx_MD := (yX6_addArm, cX6_addArm, 7, (some .int))
theorem ok_X6_addArm : fx_OKV mX6_addArm 6 := ⟨⟨wc_X6_addArm, wz_DrawerOfArmsStock, ⟨by decide, by decide, by decide⟩, by decide⟩, wi_X6_addArm, ws_X6_addArm⟩
abbrev mX0_become : fx_MD := (yX0_become, cX0_become, 7, none)
theorem ok_X0_become : fx_OKV mX0_become 6 := ⟨⟨wc_X0_become, wz_DrawerOfArmsArm, ⟨by decide, by decide, by decide⟩, by decide⟩, wi_X0_become, ws_X0_become⟩
abbrev mX8_doll : fx_MD := (yX8_doll, cX8_doll, 8, (some .int))
theorem ok_X8_doll : fx_OKV mX8_doll 7 := ⟨⟨wc_X8_doll, wz_DrawerOfArms, ⟨by decide, by decide, by decide⟩, by decide⟩, wi_X8_doll, ws_X8_doll⟩
abbrev mX6_hasRoomForDoll : fx_MD := (yX6_hasRoomForDoll, cX6_hasRoomForDoll, 1, (some .boolean))
theorem ok_X6_hasRoomForDoll : fx_OKV mX6_hasRoomForDoll 0 := ⟨⟨wc_X6_hasRoomForDoll, wz_DrawerOfArmsStock, ⟨by decide, by decide, by decide⟩, by decide⟩, wi_X6_hasRoomForDoll, ws_X6_hasRoomForDoll⟩
abbrev mX6_addDoll : fx_MD := (yX6_addDoll, cX6_addDoll, 8, (some .int))
theorem ok_X6_addDoll : fx_OKV mX6_addDoll 7 := ⟨⟨wc_X6_addDoll, wz_DrawerOfArmsStock, ⟨by decide, by decide, by decide⟩, by decide⟩, wi_X6_addDoll, ws_X6_addDoll⟩
abbrev mX1_become : fx_MD := (yX1_become, cX1_become, 8, none)
theorem ok_X1_become : fx_OKV mX1_become 7 := ⟨⟨wc_X1_become, wz_DrawerOfArmsDoll, ⟨by decide, by decide, by decide⟩, by decide⟩, wi_X1_become, ws_X1_become⟩
abbrev mX8_dye : fx_MD := (yX8_dye, cX8_dye, 6, (some .int))
theorem ok_X8_dye : fx_OKV mX8_dye 3 := ⟨⟨wc_X8_dye, wz_DrawerOfArms, ⟨by decide, by decide, by decide⟩, by decide⟩, wi_X8_dye, ws_X8_dye⟩
abbrev mX8_tell : fx_MD := (yX8_tell, cX8_tell, 4, (some .int))
theorem ok_X8_tell : fx_OKV mX8_tell 3 := ⟨⟨wc_X8_tell, wz_DrawerOfArms, ⟨by decide, by decide, by decide⟩, by decide⟩, wi_X8_tell, ws_X8_tell⟩
abbrev mX6_isDoll : fx_MD := (yX6_isDoll, cX6_isDoll, 2, (some .boolean))
theorem ok_X6_isDoll : fx_OKV mX6_isDoll 1 := ⟨⟨wc_X6_isDoll, wz_DrawerOfArmsStock, ⟨by decide, by decide, by decide⟩, by decide⟩, wi_X6_isDoll, ws_X6_isDoll⟩
abbrev mX1_mostOf : fx_MD := (yX1_mostOf, cX1_mostOf, 1, (some .int))
theorem ok_X1_mostOf : fx_OKS mX1_mostOf 1 := ⟨⟨wc_X1_mostOf, wz_DrawerOfArmsDoll, ⟨by decide, by decide, by decide⟩, by decide⟩, wt_X1_mostOf⟩
abbrev mX1_retell : fx_MD := (yX1_retell, cX1_retell, 4, (some .int))
theorem ok_X1_retell : fx_OKV mX1_retell 2 := ⟨⟨wc_X1_retell, wz_DrawerOfArmsDoll, ⟨by decide, by decide, by decide⟩, by decide⟩, wi_X1_retell, ws_X1_retell⟩
abbrev mX8_armOf : fx_MD := (yX8_armOf, cX8_armOf, 3, (some .int))
theorem ok_X8_armOf : fx_OKV mX8_armOf 2 := ⟨⟨wc_X8_armOf, wz_DrawerOfArms, ⟨by decide, by decide, by decide⟩, by decide⟩, wi_X8_armOf, ws_X8_armOf⟩
abbrev mX0_figure : fx_MD := (yX0_figure, cX0_figure, 2, (some .int))
theorem ok_X0_figure : fx_OKV mX0_figure 1 := ⟨⟨wc_X0_figure, wz_DrawerOfArmsArm, ⟨by decide, by decide, by decide⟩, by decide⟩, wi_X0_figure, ws_X0_figure⟩
abbrev mX8_dollOf : fx_MD := (yX8_dollOf, cX8_dollOf, 3, (some .int))
theorem ok_X8_dollOf : fx_OKV mX8_dollOf 2 := ⟨⟨wc_X8_dollOf, wz_DrawerOfArms, ⟨by decide, by decide, by decide⟩, by decide⟩, wi_X8_dollOf, ws_X8_dollOf⟩
abbrev mX6_isHer : fx_MD := (yX6_isHer, cX6_isHer, 2, (some .boolean))
theorem ok_X6_isHer : fx_OKV mX6_isHer 1 := ⟨⟨wc_X6_isHer, wz_DrawerOfArmsStock, ⟨by decide, by decide, by decide⟩, by decide⟩, wi_X6_isHer, ws_X6_isHer⟩
abbrev mX6_unlikeOn : fx_MD := (yX6_unlikeOn, cX6_unlikeOn, 5, (some .int))
theorem ok_X6_unlikeOn : fx_OKV mX6_unlikeOn 1 := ⟨⟨wc_X6_unlikeOn, wz_DrawerOfArmsStock, ⟨by decide, by decide, by decide⟩, by decide⟩, wi_X6_unlikeOn, ws_X6_unlikeOn⟩
abbrev mX6_armAt : fx_MD := (yX6_armAt, cX6_armAt, 4, (some .int))
theorem ok_X6_armAt : fx_OKV mX6_armAt 2 := ⟨⟨wc_X6_armAt, wz_DrawerOfArmsStock, ⟨by decide, by decide, by decide⟩, by decide⟩, wi_X6_armAt, ws_X6_armAt⟩
abbrev mX0_isOn : fx_MD := (yX0_isOn, cX0_isOn, 3, (some .boolean))
theorem ok_X0_isOn : fx_OKV mX0_isOn 2 := ⟨⟨wc_X0_isOn, wz_DrawerOfArmsArm, ⟨by decide, by decide, by decide⟩, by decide⟩, wi_X0_isOn, ws_X0_isOn⟩
abbrev mX0_farFrom : fx_MD := (yX0_farFrom, cX0_farFrom, 2, (some .int))
theorem ok_X0_farFrom : fx_OKV mX0_farFrom 1 := ⟨⟨wc_X0_farFrom, wz_DrawerOfArmsArm, ⟨by decide, by decide, by decide⟩, by decide⟩, wi_X0_farFrom, ws_X0_farFrom⟩
abbrev mX0_farIf : fx_MD := (yX0_farIf, cX0_farIf, 6, (some .int))
theorem ok_X0_farIf : fx_OKV mX0_farIf 3 := ⟨⟨wc_X0_farIf, wz_DrawerOfArmsArm, ⟨by decide, by decide, by decide⟩, by decide⟩, wi_X0_farIf, ws_X0_farIf⟩
abbrev mX1_figure : fx_MD := (yX1_figure, cX1_figure, 2, (some .int))
theorem ok_X1_figure : fx_OKV mX1_figure 1 := ⟨⟨wc_X1_figure, wz_DrawerOfArmsDoll, ⟨by decide, by decide, by decide⟩, by decide⟩, wi_X1_figure, ws_X1_figure⟩
abbrev mX8_on : fx_MD := (yX8_on, cX8_on, 4, (some .int))
theorem ok_X8_on : fx_OKV mX8_on 2 := ⟨⟨wc_X8_on, wz_DrawerOfArms, ⟨by decide, by decide, by decide⟩, by decide⟩, wi_X8_on, ws_X8_on⟩
abbrev mX8_barToSide : fx_MD := (yX8_barToSide, cX8_barToSide, 3, (some .int))
theorem ok_X8_barToSide : fx_OKV mX8_barToSide 2 := ⟨⟨wc_X8_barToSide, wz_DrawerOfArms, ⟨by decide, by decide, by decide⟩, by decide⟩, wi_X8_barToSide, ws_X8_barToSide⟩
abbrev mX8_refuseApart : fx_MD := (yX8_refuseApart, cX8_refuseApart, 2, (some .int))
theorem ok_X8_refuseApart : fx_OKV mX8_refuseApart 1 := ⟨⟨wc_X8_refuseApart, wz_DrawerOfArms, ⟨by decide, by decide, by decide⟩, by decide⟩, wi_X8_refuseApart, ws_X8_refuseApart⟩
abbrev mX8_shop : fx_MD := (yX8_shop, cX8_shop, 4, (some .int))
theorem ok_X8_shop : fx_OKV mX8_shop 1 := ⟨⟨wc_X8_shop, wz_DrawerOfArms, ⟨by decide, by decide, by decide⟩, by decide⟩, wi_X8_shop, ws_X8_shop⟩
abbrev mX6_takeFrom : fx_MD := (yX6_takeFrom, cX6_takeFrom, 3, none)
theorem ok_X6_takeFrom : fx_OKV mX6_takeFrom 1 := ⟨⟨wc_X6_takeFrom, wz_DrawerOfArmsStock, ⟨by decide, by decide, by decide⟩, by decide⟩, wi_X6_takeFrom, ws_X6_takeFrom⟩
abbrev mX0_becomeLike : fx_MD := (yX0_becomeLike, cX0_becomeLike, 2, none)
theorem ok_X0_becomeLike : fx_OKV mX0_becomeLike 1 := ⟨⟨wc_X0_becomeLike, wz_DrawerOfArmsArm, ⟨by decide, by decide, by decide⟩, by decide⟩, wi_X0_becomeLike, ws_X0_becomeLike⟩
abbrev mX1_becomeLike : fx_MD := (yX1_becomeLike, cX1_becomeLike, 2, none)
theorem ok_X1_becomeLike : fx_OKV mX1_becomeLike 1 := ⟨⟨wc_X1_becomeLike, wz_DrawerOfArmsDoll, ⟨by decide, by decide, by decide⟩, by decide⟩, wi_X1_becomeLike, ws_X1_becomeLike⟩
abbrev mX4_readAll : fx_MD := (yX4_readAll, cX4_readAll, 3, (some .int))
theorem ok_X4_readAll : fx_OKV mX4_readAll 1 := ⟨⟨wc_X4_readAll, wz_DrawerOfArmsReader, ⟨by decide, by decide, by decide⟩, by decide⟩, wi_X4_readAll, ws_X4_readAll⟩
abbrev mX4_readItem : fx_MD := (yX4_readItem, cX4_readItem, 1, (some .boolean))
theorem ok_X4_readItem : fx_OKV mX4_readItem 0 := ⟨⟨wc_X4_readItem, wz_DrawerOfArmsReader, ⟨by decide, by decide, by decide⟩, by decide⟩, wi_X4_readItem, ws_X4_readItem⟩
abbrev mX5_read : fx_MD := (yX5_read, cX5_read, 2, (some .int))
theorem ok_X5_read : fx_OKV mX5_read 1 := ⟨⟨wc_X5_read, wz_DrawerOfArmsShelf, ⟨by decide, by decide, by decide⟩, by decide⟩, wi_X5_read, ws_X5_read⟩
abbrev mX4_spells : fx_MD := (yX4_spells, cX4_spells, 3, (some .boolean))
theorem ok_X4_spells : fx_OKV mX4_spells 1 := ⟨⟨wc_X4_spells, wz_DrawerOfArmsReader, ⟨by decide, by decide, by decide⟩, by decide⟩, wi_X4_spells, ws_X4_spells⟩
abbrev mJ0_length_8abf5 : fx_MD := (yJ0_length_8abf5, cJ0_length_8abf5, 1, (some .int))
theorem ok_J0_length_8abf5 : fx_OKV mJ0_length_8abf5 0 := ⟨⟨wc_J0_length_8abf5, wz_String, ⟨by decide, by decide, by decide⟩, by decide⟩, wi_J0_length_8abf5, ws_J0_length_8abf5⟩
abbrev mJ0_coder_7d493 : fx_MD := (yJ0_coder_7d493, cJ0_coder_7d493, 1, (some .byte))
theorem ok_J0_coder_7d493 : fx_OKV mJ0_coder_7d493 0 := ⟨⟨wc_J0_coder_7d493, wz_String, ⟨by decide, by decide, by decide⟩, by decide⟩, wi_J0_coder_7d493, ws_J0_coder_7d493⟩
abbrev mJ0_charAt_5068e : fx_MD := (yJ0_charAt_5068e, cJ0_charAt_5068e, 2, (some .char))
theorem ok_J0_charAt_5068e : fx_OKV mJ0_charAt_5068e 1 := ⟨⟨wc_J0_charAt_5068e, wz_String, ⟨by decide, by decide, by decide⟩, by decide⟩, wi_J0_charAt_5068e, ws_J0_charAt_5068e⟩
abbrev mJ0_isLatin1_aae02 : fx_MD := (yJ0_isLatin1_aae02, cJ0_isLatin1_aae02, 1, (some .boolean))
theorem ok_J0_isLatin1_aae02 : fx_OKV mJ0_isLatin1_aae02 0 := ⟨⟨wc_J0_isLatin1_aae02, wz_String, ⟨by decide, by decide, by decide⟩, by decide⟩, wi_J0_isLatin1_aae02, ws_J0_isLatin1_aae02⟩
abbrev mJ1_charAt_3b067 : fx_MD := (yJ1_charAt_3b067, cJ1_charAt_3b067, 2, (some .char))
theorem ok_J1_charAt_3b067 : fx_OKS mJ1_charAt_3b067 2 := ⟨⟨wc_J1_charAt_3b067, wz_StringLatin1, ⟨by decide, by decide, by decide⟩, by decide⟩, wt_J1_charAt_3b067⟩
abbrev mJ0_checkIndex_df160 : fx_MD := (yJ0_checkIndex_df160, cJ0_checkIndex_df160, 2, none)
theorem ok_J0_checkIndex_df160 : fx_OKS mJ0_checkIndex_df160 2 := ⟨⟨wc_J0_checkIndex_df160, wz_String, ⟨by decide, by decide, by decide⟩, by decide⟩, wt_J0_checkIndex_df160⟩
abbrev mJ3_checkIndex_8e157 : fx_MD := (yJ3_checkIndex_8e157, cJ3_checkIndex_8e157, 3, (some .int))
theorem ok_J3_checkIndex_8e157 : fx_OKS mJ3_checkIndex_8e157 3 := ⟨⟨wc_J3_checkIndex_8e157, wz_Preconditions, ⟨by decide, by decide, by decide⟩, by decide⟩, wt_J3_checkIndex_8e157⟩
abbrev mJ2_charAt_3b067 : fx_MD := (yJ2_charAt_3b067, cJ2_charAt_3b067, 2, (some .char))
theorem ok_J2_charAt_3b067 : fx_OKS mJ2_charAt_3b067 2 := ⟨⟨wc_J2_charAt_3b067, wz_StringUTF16, ⟨by decide, by decide, by decide⟩, by decide⟩, wt_J2_charAt_3b067⟩
abbrev mJ2_checkIndex_2214a : fx_MD := (yJ2_checkIndex_2214a, cJ2_checkIndex_2214a, 2, none)
theorem ok_J2_checkIndex_2214a : fx_OKS mJ2_checkIndex_2214a 2 := ⟨⟨wc_J2_checkIndex_2214a, wz_StringUTF16, ⟨by decide, by decide, by decide⟩, by decide⟩, wt_J2_checkIndex_2214a⟩
abbrev mJ2_length_9d52b : fx_MD := (yJ2_length_9d52b, cJ2_length_9d52b, 1, (some .int))
theorem ok_J2_length_9d52b : fx_OKS mJ2_length_9d52b 1 := ⟨⟨wc_J2_length_9d52b, wz_StringUTF16, ⟨by decide, by decide, by decide⟩, by decide⟩, wt_J2_length_9d52b⟩
abbrev mJ2_getChar_3b067 : fx_MD := (yJ2_getChar_3b067, cJ2_getChar_3b067, 2, (some .char))
theorem ok_J2_getChar_3b067 : fx_OKS mJ2_getChar_3b067 2 := ⟨⟨wc_J2_getChar_3b067, wz_StringUTF16, ⟨by decide, by decide, by decide⟩, by decide⟩, wt_J2_getChar_3b067⟩
abbrev mX4_stopAt : fx_MD := (yX4_stopAt, cX4_stopAt, 2, (some .boolean))
theorem ok_X4_stopAt : fx_OKV mX4_stopAt 1 := ⟨⟨wc_X4_stopAt, wz_DrawerOfArmsReader, ⟨by decide, by decide, by decide⟩, by decide⟩, wi_X4_stopAt, ws_X4_stopAt⟩
abbrev mX4_readArm : fx_MD := (yX4_readArm, cX4_readArm, 1, (some .boolean))
theorem ok_X4_readArm : fx_OKV mX4_readArm 0 := ⟨⟨wc_X4_readArm, wz_DrawerOfArmsReader, ⟨by decide, by decide, by decide⟩, by decide⟩, wi_X4_readArm, ws_X4_readArm⟩
abbrev mX4_readNumbers : fx_MD := (yX4_readNumbers, cX4_readNumbers, 5, (some .boolean))
theorem ok_X4_readNumbers : fx_OKV mX4_readNumbers 2 := ⟨⟨wc_X4_readNumbers, wz_DrawerOfArmsReader, ⟨by decide, by decide, by decide⟩, by decide⟩, wi_X4_readNumbers, ws_X4_readNumbers⟩
abbrev mX4_readNumber : fx_MD := (yX4_readNumber, cX4_readNumber, 3, (some .int))
theorem ok_X4_readNumber : fx_OKV mX4_readNumber 0 := ⟨⟨wc_X4_readNumber, wz_DrawerOfArmsReader, ⟨by decide, by decide, by decide⟩, by decide⟩, wi_X4_readNumber, ws_X4_readNumber⟩
abbrev mX4_digitOf : fx_MD := (yX4_digitOf, cX4_digitOf, 1, (some .int))
theorem ok_X4_digitOf : fx_OKS mX4_digitOf 1 := ⟨⟨wc_X4_digitOf, wz_DrawerOfArmsReader, ⟨by decide, by decide, by decide⟩, by decide⟩, wt_X4_digitOf⟩
abbrev mX4_readDoll : fx_MD := (yX4_readDoll, cX4_readDoll, 1, (some .boolean))
theorem ok_X4_readDoll : fx_OKV mX4_readDoll 0 := ⟨⟨wc_X4_readDoll, wz_DrawerOfArmsReader, ⟨by decide, by decide, by decide⟩, by decide⟩, wi_X4_readDoll, ws_X4_readDoll⟩
abbrev mX4_readLies : fx_MD := (yX4_readLies, cX4_readLies, 3, (some .boolean))
theorem ok_X4_readLies : fx_OKV mX4_readLies 0 := ⟨⟨wc_X4_readLies, wz_DrawerOfArmsReader, ⟨by decide, by decide, by decide⟩, by decide⟩, wi_X4_readLies, ws_X4_readLies⟩
abbrev mX4_readOn : fx_MD := (yX4_readOn, cX4_readOn, 4, (some .boolean))
theorem ok_X4_readOn : fx_OKV mX4_readOn 0 := ⟨⟨wc_X4_readOn, wz_DrawerOfArmsReader, ⟨by decide, by decide, by decide⟩, by decide⟩, wi_X4_readOn, ws_X4_readOn⟩
abbrev mX0_isInDrawer : fx_MD := (yX0_isInDrawer, cX0_isInDrawer, 1, (some .boolean))
theorem ok_X0_isInDrawer : fx_OKV mX0_isInDrawer 0 := ⟨⟨wc_X0_isInDrawer, wz_DrawerOfArmsArm, ⟨by decide, by decide, by decide⟩, by decide⟩, wi_X0_isInDrawer, ws_X0_isInDrawer⟩
abbrev mX6_canCome : fx_MD := (yX6_canCome, cX6_canCome, 4, (some .boolean))
theorem ok_X6_canCome : fx_OKV mX6_canCome 3 := ⟨⟨wc_X6_canCome, wz_DrawerOfArmsStock, ⟨by decide, by decide, by decide⟩, by decide⟩, wi_X6_canCome, ws_X6_canCome⟩
abbrev mX0_suits : fx_MD := (yX0_suits, cX0_suits, 4, (some .boolean))
theorem ok_X0_suits : fx_OKV mX0_suits 2 := ⟨⟨wc_X0_suits, wz_DrawerOfArmsArm, ⟨by decide, by decide, by decide⟩, by decide⟩, wi_X0_suits, ws_X0_suits⟩
abbrev mX0_comeOn : fx_MD := (yX0_comeOn, cX0_comeOn, 3, none)
theorem ok_X0_comeOn : fx_OKV mX0_comeOn 2 := ⟨⟨wc_X0_comeOn, wz_DrawerOfArmsArm, ⟨by decide, by decide, by decide⟩, by decide⟩, wi_X0_comeOn, ws_X0_comeOn⟩
abbrev mX4_readOff : fx_MD := (yX4_readOff, cX4_readOff, 2, (some .boolean))
theorem ok_X4_readOff : fx_OKV mX4_readOff 0 := ⟨⟨wc_X4_readOff, wz_DrawerOfArmsReader, ⟨by decide, by decide, by decide⟩, by decide⟩, wi_X4_readOff, ws_X4_readOff⟩
abbrev mX0_comeOff : fx_MD := (yX0_comeOff, cX0_comeOff, 1, none)
theorem ok_X0_comeOff : fx_OKV mX0_comeOff 0 := ⟨⟨wc_X0_comeOff, wz_DrawerOfArmsArm, ⟨by decide, by decide, by decide⟩, by decide⟩, wi_X0_comeOff, ws_X0_comeOff⟩
abbrev mX8_fault : fx_MD := (yX8_fault, cX8_fault, 1, (some .int))
theorem ok_X8_fault : fx_OKV mX8_fault 0 := ⟨⟨wc_X8_fault, wz_DrawerOfArms, ⟨by decide, by decide, by decide⟩, by decide⟩, wi_X8_fault, ws_X8_fault⟩
abbrev mX8_fits : fx_MD := (yX8_fits, cX8_fits, 4, (some .int))
theorem ok_X8_fits : fx_OKV mX8_fits 3 := ⟨⟨wc_X8_fits, wz_DrawerOfArms, ⟨by decide, by decide, by decide⟩, by decide⟩, wi_X8_fits, ws_X8_fits⟩
abbrev mX8_unlike : fx_MD := (yX8_unlike, cX8_unlike, 3, (some .int))
theorem ok_X8_unlike : fx_OKV mX8_unlike 2 := ⟨⟨wc_X8_unlike, wz_DrawerOfArms, ⟨by decide, by decide, by decide⟩, by decide⟩, wi_X8_unlike, ws_X8_unlike⟩
abbrev mX8_may : fx_MD := (yX8_may, cX8_may, 4, (some .int))
theorem ok_X8_may : fx_OKV mX8_may 2 := ⟨⟨wc_X8_may, wz_DrawerOfArms, ⟨by decide, by decide, by decide⟩, by decide⟩, wi_X8_may, ws_X8_may⟩
abbrev mX6_armsFor : fx_MD := (yX6_armsFor, cX6_armsFor, 5, (some .int))
theorem ok_X6_armsFor : fx_OKV mX6_armsFor 2 := ⟨⟨wc_X6_armsFor, wz_DrawerOfArmsStock, ⟨by decide, by decide, by decide⟩, by decide⟩, wi_X6_armsFor, ws_X6_armsFor⟩
abbrev mX8_best : fx_MD := (yX8_best, cX8_best, 4, (some .int))
theorem ok_X8_best : fx_OKV mX8_best 2 := ⟨⟨wc_X8_best, wz_DrawerOfArms, ⟨by decide, by decide, by decide⟩, by decide⟩, wi_X8_best, ws_X8_best⟩
abbrev mX6_leastUnlike : fx_MD := (yX6_leastUnlike, cX6_leastUnlike, 7, (some .int))
theorem ok_X6_leastUnlike : fx_OKV mX6_leastUnlike 2 := ⟨⟨wc_X6_leastUnlike, wz_DrawerOfArmsStock, ⟨by decide, by decide, by decide⟩, by decide⟩, wi_X6_leastUnlike, ws_X6_leastUnlike⟩
abbrev mX8_whole : fx_MD := (yX8_whole, cX8_whole, 2, (some .int))
theorem ok_X8_whole : fx_OKV mX8_whole 1 := ⟨⟨wc_X8_whole, wz_DrawerOfArms, ⟨by decide, by decide, by decide⟩, by decide⟩, wi_X8_whole, ws_X8_whole⟩
abbrev mX3_weigh : fx_MD := (yX3_weigh, cX3_weigh, 4, none)
theorem ok_X3_weigh : fx_OKV mX3_weigh 1 := ⟨⟨wc_X3_weigh, wz_DrawerOfArmsParting, ⟨by decide, by decide, by decide⟩, by decide⟩, wi_X3_weigh, ws_X3_weigh⟩
abbrev mX3_findPlaces : fx_MD := (yX3_findPlaces, cX3_findPlaces, 4, none)
theorem ok_X3_findPlaces : fx_OKV mX3_findPlaces 1 := ⟨⟨wc_X3_findPlaces, wz_DrawerOfArmsParting, ⟨by decide, by decide, by decide⟩, by decide⟩, wi_X3_findPlaces, ws_X3_findPlaces⟩
abbrev mX3_keep : fx_MD := (yX3_keep, cX3_keep, 4, none)
theorem ok_X3_keep : fx_OKV mX3_keep 3 := ⟨⟨wc_X3_keep, wz_DrawerOfArmsParting, ⟨by decide, by decide, by decide⟩, by decide⟩, wi_X3_keep, ws_X3_keep⟩
abbrev mX3_findSlots : fx_MD := (yX3_findSlots, cX3_findSlots, 5, none)
theorem ok_X3_findSlots : fx_OKV mX3_findSlots 1 := ⟨⟨wc_X3_findSlots, wz_DrawerOfArmsParting, ⟨by decide, by decide, by decide⟩, by decide⟩, wi_X3_findSlots, ws_X3_findSlots⟩
abbrev mX3_keepSlot : fx_MD := (yX3_keepSlot, cX3_keepSlot, 8, none)
theorem ok_X3_keepSlot : fx_OKV mX3_keepSlot 4 := ⟨⟨wc_X3_keepSlot, wz_DrawerOfArmsParting, ⟨by decide, by decide, by decide⟩, by decide⟩, wi_X3_keepSlot, ws_X3_keepSlot⟩
abbrev mX3_all : fx_MD := (yX3_all, cX3_all, 1, (some .int))
theorem ok_X3_all : fx_OKV mX3_all 0 := ⟨⟨wc_X3_all, wz_DrawerOfArmsParting, ⟨by decide, by decide, by decide⟩, by decide⟩, wi_X3_all, ws_X3_all⟩
abbrev mX3_bestWith : fx_MD := (yX3_bestWith, cX3_bestWith, 8, (some .int))
theorem ok_X3_bestWith : fx_OKV mX3_bestWith 4 := ⟨⟨wc_X3_bestWith, wz_DrawerOfArmsParting, ⟨by decide, by decide, by decide⟩, by decide⟩, wi_X3_bestWith, ws_X3_bestWith⟩
abbrev mX3_filled : fx_MD := (yX3_filled, cX3_filled, 1, (some .int))
theorem ok_X3_filled : fx_OKV mX3_filled 0 := ⟨⟨wc_X3_filled, wz_DrawerOfArmsParting, ⟨by decide, by decide, by decide⟩, by decide⟩, wi_X3_filled, ws_X3_filled⟩
abbrev mX3_filledBy : fx_MD := (yX3_filledBy, cX3_filledBy, 1, (some .int))
theorem ok_X3_filledBy : fx_OKS mX3_filledBy 1 := ⟨⟨wc_X3_filledBy, wz_DrawerOfArmsParting, ⟨by decide, by decide, by decide⟩, by decide⟩, wt_X3_filledBy⟩
abbrev mX3_unlikeness : fx_MD := (yX3_unlikeness, cX3_unlikeness, 1, (some .int))
theorem ok_X3_unlikeness : fx_OKV mX3_unlikeness 0 := ⟨⟨wc_X3_unlikeness, wz_DrawerOfArmsParting, ⟨by decide, by decide, by decide⟩, by decide⟩, wi_X3_unlikeness, ws_X3_unlikeness⟩
abbrev mX8_given : fx_MD := (yX8_given, cX8_given, 2, (some .int))
theorem ok_X8_given : fx_OKV mX8_given 1 := ⟨⟨wc_X8_given, wz_DrawerOfArms, ⟨by decide, by decide, by decide⟩, by decide⟩, wi_X8_given, ws_X8_given⟩
abbrev mX3_armForSide : fx_MD := (yX3_armForSide, cX3_armForSide, 6, (some .int))
theorem ok_X3_armForSide : fx_OKV mX3_armForSide 2 := ⟨⟨wc_X3_armForSide, wz_DrawerOfArmsParting, ⟨by decide, by decide, by decide⟩, by decide⟩, wi_X3_armForSide, ws_X3_armForSide⟩
abbrev mX3_firstPlace : fx_MD := (yX3_firstPlace, cX3_firstPlace, 6, (some .int))
theorem ok_X3_firstPlace : fx_OKV mX3_firstPlace 2 := ⟨⟨wc_X3_firstPlace, wz_DrawerOfArmsParting, ⟨by decide, by decide, by decide⟩, by decide⟩, wi_X3_firstPlace, ws_X3_firstPlace⟩
abbrev mX8_cast : fx_MD := (yX8_cast, cX8_cast, 1, (some .int))
theorem ok_X8_cast : fx_OKV mX8_cast 0 := ⟨⟨wc_X8_cast, wz_DrawerOfArms, ⟨by decide, by decide, by decide⟩, by decide⟩, wi_X8_cast, ws_X8_cast⟩
abbrev mX3_castAnew : fx_MD := (yX3_castAnew, cX3_castAnew, 6, (some .int))
theorem ok_X3_castAnew : fx_OKV mX3_castAnew 1 := ⟨⟨wc_X3_castAnew, wz_DrawerOfArmsParting, ⟨by decide, by decide, by decide⟩, by decide⟩, wi_X3_castAnew, ws_X3_castAnew⟩
abbrev mX3_weighWithoutEach : fx_MD := (yX3_weighWithoutEach, cX3_weighWithoutEach, 4, none)
theorem ok_X3_weighWithoutEach : fx_OKV mX3_weighWithoutEach 0 := ⟨⟨wc_X3_weighWithoutEach, wz_DrawerOfArmsParting, ⟨by decide, by decide, by decide⟩, by decide⟩, wi_X3_weighWithoutEach, ws_X3_weighWithoutEach⟩
abbrev mX3_bestWithAnew : fx_MD := (yX3_bestWithAnew, cX3_bestWithAnew, 5, (some .int))
theorem ok_X3_bestWithAnew : fx_OKV mX3_bestWithAnew 1 := ⟨⟨wc_X3_bestWithAnew, wz_DrawerOfArmsParting, ⟨by decide, by decide, by decide⟩, by decide⟩, wi_X3_bestWithAnew, ws_X3_bestWithAnew⟩
abbrev mX8_tea : fx_MD := (yX8_tea, cX8_tea, 3, (some .int))
theorem ok_X8_tea : fx_OKV mX8_tea 2 := ⟨⟨wc_X8_tea, wz_DrawerOfArms, ⟨by decide, by decide, by decide⟩, by decide⟩, wi_X8_tea, ws_X8_tea⟩
abbrev mX0_minutesInTea : fx_MD := (yX0_minutesInTea, cX0_minutesInTea, 6, (some .int))
theorem ok_X0_minutesInTea : fx_OKV mX0_minutesInTea 1 := ⟨⟨wc_X0_minutesInTea, wz_DrawerOfArmsArm, ⟨by decide, by decide, by decide⟩, by decide⟩, wi_X0_minutesInTea, ws_X0_minutesInTea⟩
abbrev mX8_comes : fx_MD := (yX8_comes, cX8_comes, 3, (some .int))
theorem ok_X8_comes : fx_OKV mX8_comes 2 := ⟨⟨wc_X8_comes, wz_DrawerOfArms, ⟨by decide, by decide, by decide⟩, by decide⟩, wi_X8_comes, ws_X8_comes⟩
abbrev mX8_queue : fx_MD := (yX8_queue, cX8_queue, 2, (some .int))
theorem ok_X8_queue : fx_OKV mX8_queue 1 := ⟨⟨wc_X8_queue, wz_DrawerOfArms, ⟨by decide, by decide, by decide⟩, by decide⟩, wi_X8_queue, ws_X8_queue⟩
abbrev mX7_weigh : fx_MD := (yX7_weigh, cX7_weigh, 5, none)
theorem ok_X7_weigh : fx_OKV mX7_weigh 1 := ⟨⟨wc_X7_weigh, wz_DrawerOfArmsWaiting, ⟨by decide, by decide, by decide⟩, by decide⟩, wi_X7_weigh, ws_X7_weigh⟩
abbrev mX7_firstNext : fx_MD := (yX7_firstNext, cX7_firstNext, 7, (some .int))
theorem ok_X7_firstNext : fx_OKV mX7_firstNext 2 := ⟨⟨wc_X7_firstNext, wz_DrawerOfArmsWaiting, ⟨by decide, by decide, by decide⟩, by decide⟩, wi_X7_firstNext, ws_X7_firstNext⟩
abbrev mX7_costOfNext : fx_MD := (yX7_costOfNext, cX7_costOfNext, 5, (some .int))
theorem ok_X7_costOfNext : fx_OKV mX7_costOfNext 3 := ⟨⟨wc_X7_costOfNext, wz_DrawerOfArmsWaiting, ⟨by decide, by decide, by decide⟩, by decide⟩, wi_X7_costOfNext, ws_X7_costOfNext⟩
abbrev mX7_minutesOf : fx_MD := (yX7_minutesOf, cX7_minutesOf, 5, (some .int))
theorem ok_X7_minutesOf : fx_OKV mX7_minutesOf 2 := ⟨⟨wc_X7_minutesOf, wz_DrawerOfArmsWaiting, ⟨by decide, by decide, by decide⟩, by decide⟩, wi_X7_minutesOf, ws_X7_minutesOf⟩
abbrev mX7_tearsInAll : fx_MD := (yX7_tearsInAll, cX7_tearsInAll, 1, (some .int))
theorem ok_X7_tearsInAll : fx_OKV mX7_tearsInAll 0 := ⟨⟨wc_X7_tearsInAll, wz_DrawerOfArmsWaiting, ⟨by decide, by decide, by decide⟩, by decide⟩, wi_X7_tearsInAll, ws_X7_tearsInAll⟩
abbrev mX7_dollAt : fx_MD := (yX7_dollAt, cX7_dollAt, 6, (some .int))
theorem ok_X7_dollAt : fx_OKV mX7_dollAt 2 := ⟨⟨wc_X7_dollAt, wz_DrawerOfArmsWaiting, ⟨by decide, by decide, by decide⟩, by decide⟩, wi_X7_dollAt, ws_X7_dollAt⟩
abbrev mX8_feast : fx_MD := (yX8_feast, cX8_feast, 4, (some .int))
theorem ok_X8_feast : fx_OKV mX8_feast 2 := ⟨⟨wc_X8_feast, wz_DrawerOfArms, ⟨by decide, by decide, by decide⟩, by decide⟩, wi_X8_feast, ws_X8_feast⟩
abbrev mX7_doneWithin : fx_MD := (yX7_doneWithin, cX7_doneWithin, 6, (some .int))
theorem ok_X7_doneWithin : fx_OKV mX7_doneWithin 2 := ⟨⟨wc_X7_doneWithin, wz_DrawerOfArmsWaiting, ⟨by decide, by decide, by decide⟩, by decide⟩, wi_X7_doneWithin, ws_X7_doneWithin⟩
abbrev mX7_tearsOf : fx_MD := (yX7_tearsOf, cX7_tearsOf, 5, (some .int))
theorem ok_X7_tearsOf : fx_OKV mX7_tearsOf 2 := ⟨⟨wc_X7_tearsOf, wz_DrawerOfArmsWaiting, ⟨by decide, by decide, by decide⟩, by decide⟩, wi_X7_tearsOf, ws_X7_tearsOf⟩
abbrev mX8_looks : fx_MD := (yX8_looks, cX8_looks, 5, (some .int))
theorem ok_X8_looks : fx_OKV mX8_looks 3 := ⟨⟨wc_X8_looks, wz_DrawerOfArms, ⟨by decide, by decide, by decide⟩, by decide⟩, wi_X8_looks, ws_X8_looks⟩
abbrev mX8_looksAllowed : fx_MD := (yX8_looksAllowed, cX8_looksAllowed, 10, (some .int))
theorem ok_X8_looksAllowed : fx_OKV mX8_looksAllowed 3 := ⟨⟨wc_X8_looksAllowed, wz_DrawerOfArms, ⟨by decide, by decide, by decide⟩, by decide⟩, wi_X8_looksAllowed, ws_X8_looksAllowed⟩
abbrev mX8_dearest : fx_MD := (yX8_dearest, cX8_dearest, 2, (some .int))
theorem ok_X8_dearest : fx_OKV mX8_dearest 1 := ⟨⟨wc_X8_dearest, wz_DrawerOfArms, ⟨by decide, by decide, by decide⟩, by decide⟩, wi_X8_dearest, ws_X8_dearest⟩
abbrev mX6_bestSwap : fx_MD := (yX6_bestSwap, cX6_bestSwap, 6, (some .int))
theorem ok_X6_bestSwap : fx_OKV mX6_bestSwap 0 := ⟨⟨wc_X6_bestSwap, wz_DrawerOfArmsStock, ⟨by decide, by decide, by decide⟩, by decide⟩, wi_X6_bestSwap, ws_X6_bestSwap⟩
abbrev mX6_gainOfSwap : fx_MD := (yX6_gainOfSwap, cX6_gainOfSwap, 6, (some .int))
theorem ok_X6_gainOfSwap : fx_OKV mX6_gainOfSwap 2 := ⟨⟨wc_X6_gainOfSwap, wz_DrawerOfArmsStock, ⟨by decide, by decide, by decide⟩, by decide⟩, wi_X6_gainOfSwap, ws_X6_gainOfSwap⟩
abbrev mX3_mostMissed : fx_MD := (yX3_mostMissed, cX3_mostMissed, 5, (some .int))
theorem ok_X3_mostMissed : fx_OKV mX3_mostMissed 0 := ⟨⟨wc_X3_mostMissed, wz_DrawerOfArmsParting, ⟨by decide, by decide, by decide⟩, by decide⟩, wi_X3_mostMissed, ws_X3_mostMissed⟩
abbrev mX8_judge : fx_MD := (yX8_judge, cX8_judge, 4, (some .int))
theorem ok_X8_judge : fx_OKV mX8_judge 2 := ⟨⟨wc_X8_judge, wz_DrawerOfArms, ⟨by decide, by decide, by decide⟩, by decide⟩, wi_X8_judge, ws_X8_judge⟩
abbrev mX8_barToDay : fx_MD := (yX8_barToDay, cX8_barToDay, 4, (some .int))
theorem ok_X8_barToDay : fx_OKV mX8_barToDay 2 := ⟨⟨wc_X8_barToDay, wz_DrawerOfArms, ⟨by decide, by decide, by decide⟩, by decide⟩, wi_X8_barToDay, ws_X8_barToDay⟩
abbrev mX8_tellDay : fx_MD := (yX8_tellDay, cX8_tellDay, 8, (some .int))
theorem ok_X8_tellDay : fx_OKV mX8_tellDay 2 := ⟨⟨wc_X8_tellDay, wz_DrawerOfArms, ⟨by decide, by decide, by decide⟩, by decide⟩, wi_X8_tellDay, ws_X8_tellDay⟩
abbrev mX6_mendWith : fx_MD := (yX6_mendWith, cX6_mendWith, 4, none)
theorem ok_X6_mendWith : fx_OKV mX6_mendWith 3 := ⟨⟨wc_X6_mendWith, wz_DrawerOfArmsStock, ⟨by decide, by decide, by decide⟩, by decide⟩, wi_X6_mendWith, ws_X6_mendWith⟩
abbrev mX8_behind : fx_MD := (yX8_behind, cX8_behind, 5, (some .int))
theorem ok_X8_behind : fx_OKV mX8_behind 3 := ⟨⟨wc_X8_behind, wz_DrawerOfArms, ⟨by decide, by decide, by decide⟩, by decide⟩, wi_X8_behind, ws_X8_behind⟩
abbrev mX6_dollsWithBoth : fx_MD := (yX6_dollsWithBoth, cX6_dollsWithBoth, 3, (some .int))
theorem ok_X6_dollsWithBoth : fx_OKV mX6_dollsWithBoth 0 := ⟨⟨wc_X6_dollsWithBoth, wz_DrawerOfArmsStock, ⟨by decide, by decide, by decide⟩, by decide⟩, wi_X6_dollsWithBoth, ws_X6_dollsWithBoth⟩
abbrev mX6_unlikeOfAllOn : fx_MD := (yX6_unlikeOfAllOn, cX6_unlikeOfAllOn, 3, (some .int))
theorem ok_X6_unlikeOfAllOn : fx_OKV mX6_unlikeOfAllOn 0 := ⟨⟨wc_X6_unlikeOfAllOn, wz_DrawerOfArmsStock, ⟨by decide, by decide, by decide⟩, by decide⟩, wi_X6_unlikeOfAllOn, ws_X6_unlikeOfAllOn⟩
abbrev mX6_dollsHerself : fx_MD := (yX6_dollsHerself, cX6_dollsHerself, 3, (some .int))
theorem ok_X6_dollsHerself : fx_OKV mX6_dollsHerself 0 := ⟨⟨wc_X6_dollsHerself, wz_DrawerOfArmsStock, ⟨by decide, by decide, by decide⟩, by decide⟩, wi_X6_dollsHerself, ws_X6_dollsHerself⟩
abbrev mX8_done : fx_MD := (yX8_done, cX8_done, 4, (some .int))
theorem ok_X8_done : fx_OKV mX8_done 2 := ⟨⟨wc_X8_done, wz_DrawerOfArms, ⟨by decide, by decide, by decide⟩, by decide⟩, wi_X8_done, ws_X8_done⟩
abbrev mX8_mend : fx_MD := (yX8_mend, cX8_mend, 4, (some .int))
theorem ok_X8_mend : fx_OKV mX8_mend 3 := ⟨⟨wc_X8_mend, wz_DrawerOfArms, ⟨by decide, by decide, by decide⟩, by decide⟩, wi_X8_mend, ws_X8_mend⟩
abbrev mX8_off : fx_MD := (yX8_off, cX8_off, 3, (some .int))
theorem ok_X8_off : fx_OKV mX8_off 1 := ⟨⟨wc_X8_off, wz_DrawerOfArms, ⟨by decide, by decide, by decide⟩, by decide⟩, wi_X8_off, ws_X8_off⟩
abbrev mX8_days : fx_MD := (yX8_days, cX8_days, 3, (some .int))
theorem ok_X8_days : fx_OKV mX8_days 1 := ⟨⟨wc_X8_days, wz_DrawerOfArms, ⟨by decide, by decide, by decide⟩, by decide⟩, wi_X8_days, ws_X8_days⟩
abbrev mX6_passDay : fx_MD := (yX6_passDay, cX6_passDay, 4, none)
theorem ok_X6_passDay : fx_OKV mX6_passDay 0 := ⟨⟨wc_X6_passDay, wz_DrawerOfArmsStock, ⟨by decide, by decide, by decide⟩, by decide⟩, wi_X6_passDay, ws_X6_passDay⟩
abbrev mX6_drawBelow : fx_MD := (yX6_drawBelow, cX6_drawBelow, 2, (some .int))
theorem ok_X6_drawBelow : fx_OKV mX6_drawBelow 1 := ⟨⟨wc_X6_drawBelow, wz_DrawerOfArmsStock, ⟨by decide, by decide, by decide⟩, by decide⟩, wi_X6_drawBelow, ws_X6_drawBelow⟩
abbrev mX8_seed : fx_MD := (yX8_seed, cX8_seed, 3, (some .int))
theorem ok_X8_seed : fx_OKV mX8_seed 1 := ⟨⟨wc_X8_seed, wz_DrawerOfArms, ⟨by decide, by decide, by decide⟩, by decide⟩, wi_X8_seed, ws_X8_seed⟩
abbrev mX8_act : fx_MD := (yX8_act, cX8_act, 4, (some .int))
theorem ok_X8_act : fx_OKV mX8_act 3 := ⟨⟨wc_X8_act, wz_DrawerOfArms, ⟨by decide, by decide, by decide⟩, by decide⟩, wi_X8_act, ws_X8_act⟩
abbrev mX2_forget : fx_MD := (yX2_forget, cX2_forget, 1, none)
theorem ok_X2_forget : fx_OKV mX2_forget 0 := ⟨⟨wc_X2_forget, wz_DrawerOfArmsMoves, ⟨by decide, by decide, by decide⟩, by decide⟩, wi_X2_forget, ws_X2_forget⟩
abbrev mX2_make : fx_MD := (yX2_make, cX2_make, 5, (some .int))
theorem ok_X2_make : fx_OKV mX2_make 4 := ⟨⟨wc_X2_make, wz_DrawerOfArmsMoves, ⟨by decide, by decide, by decide⟩, by decide⟩, wi_X2_make, ws_X2_make⟩
abbrev mX2_run : fx_MD := (yX2_run, cX2_run, 8, (some .int))
theorem ok_X2_run : fx_OKV mX2_run 4 := ⟨⟨wc_X2_run, wz_DrawerOfArmsMoves, ⟨by decide, by decide, by decide⟩, by decide⟩, wi_X2_run, ws_X2_run⟩
abbrev mX2_bodyOf : fx_MD := (yX2_bodyOf, cX2_bodyOf, 3, (some .int))
theorem ok_X2_bodyOf : fx_OKS mX2_bodyOf 2 := ⟨⟨wc_X2_bodyOf, wz_DrawerOfArmsMoves, ⟨by decide, by decide, by decide⟩, by decide⟩, wt_X2_bodyOf⟩
abbrev mX2_note : fx_MD := (yX2_note, cX2_note, 2, none)
theorem ok_X2_note : fx_OKV mX2_note 1 := ⟨⟨wc_X2_note, wz_DrawerOfArmsMoves, ⟨by decide, by decide, by decide⟩, by decide⟩, wi_X2_note, ws_X2_note⟩
abbrev mX2_outcome : fx_MD := (yX2_outcome, cX2_outcome, 5, (some .int))
theorem ok_X2_outcome : fx_OKV mX2_outcome 4 := ⟨⟨wc_X2_outcome, wz_DrawerOfArmsMoves, ⟨by decide, by decide, by decide⟩, by decide⟩, wi_X2_outcome, ws_X2_outcome⟩
abbrev mX8_trace : fx_MD := (yX8_trace, cX8_trace, 2, (some .int))
theorem ok_X8_trace : fx_OKV mX8_trace 1 := ⟨⟨wc_X8_trace, wz_DrawerOfArms, ⟨by decide, by decide, by decide⟩, by decide⟩, wi_X8_trace, ws_X8_trace⟩
abbrev mX2_bodyAt : fx_MD := (yX2_bodyAt, cX2_bodyAt, 2, (some .int))
theorem ok_X2_bodyAt : fx_OKV mX2_bodyAt 1 := ⟨⟨wc_X2_bodyAt, wz_DrawerOfArmsMoves, ⟨by decide, by decide, by decide⟩, by decide⟩, wi_X2_bodyAt, ws_X2_bodyAt⟩
abbrev mX8_image : fx_MD := (yX8_image, cX8_image, 1, (some .int))
theorem ok_X8_image : fx_OKV mX8_image 0 := ⟨⟨wc_X8_image, wz_DrawerOfArms, ⟨by decide, by decide, by decide⟩, by decide⟩, wi_X8_image, ws_X8_image⟩
abbrev mX8_restore : fx_MD := (yX8_restore, cX8_restore, 2, (some .int))
theorem ok_X8_restore : fx_OKV mX8_restore 0 := ⟨⟨wc_X8_restore, wz_DrawerOfArms, ⟨by decide, by decide, by decide⟩, by decide⟩, wi_X8_restore, ws_X8_restore⟩
abbrev mX5_dropArm : fx_MD := (yX5_dropArm, cX5_dropArm, 1, none)
theorem ok_X5_dropArm : fx_OKV mX5_dropArm 0 := ⟨⟨wc_X5_dropArm, wz_DrawerOfArmsShelf, ⟨by decide, by decide, by decide⟩, by decide⟩, wi_X5_dropArm, ws_X5_dropArm⟩
abbrev mX8_status : fx_MD := (yX8_status, cX8_status, 2, (some .int))
theorem ok_X8_status : fx_OKV mX8_status 1 := ⟨⟨wc_X8_status, wz_DrawerOfArms, ⟨by decide, by decide, by decide⟩, by decide⟩, wi_X8_status, ws_X8_status⟩
abbrev mX6_armsInDrawer : fx_MD := (yX6_armsInDrawer, cX6_armsInDrawer, 3, (some .int))
theorem ok_X6_armsInDrawer : fx_OKV mX6_armsInDrawer 0 := ⟨⟨wc_X6_armsInDrawer, wz_DrawerOfArmsStock, ⟨by decide, by decide, by decide⟩, by decide⟩, wi_X6_armsInDrawer, ws_X6_armsInDrawer⟩
abbrev mX9_init : fx_MD := (yX9_init, cX9_init, 1, none)
theorem ok_X9_init : fx_OKI mX9_init 0 := ⟨⟨wc_X9_init, wz_DrawerOfArmsModel, ⟨by decide, by decide, by decide⟩, by decide⟩, wi_X9_init, rfl, rfl⟩
abbrev mX9_row : fx_MD := (yX9_row, cX9_row, 5, (some .int))
theorem ok_X9_row : fx_OKV mX9_row 3 := ⟨⟨wc_X9_row, wz_DrawerOfArmsModel, ⟨by decide, by decide, by decide⟩, by decide⟩, wi_X9_row, ws_X9_row⟩
abbrev mX9_isShelf : fx_MD := (yX9_isShelf, cX9_isShelf, 2, (some .boolean))
theorem ok_X9_isShelf : fx_OKV mX9_isShelf 1 := ⟨⟨wc_X9_isShelf, wz_DrawerOfArmsModel, ⟨by decide, by decide, by decide⟩, by decide⟩, wi_X9_isShelf, ws_X9_isShelf⟩
abbrev mX9_no : fx_MD := (yX9_no, cX9_no, 2, (some .int))
theorem ok_X9_no : fx_OKV mX9_no 1 := ⟨⟨wc_X9_no, wz_DrawerOfArmsModel, ⟨by decide, by decide, by decide⟩, by decide⟩, wi_X9_no, ws_X9_no⟩
abbrev mX9_set : fx_MD := (yX9_set, cX9_set, 5, (some .int))
theorem ok_X9_set : fx_OKV mX9_set 3 := ⟨⟨wc_X9_set, wz_DrawerOfArmsModel, ⟨by decide, by decide, by decide⟩, by decide⟩, wi_X9_set, ws_X9_set⟩
abbrev mX9_copy : fx_MD := (yX9_copy, cX9_copy, 7, (some .int))
theorem ok_X9_copy : fx_OKV mX9_copy 5 := ⟨⟨wc_X9_copy, wz_DrawerOfArmsModel, ⟨by decide, by decide, by decide⟩, by decide⟩, wi_X9_copy, ws_X9_copy⟩
abbrev mX9_element : fx_MD := (yX9_element, cX9_element, 3, (some .long))
theorem ok_X9_element : fx_OKV mX9_element 2 := ⟨⟨wc_X9_element, wz_DrawerOfArmsModel, ⟨by decide, by decide, by decide⟩, by decide⟩, wi_X9_element, ws_X9_element⟩
abbrev mX9_show : fx_MD := (yX9_show, cX9_show, 3, (some .int))
theorem ok_X9_show : fx_OKV mX9_show 2 := ⟨⟨wc_X9_show, wz_DrawerOfArmsModel, ⟨by decide, by decide, by decide⟩, by decide⟩, wi_X9_show, ws_X9_show⟩
abbrev mX9_isArm : fx_MD := (yX9_isArm, cX9_isArm, 2, (some .boolean))
theorem ok_X9_isArm : fx_OKV mX9_isArm 1 := ⟨⟨wc_X9_isArm, wz_DrawerOfArmsModel, ⟨by decide, by decide, by decide⟩, by decide⟩, wi_X9_isArm, ws_X9_isArm⟩
abbrev mX9_holds : fx_MD := (yX9_holds, cX9_holds, 2, (some .int))
theorem ok_X9_holds : fx_OKV mX9_holds 1 := ⟨⟨wc_X9_holds, wz_DrawerOfArmsModel, ⟨by decide, by decide, by decide⟩, by decide⟩, wi_X9_holds, ws_X9_holds⟩
abbrev mX9_says : fx_MD := (yX9_says, cX9_says, 4, (some .int))
theorem ok_X9_says : fx_OKV mX9_says 2 := ⟨⟨wc_X9_says, wz_DrawerOfArmsModel, ⟨by decide, by decide, by decide⟩, by decide⟩, wi_X9_says, ws_X9_says⟩
abbrev mX9_isUnder : fx_MD := (yX9_isUnder, cX9_isUnder, 3, (some .boolean))
theorem ok_X9_isUnder : fx_OKV mX9_isUnder 2 := ⟨⟨wc_X9_isUnder, wz_DrawerOfArmsModel, ⟨by decide, by decide, by decide⟩, by decide⟩, wi_X9_isUnder, ws_X9_isUnder⟩
abbrev mX9_wearSeen : fx_MD := (yX9_wearSeen, cX9_wearSeen, 2, (some .int))
theorem ok_X9_wearSeen : fx_OKV mX9_wearSeen 1 := ⟨⟨wc_X9_wearSeen, wz_DrawerOfArmsModel, ⟨by decide, by decide, by decide⟩, by decide⟩, wi_X9_wearSeen, ws_X9_wearSeen⟩
abbrev mX9_nine : fx_MD := (yX9_nine, cX9_nine, 2, (some .int))
theorem ok_X9_nine : fx_OKV mX9_nine 1 := ⟨⟨wc_X9_nine, wz_DrawerOfArmsModel, ⟨by decide, by decide, by decide⟩, by decide⟩, wi_X9_nine, ws_X9_nine⟩
abbrev mX9_shadeSeen : fx_MD := (yX9_shadeSeen, cX9_shadeSeen, 2, (some .int))
theorem ok_X9_shadeSeen : fx_OKV mX9_shadeSeen 1 := ⟨⟨wc_X9_shadeSeen, wz_DrawerOfArmsModel, ⟨by decide, by decide, by decide⟩, by decide⟩, wi_X9_shadeSeen, ws_X9_shadeSeen⟩
abbrev mX9_arm : fx_MD := (yX9_arm, cX9_arm, 7, (some .int))
theorem ok_X9_arm : fx_OKV mX9_arm 6 := ⟨⟨wc_X9_arm, wz_DrawerOfArmsModel, ⟨by decide, by decide, by decide⟩, by decide⟩, wi_X9_arm, ws_X9_arm⟩
abbrev mX9_isNine : fx_MD := (yX9_isNine, cX9_isNine, 2, (some .boolean))
theorem ok_X9_isNine : fx_OKV mX9_isNine 1 := ⟨⟨wc_X9_isNine, wz_DrawerOfArmsModel, ⟨by decide, by decide, by decide⟩, by decide⟩, wi_X9_isNine, ws_X9_isNine⟩
abbrev mX9_isFrom : fx_MD := (yX9_isFrom, cX9_isFrom, 4, (some .boolean))
theorem ok_X9_isFrom : fx_OKV mX9_isFrom 3 := ⟨⟨wc_X9_isFrom, wz_DrawerOfArmsModel, ⟨by decide, by decide, by decide⟩, by decide⟩, wi_X9_isFrom, ws_X9_isFrom⟩
abbrev mX9_addsArm : fx_MD := (yX9_addsArm, cX9_addsArm, 7, (some .int))
theorem ok_X9_addsArm : fx_OKV mX9_addsArm 6 := ⟨⟨wc_X9_addsArm, wz_DrawerOfArmsModel, ⟨by decide, by decide, by decide⟩, by decide⟩, wi_X9_addsArm, ws_X9_addsArm⟩
abbrev mX9_doll : fx_MD := (yX9_doll, cX9_doll, 8, (some .int))
theorem ok_X9_doll : fx_OKV mX9_doll 7 := ⟨⟨wc_X9_doll, wz_DrawerOfArmsModel, ⟨by decide, by decide, by decide⟩, by decide⟩, wi_X9_doll, ws_X9_doll⟩
abbrev mX9_addsDoll : fx_MD := (yX9_addsDoll, cX9_addsDoll, 8, (some .int))
theorem ok_X9_addsDoll : fx_OKV mX9_addsDoll 7 := ⟨⟨wc_X9_addsDoll, wz_DrawerOfArmsModel, ⟨by decide, by decide, by decide⟩, by decide⟩, wi_X9_addsDoll, ws_X9_addsDoll⟩
abbrev mX9_dye : fx_MD := (yX9_dye, cX9_dye, 5, (some .int))
theorem ok_X9_dye : fx_OKV mX9_dye 3 := ⟨⟨wc_X9_dye, wz_DrawerOfArmsModel, ⟨by decide, by decide, by decide⟩, by decide⟩, wi_X9_dye, ws_X9_dye⟩
abbrev mX9_tell : fx_MD := (yX9_tell, cX9_tell, 6, (some .int))
theorem ok_X9_tell : fx_OKV mX9_tell 3 := ⟨⟨wc_X9_tell, wz_DrawerOfArmsModel, ⟨by decide, by decide, by decide⟩, by decide⟩, wi_X9_tell, ws_X9_tell⟩
abbrev mX9_isDoll : fx_MD := (yX9_isDoll, cX9_isDoll, 2, (some .boolean))
theorem ok_X9_isDoll : fx_OKV mX9_isDoll 1 := ⟨⟨wc_X9_isDoll, wz_DrawerOfArmsModel, ⟨by decide, by decide, by decide⟩, by decide⟩, wi_X9_isDoll, ws_X9_isDoll⟩
abbrev mX9_armOf : fx_MD := (yX9_armOf, cX9_armOf, 3, (some .int))
theorem ok_X9_armOf : fx_OKV mX9_armOf 2 := ⟨⟨wc_X9_armOf, wz_DrawerOfArmsModel, ⟨by decide, by decide, by decide⟩, by decide⟩, wi_X9_armOf, ws_X9_armOf⟩
abbrev mX9_dollOf : fx_MD := (yX9_dollOf, cX9_dollOf, 3, (some .int))
theorem ok_X9_dollOf : fx_OKV mX9_dollOf 2 := ⟨⟨wc_X9_dollOf, wz_DrawerOfArmsModel, ⟨by decide, by decide, by decide⟩, by decide⟩, wi_X9_dollOf, ws_X9_dollOf⟩
abbrev mX9_isHer : fx_MD := (yX9_isHer, cX9_isHer, 2, (some .boolean))
theorem ok_X9_isHer : fx_OKV mX9_isHer 1 := ⟨⟨wc_X9_isHer, wz_DrawerOfArmsModel, ⟨by decide, by decide, by decide⟩, by decide⟩, wi_X9_isHer, ws_X9_isHer⟩
abbrev mX9_unlikeOn : fx_MD := (yX9_unlikeOn, cX9_unlikeOn, 4, (some .int))
theorem ok_X9_unlikeOn : fx_OKV mX9_unlikeOn 1 := ⟨⟨wc_X9_unlikeOn, wz_DrawerOfArmsModel, ⟨by decide, by decide, by decide⟩, by decide⟩, wi_X9_unlikeOn, ws_X9_unlikeOn⟩
abbrev mX9_armOn : fx_MD := (yX9_armOn, cX9_armOn, 4, (some .int))
theorem ok_X9_armOn : fx_OKV mX9_armOn 2 := ⟨⟨wc_X9_armOn, wz_DrawerOfArmsModel, ⟨by decide, by decide, by decide⟩, by decide⟩, wi_X9_armOn, ws_X9_armOn⟩
abbrev mX9_differs : fx_MD := (yX9_differs, cX9_differs, 4, (some .int))
theorem ok_X9_differs : fx_OKV mX9_differs 2 := ⟨⟨wc_X9_differs, wz_DrawerOfArmsModel, ⟨by decide, by decide, by decide⟩, by decide⟩, wi_X9_differs, ws_X9_differs⟩
abbrev mX9_apart : fx_MD := (yX9_apart, cX9_apart, 3, (some .int))
theorem ok_X9_apart : fx_OKV mX9_apart 2 := ⟨⟨wc_X9_apart, wz_DrawerOfArmsModel, ⟨by decide, by decide, by decide⟩, by decide⟩, wi_X9_apart, ws_X9_apart⟩
abbrev mX9_on : fx_MD := (yX9_on, cX9_on, 3, (some .int))
theorem ok_X9_on : fx_OKV mX9_on 2 := ⟨⟨wc_X9_on, wz_DrawerOfArmsModel, ⟨by decide, by decide, by decide⟩, by decide⟩, wi_X9_on, ws_X9_on⟩
abbrev mX9_noTen : fx_MD := (yX9_noTen, cX9_noTen, 2, (some .int))
theorem ok_X9_noTen : fx_OKV mX9_noTen 1 := ⟨⟨wc_X9_noTen, wz_DrawerOfArmsModel, ⟨by decide, by decide, by decide⟩, by decide⟩, wi_X9_noTen, ws_X9_noTen⟩
abbrev mX9_shop : fx_MD := (yX9_shop, cX9_shop, 5, (some .int))
theorem ok_X9_shop : fx_OKV mX9_shop 1 := ⟨⟨wc_X9_shop, wz_DrawerOfArmsModel, ⟨by decide, by decide, by decide⟩, by decide⟩, wi_X9_shop, ws_X9_shop⟩
abbrev mX9_wanted : fx_MD := (yX9_wanted, cX9_wanted, 2, (some .int))
theorem ok_X9_wanted : fx_OKV mX9_wanted 1 := ⟨⟨wc_X9_wanted, wz_DrawerOfArmsModel, ⟨by decide, by decide, by decide⟩, by decide⟩, wi_X9_wanted, ws_X9_wanted⟩
abbrev mX9_all : fx_MD := (yX9_all, cX9_all, 4, none)
theorem ok_X9_all : fx_OKV mX9_all 2 := ⟨⟨wc_X9_all, wz_DrawerOfArmsModel, ⟨by decide, by decide, by decide⟩, by decide⟩, wi_X9_all, ws_X9_all⟩
abbrev mX9_carries : fx_MD := (yX9_carries, cX9_carries, 7, (some .int))
theorem ok_X9_carries : fx_OKV mX9_carries 5 := ⟨⟨wc_X9_carries, wz_DrawerOfArmsModel, ⟨by decide, by decide, by decide⟩, by decide⟩, wi_X9_carries, ws_X9_carries⟩
abbrev mX9_item : fx_MD := (yX9_item, cX9_item, 4, (some .boolean))
theorem ok_X9_item : fx_OKV mX9_item 0 := ⟨⟨wc_X9_item, wz_DrawerOfArmsModel, ⟨by decide, by decide, by decide⟩, by decide⟩, wi_X9_item, ws_X9_item⟩
abbrev mX9_stands : fx_MD := (yX9_stands, cX9_stands, 4, (some .boolean))
theorem ok_X9_stands : fx_OKV mX9_stands 1 := ⟨⟨wc_X9_stands, wz_DrawerOfArmsModel, ⟨by decide, by decide, by decide⟩, by decide⟩, wi_X9_stands, ws_X9_stands⟩
abbrev mX9_wrong : fx_MD := (yX9_wrong, cX9_wrong, 2, (some .boolean))
theorem ok_X9_wrong : fx_OKV mX9_wrong 1 := ⟨⟨wc_X9_wrong, wz_DrawerOfArmsModel, ⟨by decide, by decide, by decide⟩, by decide⟩, wi_X9_wrong, ws_X9_wrong⟩
abbrev mX9_word : fx_MD := (yX9_word, cX9_word, 6, (some .int))
theorem ok_X9_word : fx_OKV mX9_word 0 := ⟨⟨wc_X9_word, wz_DrawerOfArmsModel, ⟨by decide, by decide, by decide⟩, by decide⟩, wi_X9_word, ws_X9_word⟩
abbrev mX9_reads : fx_MD := (yX9_reads, cX9_reads, 2, (some .boolean))
theorem ok_X9_reads : fx_OKV mX9_reads 0 := ⟨⟨wc_X9_reads, wz_DrawerOfArmsModel, ⟨by decide, by decide, by decide⟩, by decide⟩, wi_X9_reads, ws_X9_reads⟩
abbrev mX9_isDigit : fx_MD := (yX9_isDigit, cX9_isDigit, 1, (some .boolean))
theorem ok_X9_isDigit : fx_OKV mX9_isDigit 0 := ⟨⟨wc_X9_isDigit, wz_DrawerOfArmsModel, ⟨by decide, by decide, by decide⟩, by decide⟩, wi_X9_isDigit, ws_X9_isDigit⟩
abbrev mX9_isSo : fx_MD := (yX9_isSo, cX9_isSo, 3, (some .boolean))
theorem ok_X9_isSo : fx_OKV mX9_isSo 2 := ⟨⟨wc_X9_isSo, wz_DrawerOfArmsModel, ⟨by decide, by decide, by decide⟩, by decide⟩, wi_X9_isSo, ws_X9_isSo⟩
abbrev mX9_isFit : fx_MD := (yX9_isFit, cX9_isFit, 4, (some .boolean))
theorem ok_X9_isFit : fx_OKV mX9_isFit 3 := ⟨⟨wc_X9_isFit, wz_DrawerOfArmsModel, ⟨by decide, by decide, by decide⟩, by decide⟩, wi_X9_isFit, ws_X9_isFit⟩
abbrev mX9_fault : fx_MD := (yX9_fault, cX9_fault, 1, (some .int))
theorem ok_X9_fault : fx_OKV mX9_fault 0 := ⟨⟨wc_X9_fault, wz_DrawerOfArmsModel, ⟨by decide, by decide, by decide⟩, by decide⟩, wi_X9_fault, ws_X9_fault⟩
abbrev mX9_fits : fx_MD := (yX9_fits, cX9_fits, 4, (some .int))
theorem ok_X9_fits : fx_OKV mX9_fits 3 := ⟨⟨wc_X9_fits, wz_DrawerOfArmsModel, ⟨by decide, by decide, by decide⟩, by decide⟩, wi_X9_fits, ws_X9_fits⟩
abbrev mX9_unlike : fx_MD := (yX9_unlike, cX9_unlike, 3, (some .int))
theorem ok_X9_unlike : fx_OKV mX9_unlike 2 := ⟨⟨wc_X9_unlike, wz_DrawerOfArmsModel, ⟨by decide, by decide, by decide⟩, by decide⟩, wi_X9_unlike, ws_X9_unlike⟩
abbrev mX9_may : fx_MD := (yX9_may, cX9_may, 3, (some .int))
theorem ok_X9_may : fx_OKV mX9_may 2 := ⟨⟨wc_X9_may, wz_DrawerOfArmsModel, ⟨by decide, by decide, by decide⟩, by decide⟩, wi_X9_may, ws_X9_may⟩
abbrev mX9_mayBe : fx_MD := (yX9_mayBe, cX9_mayBe, 5, (some .int))
theorem ok_X9_mayBe : fx_OKV mX9_mayBe 2 := ⟨⟨wc_X9_mayBe, wz_DrawerOfArmsModel, ⟨by decide, by decide, by decide⟩, by decide⟩, wi_X9_mayBe, ws_X9_mayBe⟩
abbrev mX9_best : fx_MD := (yX9_best, cX9_best, 6, (some .int))
theorem ok_X9_best : fx_OKV mX9_best 2 := ⟨⟨wc_X9_best, wz_DrawerOfArmsModel, ⟨by decide, by decide, by decide⟩, by decide⟩, wi_X9_best, ws_X9_best⟩
abbrev mX9_whole : fx_MD := (yX9_whole, cX9_whole, 4, (some .int))
theorem ok_X9_whole : fx_OKV mX9_whole 1 := ⟨⟨wc_X9_whole, wz_DrawerOfArmsModel, ⟨by decide, by decide, by decide⟩, by decide⟩, wi_X9_whole, ws_X9_whole⟩
abbrev mX9_parts : fx_MD := (yX9_parts, cX9_parts, 6, none)
theorem ok_X9_parts : fx_OKV mX9_parts 0 := ⟨⟨wc_X9_parts, wz_DrawerOfArmsModel, ⟨by decide, by decide, by decide⟩, by decide⟩, wi_X9_parts, ws_X9_parts⟩
abbrev mX9_goodFrom : fx_MD := (yX9_goodFrom, cX9_goodFrom, 3, (some .int))
theorem ok_X9_goodFrom : fx_OKV mX9_goodFrom 2 := ⟨⟨wc_X9_goodFrom, wz_DrawerOfArmsModel, ⟨by decide, by decide, by decide⟩, by decide⟩, wi_X9_goodFrom, ws_X9_goodFrom⟩
abbrev mX9_filled : fx_MD := (yX9_filled, cX9_filled, 2, (some .int))
theorem ok_X9_filled : fx_OKV mX9_filled 1 := ⟨⟨wc_X9_filled, wz_DrawerOfArmsModel, ⟨by decide, by decide, by decide⟩, by decide⟩, wi_X9_filled, ws_X9_filled⟩
abbrev mX9_given : fx_MD := (yX9_given, cX9_given, 6, (some .int))
theorem ok_X9_given : fx_OKV mX9_given 1 := ⟨⟨wc_X9_given, wz_DrawerOfArmsModel, ⟨by decide, by decide, by decide⟩, by decide⟩, wi_X9_given, ws_X9_given⟩
abbrev mX9_cast : fx_MD := (yX9_cast, cX9_cast, 5, (some .int))
theorem ok_X9_cast : fx_OKV mX9_cast 0 := ⟨⟨wc_X9_cast, wz_DrawerOfArmsModel, ⟨by decide, by decide, by decide⟩, by decide⟩, wi_X9_cast, ws_X9_cast⟩
abbrev mX9_tea : fx_MD := (yX9_tea, cX9_tea, 8, (some .int))
theorem ok_X9_tea : fx_OKV mX9_tea 2 := ⟨⟨wc_X9_tea, wz_DrawerOfArmsModel, ⟨by decide, by decide, by decide⟩, by decide⟩, wi_X9_tea, ws_X9_tea⟩
abbrev mX9_comes : fx_MD := (yX9_comes, cX9_comes, 3, (some .int))
theorem ok_X9_comes : fx_OKV mX9_comes 2 := ⟨⟨wc_X9_comes, wz_DrawerOfArmsModel, ⟨by decide, by decide, by decide⟩, by decide⟩, wi_X9_comes, ws_X9_comes⟩
abbrev mX9_queue : fx_MD := (yX9_queue, cX9_queue, 2, (some .int))
theorem ok_X9_queue : fx_OKV mX9_queue 1 := ⟨⟨wc_X9_queue, wz_DrawerOfArmsModel, ⟨by decide, by decide, by decide⟩, by decide⟩, wi_X9_queue, ws_X9_queue⟩
abbrev mX9_queues : fx_MD := (yX9_queues, cX9_queues, 6, none)
theorem ok_X9_queues : fx_OKV mX9_queues 4 := ⟨⟨wc_X9_queues, wz_DrawerOfArmsModel, ⟨by decide, by decide, by decide⟩, by decide⟩, wi_X9_queues, ws_X9_queues⟩
abbrev mX9_feast : fx_MD := (yX9_feast, cX9_feast, 5, (some .int))
theorem ok_X9_feast : fx_OKV mX9_feast 2 := ⟨⟨wc_X9_feast, wz_DrawerOfArmsModel, ⟨by decide, by decide, by decide⟩, by decide⟩, wi_X9_feast, ws_X9_feast⟩
abbrev mX9_sumOf : fx_MD := (yX9_sumOf, cX9_sumOf, 5, (some .int))
theorem ok_X9_sumOf : fx_OKV mX9_sumOf 2 := ⟨⟨wc_X9_sumOf, wz_DrawerOfArmsModel, ⟨by decide, by decide, by decide⟩, by decide⟩, wi_X9_sumOf, ws_X9_sumOf⟩
abbrev mX9_looks : fx_MD := (yX9_looks, cX9_looks, 10, (some .int))
theorem ok_X9_looks : fx_OKV mX9_looks 3 := ⟨⟨wc_X9_looks, wz_DrawerOfArmsModel, ⟨by decide, by decide, by decide⟩, by decide⟩, wi_X9_looks, ws_X9_looks⟩
abbrev mX9_intAt : fx_MD := (yX9_intAt, cX9_intAt, 3, (some .int))
theorem ok_X9_intAt : fx_OKV mX9_intAt 2 := ⟨⟨wc_X9_intAt, wz_DrawerOfArmsModel, ⟨by decide, by decide, by decide⟩, by decide⟩, wi_X9_intAt, ws_X9_intAt⟩
abbrev mX9_dearest : fx_MD := (yX9_dearest, cX9_dearest, 2, (some .int))
theorem ok_X9_dearest : fx_OKV mX9_dearest 1 := ⟨⟨wc_X9_dearest, wz_DrawerOfArmsModel, ⟨by decide, by decide, by decide⟩, by decide⟩, wi_X9_dearest, ws_X9_dearest⟩
abbrev mX9_dearestOf : fx_MD := (yX9_dearestOf, cX9_dearestOf, 4, (some .int))
theorem ok_X9_dearestOf : fx_OKV mX9_dearestOf 0 := ⟨⟨wc_X9_dearestOf, wz_DrawerOfArmsModel, ⟨by decide, by decide, by decide⟩, by decide⟩, wi_X9_dearestOf, ws_X9_dearestOf⟩
abbrev mX9_swapOf : fx_MD := (yX9_swapOf, cX9_swapOf, 9, (some .int))
theorem ok_X9_swapOf : fx_OKV mX9_swapOf 0 := ⟨⟨wc_X9_swapOf, wz_DrawerOfArmsModel, ⟨by decide, by decide, by decide⟩, by decide⟩, wi_X9_swapOf, ws_X9_swapOf⟩
abbrev mX9_judge : fx_MD := (yX9_judge, cX9_judge, 5, (some .int))
theorem ok_X9_judge : fx_OKV mX9_judge 2 := ⟨⟨wc_X9_judge, wz_DrawerOfArmsModel, ⟨by decide, by decide, by decide⟩, by decide⟩, wi_X9_judge, ws_X9_judge⟩
abbrev mX9_barsOf : fx_MD := (yX9_barsOf, cX9_barsOf, 4, (some .int))
theorem ok_X9_barsOf : fx_OKV mX9_barsOf 2 := ⟨⟨wc_X9_barsOf, wz_DrawerOfArmsModel, ⟨by decide, by decide, by decide⟩, by decide⟩, wi_X9_barsOf, ws_X9_barsOf⟩
abbrev mX9_goes : fx_MD := (yX9_goes, cX9_goes, 6, (some .int))
theorem ok_X9_goes : fx_OKV mX9_goes 2 := ⟨⟨wc_X9_goes, wz_DrawerOfArmsModel, ⟨by decide, by decide, by decide⟩, by decide⟩, wi_X9_goes, ws_X9_goes⟩
abbrev mX9_isMend : fx_MD := (yX9_isMend, cX9_isMend, 4, (some .boolean))
theorem ok_X9_isMend : fx_OKV mX9_isMend 3 := ⟨⟨wc_X9_isMend, wz_DrawerOfArmsModel, ⟨by decide, by decide, by decide⟩, by decide⟩, wi_X9_isMend, ws_X9_isMend⟩
abbrev mX9_mends : fx_MD := (yX9_mends, cX9_mends, 4, none)
theorem ok_X9_mends : fx_OKV mX9_mends 3 := ⟨⟨wc_X9_mends, wz_DrawerOfArmsModel, ⟨by decide, by decide, by decide⟩, by decide⟩, wi_X9_mends, ws_X9_mends⟩
abbrev mX9_behind : fx_MD := (yX9_behind, cX9_behind, 7, (some .int))
theorem ok_X9_behind : fx_OKV mX9_behind 3 := ⟨⟨wc_X9_behind, wz_DrawerOfArmsModel, ⟨by decide, by decide, by decide⟩, by decide⟩, wi_X9_behind, ws_X9_behind⟩
abbrev mX9_then : fx_MD := (yX9_then, cX9_then, 4, (some .int))
theorem ok_X9_then : fx_OKV mX9_then 1 := ⟨⟨wc_X9_then, wz_DrawerOfArmsModel, ⟨by decide, by decide, by decide⟩, by decide⟩, wi_X9_then, ws_X9_then⟩
abbrev mX9_withBoth : fx_MD := (yX9_withBoth, cX9_withBoth, 3, (some .int))
theorem ok_X9_withBoth : fx_OKV mX9_withBoth 0 := ⟨⟨wc_X9_withBoth, wz_DrawerOfArmsModel, ⟨by decide, by decide, by decide⟩, by decide⟩, wi_X9_withBoth, ws_X9_withBoth⟩
abbrev mX9_done : fx_MD := (yX9_done, cX9_done, 4, (some .int))
theorem ok_X9_done : fx_OKV mX9_done 2 := ⟨⟨wc_X9_done, wz_DrawerOfArmsModel, ⟨by decide, by decide, by decide⟩, by decide⟩, wi_X9_done, ws_X9_done⟩
abbrev mX9_mend : fx_MD := (yX9_mend, cX9_mend, 4, (some .int))
theorem ok_X9_mend : fx_OKV mX9_mend 3 := ⟨⟨wc_X9_mend, wz_DrawerOfArmsModel, ⟨by decide, by decide, by decide⟩, by decide⟩, wi_X9_mend, ws_X9_mend⟩
abbrev mX9_off : fx_MD := (yX9_off, cX9_off, 3, (some .int))
theorem ok_X9_off : fx_OKV mX9_off 1 := ⟨⟨wc_X9_off, wz_DrawerOfArmsModel, ⟨by decide, by decide, by decide⟩, by decide⟩, wi_X9_off, ws_X9_off⟩
abbrev mX9_days : fx_MD := (yX9_days, cX9_days, 6, (some .int))
theorem ok_X9_days : fx_OKV mX9_days 1 := ⟨⟨wc_X9_days, wz_DrawerOfArmsModel, ⟨by decide, by decide, by decide⟩, by decide⟩, wi_X9_days, ws_X9_days⟩
abbrev mX9_draw : fx_MD := (yX9_draw, cX9_draw, 2, (some .int))
theorem ok_X9_draw : fx_OKV mX9_draw 1 := ⟨⟨wc_X9_draw, wz_DrawerOfArmsModel, ⟨by decide, by decide, by decide⟩, by decide⟩, wi_X9_draw, ws_X9_draw⟩
abbrev mX9_seed : fx_MD := (yX9_seed, cX9_seed, 3, (some .int))
theorem ok_X9_seed : fx_OKV mX9_seed 1 := ⟨⟨wc_X9_seed, wz_DrawerOfArmsModel, ⟨by decide, by decide, by decide⟩, by decide⟩, wi_X9_seed, ws_X9_seed⟩
abbrev mX9_act : fx_MD := (yX9_act, cX9_act, 4, (some .int))
theorem ok_X9_act : fx_OKV mX9_act 3 := ⟨⟨wc_X9_act, wz_DrawerOfArmsModel, ⟨by decide, by decide, by decide⟩, by decide⟩, wi_X9_act, ws_X9_act⟩
abbrev mX9_bending : fx_MD := (yX9_bending, cX9_bending, 8, (some .int))
theorem ok_X9_bending : fx_OKV mX9_bending 2 := ⟨⟨wc_X9_bending, wz_DrawerOfArmsModel, ⟨by decide, by decide, by decide⟩, by decide⟩, wi_X9_bending, ws_X9_bending⟩
abbrev mX9_body : fx_MD := (yX9_body, cX9_body, 2, none)
theorem ok_X9_body : fx_OKV mX9_body 1 := ⟨⟨wc_X9_body, wz_DrawerOfArmsModel, ⟨by decide, by decide, by decide⟩, by decide⟩, wi_X9_body, ws_X9_body⟩
abbrev mX9_waving : fx_MD := (yX9_waving, cX9_waving, 7, (some .int))
theorem ok_X9_waving : fx_OKV mX9_waving 2 := ⟨⟨wc_X9_waving, wz_DrawerOfArmsModel, ⟨by decide, by decide, by decide⟩, by decide⟩, wi_X9_waving, ws_X9_waving⟩
abbrev mX9_dropping : fx_MD := (yX9_dropping, cX9_dropping, 5, (some .int))
theorem ok_X9_dropping : fx_OKV mX9_dropping 2 := ⟨⟨wc_X9_dropping, wz_DrawerOfArmsModel, ⟨by decide, by decide, by decide⟩, by decide⟩, wi_X9_dropping, ws_X9_dropping⟩
abbrev mX9_trace : fx_MD := (yX9_trace, cX9_trace, 2, (some .int))
theorem ok_X9_trace : fx_OKV mX9_trace 1 := ⟨⟨wc_X9_trace, wz_DrawerOfArmsModel, ⟨by decide, by decide, by decide⟩, by decide⟩, wi_X9_trace, ws_X9_trace⟩
abbrev mX9_image : fx_MD := (yX9_image, cX9_image, 1, (some .int))
theorem ok_X9_image : fx_OKV mX9_image 0 := ⟨⟨wc_X9_image, wz_DrawerOfArmsModel, ⟨by decide, by decide, by decide⟩, by decide⟩, wi_X9_image, ws_X9_image⟩
abbrev mX9_restore : fx_MD := (yX9_restore, cX9_restore, 2, (some .int))
theorem ok_X9_restore : fx_OKV mX9_restore 0 := ⟨⟨wc_X9_restore, wz_DrawerOfArmsModel, ⟨by decide, by decide, by decide⟩, by decide⟩, wi_X9_restore, ws_X9_restore⟩
abbrev mX9_status : fx_MD := (yX9_status, cX9_status, 2, (some .int))
theorem ok_X9_status : fx_OKV mX9_status 1 := ⟨⟨wc_X9_status, wz_DrawerOfArmsModel, ⟨by decide, by decide, by decide⟩, by decide⟩, wi_X9_status, ws_X9_status⟩
abbrev mX9_inDrawer : fx_MD := (yX9_inDrawer, cX9_inDrawer, 3, (some .int))
theorem ok_X9_inDrawer : fx_OKV mX9_inDrawer 0 := ⟨⟨wc_X9_inDrawer, wz_DrawerOfArmsModel, ⟨by decide, by decide, by decide⟩, by decide⟩, wi_X9_inDrawer, ws_X9_inDrawer⟩
theorem ff_X0_15 : fx_F RX0 15 0 0 (tyX0 0) false := ⟨RX0, TX0, 7, tyX0, fx_cl0, by decide, wf_X0_15, rfl, rfl⟩
theorem ff_X2_26 : fx_F RX2 26 0 0 (tyX0 0) false := ⟨RX0, TX0, 7, tyX0, fx_cl0, by decide, wf_X2_26, rfl, rfl⟩
theorem ff_X0_18 : fx_F RX0 18 0 1 (tyX0 1) false := ⟨RX0, TX0, 7, tyX0, fx_cl0, by decide, wf_X0_18, rfl, rfl⟩
theorem ff_X2_57 : fx_F RX2 57 0 1 (tyX0 1) false := ⟨RX0, TX0, 7, tyX0, fx_cl0, by decide, wf_X2_57, rfl, rfl⟩
theorem ff_X0_21 : fx_F RX0 21 0 2 (tyX0 2) false := ⟨RX0, TX0, 7, tyX0, fx_cl0, by decide, wf_X0_21, rfl, rfl⟩
theorem ff_X4_141 : fx_F RX4 141 0 2 (tyX0 2) false := ⟨RX0, TX0, 7, tyX0, fx_cl0, by decide, wf_X4_141, rfl, rfl⟩
theorem ff_X0_24 : fx_F RX0 24 0 3 (tyX0 3) false := ⟨RX0, TX0, 7, tyX0, fx_cl0, by decide, wf_X0_24, rfl, rfl⟩
theorem ff_X0_27 : fx_F RX0 27 0 4 (tyX0 4) false := ⟨RX0, TX0, 7, tyX0, fx_cl0, by decide, wf_X0_27, rfl, rfl⟩
theorem ff_X8_168 : fx_F RX8 168 0 4 (tyX0 4) false := ⟨RX0, TX0, 7, tyX0, fx_cl0, by decide, wf_X8_168, rfl, rfl⟩
theorem ff_X0_30 : fx_F RX0 30 0 5 (tyX0 5) false := ⟨RX0, TX0, 7, tyX0, fx_cl0, by decide, wf_X0_30, rfl, rfl⟩
theorem ff_X8_171 : fx_F RX8 171 0 5 (tyX0 5) false := ⟨RX0, TX0, 7, tyX0, fx_cl0, by decide, wf_X8_171, rfl, rfl⟩
theorem ff_X0_11 : fx_F RX0 11 0 6 (tyX0 6) false := ⟨RX0, TX0, 7, tyX0, fx_cl0, by decide, wf_X0_11, rfl, rfl⟩
theorem ff_X6_110 : fx_F RX6 110 0 6 (tyX0 6) false := ⟨RX0, TX0, 7, tyX0, fx_cl0, by decide, wf_X6_110, rfl, rfl⟩
theorem ff_X8_313 : fx_F RX8 313 0 6 (tyX0 6) false := ⟨RX0, TX0, 7, tyX0, fx_cl0, by decide, wf_X8_313, rfl, rfl⟩
theorem ff_X1_9 : fx_F RX1 9 1 0 (tyX1 0) false := ⟨RX1, TX1, 8, tyX1, fx_cl1, by decide, wf_X1_9, rfl, rfl⟩
theorem ff_X0_57 : fx_F RX0 57 1 0 (tyX1 0) false := ⟨RX1, TX1, 8, tyX1, fx_cl1, by decide, wf_X0_57, rfl, rfl⟩
theorem ff_X1_15 : fx_F RX1 15 1 1 (tyX1 1) false := ⟨RX1, TX1, 8, tyX1, fx_cl1, by decide, wf_X1_15, rfl, rfl⟩
theorem ff_X0_70 : fx_F RX0 70 1 1 (tyX1 1) false := ⟨RX1, TX1, 8, tyX1, fx_cl1, by decide, wf_X0_70, rfl, rfl⟩
theorem ff_X1_18 : fx_F RX1 18 1 2 (tyX1 2) false := ⟨RX1, TX1, 8, tyX1, fx_cl1, by decide, wf_X1_18, rfl, rfl⟩
theorem ff_X0_71 : fx_F RX0 71 1 2 (tyX1 2) false := ⟨RX1, TX1, 8, tyX1, fx_cl1, by decide, wf_X0_71, rfl, rfl⟩
theorem ff_X1_21 : fx_F RX1 21 1 3 (tyX1 3) false := ⟨RX1, TX1, 8, tyX1, fx_cl1, by decide, wf_X1_21, rfl, rfl⟩
theorem ff_X0_67 : fx_F RX0 67 1 3 (tyX1 3) false := ⟨RX1, TX1, 8, tyX1, fx_cl1, by decide, wf_X0_67, rfl, rfl⟩
theorem ff_X1_24 : fx_F RX1 24 1 4 (tyX1 4) false := ⟨RX1, TX1, 8, tyX1, fx_cl1, by decide, wf_X1_24, rfl, rfl⟩
theorem ff_X7_41 : fx_F RX7 41 1 4 (tyX1 4) false := ⟨RX1, TX1, 8, tyX1, fx_cl1, by decide, wf_X7_41, rfl, rfl⟩
theorem ff_X6_84 : fx_F RX6 84 1 4 (tyX1 4) false := ⟨RX1, TX1, 8, tyX1, fx_cl1, by decide, wf_X6_84, rfl, rfl⟩
theorem ff_X1_27 : fx_F RX1 27 1 5 (tyX1 5) false := ⟨RX1, TX1, 8, tyX1, fx_cl1, by decide, wf_X1_27, rfl, rfl⟩
theorem ff_X7_33 : fx_F RX7 33 1 5 (tyX1 5) false := ⟨RX1, TX1, 8, tyX1, fx_cl1, by decide, wf_X7_33, rfl, rfl⟩
theorem ff_X1_30 : fx_F RX1 30 1 6 (tyX1 6) false := ⟨RX1, TX1, 8, tyX1, fx_cl1, by decide, wf_X1_30, rfl, rfl⟩
theorem ff_X6_99 : fx_F RX6 99 1 6 (tyX1 6) false := ⟨RX1, TX1, 8, tyX1, fx_cl1, by decide, wf_X6_99, rfl, rfl⟩
theorem ff_X1_33 : fx_F RX1 33 1 7 (tyX1 7) false := ⟨RX1, TX1, 8, tyX1, fx_cl1, by decide, wf_X1_33, rfl, rfl⟩
theorem ff_X4_162 : fx_F RX4 162 1 7 (tyX1 7) false := ⟨RX1, TX1, 8, tyX1, fx_cl1, by decide, wf_X4_162, rfl, rfl⟩
theorem ff_X6_117 : fx_F RX6 117 1 7 (tyX1 7) false := ⟨RX1, TX1, 8, tyX1, fx_cl1, by decide, wf_X6_117, rfl, rfl⟩
theorem ff_X8_251 : fx_F RX8 251 1 7 (tyX1 7) false := ⟨RX1, TX1, 8, tyX1, fx_cl1, by decide, wf_X8_251, rfl, rfl⟩
theorem ff_X6_13 : fx_F RX6 13 6 0 (tyX6 0) true := ⟨RX6, TX6, 8, tyX6, fx_cl6, by decide, wf_X6_13, rfl, rfl⟩
theorem ff_X8_62 : fx_F RX8 62 6 0 (tyX6 0) true := ⟨RX6, TX6, 8, tyX6, fx_cl6, by decide, wf_X8_62, rfl, rfl⟩
theorem ff_X3_74 : fx_F RX3 74 6 0 (tyX6 0) true := ⟨RX6, TX6, 8, tyX6, fx_cl6, by decide, wf_X3_74, rfl, rfl⟩
theorem ff_X4_132 : fx_F RX4 132 6 0 (tyX6 0) true := ⟨RX6, TX6, 8, tyX6, fx_cl6, by decide, wf_X4_132, rfl, rfl⟩
theorem ff_X6_19 : fx_F RX6 19 6 1 (tyX6 1) true := ⟨RX6, TX6, 8, tyX6, fx_cl6, by decide, wf_X6_19, rfl, rfl⟩
theorem ff_X7_29 : fx_F RX7 29 6 1 (tyX6 1) true := ⟨RX6, TX6, 8, tyX6, fx_cl6, by decide, wf_X7_29, rfl, rfl⟩
theorem ff_X3_97 : fx_F RX3 97 6 1 (tyX6 1) true := ⟨RX6, TX6, 8, tyX6, fx_cl6, by decide, wf_X3_97, rfl, rfl⟩
theorem ff_X4_158 : fx_F RX4 158 6 1 (tyX6 1) true := ⟨RX6, TX6, 8, tyX6, fx_cl6, by decide, wf_X4_158, rfl, rfl⟩
theorem ff_X8_180 : fx_F RX8 180 6 1 (tyX6 1) true := ⟨RX6, TX6, 8, tyX6, fx_cl6, by decide, wf_X8_180, rfl, rfl⟩
theorem ff_X6_23 : fx_F RX6 23 6 2 (tyX6 2) false := ⟨RX6, TX6, 8, tyX6, fx_cl6, by decide, wf_X6_23, rfl, rfl⟩
theorem ff_X3_71 : fx_F RX3 71 6 2 (tyX6 2) false := ⟨RX6, TX6, 8, tyX6, fx_cl6, by decide, wf_X3_71, rfl, rfl⟩
theorem ff_X8_319 : fx_F RX8 319 6 2 (tyX6 2) false := ⟨RX6, TX6, 8, tyX6, fx_cl6, by decide, wf_X8_319, rfl, rfl⟩
theorem ff_X6_27 : fx_F RX6 27 6 3 (tyX6 3) false := ⟨RX6, TX6, 8, tyX6, fx_cl6, by decide, wf_X6_27, rfl, rfl⟩
theorem ff_X7_17 : fx_F RX7 17 6 3 (tyX6 3) false := ⟨RX6, TX6, 8, tyX6, fx_cl6, by decide, wf_X7_17, rfl, rfl⟩
theorem ff_X3_86 : fx_F RX3 86 6 3 (tyX6 3) false := ⟨RX6, TX6, 8, tyX6, fx_cl6, by decide, wf_X3_86, rfl, rfl⟩
theorem ff_X8_238 : fx_F RX8 238 6 3 (tyX6 3) false := ⟨RX6, TX6, 8, tyX6, fx_cl6, by decide, wf_X8_238, rfl, rfl⟩
theorem ff_X6_30 : fx_F RX6 30 6 4 (tyX6 4) false := ⟨RX6, TX6, 8, tyX6, fx_cl6, by decide, wf_X6_30, rfl, rfl⟩
theorem ff_X8_297 : fx_F RX8 297 6 4 (tyX6 4) false := ⟨RX6, TX6, 8, tyX6, fx_cl6, by decide, wf_X8_297, rfl, rfl⟩
theorem ff_X6_33 : fx_F RX6 33 6 5 (tyX6 5) false := ⟨RX6, TX6, 8, tyX6, fx_cl6, by decide, wf_X6_33, rfl, rfl⟩
theorem ff_X8_307 : fx_F RX8 307 6 5 (tyX6 5) false := ⟨RX6, TX6, 8, tyX6, fx_cl6, by decide, wf_X8_307, rfl, rfl⟩
theorem ff_X6_36 : fx_F RX6 36 6 6 (tyX6 6) false := ⟨RX6, TX6, 8, tyX6, fx_cl6, by decide, wf_X6_36, rfl, rfl⟩
theorem ff_X8_344 : fx_F RX8 344 6 6 (tyX6 6) false := ⟨RX6, TX6, 8, tyX6, fx_cl6, by decide, wf_X8_344, rfl, rfl⟩
theorem ff_X6_39 : fx_F RX6 39 6 7 (tyX6 7) false := ⟨RX6, TX6, 8, tyX6, fx_cl6, by decide, wf_X6_39, rfl, rfl⟩
theorem ff_X8_325 : fx_F RX8 325 6 7 (tyX6 7) false := ⟨RX6, TX6, 8, tyX6, fx_cl6, by decide, wf_X8_325, rfl, rfl⟩
theorem ff_X3_13 : fx_F RX3 13 3 0 (tyX3 0) true := ⟨RX3, TX3, 12, tyX3, fx_cl3, by decide, wf_X3_13, rfl, rfl⟩
theorem ff_X3_17 : fx_F RX3 17 3 1 (tyX3 1) true := ⟨RX3, TX3, 12, tyX3, fx_cl3, by decide, wf_X3_17, rfl, rfl⟩
theorem ff_X3_20 : fx_F RX3 20 3 2 (tyX3 2) true := ⟨RX3, TX3, 12, tyX3, fx_cl3, by decide, wf_X3_20, rfl, rfl⟩
theorem ff_X3_23 : fx_F RX3 23 3 3 (tyX3 3) true := ⟨RX3, TX3, 12, tyX3, fx_cl3, by decide, wf_X3_23, rfl, rfl⟩
theorem ff_X3_26 : fx_F RX3 26 3 4 (tyX3 4) true := ⟨RX3, TX3, 12, tyX3, fx_cl3, by decide, wf_X3_26, rfl, rfl⟩
theorem ff_X3_29 : fx_F RX3 29 3 5 (tyX3 5) true := ⟨RX3, TX3, 12, tyX3, fx_cl3, by decide, wf_X3_29, rfl, rfl⟩
theorem ff_X3_32 : fx_F RX3 32 3 6 (tyX3 6) true := ⟨RX3, TX3, 12, tyX3, fx_cl3, by decide, wf_X3_32, rfl, rfl⟩
theorem ff_X3_35 : fx_F RX3 35 3 7 (tyX3 7) true := ⟨RX3, TX3, 12, tyX3, fx_cl3, by decide, wf_X3_35, rfl, rfl⟩
theorem ff_X3_41 : fx_F RX3 41 3 8 (tyX3 8) true := ⟨RX3, TX3, 12, tyX3, fx_cl3, by decide, wf_X3_41, rfl, rfl⟩
theorem ff_X3_45 : fx_F RX3 45 3 9 (tyX3 9) false := ⟨RX3, TX3, 12, tyX3, fx_cl3, by decide, wf_X3_45, rfl, rfl⟩
theorem ff_X3_49 : fx_F RX3 49 3 10 (tyX3 10) false := ⟨RX3, TX3, 12, tyX3, fx_cl3, by decide, wf_X3_49, rfl, rfl⟩
theorem ff_X3_52 : fx_F RX3 52 3 11 (tyX3 11) false := ⟨RX3, TX3, 12, tyX3, fx_cl3, by decide, wf_X3_52, rfl, rfl⟩
theorem ff_X7_13 : fx_F RX7 13 7 0 (tyX7 0) true := ⟨RX7, TX7, 1, tyX7, fx_cl7, by decide, wf_X7_13, rfl, rfl⟩
theorem ff_X5_11 : fx_F RX5 11 5 0 (tyX5 0) true := ⟨RX5, TX5, 4, tyX5, fx_cl5, by decide, wf_X5_11, rfl, rfl⟩
theorem ff_X8_107 : fx_F RX8 107 5 0 (tyX5 0) true := ⟨RX5, TX5, 4, tyX5, fx_cl5, by decide, wf_X8_107, rfl, rfl⟩
theorem ff_X5_15 : fx_F RX5 15 5 1 (tyX5 1) false := ⟨RX5, TX5, 4, tyX5, fx_cl5, by decide, wf_X5_15, rfl, rfl⟩
theorem ff_X8_131 : fx_F RX8 131 5 1 (tyX5 1) false := ⟨RX5, TX5, 4, tyX5, fx_cl5, by decide, wf_X8_131, rfl, rfl⟩
theorem ff_X5_19 : fx_F RX5 19 5 2 (tyX5 2) false := ⟨RX5, TX5, 4, tyX5, fx_cl5, by decide, wf_X5_19, rfl, rfl⟩
theorem ff_X4_42 : fx_F RX4 42 5 2 (tyX5 2) false := ⟨RX5, TX5, 4, tyX5, fx_cl5, by decide, wf_X4_42, rfl, rfl⟩
theorem ff_X8_268 : fx_F RX8 268 5 2 (tyX5 2) false := ⟨RX5, TX5, 4, tyX5, fx_cl5, by decide, wf_X8_268, rfl, rfl⟩
theorem ff_X5_22 : fx_F RX5 22 5 3 (tyX5 3) false := ⟨RX5, TX5, 4, tyX5, fx_cl5, by decide, wf_X5_22, rfl, rfl⟩
theorem ff_X8_135 : fx_F RX8 135 5 3 (tyX5 3) false := ⟨RX5, TX5, 4, tyX5, fx_cl5, by decide, wf_X8_135, rfl, rfl⟩
theorem ff_X4_9 : fx_F RX4 9 4 0 (tyX4 0) false := ⟨RX4, TX4, 7, tyX4, fx_cl4, by decide, wf_X4_9, rfl, rfl⟩
theorem ff_X8_211 : fx_F RX8 211 4 0 (tyX4 0) false := ⟨RX4, TX4, 7, tyX4, fx_cl4, by decide, wf_X8_211, rfl, rfl⟩
theorem ff_X4_28 : fx_F RX4 28 4 1 (tyX4 1) true := ⟨RX4, TX4, 7, tyX4, fx_cl4, by decide, wf_X4_28, rfl, rfl⟩
theorem ff_X4_32 : fx_F RX4 32 4 2 (tyX4 2) false := ⟨RX4, TX4, 7, tyX4, fx_cl4, by decide, wf_X4_32, rfl, rfl⟩
theorem ff_X4_15 : fx_F RX4 15 4 3 (tyX4 3) false := ⟨RX4, TX4, 7, tyX4, fx_cl4, by decide, wf_X4_15, rfl, rfl⟩
theorem ff_X4_18 : fx_F RX4 18 4 4 (tyX4 4) false := ⟨RX4, TX4, 7, tyX4, fx_cl4, by decide, wf_X4_18, rfl, rfl⟩
theorem ff_X4_21 : fx_F RX4 21 4 5 (tyX4 5) false := ⟨RX4, TX4, 7, tyX4, fx_cl4, by decide, wf_X4_21, rfl, rfl⟩
theorem ff_X4_24 : fx_F RX4 24 4 6 (tyX4 6) true := ⟨RX4, TX4, 7, tyX4, fx_cl4, by decide, wf_X4_24, rfl, rfl⟩
theorem ff_X2_9 : fx_F RX2 9 2 0 (tyX2 0) false := ⟨RX2, TX2, 4, tyX2, fx_cl2, by decide, wf_X2_9, rfl, rfl⟩
theorem ff_X8_347 : fx_F RX8 347 2 0 (tyX2 0) false := ⟨RX2, TX2, 4, tyX2, fx_cl2, by decide, wf_X8_347, rfl, rfl⟩
theorem ff_X2_15 : fx_F RX2 15 2 1 (tyX2 1) true := ⟨RX2, TX2, 4, tyX2, fx_cl2, by decide, wf_X2_15, rfl, rfl⟩
theorem ff_X2_22 : fx_F RX2 22 2 2 (tyX2 2) false := ⟨RX2, TX2, 4, tyX2, fx_cl2, by decide, wf_X2_22, rfl, rfl⟩
theorem ff_X2_19 : fx_F RX2 19 2 3 (tyX2 3) false := ⟨RX2, TX2, 4, tyX2, fx_cl2, by decide, wf_X2_19, rfl, rfl⟩
theorem ff_X8_10 : fx_F RX8 10 8 0 (tyX8 0) true := ⟨RX8, TX8, 10, tyX8, fx_cl8, by decide, wf_X8_10, rfl, rfl⟩
theorem ff_X8_16 : fx_F RX8 16 8 1 (tyX8 1) true := ⟨RX8, TX8, 10, tyX8, fx_cl8, by decide, wf_X8_16, rfl, rfl⟩
theorem ff_X8_19 : fx_F RX8 19 8 2 (tyX8 2) true := ⟨RX8, TX8, 10, tyX8, fx_cl8, by decide, wf_X8_19, rfl, rfl⟩
theorem ff_X8_22 : fx_F RX8 22 8 3 (tyX8 3) false := ⟨RX8, TX8, 10, tyX8, fx_cl8, by decide, wf_X8_22, rfl, rfl⟩
theorem ff_X8_28 : fx_F RX8 28 8 4 (tyX8 4) true := ⟨RX8, TX8, 10, tyX8, fx_cl8, by decide, wf_X8_28, rfl, rfl⟩
theorem ff_X8_32 : fx_F RX8 32 8 5 (tyX8 5) true := ⟨RX8, TX8, 10, tyX8, fx_cl8, by decide, wf_X8_32, rfl, rfl⟩
theorem ff_X8_56 : fx_F RX8 56 8 6 (tyX8 6) true := ⟨RX8, TX8, 10, tyX8, fx_cl8, by decide, wf_X8_56, rfl, rfl⟩
theorem ff_X8_39 : fx_F RX8 39 8 7 (tyX8 7) true := ⟨RX8, TX8, 10, tyX8, fx_cl8, by decide, wf_X8_39, rfl, rfl⟩
theorem ff_X8_46 : fx_F RX8 46 8 8 (tyX8 8) true := ⟨RX8, TX8, 10, tyX8, fx_cl8, by decide, wf_X8_46, rfl, rfl⟩
theorem ff_X8_69 : fx_F RX8 69 8 9 (tyX8 9) true := ⟨RX8, TX8, 10, tyX8, fx_cl8, by decide, wf_X8_69, rfl, rfl⟩
theorem ff_X9_126 : fx_F RX9 126 9 0 (tyX9 0) false := ⟨RX9, TX9, 51, tyX9, fx_cl9, by decide, wf_X9_126, rfl, rfl⟩
theorem ff_X9_129 : fx_F RX9 129 9 1 (tyX9 1) false := ⟨RX9, TX9, 51, tyX9, fx_cl9, by decide, wf_X9_129, rfl, rfl⟩
theorem ff_X9_235 : fx_F RX9 235 9 2 (tyX9 2) false := ⟨RX9, TX9, 51, tyX9, fx_cl9, by decide, wf_X9_235, rfl, rfl⟩
theorem ff_X9_238 : fx_F RX9 238 9 3 (tyX9 3) false := ⟨RX9, TX9, 51, tyX9, fx_cl9, by decide, wf_X9_238, rfl, rfl⟩
theorem ff_X9_241 : fx_F RX9 241 9 4 (tyX9 4) false := ⟨RX9, TX9, 51, tyX9, fx_cl9, by decide, wf_X9_241, rfl, rfl⟩
theorem ff_X9_7 : fx_F RX9 7 9 5 (tyX9 5) false := ⟨RX9, TX9, 51, tyX9, fx_cl9, by decide, wf_X9_7, rfl, rfl⟩
theorem ff_X9_13 : fx_F RX9 13 9 6 (tyX9 6) false := ⟨RX9, TX9, 51, tyX9, fx_cl9, by decide, wf_X9_13, rfl, rfl⟩
theorem ff_X9_16 : fx_F RX9 16 9 7 (tyX9 7) true := ⟨RX9, TX9, 51, tyX9, fx_cl9, by decide, wf_X9_16, rfl, rfl⟩
theorem ff_X9_20 : fx_F RX9 20 9 8 (tyX9 8) true := ⟨RX9, TX9, 51, tyX9, fx_cl9, by decide, wf_X9_20, rfl, rfl⟩
theorem ff_X9_23 : fx_F RX9 23 9 9 (tyX9 9) true := ⟨RX9, TX9, 51, tyX9, fx_cl9, by decide, wf_X9_23, rfl, rfl⟩
theorem ff_X9_26 : fx_F RX9 26 9 10 (tyX9 10) true := ⟨RX9, TX9, 51, tyX9, fx_cl9, by decide, wf_X9_26, rfl, rfl⟩
theorem ff_X9_29 : fx_F RX9 29 9 11 (tyX9 11) true := ⟨RX9, TX9, 51, tyX9, fx_cl9, by decide, wf_X9_29, rfl, rfl⟩
theorem ff_X9_32 : fx_F RX9 32 9 12 (tyX9 12) true := ⟨RX9, TX9, 51, tyX9, fx_cl9, by decide, wf_X9_32, rfl, rfl⟩
theorem ff_X9_35 : fx_F RX9 35 9 13 (tyX9 13) true := ⟨RX9, TX9, 51, tyX9, fx_cl9, by decide, wf_X9_35, rfl, rfl⟩
theorem ff_X9_38 : fx_F RX9 38 9 14 (tyX9 14) true := ⟨RX9, TX9, 51, tyX9, fx_cl9, by decide, wf_X9_38, rfl, rfl⟩
theorem ff_X9_41 : fx_F RX9 41 9 15 (tyX9 15) true := ⟨RX9, TX9, 51, tyX9, fx_cl9, by decide, wf_X9_41, rfl, rfl⟩
theorem ff_X9_44 : fx_F RX9 44 9 16 (tyX9 16) true := ⟨RX9, TX9, 51, tyX9, fx_cl9, by decide, wf_X9_44, rfl, rfl⟩
theorem ff_X9_47 : fx_F RX9 47 9 17 (tyX9 17) true := ⟨RX9, TX9, 51, tyX9, fx_cl9, by decide, wf_X9_47, rfl, rfl⟩
theorem ff_X9_50 : fx_F RX9 50 9 18 (tyX9 18) true := ⟨RX9, TX9, 51, tyX9, fx_cl9, by decide, wf_X9_50, rfl, rfl⟩
theorem ff_X9_53 : fx_F RX9 53 9 19 (tyX9 19) true := ⟨RX9, TX9, 51, tyX9, fx_cl9, by decide, wf_X9_53, rfl, rfl⟩
theorem ff_X9_56 : fx_F RX9 56 9 20 (tyX9 20) true := ⟨RX9, TX9, 51, tyX9, fx_cl9, by decide, wf_X9_56, rfl, rfl⟩
theorem ff_X9_59 : fx_F RX9 59 9 21 (tyX9 21) true := ⟨RX9, TX9, 51, tyX9, fx_cl9, by decide, wf_X9_59, rfl, rfl⟩
theorem ff_X9_62 : fx_F RX9 62 9 22 (tyX9 22) true := ⟨RX9, TX9, 51, tyX9, fx_cl9, by decide, wf_X9_62, rfl, rfl⟩
theorem ff_X9_65 : fx_F RX9 65 9 23 (tyX9 23) true := ⟨RX9, TX9, 51, tyX9, fx_cl9, by decide, wf_X9_65, rfl, rfl⟩
theorem ff_X9_68 : fx_F RX9 68 9 24 (tyX9 24) true := ⟨RX9, TX9, 51, tyX9, fx_cl9, by decide, wf_X9_68, rfl, rfl⟩
theorem ff_X9_71 : fx_F RX9 71 9 25 (tyX9 25) true := ⟨RX9, TX9, 51, tyX9, fx_cl9, by decide, wf_X9_71, rfl, rfl⟩
theorem ff_X9_74 : fx_F RX9 74 9 26 (tyX9 26) true := ⟨RX9, TX9, 51, tyX9, fx_cl9, by decide, wf_X9_74, rfl, rfl⟩
theorem ff_X9_77 : fx_F RX9 77 9 27 (tyX9 27) true := ⟨RX9, TX9, 51, tyX9, fx_cl9, by decide, wf_X9_77, rfl, rfl⟩
theorem ff_X9_81 : fx_F RX9 81 9 28 (tyX9 28) true := ⟨RX9, TX9, 51, tyX9, fx_cl9, by decide, wf_X9_81, rfl, rfl⟩
theorem ff_X9_84 : fx_F RX9 84 9 29 (tyX9 29) true := ⟨RX9, TX9, 51, tyX9, fx_cl9, by decide, wf_X9_84, rfl, rfl⟩
theorem ff_X9_87 : fx_F RX9 87 9 30 (tyX9 30) true := ⟨RX9, TX9, 51, tyX9, fx_cl9, by decide, wf_X9_87, rfl, rfl⟩
theorem ff_X9_90 : fx_F RX9 90 9 31 (tyX9 31) true := ⟨RX9, TX9, 51, tyX9, fx_cl9, by decide, wf_X9_90, rfl, rfl⟩
theorem ff_X9_93 : fx_F RX9 93 9 32 (tyX9 32) true := ⟨RX9, TX9, 51, tyX9, fx_cl9, by decide, wf_X9_93, rfl, rfl⟩
theorem ff_X9_96 : fx_F RX9 96 9 33 (tyX9 33) true := ⟨RX9, TX9, 51, tyX9, fx_cl9, by decide, wf_X9_96, rfl, rfl⟩
theorem ff_X9_202 : fx_F RX9 202 9 34 (tyX9 34) false := ⟨RX9, TX9, 51, tyX9, fx_cl9, by decide, wf_X9_202, rfl, rfl⟩
theorem ff_X9_199 : fx_F RX9 199 9 35 (tyX9 35) false := ⟨RX9, TX9, 51, tyX9, fx_cl9, by decide, wf_X9_199, rfl, rfl⟩
theorem ff_X9_196 : fx_F RX9 196 9 36 (tyX9 36) false := ⟨RX9, TX9, 51, tyX9, fx_cl9, by decide, wf_X9_196, rfl, rfl⟩
theorem ff_X9_205 : fx_F RX9 205 9 37 (tyX9 37) false := ⟨RX9, TX9, 51, tyX9, fx_cl9, by decide, wf_X9_205, rfl, rfl⟩
theorem ff_X9_193 : fx_F RX9 193 9 38 (tyX9 38) false := ⟨RX9, TX9, 51, tyX9, fx_cl9, by decide, wf_X9_193, rfl, rfl⟩
theorem ff_X9_99 : fx_F RX9 99 9 39 (tyX9 39) true := ⟨RX9, TX9, 51, tyX9, fx_cl9, by decide, wf_X9_99, rfl, rfl⟩
theorem ff_X9_102 : fx_F RX9 102 9 40 (tyX9 40) true := ⟨RX9, TX9, 51, tyX9, fx_cl9, by decide, wf_X9_102, rfl, rfl⟩
theorem ff_X9_105 : fx_F RX9 105 9 41 (tyX9 41) true := ⟨RX9, TX9, 51, tyX9, fx_cl9, by decide, wf_X9_105, rfl, rfl⟩
theorem ff_X9_108 : fx_F RX9 108 9 42 (tyX9 42) true := ⟨RX9, TX9, 51, tyX9, fx_cl9, by decide, wf_X9_108, rfl, rfl⟩
theorem ff_X9_111 : fx_F RX9 111 9 43 (tyX9 43) true := ⟨RX9, TX9, 51, tyX9, fx_cl9, by decide, wf_X9_111, rfl, rfl⟩
theorem ff_X9_114 : fx_F RX9 114 9 44 (tyX9 44) false := ⟨RX9, TX9, 51, tyX9, fx_cl9, by decide, wf_X9_114, rfl, rfl⟩
theorem ff_X9_117 : fx_F RX9 117 9 45 (tyX9 45) true := ⟨RX9, TX9, 51, tyX9, fx_cl9, by decide, wf_X9_117, rfl, rfl⟩
theorem ff_X9_120 : fx_F RX9 120 9 46 (tyX9 46) true := ⟨RX9, TX9, 51, tyX9, fx_cl9, by decide, wf_X9_120, rfl, rfl⟩
theorem ff_X9_266 : fx_F RX9 266 9 47 (tyX9 47) false := ⟨RX9, TX9, 51, tyX9, fx_cl9, by decide, wf_X9_266, rfl, rfl⟩
theorem ff_X9_123 : fx_F RX9 123 9 48 (tyX9 48) true := ⟨RX9, TX9, 51, tyX9, fx_cl9, by decide, wf_X9_123, rfl, rfl⟩
theorem ff_X9_309 : fx_F RX9 309 9 49 (tyX9 49) false := ⟨RX9, TX9, 51, tyX9, fx_cl9, by decide, wf_X9_309, rfl, rfl⟩
theorem ff_X9_325 : fx_F RX9 325 9 50 (tyX9 50) false := ⟨RX9, TX9, 51, tyX9, fx_cl9, by decide, wf_X9_325, rfl, rfl⟩
theorem kci_m1 : Int32.ofInt (-1) = (-1) := by decide
theorem kci_0 : Int32.ofInt 0 = 0 := by decide
theorem kci_1 : Int32.ofInt 1 = 1 := by decide
theorem kci_2 : Int32.ofInt 2 = 2 := by decide
theorem kci_3 : Int32.ofInt 3 = 3 := by decide
theorem kci_4 : Int32.ofInt 4 = 4 := by decide
theorem kci_5 : Int32.ofInt 5 = 5 := by decide
theorem kcb_m7 : (Int8.ofInt (-7)).toInt32 = (-7) := by decide
theorem kcb_m6 : (Int8.ofInt (-6)).toInt32 = (-6) := by decide
theorem kcb_m5 : (Int8.ofInt (-5)).toInt32 = (-5) := by decide
theorem kcb_m4 : (Int8.ofInt (-4)).toInt32 = (-4) := by decide
theorem kcb_m3 : (Int8.ofInt (-3)).toInt32 = (-3) := by decide
theorem kcb_m2 : (Int8.ofInt (-2)).toInt32 = (-2) := by decide
theorem kcb_6 : (Int8.ofInt 6).toInt32 = 6 := by decide
theorem kcb_7 : (Int8.ofInt 7).toInt32 = 7 := by decide
theorem kcb_8 : (Int8.ofInt 8).toInt32 = 8 := by decide
theorem kcb_9 : (Int8.ofInt 9).toInt32 = 9 := by decide
theorem kcb_10 : (Int8.ofInt 10).toInt32 = 10 := by decide
theorem kcb_11 : (Int8.ofInt 11).toInt32 = 11 := by decide
theorem kcb_12 : (Int8.ofInt 12).toInt32 = 12 := by decide
theorem kcb_13 : (Int8.ofInt 13).toInt32 = 13 := by decide
theorem kcb_14 : (Int8.ofInt 14).toInt32 = 14 := by decide
theorem kcb_15 : (Int8.ofInt 15).toInt32 = 15 := by decide
theorem kcb_16 : (Int8.ofInt 16).toInt32 = 16 := by decide
theorem kcb_17 : (Int8.ofInt 17).toInt32 = 17 := by decide
theorem kcb_18 : (Int8.ofInt 18).toInt32 = 18 := by decide
theorem kcb_19 : (Int8.ofInt 19).toInt32 = 19 := by decide
theorem kcb_20 : (Int8.ofInt 20).toInt32 = 20 := by decide
theorem kcb_21 : (Int8.ofInt 21).toInt32 = 21 := by decide
theorem kcb_22 : (Int8.ofInt 22).toInt32 = 22 := by decide
theorem kcb_23 : (Int8.ofInt 23).toInt32 = 23 := by decide
theorem kcb_24 : (Int8.ofInt 24).toInt32 = 24 := by decide
theorem kcb_25 : (Int8.ofInt 25).toInt32 = 25 := by decide
theorem kcb_26 : (Int8.ofInt 26).toInt32 = 26 := by decide
theorem kcb_30 : (Int8.ofInt 30).toInt32 = 30 := by decide
theorem kcb_32 : (Int8.ofInt 32).toInt32 = 32 := by decide
theorem kcb_40 : (Int8.ofInt 40).toInt32 = 40 := by decide
theorem kcb_48 : (Int8.ofInt 48).toInt32 = 48 := by decide
theorem kcb_50 : (Int8.ofInt 50).toInt32 = 50 := by decide
theorem kcb_51 : (Int8.ofInt 51).toInt32 = 51 := by decide
theorem kcb_57 : (Int8.ofInt 57).toInt32 = 57 := by decide
theorem kcb_59 : (Int8.ofInt 59).toInt32 = 59 := by decide
theorem kcb_60 : (Int8.ofInt 60).toInt32 = 60 := by decide
theorem kcb_63 : (Int8.ofInt 63).toInt32 = 63 := by decide
theorem kcb_70 : (Int8.ofInt 70).toInt32 = 70 := by decide
theorem kcb_71 : (Int8.ofInt 71).toInt32 = 71 := by decide
theorem kcb_80 : (Int8.ofInt 80).toInt32 = 80 := by decide
theorem kcb_97 : (Int8.ofInt 97).toInt32 = 97 := by decide
theorem kcb_99 : (Int8.ofInt 99).toInt32 = 99 := by decide
theorem kcb_100 : (Int8.ofInt 100).toInt32 = 100 := by decide
theorem kcb_101 : (Int8.ofInt 101).toInt32 = 101 := by decide
theorem kcb_102 : (Int8.ofInt 102).toInt32 = 102 := by decide
theorem kcb_105 : (Int8.ofInt 105).toInt32 = 105 := by decide
theorem kcb_108 : (Int8.ofInt 108).toInt32 = 108 := by decide
theorem kcb_109 : (Int8.ofInt 109).toInt32 = 109 := by decide
theorem kcb_110 : (Int8.ofInt 110).toInt32 = 110 := by decide
theorem kcb_111 : (Int8.ofInt 111).toInt32 = 111 := by decide
theorem kcb_114 : (Int8.ofInt 114).toInt32 = 114 := by decide
theorem kcb_115 : (Int8.ofInt 115).toInt32 = 115 := by decide
theorem kcs_160 : (Int16.ofInt 160).toInt32 = 160 := by decide
theorem kcs_200 : (Int16.ofInt 200).toInt32 = 200 := by decide
theorem kcs_255 : (Int16.ofInt 255).toInt32 = 255 := by decide
theorem kcs_256 : (Int16.ofInt 256).toInt32 = 256 := by decide
theorem kcs_400 : (Int16.ofInt 400).toInt32 = 400 := by decide
theorem kcs_512 : (Int16.ofInt 512).toInt32 = 512 := by decide
theorem kcs_999 : (Int16.ofInt 999).toInt32 = 999 := by decide
theorem kcs_1000 : (Int16.ofInt 1000).toInt32 = 1000 := by decide
theorem kcs_1024 : (Int16.ofInt 1024).toInt32 = 1024 := by decide
theorem kcs_1280 : (Int16.ofInt 1280).toInt32 = 1280 := by decide
theorem kcs_2816 : (Int16.ofInt 2816).toInt32 = 2816 := by decide
theorem kcs_5632 : (Int16.ofInt 5632).toInt32 = 5632 := by decide
theorem kcs_12345 : (Int16.ofInt 12345).toInt32 = 12345 := by decide
theorem fx_wmax : Cond.code Lib.Math.max.name Lib.Math.max.code 2 (some .int) ∈ fx_gw := wc_J9_max_7cf53
theorem fx_wmin : Cond.code Lib.Math.min.name Lib.Math.min.code 2 (some .int) ∈ fx_gw := wc_J9_min_7cf53
theorem fx_wabs : Cond.code Lib.Math.abs.name Lib.Math.abs.code 1 (some .int) ∈ fx_gw := wc_J9_abs_0f7a4
theorem fx_wobj : Cond.code Lib.objectInit ⟨#[0xb1]⟩ 1 none ∈ fx_gw := wc_Objectinit_V
