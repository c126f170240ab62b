section FC
variable {Γ : fx_G} {μ μ' : fx_MD} {d d' n0 n1 n n' : Nat} {post : Option Value → fx_M → Prop} {post' : Option Value → fx_M → Prop} {m : fx_M} {pc : Nat} {lv : List (Option Value)} {st : List Value}
theorem fx_good {ws : List Cond} (h : ∀ w ∈ ws, w ∈ fx_gw) : GoodIn fx_gw ws := fun w hw => ⟨h w hw, good_of_word (List.mem_filter.mp (h w hw)).2⟩
/-- what is said of a method once: its words, its parameters, its locals -/
def fx_OK (μ' : fx_MD) (k : Nat) : Prop := Cond.code μ'.1 μ'.2.1 μ'.2.2.1 μ'.2.2.2 ∈ fx_gw ∧ Cond.initialized μ'.1.cls ∈ fx_gw ∧ (μ'.1.cls ≠ "java/lang/invoke/MethodHandle" ∧ μ'.1.cls ≠ "java/lang/invoke/VarHandle" ∧ (parseMethodDescriptor μ'.1.desc).map (fun d => d.parameters.length) = some k) ∧ μ'.2.2.1 ≤ 45
def fx_OKV (μ' : fx_MD) (k : Nat) : Prop := fx_OK μ' k ∧ Cond.instanceMethod μ'.1 ∈ fx_gw ∧ Cond.selects μ'.1.cls μ'.1 μ'.1 ∈ fx_gw
def fx_OKS (μ' : fx_MD) (k : Nat) : Prop := fx_OK μ' k ∧ Cond.static μ'.1 ∈ fx_gw
def fx_OKI (μ' : fx_MD) (k : Nat) : Prop := fx_OK μ' k ∧ Cond.instanceMethod μ'.1 ∈ fx_gw ∧ μ'.1.name = "<init>" ∧ μ'.2.2.2 = none
theorem fx_ws_in (h : Cond.code μ'.1 μ'.2.1 μ'.2.2.1 μ'.2.2.2 ∈ fx_gw) : ∀ w ∈ fx_ws μ', w ∈ fx_gw := fun w hw => (List.mem_cons.mp hw).elim (fun e => e ▸ h) id
theorem fx_after {p : Program} {l : Launch} {e : Env} {R : Room} {s : State} {mid : MethodId} {args : Array Value} {below : List Frame} {meth : Method} {c : Code} {H : Heap} {locs : List Loc} {Q : State → Prop} {ls : Array Slot} {stk : List Value} {a : Array Value}
    (hX : fx_X Γ μ d n0 n1 R p s mid args meth c) (hS : va_S (fx_A Γ) s.heap H locs) (hl : fx_L ls μ.2.2.1 lv) (hn : n0 ≤ n ∧ n ≤ n1) (hn1 : n ≤ n' ∧ n' ≤ n1)
    (hK : ∀ (r : Option Value) (m' : fx_M) (H' : Heap) (locs' : List Loc) (pc' : Nat) (ls' : Array Slot) (ins : Instr), post r m' → fx_Hd Γ n1 m' H' → (n1 < fx_N → H'.size = Γ.1 + n1) → va_S (fx_A Γ) s.heap H' locs' → decode μ.2.1 pc' = .ok (ins, 1) → fx_Ret ins r μ.2.2.2 → W p l e R s mid args below meth c H' locs' (n1 - n0) (fx_sl n1 - fx_sl n0) Q (F0 mid pc' ls' r.toList))
    (hr : va_Run p l e R s mid args below meth c H locs (n - n0) (fx_sl n - fx_sl n0) (n' - n) (fx_sl n' - fx_sl n) (F0 mid pc ls stk) st (fx_Qc Γ n' post' a) (fx_A Γ))
    (kk : ∀ (r : Option Value) (m' : fx_M), post' r m' → fx_E Γ μ d n0 n1 post n' m' (pc + 3) lv (r.toList ++ st)) : W p l e R s mid args below meth c H locs (n - n0) (fx_sl n - fx_sl n0) Q (F0 mid pc ls stk) := by
  intro T hT X
  obtain ⟨v, st₀, t, T', L, h0, X', hL, e1, e2, ⟨⟨r, m', hv, hp, hH', hz'⟩, hF⟩, stp⟩ := hr T hT X
  cases hv
  have e3 : n - n0 + (n' - n) = n' - n0 := by omega
  have m1 := fx_sl_mono hn.1
  have m2 := fx_sl_mono hn1.1
  have e4 : fx_sl n - fx_sl n0 + (fx_sl n' - fx_sl n) = fx_sl n' - fx_sl n0 := by omega
  rw [e3, e4] at X'
  rw [va_F, h0] at hF
  have hS' : va_S (fx_A Γ) s.heap T'.heap (locs ++ L) := by
    refine ⟨Nat.le_trans hS.1 (by rw [e1]; exact hF.1), fun q h1 h2 => ?_, fun q hq => ?_⟩
    · rw [e1, hF.2 q (Nat.lt_of_lt_of_le h1 hS.1) h2]
      exact hS.2.1 q h1 h2
    · rcases List.mem_append.mp hq with h | h
      · exact hS.2.2 q h
      · exact hL q h
  obtain ⟨t2, a1, b1⟩ := kk v m' hp p l e R s mid args below meth c T'.heap (locs ++ L) Q ls hX (by rw [e1]; exact hH') (by rw [e1]; exact hz') hS' hl ⟨by omega, hn1.2⟩ hK T' rfl X'
  exact ⟨t2, stp t2 a1, b1⟩
theorem fx_PcU {av : List Value} {H : Heap} {s : State} {locs : List Loc} (hSt : fx_S Γ s) (hH : fx_Hd Γ n m H) (hz : n < fx_N → H.size = Γ.1 + n) (hS : va_S (fx_A Γ) s.heap H locs) (hb : Γ.1 ≤ s.heap.size) : ∀ U : State, U.heap = H → s.WarmedH U.vm → fx_Pc Γ n av m av.toArray U :=
  fun U hU hW => ⟨rfl, by rw [hU]; exact hH, by rw [hU]; exact hz, by rw [hU]; exact Nat.le_trans hb hS.1, hSt.warm hS hU hW⟩
theorem e_callV {idx : Nat} {As stk : List Value} {o ci N N2 : Nat} {T : u_T} (hd : decode μ.2.1 pc = .ok (.invokevirtual idx, 3)) (hlk : Cond.methodLink μ.1.cls idx μ'.1 ∈ fx_gw) (hok : fx_OKV μ' As.length) (hs : fx_shapes[o]? = some (10 + ci, N)) (hc : vwCl[ci]? = some (μ'.1.cls, T, N2)) (ho : fx_pi o < n) (hdd : d' + 1 ≤ d) (hst : (st.map (fun v => v.category)).sum ≤ 8) (hn1 : n ≤ n' ∧ n' ≤ n1)
    (S : fx_Ct Γ μ' d' n n' (fx_rf Γ o :: As) m post') (hk : stk = As.reverse ++ fx_rf Γ o :: st) (kk : ∀ (r : Option Value) (m' : fx_M), post' r m' → fx_E Γ μ d n0 n1 post n' m' (pc + 3) lv (r.toList ++ st)) : fx_E Γ μ d n0 n1 post n m (pc) lv (stk) := by
  intro p l e R s mid args below meth c H locs Q ls hX hH hz hS hl hn hK
  subst hk
  have hts := hX.2.2.2.2.1
  have hSt := hX.2.2.2.2.2.1
  obtain ⟨-, -, -, -, -, -, -, hfr, hlo, hce, hsl, hb, hn01⟩ := id hX
  have m1 := fx_sl_mono hn.1
  have m2 := fx_sl_mono hn1.1
  have m3 := fx_sl_mono hn1.2
  have hG : GoodIn fx_gw (wsV μ.1.cls idx μ'.1.cls μ'.1 (fx_ws μ')) := fx_good (fun w hw => by
    rcases List.mem_append.mp hw with h | h
    · simp only [List.mem_cons, List.not_mem_nil, or_false] at h
      rcases h with rfl | rfl | rfl | rfl
      · exact hlk
      · exact hok.2.1
      · exact hok.2.2
      · exact hok.1.2.1
    · exact fx_ws_in hok.1.1 w h)
  exact fx_after hX hS hl hn hn1 hK (va_runV (As := As) (rest := st) ⟨hX.1, hX.2.1, hX.2.2.1, hX.2.2.2.1, hts⟩ (S l)
    (cwV As.length hts hG rfl rfl rfl ⟨rfl, hok.1.2.2.1.1, hok.1.2.2.1.2⟩ ⟨Nat.le_trans (show d' + 1 ≤ d from hdd) hfr, by show 8 + (μ'.2.2.1 + 11) + 64 * d' ≤ _; have := hok.1.2.2.2; omega⟩)
    ⟨fx_Pc.blind Γ n _ m, va_recv hSt.1 (fx_obj hH ho hs) hc (q0 := 0) rfl, fx_PcU hSt hH hz hS hb⟩ rfl rfl hl.1 rfl (by show 2 * 0 + _ ≤ 8; omega) hd ⟨by omega, by omega⟩) kk
theorem e_callS {idx : Nat} {As stk : List Value} (hd : decode μ.2.1 pc = .ok (.invokestatic idx, 3)) (hlk : Cond.methodLink μ.1.cls idx μ'.1 ∈ fx_gw) (hok : fx_OKS μ' As.length) (hdd : d' + 1 ≤ d) (hst : (st.map (fun v => v.category)).sum ≤ 8) (hn1 : n ≤ n' ∧ n' ≤ n1)
    (S : fx_Ct Γ μ' d' n n' As m post') (hk : stk = As.reverse ++ st) (kk : ∀ (r : Option Value) (m' : fx_M), post' r m' → fx_E Γ μ d n0 n1 post n' m' (pc + 3) lv (r.toList ++ st)) : fx_E Γ μ d n0 n1 post n m (pc) lv (stk) := by
  intro p l e R s mid args below meth c H locs Q ls hX hH hz hS hl hn hK
  subst hk
  have hts := hX.2.2.2.2.1
  have hSt := hX.2.2.2.2.2.1
  obtain ⟨-, -, -, -, -, -, -, hfr, hlo, hce, hsl, hb, hn01⟩ := id hX
  have m1 := fx_sl_mono hn.1
  have m2 := fx_sl_mono hn1.1
  have m3 := fx_sl_mono hn1.2
  exact fx_after hX hS hl hn hn1 hK (va_runS (As := As) (rest := st) ⟨hX.1, hX.2.1, hX.2.2.1, hX.2.2.2.1, hts⟩ (S l)
    ⟨callB_of As.length hts (fx_good (fx_ws_in hok.1.1)) rfl rfl rfl (hts _ hok.1.2.1) (hts _ hlk) hok.1.2.2.1 ⟨Nat.le_trans (show d' + 1 ≤ d from hdd) hfr, by show 8 + (μ'.2.2.1 + 11) + 64 * d' ≤ _; have := hok.1.2.2.2; omega⟩, hts _ hok.2⟩
    ⟨fx_Pc.blind Γ n _ m, fx_PcU hSt hH hz hS hb⟩ rfl rfl hl.1 rfl (by show 2 * 0 + _ ≤ 8; omega) hd ⟨by omega, by omega⟩) kk
theorem e_callI {idx : Nat} {As stk : List Value} {o : Nat} (hd : decode μ.2.1 pc = .ok (.invokespecial idx, 3)) (hlk : Cond.methodLink μ.1.cls idx μ'.1 ∈ fx_gw) (hok : fx_OKI μ' As.length) (hdd : d' + 1 ≤ d) (hst : (st.map (fun v => v.category)).sum ≤ 8) (hn1 : n ≤ n' ∧ n' ≤ n1)
    (S : fx_Ct Γ μ' d' n n' (fx_rf Γ o :: As) m post') (hk : stk = As.reverse ++ fx_rf Γ o :: st) (kk : ∀ (r : Option Value) (m' : fx_M), post' r m' → fx_E Γ μ d n0 n1 post n' m' (pc + 3) lv (r.toList ++ st)) : fx_E Γ μ d n0 n1 post n m (pc) lv (stk) := by
  intro p l e R s mid args below meth c H locs Q ls hX hH hz hS hl hn hK
  subst hk
  have hts := hX.2.2.2.2.1
  have hSt := hX.2.2.2.2.2.1
  obtain ⟨-, -, -, -, -, -, -, hfr, hlo, hce, hsl, hb, hn01⟩ := id hX
  have m1 := fx_sl_mono hn.1
  have m2 := fx_sl_mono hn1.1
  have m3 := fx_sl_mono hn1.2
  have hws : fx_ws μ' = Cond.code μ'.1 μ'.2.1 μ'.2.2.1 none :: fx_gw := by rw [fx_ws, hok.2.2.2]
  exact fx_after hX hS hl hn hn1 hK (va_runI (As := As) (rest := st) ⟨hX.1, hX.2.1, hX.2.2.1, hX.2.2.2.1, hts⟩ (S l)
    ⟨callB_of As.length hts (fx_good (fx_ws_in hok.1.1)) hws rfl rfl (hts _ hok.1.2.1) (hts _ hlk) hok.1.2.2.1 ⟨Nat.le_trans (show d' + 1 ≤ d from hdd) hfr, by show 8 + (μ'.2.2.1 + 11) + 64 * d' ≤ _; have := hok.1.2.2.2; omega⟩, hok.2.2.1, hts _ hok.2.1⟩
    ⟨fx_Pc.blind Γ n _ m, fx_PcU hSt hH hz hS hb⟩ rfl rfl hl.1 rfl (by show 2 * 0 + _ ≤ 8; omega) hd ⟨by omega, by omega⟩) kk
/-- a private constructor of a nest mate -/
theorem e_callN {idx : Nat} {As stk : List Value} {o : Nat} (hd : decode μ.2.1 pc = .ok (.invokespecial idx, 3)) (hlk : (μ.1.cls, idx, μ'.1) ∈ fx_nest) (hok : fx_OKI μ' As.length) (hdd : d' + 1 ≤ d) (hst : (st.map (fun v => v.category)).sum ≤ 8) (hn1 : n ≤ n' ∧ n' ≤ n1)
    (S : fx_Ct Γ μ' d' n n' (fx_rf Γ o :: As) m post') (hk : stk = As.reverse ++ fx_rf Γ o :: st) (kk : ∀ (r : Option Value) (m' : fx_M), post' r m' → fx_E Γ μ d n0 n1 post n' m' (pc + 3) lv (r.toList ++ st)) : fx_E Γ μ d n0 n1 post n m (pc) lv (stk) := by
  intro p l e R s mid args below meth c H locs Q ls hX hH hz hS hl hn hK
  subst hk
  have hts := hX.2.2.2.2.1
  have hSt := hX.2.2.2.2.2.1
  obtain ⟨-, -, -, -, -, -, -, hfr, hlo, hce, hsl, hb, hn01⟩ := id hX
  have m1 := fx_sl_mono hn.1
  have m2 := fx_sl_mono hn1.1
  have m3 := fx_sl_mono hn1.2
  have hws : fx_ws μ' = Cond.code μ'.1 μ'.2.1 μ'.2.2.1 none :: fx_gw := by rw [fx_ws, hok.2.2.2]
  exact fx_after hX hS hl hn hn1 hK (va_runIN (host := "DrawerOfArms") (As := As) (rest := st) ⟨hX.1, hX.2.1, hX.2.2.1, hX.2.2.2.1, hts⟩ (S l)
    ⟨va_cnB As.length hts (fx_good (fx_ws_in hok.1.1)) hws rfl rfl (hSt.2.2.2.2.2.2 _ hlk) (hts _ hok.1.2.1) hok.1.2.2.1 ⟨Nat.le_trans (show d' + 1 ≤ d from hdd) hfr, by show 8 + (μ'.2.2.1 + 11) + 64 * d' ≤ _; have := hok.1.2.2.2; omega⟩, hok.2.2.1, hts _ hok.2.1⟩
    ⟨fx_Pc.blind Γ n _ m, fx_PcU hSt hH hz hS hb⟩ rfl rfl hl.1 rfl (by show 2 * 0 + _ ≤ 8; omega) hd ⟨by omega, by omega⟩) kk
/-- a private static method of a nest mate -/
theorem e_callSN {idx : Nat} {As stk : List Value} (hd : decode μ.2.1 pc = .ok (.invokestatic idx, 3)) (hlk : (μ.1.cls, idx, μ'.1) ∈ fx_nest) (hok : fx_OKS μ' As.length) (hdd : d' + 1 ≤ d) (hst : (st.map (fun v => v.category)).sum ≤ 8) (hn1 : n ≤ n' ∧ n' ≤ n1)
    (S : fx_Ct Γ μ' d' n n' As m post') (hk : stk = As.reverse ++ st) (kk : ∀ (r : Option Value) (m' : fx_M), post' r m' → fx_E Γ μ d n0 n1 post n' m' (pc + 3) lv (r.toList ++ st)) : fx_E Γ μ d n0 n1 post n m (pc) lv (stk) := by
  intro p l e R s mid args below meth c H locs Q ls hX hH hz hS hl hn hK
  subst hk
  have hts := hX.2.2.2.2.1
  have hSt := hX.2.2.2.2.2.1
  obtain ⟨-, -, -, -, -, -, -, hfr, hlo, hce, hsl, hb, hn01⟩ := id hX
  have m1 := fx_sl_mono hn.1
  have m2 := fx_sl_mono hn1.1
  have m3 := fx_sl_mono hn1.2
  exact fx_after hX hS hl hn hn1 hK (va_runSN (host := "DrawerOfArms") (As := As) (rest := st) ⟨hX.1, hX.2.1, hX.2.2.1, hX.2.2.2.1, hts⟩ (S l)
    ⟨va_cnB As.length hts (fx_good (fx_ws_in hok.1.1)) rfl rfl rfl (hSt.2.2.2.2.2.2 _ hlk) (hts _ hok.1.2.1) hok.1.2.2.1 ⟨Nat.le_trans (show d' + 1 ≤ d from hdd) hfr, by show 8 + (μ'.2.2.1 + 11) + 64 * d' ≤ _; have := hok.1.2.2.2; omega⟩, hts _ hok.2, trivial⟩
    ⟨fx_Pc.blind Γ n _ m, fx_PcU hSt hH hz hS hb⟩ rfl rfl hl.1 rfl (by show 2 * 0 + _ ≤ 8; omega) hd ⟨by omega, by omega⟩) kk
theorem e_objInit {idx o : Nat} (hd : decode μ.2.1 pc = .ok (.invokespecial idx, 3)) (hlk : Cond.methodLink μ.1.cls idx Lib.objectInit ∈ fx_gw) (h1 : Cond.instanceMethod Lib.objectInit ∈ fx_gw) (h2 : Cond.code Lib.objectInit ⟨#[0xb1]⟩ 1 none ∈ fx_gw) (hdd : 1 ≤ d) (hst : (st.map (fun v => v.category)).sum ≤ 8) (kk : fx_E Γ μ d n0 n1 post n m (pc + 3) lv (st)) : fx_E Γ μ d n0 n1 post n m (pc) lv (fx_rf Γ o :: st) := by
  intro p l e R s mid args below meth c H locs Q ls hX hH hz hS hl hn hK
  have hts := hX.2.2.2.2.1
  obtain ⟨-, -, -, -, -, -, -, hfr, hlo, hce, hsl, hb, hn01⟩ := id hX
  exact W.objInit hX.1 hX.2.1 hX.2.2.2.1 (hts _ hlk) (hts _ h1) (hts _ h2) rfl (hl.1.trans hX.2.2.1.symm) rfl hd (by omega) (by show 2 * 0 + _ + 12 ≤ _; omega) (kk p l e R s mid args below meth c H locs Q ls hX hH hz hS hl hn hK)
theorem e_max {idx : Nat} {x y : Int32} (hd : decode μ.2.1 pc = .ok (.invokestatic idx, 3)) (hlk : Cond.methodLink μ.1.cls idx Lib.Math.max.name ∈ fx_gw) (h1 : Cond.static Lib.Math.max.name ∈ fx_gw) (h2 : Cond.initialized "java/lang/Math" ∈ fx_gw) (h3 : Cond.code Lib.Math.max.name Lib.Math.max.code 2 (some .int) ∈ fx_gw) (hdd : 1 ≤ d) (hst : (st.map (fun v => v.category)).sum ≤ 8) (kk : fx_E Γ μ d n0 n1 post n m (pc + 3) lv (.int (if x < y then y else x) :: st)) : fx_E Γ μ d n0 n1 post n m (pc) lv (.int y :: .int x :: st) := by
  intro p l e R s mid args below meth c H locs Q ls hX hH hz hS hl hn hK
  have hts := hX.2.2.2.2.1
  obtain ⟨-, -, -, -, -, -, -, hfr, hlo, hce, hsl, hb, hn01⟩ := id hX
  have m1 := fx_sl_mono hn.1
  have m3 := fx_sl_mono hn.2
  exact va_mmax hX.1 hX.2.1 (hX.2.2.1.trans hl.1.symm) hX.2.2.2.1 (hts _ hlk) (hts _ h1) (hts _ h2) (hts _ h3) (by omega) (by omega) (by omega) (by omega) hd (kk p l e R s mid args below meth c H locs Q ls hX hH hz hS hl hn hK)
theorem e_min {idx : Nat} {x y : Int32} (hd : decode μ.2.1 pc = .ok (.invokestatic idx, 3)) (hlk : Cond.methodLink μ.1.cls idx Lib.Math.min.name ∈ fx_gw) (h1 : Cond.static Lib.Math.min.name ∈ fx_gw) (h2 : Cond.initialized "java/lang/Math" ∈ fx_gw) (h3 : Cond.code Lib.Math.min.name Lib.Math.min.code 2 (some .int) ∈ fx_gw) (hdd : 1 ≤ d) (hst : (st.map (fun v => v.category)).sum ≤ 8) (kk : fx_E Γ μ d n0 n1 post n m (pc + 3) lv (.int (if y < x then y else x) :: st)) : fx_E Γ μ d n0 n1 post n m (pc) lv (.int y :: .int x :: st) := by
  intro p l e R s mid args below meth c H locs Q ls hX hH hz hS hl hn hK
  have hts := hX.2.2.2.2.1
  obtain ⟨-, -, -, -, -, -, -, hfr, hlo, hce, hsl, hb, hn01⟩ := id hX
  have m1 := fx_sl_mono hn.1
  have m3 := fx_sl_mono hn.2
  exact va_mmin hX.1 hX.2.1 (hX.2.2.1.trans hl.1.symm) hX.2.2.2.1 (hts _ hlk) (hts _ h1) (hts _ h2) (hts _ h3) (by omega) (by omega) (by omega) (by omega) hd (kk p l e R s mid args below meth c H locs Q ls hX hH hz hS hl hn hK)
theorem e_abs {idx : Nat} {x : Int32} (hd : decode μ.2.1 pc = .ok (.invokestatic idx, 3)) (hlk : Cond.methodLink μ.1.cls idx Lib.Math.abs.name ∈ fx_gw) (h1 : Cond.static Lib.Math.abs.name ∈ fx_gw) (h2 : Cond.initialized "java/lang/Math" ∈ fx_gw) (h3 : Cond.code Lib.Math.abs.name Lib.Math.abs.code 1 (some .int) ∈ fx_gw) (hdd : 1 ≤ d) (hst : (st.map (fun v => v.category)).sum ≤ 8) (kk : fx_E Γ μ d n0 n1 post n m (pc + 3) lv (.int (if 0 ≤ x then x else 0 - x) :: st)) : fx_E Γ μ d n0 n1 post n m (pc) lv (.int x :: st) := by
  intro p l e R s mid args below meth c H locs Q ls hX hH hz hS hl hn hK
  have hts := hX.2.2.2.2.1
  obtain ⟨-, -, -, -, -, -, -, hfr, hlo, hce, hsl, hb, hn01⟩ := id hX
  have m1 := fx_sl_mono hn.1
  have m3 := fx_sl_mono hn.2
  exact va_mabs hX.1 hX.2.1 (hX.2.2.1.trans hl.1.symm) hX.2.2.2.1 (hts _ hlk) (hts _ h1) (hts _ h2) (hts _ h3) (by omega) (by omega) (by omega) (by omega) hd (kk p l e R s mid args below meth c H locs Q ls hX hH hz hS hl hn hK)
/-! making cells -/
theorem fx_shC_pi {o : Nat} {q : Nat × Nat} (hs : fx_shapes[o]? = some q) : fx_shC[fx_pi o]? = some q := by
  rcases Nat.lt_or_ge o 119 with h | h
  · rw [fx_shC_all o h]; exact hs
  · rw [List.getElem?_eq_none (show fx_shapes.length ≤ o from h)] at hs
    cases hs
theorem fx_sl_succ {o : Nat} {q : Nat × Nat} (hs : fx_shapes[o]? = some q) : fx_sl (fx_pi o + 1) = fx_sl (fx_pi o) + q.2 := by
  unfold fx_sl
  rw [List.take_succ, fx_shC_pi hs]
  simp
theorem fx_Hd.new {H H1 : Heap} {o : Nat} {q : Nat × Nat} (hH : fx_Hd Γ (fx_pi o) m H) (hs : fx_shapes[o]? = some q) (oq : ∀ a : Nat, a < Γ.1 + fx_pi o → H1[a]? = H[a]?) (he : va_at Γ.2.1 vwCl (Γ.1 + fx_pi o, fx_C Γ m o q) H1) : fx_Hd Γ (fx_pi o + 1) m H1 := by
  intro o2 q2 ho2 hs2
  by_cases h : fx_pi o2 = fx_pi o
  · have e := fx_pi_inj h
    subst e
    cases hs.symm.trans hs2
    exact he
  · exact (hH o2 q2 (by omega) hs2).kept (oq _ (show Γ.1 + fx_pi o2 < Γ.1 + fx_pi o by omega))
theorem e_new {idx ci o N : Nat} {C : String} {T : u_T} {ty0 : Nat → FieldType} (hd : decode μ.2.1 pc = .ok (.new idx, 3)) (hk : Cond.classLink μ.1.cls idx C ∈ fx_gw) (hi : Cond.instantiable C N ∈ fx_gw) (hini : Cond.initialized C ∈ fx_gw) (hcl : fx_Cl C T N ci ty0) (hp : fx_pi o = n) (hs : fx_shapes[o]? = some (10 + ci, N)) (hnN : n < fx_N) (hn1 : n + 1 ≤ n1) (hz0 : ∀ j, j < N → defaultValue (ty0 j) = fx_fv Γ m ci o j) (kk : fx_E Γ μ d n0 n1 post (n + 1) m (pc + 3) lv (fx_rf Γ o :: st)) : fx_E Γ μ d n0 n1 post n m (pc) lv (st) := by
  intro p l e R s mid args below meth c H locs Q ls hX hH hz hS hl hn hK
  subst hp
  have hts := hX.2.2.2.2.1
  have hK0 := hX.2.2.2.2.2.1.1
  obtain ⟨-, -, -, -, -, -, -, hfr, hlo, hce, hsl, hb, hn01⟩ := id hX
  have m1 := fx_sl_mono hn.1
  have m2 := fx_sl_succ hs
  have m3 := fx_sl_mono hn1
  have hKn := hK0.1 ci _ hcl.1
  have hsz := hz hnN
  refine W.newcK hX.1 hX.2.1 hX.2.2.2.1 (hts _ hk) (hts _ hi) (hts _ hini) rfl hd (by omega) (by dsimp only at m2; omega) hKn.2.1 hsz fun H1 kC hkC e1 z1 o1 => ?_
  have k2 := kk p l e R s mid args below meth c H1 locs Q ls hX (hH.new hs o1 ?_) (fun _ => by rw [z1]; omega) ⟨Nat.le_trans hS.1 (by omega), fun x h1 h2 => (o1 x (by have := hS.1; omega)).trans (hS.2.1 x h1 h2), hS.2.2⟩ hl ⟨by omega, hn1⟩ hK
  · rw [show fx_pi o + 1 - n0 = fx_pi o - n0 + 1 by omega, show fx_sl (fx_pi o + 1) - fx_sl n0 = fx_sl (fx_pi o) - fx_sl n0 + N by dsimp only at m2; omega] at k2
    exact k2
  · rw [fx_C_obj]
    exact ⟨_, hcl.1, (u_born ty0 hts hcl.2.1 hKn hkC e1 hcl.2.2.1).to (fun j hj => by rw [hz0 j hj]; simp [vp_V, List.getD, hj])⟩
theorem e_newI {o N : Nat} {x : Int32} (hd : decode μ.2.1 pc = .ok (.newarray .int, 2)) (hw : Cond.arrayClass .int ∈ fx_gw) (hx : x = nI N) (hp : fx_pi o = n) (hs : fx_shapes[o]? = some (0, N)) (hN : N < 10000) (hnN : n < fx_N) (hn1 : n + 1 ≤ n1) (hz0 : ∀ j, j < N → m.1 o j = 0) (kk : fx_E Γ μ d n0 n1 post (n + 1) m (pc + 2) lv (fx_rf Γ o :: st)) : fx_E Γ μ d n0 n1 post n m (pc) lv (.int x :: st) := by
  intro p l e R s mid args below meth c H locs Q ls hX hH hz hS hl hn hK
  subst hp
  subst hx
  have hts := hX.2.2.2.2.1
  have hK0 := hX.2.2.2.2.2.1.1
  obtain ⟨-, -, -, -, -, -, -, hfr, hlo, hce, hsl, hb, hn01⟩ := id hX
  have m1 := fx_sl_mono hn.1
  have m2 := fx_sl_succ hs
  have m3 := fx_sl_mono hn1
  have hsz := hz hnN
  have hc := nI_clamp (n := N) (by omega)
  refine va_newaK (atype := .int) hX.1 hX.2.1 (hts _ hw) rfl hd rfl (nI_pos (by omega)) hc (by show N * 4 ≤ _; omega) (by omega) (by dsimp only at m2; omega) hsz fun H1 cA e1 z1 o1 hAr hNm => ?_
  have hcA : cA = Γ.2.2.1 0 := Option.some.inj (hNm.symm.trans (hK0.2 0 _ rfl).2)
  have k2 := kk p l e R s mid args below meth c H1 locs Q ls hX (hH.new hs o1 ?_) (fun _ => by rw [z1]; omega) ⟨Nat.le_trans hS.1 (by omega), fun x h1 h2 => (o1 x (by have := hS.1; omega)).trans (hS.2.1 x h1 h2), hS.2.2⟩ hl ⟨by omega, hn1⟩ hK
  · rw [show fx_pi o + 1 - n0 = fx_pi o - n0 + 1 by omega, show fx_sl (fx_pi o + 1) - fx_sl n0 = fx_sl (fx_pi o) - fx_sl n0 + N by dsimp only at m2; omega] at k2
    exact k2
  · show H1[Γ.1 + fx_pi o]? = some (vp_cell (Γ.2.2.1 0) (N, .inl (m.1 o)))
    rw [e1, vp_cell_i, hcA]
    congr 1
    simp only [arrV]
    congr 2
    funext j
    rw [hz0 j.1 j.2]
    rfl
theorem e_newJ {o N : Nat} {x : Int32} (hd : decode μ.2.1 pc = .ok (.newarray .long, 2)) (hw : Cond.arrayClass .long ∈ fx_gw) (hx : x = nI N) (hp : fx_pi o = n) (hs : fx_shapes[o]? = some (1, N)) (hN : N < 10000) (hnN : n < fx_N) (hn1 : n + 1 ≤ n1) (hz0 : ∀ j, j < N → m.2.1 o j = 0) (kk : fx_E Γ μ d n0 n1 post (n + 1) m (pc + 2) lv (fx_rf Γ o :: st)) : fx_E Γ μ d n0 n1 post n m (pc) lv (.int x :: st) := by
  intro p l e R s mid args below meth c H locs Q ls hX hH hz hS hl hn hK
  subst hp
  subst hx
  have hts := hX.2.2.2.2.1
  have hK0 := hX.2.2.2.2.2.1.1
  obtain ⟨-, -, -, -, -, -, -, hfr, hlo, hce, hsl, hb, hn01⟩ := id hX
  have m1 := fx_sl_mono hn.1
  have m2 := fx_sl_succ hs
  have m3 := fx_sl_mono hn1
  have hsz := hz hnN
  have hc := nI_clamp (n := N) (by omega)
  refine va_newaK (atype := .long) hX.1 hX.2.1 (hts _ hw) rfl hd rfl (nI_pos (by omega)) hc (by show N * 8 ≤ _; omega) (by omega) (by dsimp only at m2; omega) hsz fun H1 cA e1 z1 o1 hAr hNm => ?_
  have hcA : cA = Γ.2.2.1 1 := Option.some.inj (hNm.symm.trans (hK0.2 1 _ rfl).2)
  have k2 := kk p l e R s mid args below meth c H1 locs Q ls hX (hH.new hs o1 ?_) (fun _ => by rw [z1]; omega) ⟨Nat.le_trans hS.1 (by omega), fun x h1 h2 => (o1 x (by have := hS.1; omega)).trans (hS.2.1 x h1 h2), hS.2.2⟩ hl ⟨by omega, hn1⟩ hK
  · rw [show fx_pi o + 1 - n0 = fx_pi o - n0 + 1 by omega, show fx_sl (fx_pi o + 1) - fx_sl n0 = fx_sl (fx_pi o) - fx_sl n0 + N by dsimp only at m2; omega] at k2
    exact k2
  · show H1[Γ.1 + fx_pi o]? = some (vp_cell (Γ.2.2.1 1) (N, .inr (.inl (m.2.1 o))))
    rw [e1, vp_cell_l, hcA]
    congr 1
    simp only [arrV]
    congr 2
    funext j
    rw [hz0 j.1 j.2]
    rfl
end FC
