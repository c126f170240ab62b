/-! THE FLAT LOGIC. The whole system makes 119 cells at its start, one behind the other, and none later: cell o stands at the address base + fx_pi o. A memory is three functions of a cell's number and a place: ints, longs, references (numbers of cells). -/
abbrev fx_M : Type := (Nat → Nat → Int32) × (Nat → Nat → Int64) × (Nat → Nat → Option Nat)
/-- the how manieth cell o is made: the reader (51, 52) and the moves (65, 66) stand behind the shelves -/
def fx_pi (o : Nat) : Nat := if o < 51 then o else if o < 53 then o + 28 else if o < 65 then o - 2 else if o < 67 then o + 16 else if o < 83 then o - 4 else o
theorem fx_pi_lt {o : Nat} (h : o < 119) : fx_pi o < 119 := by
  unfold fx_pi
  repeat' split
  all_goals omega
theorem fx_pi_inj {a b : Nat} (h : fx_pi a = fx_pi b) : a = b := by
  unfold fx_pi at h
  repeat' split at h
  all_goals omega
/-- base address; classes and slots; array classes by their tags; addresses of what the JVM had before: static arrays, texts, their bytes -/
abbrev fx_G : Type := Nat × va_G × (Nat → ClassId) × (Nat → Nat)
/-- a method: its name, its code, its locals, its type -/
abbrev fx_MD : Type := MethodName × ByteArray × Nat × Option FieldType
def fx_shapes : List (Nat × Nat) := [(18, 10), (16, 8), (2, 8), (3, 5), (10, 7), (10, 7), (10, 7), (10, 7), (10, 7), (10, 7), (10, 7), (10, 7), (11, 8), (11, 8), (11, 8), (11, 8), (11, 8), (16, 8), (2, 8), (3, 5), (10, 7), (10, 7), (10, 7), (10, 7), (10, 7), (10, 7), (10, 7), (10, 7), (11, 8), (11, 8), (11, 8), (11, 8), (11, 8), (16, 8), (2, 8), (3, 5), (10, 7), (10, 7), (10, 7), (10, 7), (10, 7), (10, 7), (10, 7), (10, 7), (11, 8), (11, 8), (11, 8), (11, 8), (11, 8), (4, 8), (0, 8), (14, 7), (0, 7), (13, 12), (0, 2816), (0, 256), (0, 10), (0, 8), (0, 10), (0, 10), (0, 10), (0, 80), (10, 7), (17, 1), (0, 32), (12, 4), (0, 20), (15, 4), (1, 160), (15, 4), (1, 160), (15, 4), (1, 160), (15, 4), (1, 160), (15, 4), (1, 160), (15, 4), (1, 160), (15, 4), (1, 160), (15, 4), (1, 160), (19, 51), (0, 8), (0, 9), (0, 9), (0, 9), (0, 9), (0, 9), (0, 9), (0, 9), (0, 5), (0, 5), (0, 5), (0, 5), (0, 5), (0, 5), (0, 5), (0, 5), (0, 8), (0, 8), (0, 8), (0, 8), (1, 1280), (1, 160), (0, 26), (0, 5), (0, 6), (0, 7), (0, 7), (0, 110), (0, 110), (0, 110), (0, 5632), (0, 10), (0, 5), (0, 5), (0, 20)]
/-- the shapes as the cells are made -/
def fx_shC : List (Nat × Nat) := [(18, 10), (16, 8), (2, 8), (3, 5), (10, 7), (10, 7), (10, 7), (10, 7), (10, 7), (10, 7), (10, 7), (10, 7), (11, 8), (11, 8), (11, 8), (11, 8), (11, 8), (16, 8), (2, 8), (3, 5), (10, 7), (10, 7), (10, 7), (10, 7), (10, 7), (10, 7), (10, 7), (10, 7), (11, 8), (11, 8), (11, 8), (11, 8), (11, 8), (16, 8), (2, 8), (3, 5), (10, 7), (10, 7), (10, 7), (10, 7), (10, 7), (10, 7), (10, 7), (10, 7), (11, 8), (11, 8), (11, 8), (11, 8), (11, 8), (4, 8), (0, 8), (13, 12), (0, 2816), (0, 256), (0, 10), (0, 8), (0, 10), (0, 10), (0, 10), (0, 80), (10, 7), (17, 1), (0, 32), (15, 4), (1, 160), (15, 4), (1, 160), (15, 4), (1, 160), (15, 4), (1, 160), (15, 4), (1, 160), (15, 4), (1, 160), (15, 4), (1, 160), (15, 4), (1, 160), (14, 7), (0, 7), (12, 4), (0, 20), (19, 51), (0, 8), (0, 9), (0, 9), (0, 9), (0, 9), (0, 9), (0, 9), (0, 9), (0, 5), (0, 5), (0, 5), (0, 5), (0, 5), (0, 5), (0, 5), (0, 5), (0, 8), (0, 8), (0, 8), (0, 8), (1, 1280), (1, 160), (0, 26), (0, 5), (0, 6), (0, 7), (0, 7), (0, 110), (0, 110), (0, 110), (0, 5632), (0, 10), (0, 5), (0, 5), (0, 20)]
theorem fx_shC_all : ∀ o, o < 119 → fx_shC[fx_pi o]? = fx_shapes[o]? := by decide +kernel
def fx_refs : List (List Bool) := [[false, false, false, false, false, false, false], [false, false, false, false, false, false, false, false], [false, true, true, false], [true, true, true, true, true, true, true, true, true, false, false, false], [false, true, true, false, false, false, true], [true, false, false, false], [true, true, false, false, false, false, false, false], [true], [true, true, true, false, true, true, true, true, true, true], [false, false, false, false, false, false, false, true, true, true, true, true, true, true, true, true, true, true, true, true, true, true, true, true, true, true, true, true, true, true, true, true, true, true, false, false, false, false, false, true, true, true, true, true, false, true, true, false, true, false, false]]
def fx_layT : List (List (Option Nat)) := [[some 1, some 17, some 33, none, some 49, some 50, some 51, some 53, some 63, some 65], [some 2, some 3], [some 4, some 5, some 6, some 7, some 8, some 9, some 10, some 11], [some 12, some 13, some 14, some 15, some 16], [], [], [], [], [], [], [], [], [], [], [], [], [], [some 18, some 19], [some 20, some 21, some 22, some 23, some 24, some 25, some 26, some 27], [some 28, some 29, some 30, some 31, some 32], [], [], [], [], [], [], [], [], [], [], [], [], [], [some 34, some 35], [some 36, some 37, some 38, some 39, some 40, some 41, some 42, some 43], [some 44, some 45, some 46, some 47, some 48], [], [], [], [], [], [], [], [], [], [], [], [], [], [some 67, some 69, some 71, some 73, some 75, some 77, some 79, some 81], [], [none, some 33, none, none, none, none, some 52], [], [some 54, some 55, some 56, some 57, some 58, some 59, some 60, some 61, some 62], [], [], [], [], [], [], [], [], [], [some 64], [], [none, some 66], [], [some 68], [], [some 70], [], [some 72], [], [some 74], [], [some 76], [], [some 78], [], [some 80], [], [some 82], [], [none, none, none, none, none, none, none, some 84, some 85, some 86, some 87, some 88, some 89, some 90, some 91, some 92, some 93, some 94, some 95, some 96, some 97, some 98, some 99, some 100, some 101, some 102, some 103, some 104, some 105, some 106, some 107, some 108, some 109, some 110, none, none, none, none, none, some 111, some 112, some 113, some 114, some 115, none, some 116, some 117, none, some 118], [], [], [], [], [], [], [], [], [], [], [], [], [], [], [], [], [], [], [], [], [], [], [], [], [], [], [], [], [], [], [], [], [], [], []]
abbrev fx_N : Nat := 119
def fx_lay (o k : Nat) : Option Nat := (fx_layT.getD o []).getD k none
def fx_Lay (m : fx_M) : Prop := ∀ o k v, fx_lay o k = some v → m.2.2 o k = some v
def fx_ref (ci k : Nat) : Bool := (fx_refs.getD ci []).getD k false
abbrev fx_rf (Γ : fx_G) (o : Nat) : Value := .ref (Γ.1 + fx_pi o)
def fx_fv (Γ : fx_G) (m : fx_M) (ci o k : Nat) : Value := if fx_ref ci k = true then va_rf ((m.2.2 o k).map (fun q => Γ.1 + fx_pi q)) else .int (m.1 o k)
def fx_C (Γ : fx_G) (m : fx_M) (o : Nat) (s : Nat × Nat) : va_E :=
  if s.1 = 0 then .inl (Γ.2.2.1 0, s.2, .inl (m.1 o)) else if s.1 = 1 then .inl (Γ.2.2.1 1, s.2, .inr (.inl (m.2.1 o)))
  else if s.1 < 10 then .inl (Γ.2.2.1 s.1, s.2, .inr (.inr (.inr (.inr (fun k => (m.2.2 o k).map (fun q => Γ.1 + fx_pi q)))))) else .inr (s.1 - 10, (List.range s.2).map (fx_fv Γ m (s.1 - 10) o))
/-- the heap holds the first n cells as the memory has them -/
def fx_Hd (Γ : fx_G) (n : Nat) (m : fx_M) (H : Heap) : Prop := ∀ (o : Nat) (s : Nat × Nat), fx_pi o < n → fx_shapes[o]? = some s → va_at Γ.2.1 vwCl (Γ.1 + fx_pi o, fx_C Γ m o s) H
def fx_sl (n : Nat) : Nat := ((fx_shC.take n).map Prod.snd).sum
abbrev fx_A (Γ : fx_G) : Nat → Prop := fun q => Γ.1 ≤ q
def fx_tys (Γ : fx_G) : List (ClassId × FieldType) := [(Γ.2.2.1 0, .int), (Γ.2.2.1 1, .long), (Γ.2.2.1 2, .object RX0), (Γ.2.2.1 3, .object RX1), (Γ.2.2.1 4, .object RX5)]
/-- static arrays of ints: class, name, length, contents -/
def fx_stat : List (String × String × List Int32) := [(RX0, "UNDER", [-1, 0, 0, 1, 0, 2, 3]), (RX4, "ARM_MOST", [6, 9, 1, 9, 9, 9]), (RX4, "ARM_LEAST", [0, 0, 0, 0, 0, 0]), (RX4, "DOLL_MOST", [9, 9, 9, 2, 99, 9, 40]), (RX4, "DOLL_LEAST", [0, 0, 0, 0, 1, 0, 0]), (RX2, "BODIES", [10, 11, 12, 20, 0, 0, 0, 30, 0, 40, 0, 0, 51, 0, 50, 0, 0, 60, 70, 71, 0])]
/-- the texts: their places in the reader's file -/
def fx_txt : List (Nat × String × List Int32) := [(45, ";", [59]), (55, "arm", [97, 114, 109]), (60, "doll", [100, 111, 108, 108]), (65, "lies", [108, 105, 101, 115]), (70, "on", [111, 110]), (75, "off", [111, 102, 102])]
def fx_nest : List (String × Nat × MethodName) := [(RX6, 42, yX0_init), (RX6, 43, yX1_init), (RX8, 38, yX3_init), (RX3, 40, yX0_init), (RX8, 45, yX7_init), (RX8, 50, yX5_init), (RX2, 50, yX8_within)]
/-- what holds of the tables and of the statics, at a state -/
def fx_S (Γ : fx_G) (U : State) : Prop :=
  va_K Γ.2.1 vwCl (fx_tys Γ) U ∧
  (∀ (j : Nat) (q : String × String × List Int32), fx_stat[j]? = some q → va_Z q.1 q.2.1 "[I" (.ref (Γ.2.2.2 j)) (fx_A Γ) U U.heap ∧ va_T .int (Γ.2.2.2 j) q.2.2.length (fun i => .int (q.2.2.getD i 0)) (fx_A Γ) U U.heap) ∧
  (∀ (j : Nat) (q : Nat × String × List Int32), fx_txt[j]? = some q → vk_R RX4 q.1 q.2.1 (Γ.2.2.2 (10 + j)) U) ∧
  vk_S 6 (fx_txt.map (fun q => q.2.2.length)) (fx_txt.map (fun q => q.2.2)) (fun j => Γ.2.2.2 (10 + j)) (fun j => Γ.2.2.2 (20 + j)) (fx_A Γ) U U.heap ∧
  (va_Z "java/lang/String" "COMPACT_STRINGS" "Z" (.int 1) (fx_A Γ) U U.heap ∧ va_Zq "jdk/internal/util/Preconditions" "SIOOBE_FORMATTER" "Ljava/util/function/BiFunction;" (fx_A Γ) U U.heap ∧ va_T .int (Γ.2.2.2 99) (Γ.2.2.2 98) (fun i => .int (Int32.ofNat (Γ.2.2.2 (100 + i)))) (fx_A Γ) U U.heap) ∧
  (∀ C ∈ [RX0, RX1, RX5], va_AO C U) ∧
  (∀ q ∈ fx_nest, va_Nw (.methodLinkNest q.1 q.2.1 q.2.2 "DrawerOfArms") U)
theorem fx_S.warm {Γ : fx_G} {s U : State} {H : Heap} {locs : List Loc} (h : fx_S Γ s) (hS : va_S (fx_A Γ) s.heap H locs) (hU : U.heap = H) (hW : s.WarmedH U.vm) : fx_S Γ U := by
  obtain ⟨h1, h2, h3, h4, h5, h6, h7⟩ := h
  have hk : ∀ a : Nat, a < s.heap.size → ¬ fx_A Γ a → U.heap[a]? = s.heap[a]? := fun a ha hn => by rw [hU]; exact hS.2.1 a ha hn
  refine ⟨va_K.moved hW.alike h1, fun j q hq => ⟨va_Z.kept (va_Z.moved hW.alike (h2 j q hq).1) hk, va_T.kept (va_T.moved hW.alike (h2 j q hq).2) hk⟩, fun j q hq => (h3 j q hq).warm hW, (h4.moved hW.alike).kept hk, ⟨va_Z.kept (va_Z.moved hW.alike h5.1) hk, va_Zq.kept (va_Zq.moved hW.alike h5.2.1) hk, va_T.kept (va_T.moved hW.alike h5.2.2) hk⟩, fun C hC => (h6 C hC).moved hW.alike, fun q hq => va_Nw.warmM hW (h7 q hq)⟩
theorem fx_S.calling {Γ : fx_G} {U : State} (h : fx_S Γ U) (g : JFrame) (mk : MethodId) (a : Array Value) : fx_S Γ (U.calling g mk a) :=
  ⟨va_K.moved (u := U) (U := U.calling g mk a) (Vm.Alike.refl U.vm) h.1, fun j q hq => ⟨va_Z.moved (u := U) (U := U.calling g mk a) (Vm.Alike.refl U.vm) (h.2.1 j q hq).1, va_T.moved (u := U) (U := U.calling g mk a) (Vm.Alike.refl U.vm) (h.2.1 j q hq).2⟩, fun j q hq => vk_R.same rfl (h.2.2.1 j q hq), vk_S.moved (u := U) (U := U.calling g mk a) (Vm.Alike.refl U.vm) h.2.2.2.1, ⟨va_Z.moved (u := U) (U := U.calling g mk a) (Vm.Alike.refl U.vm) h.2.2.2.2.1.1, va_Zq.moved (u := U) (U := U.calling g mk a) (Vm.Alike.refl U.vm) h.2.2.2.2.1.2.1, va_T.moved (u := U) (U := U.calling g mk a) (Vm.Alike.refl U.vm) h.2.2.2.2.1.2.2⟩, fun C hC => va_AO.moved (u := U) (U := U.calling g mk a) (Vm.Alike.refl U.vm) (h.2.2.2.2.2.1 C hC), fun q hq => va_Nw.same rfl rfl (h.2.2.2.2.2.2 q hq)⟩
/-! the locals as a list by places -/
def fx_al : Nat → List (Option Value) → List (Nat × Value)
  | _, [] => []
  | i, none :: r => fx_al (i + 1) r
  | i, some v :: r => (i, v) :: fx_al (i + 1) r
theorem fx_al_mem : ∀ (lv : List (Option Value)) (i j : Nat) (v : Value), (j, v) ∈ fx_al i lv ↔ ∃ k, j = i + k ∧ lv[k]? = some (some v)
  | [], i, j, v => by simp [fx_al]
  | none :: r, i, j, v => by
    rw [fx_al, fx_al_mem r (i + 1) j v]
    constructor
    · rintro ⟨k, h1, h2⟩
      exact ⟨k + 1, by omega, by simpa using h2⟩
    · rintro ⟨k, h1, h2⟩
      cases k with
      | zero => simp at h2
      | succ k => exact ⟨k, by omega, by simpa using h2⟩
  | some w :: r, i, j, v => by
    rw [fx_al, List.mem_cons, fx_al_mem r (i + 1) j v]
    constructor
    · rintro (h | ⟨k, h1, h2⟩)
      · cases h
        exact ⟨0, by omega, by simp⟩
      · exact ⟨k + 1, by omega, by simpa using h2⟩
    · rintro ⟨k, h1, h2⟩
      cases k with
      | zero =>
        simp at h2
        subst h2
        exact Or.inl (by rw [h1]; rfl)
      | succ k => exact Or.inr ⟨k, by omega, by simpa using h2⟩
def fx_L (ls : Array Slot) (nL : Nat) (lv : List (Option Value)) : Prop := lv_has ls nL (fx_al 0 lv)
theorem fx_L.at {ls : Array Slot} {nL : Nat} {lv : List (Option Value)} (h : fx_L ls nL lv) {i : Nat} {v : Value} (hk : lv[i]? = some (some v)) : ls[i]? = some (.val v) :=
  h.2.2 (i, v) ((fx_al_mem lv 0 i v).mpr ⟨i, by omega, hk⟩)
/-- no long stands just below place i -/
def fx_ok (lv : List (Option Value)) : Nat → Bool
  | 0 => true
  | i + 1 => match lv[i]? with
    | some (some w) => w.category != 2
    | _ => true
theorem fx_ok_ne {lv : List (Option Value)} {i j : Nat} {w : Value} (h : fx_ok lv i = true) (hj : lv[j]? = some (some w)) : ¬ (j + 1 = i ∧ w.category = 2) := by
  rintro ⟨rfl, hc⟩
  simp [fx_ok, hj, hc] at h
theorem fx_st1 {ls' : Array Slot} {nL : Nat} {lv : List (Option Value)} {i : Nat} {v : Value} (ho : fx_ok lv i = true)
    (h : lv_has ls' nL ((i, v) :: (fx_al 0 lv).filter (fun q => !(q.1 == i) && !(q.1 + 1 == i && q.2.category == 2)))) : fx_L ls' nL (lv.set i (some v)) := by
  refine ⟨h.1, h.2.1, fun q hq => h.2.2 q ?_⟩
  obtain ⟨j, w⟩ := q
  obtain ⟨k, h1, h2⟩ := (fx_al_mem _ 0 j w).mp hq
  have hjk : j = k := by omega
  subst hjk
  by_cases hji : j = i
  · subst hji
    have hl : j < lv.length := by
      have := (List.getElem?_eq_some_iff.mp h2).1
      simpa using this
    rw [List.getElem?_set_self hl] at h2
    cases h2
    exact List.mem_cons_self
  · rw [List.getElem?_set_ne (Ne.symm hji)] at h2
    refine List.mem_cons_of_mem _ (List.mem_filter.mpr ⟨(fx_al_mem lv 0 j w).mpr ⟨j, by omega, h2⟩, ?_⟩)
    have := fx_ok_ne ho h2
    simp [hji]
    by_cases hh : j + 1 = i
    · exact Or.inr fun hc => this ⟨hh, hc⟩
    · exact Or.inl hh
theorem fx_st2 {ls' : Array Slot} {nL : Nat} {lv : List (Option Value)} {i : Nat} {v : Value} (ho : fx_ok lv i = true)
    (h : lv_has ls' nL ((i, v) :: (fx_al 0 lv).filter (fun q => !(q.1 == i) && (!(q.1 == i + 1) && !(q.1 + 1 == i && q.2.category == 2))))) : fx_L ls' nL ((lv.set i (some v)).set (i + 1) none) := by
  refine ⟨h.1, h.2.1, fun q hq => h.2.2 q ?_⟩
  obtain ⟨j, w⟩ := q
  obtain ⟨k, h1, h2⟩ := (fx_al_mem _ 0 j w).mp hq
  have hjk : j = k := by omega
  subst hjk
  by_cases hj1 : j = i + 1
  · subst hj1
    have hl := (List.getElem?_eq_some_iff.mp h2).1
    rw [List.getElem?_set_self (by simpa using hl)] at h2
    cases h2
  · rw [List.getElem?_set_ne (Ne.symm hj1)] at h2
    by_cases hji : j = i
    · subst hji
      have hl : j < lv.length := by
        have := (List.getElem?_eq_some_iff.mp h2).1
        simpa using this
      rw [List.getElem?_set_self hl] at h2
      cases h2
      exact List.mem_cons_self
    · rw [List.getElem?_set_ne (Ne.symm hji)] at h2
      refine List.mem_cons_of_mem _ (List.mem_filter.mpr ⟨(fx_al_mem lv 0 j w).mpr ⟨j, by omega, h2⟩, ?_⟩)
      have := fx_ok_ne ho h2
      simp [hji, hj1]
      by_cases hh : j + 1 = i
      · exact Or.inr fun hc => this ⟨hh, hc⟩
      · exact Or.inl hh
/-- fewer places known -/
def fx_wk : List (Option Value) → List (Option Value) → Prop
  | [], [] => True
  | _ :: r, none :: r2 => fx_wk r r2
  | a :: r, some w :: r2 => a = some w ∧ fx_wk r r2
  | _, _ => False
theorem fx_wk_at : ∀ (lv lv2 : List (Option Value)) (k : Nat) (v : Value), fx_wk lv lv2 → lv2[k]? = some (some v) → lv[k]? = some (some v)
  | [], [], k, v, _, h => by simp at h
  | _ :: r, none :: r2, k, v, h, hk => by
    cases k with
    | zero => simp at hk
    | succ k => simpa using fx_wk_at r r2 k v h (by simpa using hk)
  | a :: r, some w :: r2, k, v, h, hk => by
    cases k with
    | zero => simp at hk; subst hk; simp [h.1]
    | succ k => simpa using fx_wk_at r r2 k v h.2 (by simpa using hk)
theorem fx_L.wk {ls : Array Slot} {nL : Nat} {lv lv2 : List (Option Value)} (h : fx_L ls nL lv) (hw : fx_wk lv lv2) : fx_L ls nL lv2 := by
  refine ⟨h.1, h.2.1, fun q hq => h.2.2 q ?_⟩
  obtain ⟨j, w⟩ := q
  obtain ⟨k, h1, h2⟩ := (fx_al_mem _ 0 j w).mp hq
  exact (fx_al_mem _ 0 j w).mpr ⟨k, h1, fx_wk_at lv lv2 k w hw h2⟩
theorem fx_entry (vs : List Value) {n : Nat} {lv : List (Option Value)} (h : (lg_sl vs).length ≤ n) (hlv : ∀ k v, lv[k]? = some (some v) → (k, v) ∈ lv_args 0 vs) : fx_L ((lg_sl vs ++ List.replicate (n - (lg_sl vs).length) Slot.unset).toArray) n lv := by
  obtain ⟨h1, h2, h3⟩ := lv_entry vs h
  refine ⟨h1, h2, fun q hq => h3 q ?_⟩
  obtain ⟨j, w⟩ := q
  obtain ⟨k, e1, e2⟩ := (fx_al_mem _ 0 j w).mp hq
  have : j = k := by omega
  subst this
  exact hlv j w e2
/-- the locals with which a method begins -/
def fx_args : List Value → List (Option Value)
  | [] => []
  | v :: vs => if v.category = 2 then some v :: none :: fx_args vs else some v :: fx_args vs
theorem fx_args_mem : ∀ (vs : List Value) (i k : Nat) (v : Value), (fx_args vs)[k]? = some (some v) → (i + k, v) ∈ lv_args i vs
  | [], i, k, v, h => by simp [fx_args] at h
  | w :: vs, i, k, v, h => by
    by_cases hc : w.category = 2
    · simp only [fx_args, hc, if_true] at h
      simp only [lv_args, hc, if_true]
      match k, h with
      | 0, h => simp at h; subst h; exact List.mem_cons_self
      | 1, h => simp at h
      | k + 2, h =>
        have := fx_args_mem vs (i + 2) k v (by simpa using h)
        exact List.mem_cons_of_mem _ (by rw [show i + (k + 2) = i + 2 + k by omega]; exact this)
    · simp only [fx_args, hc, if_false] at h
      simp only [lv_args, hc, if_false]
      match k, h with
      | 0, h => simp at h; subst h; exact List.mem_cons_self
      | k + 1, h =>
        have := fx_args_mem vs (i + 1) k v (by simpa using h)
        exact List.mem_cons_of_mem _ (by rw [show i + (k + 1) = i + 1 + k by omega]; exact this)
theorem fx_entryA (vs : List Value) {n j : Nat} (h : (lg_sl vs).length ≤ n) : fx_L ((lg_sl vs ++ List.replicate (n - (lg_sl vs).length) Slot.unset).toArray) n (fx_args vs ++ List.replicate j none) := by
  refine fx_entry vs h fun k v hk => ?_
  by_cases hl : k < (fx_args vs).length
  · rw [List.getElem?_append_left hl] at hk
    have := fx_args_mem vs 0 k v hk
    rwa [Nat.zero_add] at this
  · rw [List.getElem?_append_right (by omega)] at hk
    have := List.mem_of_getElem? hk
    simp at this
/-! the judgement -/
def fx_Ret (ins : Instr) (r : Option Value) (ret : Option FieldType) : Prop :=
  (ins = .ireturn ∧ ∃ (v : Int32) (ty : FieldType), r = some (.int v) ∧ ret = some ty ∧ narrow ty (.int v) = .int v) ∨ (ins = .lreturn ∧ ∃ v : Int64, r = some (.long v) ∧ ret = some .long) ∨ (ins = .return_ ∧ r = none ∧ ret = none)
def fx_X (Γ : fx_G) (μ : fx_MD) (d n0 n1 : Nat) (R : Room) (p : Program) (s : State) (k : MethodId) (args : Array Value) (meth : Method) (c : Code) : Prop :=
  p.tables.exec = Jvm.exec ∧ c.code = μ.2.1 ∧ c.maxLocals = μ.2.2.1 ∧ s.vm.findClass μ.1.cls = some k.cls ∧ (∀ w ∈ fx_gw, w.before args s = true) ∧ fx_S Γ s ∧ meth.name = μ.1.name ∧
  d ≤ R.frames ∧ 64 * d ≤ R.locals ∧ n1 - n0 ≤ R.cells ∧ fx_sl n1 - fx_sl n0 ≤ R.slots ∧ Γ.1 ≤ s.heap.size ∧ n0 ≤ n1
/-- from here the method comes to its end, with what 'post' says -/
def fx_E (Γ : fx_G) (μ : fx_MD) (d n0 n1 : Nat) (post : Option Value → fx_M → Prop) (n : Nat) (m : fx_M) (pc : Nat) (lv : List (Option Value)) (st : List Value) : Prop :=
  ∀ (p : Program) (l : Launch) (e : Env) (R : Room) (s : State) (k : MethodId) (args : Array Value) (below : List Frame) (meth : Method) (c : Code) (H : Heap) (locs : List Loc) (Q : State → Prop) (ls : Array Slot),
    fx_X Γ μ d n0 n1 R p s k args meth c → fx_Hd Γ n m H → (n < fx_N → H.size = Γ.1 + n) → va_S (fx_A Γ) s.heap H locs → fx_L ls μ.2.2.1 lv → n0 ≤ n ∧ n ≤ n1 →
    (∀ (r : Option Value) (m' : fx_M) (H' : Heap) (locs' : List Loc) (pc' : Nat) (ls' : Array Slot) (ins : Instr), post r m' → fx_Hd Γ n1 m' H' → (n1 < fx_N → H'.size = Γ.1 + n1) → va_S (fx_A Γ) s.heap H' locs' → decode μ.2.1 pc' = .ok (ins, 1) → fx_Ret ins r μ.2.2.2 →
      W p l e R s k args below meth c H' locs' (n1 - n0) (fx_sl n1 - fx_sl n0) Q (F0 k pc' ls' r.toList)) →
    W p l e R s k args below meth c H locs (n - n0) (fx_sl n - fx_sl n0) Q (F0 k pc ls st)
/-- a method's contract -/
def fx_ws (μ : fx_MD) : List Cond := Cond.code μ.1 μ.2.1 μ.2.2.1 μ.2.2.2 :: fx_gw
def fx_rm (d n0 n1 : Nat) : Room := { frames := d, cells := n1 - n0, slots := fx_sl n1 - fx_sl n0, locals := 64 * d }
def fx_Pc (Γ : fx_G) (n0 : Nat) (av : List Value) (m : fx_M) : Array Value → State → Prop := fun a U => a = av.toArray ∧ fx_Hd Γ n0 m U.heap ∧ (n0 < fx_N → U.heap.size = Γ.1 + n0) ∧ Γ.1 ≤ U.heap.size ∧ fx_S Γ U
def fx_Qc (Γ : fx_G) (n1 : Nat) (post : Option Value → fx_M → Prop) : Array Value → State → Outcome → State → Prop := fun _ st o t => (∃ (r : Option Value) (m' : fx_M), o = .returned r ∧ post r m' ∧ fx_Hd Γ n1 m' t.heap ∧ (n1 < fx_N → t.heap.size = Γ.1 + n1)) ∧ va_F (fx_A Γ) st t
def fx_Ct (Γ : fx_G) (μ : fx_MD) (d n0 n1 : Nat) (av : List Value) (m : fx_M) (post : Option Value → fx_M → Prop) : Prop :=
  ∀ l : Launch, Met l μ.1 (fx_ws μ) (fx_rm d n0 n1) (fx_Pc Γ n0 av m) (fx_Qc Γ n1 post) (n1 - n0) (fx_sl n1 - fx_sl n0) (fx_A Γ)
theorem fx_Pc.blind (Γ : fx_G) (n0 : Nat) (av : List Value) (m : fx_M) : FrameBlind (fx_Pc Γ n0 av m) := fun a U g mk h => ⟨h.1, h.2.1, h.2.2.1, h.2.2.2.1, h.2.2.2.2.calling g mk a⟩
theorem fx_sl_mono {a b : Nat} (h : a ≤ b) : fx_sl a ≤ fx_sl b := by
  unfold fx_sl
  rw [show fx_shC.take b = fx_shC.take a ++ (fx_shC.drop a).take (b - a) by rw [← List.take_add]; congr 1; omega, List.map_append, List.sum_append]
  omega
set_option maxHeartbeats 1000000 in
theorem fx_Ct.of {Γ : fx_G} {μ : fx_MD} {d n0 n1 : Nat} {av : List Value} {m : fx_M} {post : Option Value → fx_M → Prop} {j : Nat} (hy : plainName μ.1.cls = true) (hn : n0 ≤ n1) (hlen : (lg_sl av).length ≤ μ.2.2.1)
    (h : fx_E Γ μ d n0 n1 post n0 m 0 (fx_args av ++ List.replicate j none) []) : fx_Ct Γ μ d n0 n1 av m post := by
  intro l
  refine Met.ofW (cc := μ.2.1) (maxL := μ.2.2.1) (ret := μ.2.2.2) hy rfl ?_
  intro p e s mid args below meth c s₁ B hml hv
  obtain ⟨rfl, hH, hz, hb, hSt⟩ := hv
  have hts := atoms_spec (ws := fx_ws μ) B.pre
  rw [lg_entry_eq]
  have hl := fx_entryA av (j := j) hlen
  generalize (lg_sl av ++ List.replicate (μ.2.2.1 - (lg_sl av).length) Slot.unset).toArray = ls at hl ⊢
  have key := h p l e (headSpec (fx_ws μ) (fx_rm d n0 n1)).room s mid av.toArray below meth c s.heap [] (MQ below (fx_Qc Γ n1 post) av.toArray s (n1 - n0) (fx_sl n1 - fx_sl n0) (fx_A Γ)) ls
    ⟨B.exec, B.bytes, hml, findClass_of_methodNamed B.named, fun w hw => hts w (List.mem_cons_of_mem _ hw), hSt, (name_of_methodNamed B.named B.method).1, Nat.le_refl _, Nat.le_refl _, Nat.le_refl _, Nat.le_refl _, hb, hn⟩ hH hz va_S.rf hl ⟨Nat.le_refl _, hn⟩ ?_
  · rw [Nat.sub_self, Nat.sub_self] at key
    exact key
  · intro r m' H' locs' pc' ls' ins hp hH' hz' hS' hd hr
    have hq : ∀ t : State, t.heap = H' → s.WarmedH t.vm → fx_Qc Γ n1 post av.toArray s (.returned r) t := fun t ht _ => ⟨⟨r, m', rfl, hp, by rw [ht]; exact hH', by rw [ht]; exact hz'⟩, hS'.F ht⟩
    rcases hr with ⟨rfl, v, ty, rfl, hr, hn⟩ | ⟨rfl, v, rfl, hr⟩ | ⟨rfl, rfl, hr⟩
    · exact W.zret B.exec B.bytes (B.returns.trans hr) hn hq hS'.2.2 hd B.notSynchronized
    · exact W.lret B.exec B.bytes (B.returns.trans hr) hq hS'.2.2 hd B.notSynchronized
    · exact W.vret B.exec B.bytes (B.returns.trans hr) hq hS'.2.2 hd B.notSynchronized

