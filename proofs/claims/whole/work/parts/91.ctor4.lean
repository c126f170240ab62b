def fx_il : List (Nat × Int32) → Nat → Int32
  | [], _ => 0
  | q :: l, k => if k = q.1 then q.2 else fx_il l k
theorem fx_il_hi {b : Nat} : ∀ {l : List (Nat × Int32)} {k : Nat}, (∀ q ∈ l, q.1 < b) → b ≤ k → fx_il l k = 0
  | [], _, _, _ => rfl
  | q :: l, k, h, hk => by
    have h1 := h q List.mem_cons_self
    show (if k = q.1 then q.2 else fx_il l k) = 0
    rw [if_neg (by omega)]
    exact fx_il_hi (fun x hx => h x (List.mem_cons_of_mem _ hx)) hk
/-- cell o: its ints, its references -/
def fx_E1 (o : Nat) (m : fx_M) (l : List (Nat × Nat)) (il : List (Nat × Int32)) : Prop := (∀ k, m.1 o k = fx_il il k) ∧ (∀ k, m.2.1 o k = 0) ∧ ∀ k, m.2.2 o k = fx_rl l k
theorem fx_E1.of {o a : Nat} {m : fx_M} (h : fx_Z a m) (ho : a ≤ fx_pi o) : fx_E1 o m [] [] := h o ho
theorem fx_E1.sR {o k v : Nat} {m : fx_M} {l : List (Nat × Nat)} {il : List (Nat × Int32)} (h : fx_E1 o m l il) : fx_E1 o (fx_sR m o k (some v)) ((k, v) :: l) il := ⟨h.1, h.2.1, fun j => by
  by_cases c : j = k
  · simp [fx_sR, fx_rl, c]
  · simp [fx_sR, fx_rl, c, h.2.2 j]⟩
theorem fx_E1.sI {o k : Nat} {v : Int32} {m : fx_M} {l : List (Nat × Nat)} {il : List (Nat × Int32)} (h : fx_E1 o m l il) : fx_E1 o (fx_sI m o k v) l ((k, v) :: il) := ⟨fun j => by
  by_cases c : j = k
  · simp [fx_sI, fx_il, c]
  · simp [fx_sI, fx_il, c, h.1 j], h.2.1, h.2.2⟩
theorem fx_E1.sIo {o o2 k : Nat} {v : Int32} {m : fx_M} {l : List (Nat × Nat)} {il : List (Nat × Int32)} (h : fx_E1 o m l il) (ho : o ≠ o2) : fx_E1 o (fx_sI m o2 k v) l il := ⟨fun j => by rw [fx_sI_n _ _ _ ho]; exact h.1 j, h.2.1, h.2.2⟩
theorem fx_E1.sRo {o o2 k : Nat} {v : Option Nat} {m : fx_M} {l : List (Nat × Nat)} {il : List (Nat × Int32)} (h : fx_E1 o m l il) (ho : o ≠ o2) : fx_E1 o (fx_sR m o2 k v) l il := ⟨h.1, h.2.1, fun j => by simp [fx_sR, ho, h.2.2 j]⟩
theorem fx_E1.fin {o L b : Nat} {m : fx_M} {l : List (Nat × Nat)} {il : List (Nat × Int32)} (h : fx_E1 o m l il) (hI : ∀ k, k < b → fx_I0 o k = fx_il il k) (hb : ∀ q ∈ il, q.1 < b) (hI2 : ∀ k, b ≤ k → fx_I0 o k = 0) (hL : (fx_layT.getD o []).length = L) (hl : ∀ k, k < L → fx_lay o k = none ∨ fx_lay o k = fx_rl l k) : fx_fin o m := ⟨fun k => by
  rw [h.1]
  rcases Nat.lt_or_ge k b with c | c
  · rw [hI k c]
  · rw [hI2 k c, fx_il_hi hb c], h.2.1, fun k v q => by
  rw [h.2.2]
  have hk := fx_lay_lt q
  rw [hL] at hk
  rcases hl k hk with e | e
  · rw [e] at q; cases q
  · rw [← e]; exact q⟩
theorem fx_pi_hi {o : Nat} (h : 83 ≤ fx_pi o) : fx_pi o = o := by
  unfold fx_pi at h ⊢
  repeat' split
  all_goals (repeat' split at h)
  all_goals omega
def fx_D9 (n : Nat) (m : fx_M) : Prop := ∀ o, 84 ≤ o → o < n → fx_fin o m
theorem fx_D9.sR {a k : Nat} {v : Option Nat} {m : fx_M} (h : fx_D9 a m) : fx_D9 a (fx_sR m 83 k v) := fun x h1 h2 => (h x h1 h2).cg rfl rfl (by funext j; simp [fx_sR, show x ≠ 83 by omega])
theorem fx_D9.sI {a o k : Nat} {v : Int32} {m : fx_M} (h : fx_D9 a m) (ho : o = 83 ∨ a ≤ o) : fx_D9 a (fx_sI m o k v) := fun x h1 h2 => (h x h1 h2).cg (fx_sI_n _ _ _ (by omega)) rfl rfl
theorem fx_D9.step {a : Nat} {m : fx_M} (h : fx_D9 a m) (g : fx_fin a m) : fx_D9 (a + 1) m := fun x h1 h2 => by
  by_cases c : x = a
  · subst c; exact g
  · exact h x h1 (by omega)
theorem fx_WT_hi {k : Nat} (h : 26 ≤ k) : p_WT k = 0 := by
  unfold p_WT
  rw [List.getD_eq_getElem?_getD, List.getElem?_eq_none h]
  rfl
theorem fx_NT_hi {k : Nat} (h : 5 ≤ k) : p_NT k = 0 := by
  unfold p_NT
  rw [List.getD_eq_getElem?_getD, List.getElem?_eq_none h]
  rfl
theorem fx_108_hi {k : Nat} (h : 6 ≤ k) : fx_I0 108 k = 0 := by
  show (if k < 6 then fx_tab 1 k else 0) = 0
  rw [if_neg (by omega)]
theorem fx_109_hi {k : Nat} (h : 7 ≤ k) : fx_I0 109 k = 0 := by
  show (if k < 7 then fx_tab 3 k else 0) = 0
  rw [if_neg (by omega)]
theorem fx_83_hi {k : Nat} (h : 45 ≤ k) : fx_I0 83 k = 0 := by
  show (if k = 5 then (1 : Int32) else if k = 6 ∨ k = 44 then -1 else 0) = 0
  rw [if_neg (by omega), if_neg (by omega)]
theorem fx_fr_sI {o q k : Nat} {v : Int32} {m m' : fx_M} (h : m'.1 o = m.1 o ∧ m'.2.1 o = m.2.1 o ∧ m'.2.2 o = m.2.2 o) (hq : o ≠ q) : (fx_sI m' q k v).1 o = m.1 o ∧ (fx_sI m' q k v).2.1 o = m.2.1 o ∧ (fx_sI m' q k v).2.2 o = m.2.2 o := ⟨(fx_sI_n _ _ _ hq).trans h.1, h.2.1, h.2.2⟩
theorem fx_fr_sR {o q k : Nat} {v : Option Nat} {m m' : fx_M} (h : m'.1 o = m.1 o ∧ m'.2.1 o = m.2.1 o ∧ m'.2.2 o = m.2.2 o) (hq : o ≠ q) : (fx_sR m' q k v).1 o = m.1 o ∧ (fx_sR m' q k v).2.1 o = m.2.1 o ∧ (fx_sR m' q k v).2.2 o = m.2.2 o := ⟨h.1, h.2.1, (show (fx_sR m' q k v).2.2 o = m'.2.2 o by funext j; simp [fx_sR, hq]).trans h.2.2⟩
set_option maxRecDepth 100000 in
set_option maxHeartbeats 8000000 in
theorem s_X9_init {Γ : fx_G} {m : fx_M} (hZ : fx_Z 83 m) : fx_Ct Γ mX9_init 1 84 119 [fx_rf Γ 83] m (fun r m' => r = none ∧ fx_NB 83 119 m m') := by
  refine fx_Ct.of (j := 0) (by decide) (by decide) (Nat.le_of_ble_eq_true rfl) ?_
  show fx_E Γ mX9_init 1 84 119 _ 84 m 0 [some (fx_rf Γ 83)] []
  have D : fx_D9 84 m := fun o h1 h2 => absurd h2 (by omega)
  have E : fx_E1 83 m [] [] := fx_E1.of hZ (by decide)
  have F : ∀ o, ¬ (83 ≤ fx_pi o ∧ fx_pi o < 119) → m.1 o = m.1 o ∧ m.2.1 o = m.2.1 o ∧ m.2.2 o = m.2.2 o := fun o _ => ⟨rfl, rfl, rfl⟩
  refine e_aload_n dX9_init_0 rfl ?_
  refine e_objInit dX9_init_1 wl_X9_1 wi_Objectinit_V fx_wobj (by decide) (Nat.le_of_ble_eq_true rfl) ?_
  refine e_aload_n dX9_init_4 rfl ?_
  refine e_iconst dX9_init_5 kci_1 ?_
  refine e_put dX9_init_6 ff_X9_7 rfl (by decide) (by decide) rfl (Or.inl rfl) ?_
  obtain ⟨m1, hm1⟩ : ∃ z, z = fx_sI m 83 5 1 := ⟨_, rfl⟩
  have hZ1 : fx_Z 84 m1 := by rw [hm1]; exact (((hZ.mono (by decide))).sI (by decide))
  have F1 : ∀ o, ¬ (83 ≤ fx_pi o ∧ fx_pi o < 119) → m1.1 o = m.1 o ∧ m1.2.1 o = m.2.1 o ∧ m1.2.2 o = m.2.2 o := fun o ho => by rw [hm1]; exact (fx_fr_sI (F o ho) (fun e => ho (by rw [e]; decide)))
  have E1 : fx_E1 83 m1 [] [(5, 1)] := by rw [hm1]; exact (E.sI)
  have D1 : fx_D9 84 m1 := by rw [hm1]; exact (D.sI (by decide))
  rw [← hm1]
  refine e_aload_n dX9_init_9 rfl ?_
  refine e_iconst dX9_init_10 kci_m1 ?_
  refine e_put dX9_init_11 ff_X9_13 rfl (by decide) (by decide) rfl (Or.inl rfl) ?_
  obtain ⟨m2, hm2⟩ : ∃ z, z = fx_sI m1 83 6 (-1) := ⟨_, rfl⟩
  have hZ2 : fx_Z 84 m2 := by rw [hm2]; exact (((hZ1.mono (by decide))).sI (by decide))
  have F2 : ∀ o, ¬ (83 ≤ fx_pi o ∧ fx_pi o < 119) → m2.1 o = m.1 o ∧ m2.2.1 o = m.2.1 o ∧ m2.2.2 o = m.2.2 o := fun o ho => by rw [hm2]; exact (fx_fr_sI (F1 o ho) (fun e => ho (by rw [e]; decide)))
  have E2 : fx_E1 83 m2 [] [(6, -1), (5, 1)] := by rw [hm2]; exact (E1.sI)
  have D2 : fx_D9 84 m2 := by rw [hm2]; exact (D1.sI (by decide))
  rw [← hm2]
  refine e_aload_n dX9_init_14 rfl ?_
  refine e_bipush dX9_init_15 kcb_8 ?_
  refine e_newI (o := 84) (N := 8) dX9_init_17 wa_int rfl (by decide) rfl (by decide) (by decide) (by decide) (fun j _ => ((hZ2.mono (by decide)) _ (Nat.le_refl _)).1 j) ?_
  refine e_putr dX9_init_19 ff_X9_16 rfl (by decide) (by decide) rfl (Or.inr ⟨rfl, rfl⟩) (fun _ => rfl) (fun _ => rfl) ?_
  obtain ⟨m3, hm3⟩ : ∃ z, z = fx_sR m2 83 7 (some 84) := ⟨_, rfl⟩
  have hZ3 : fx_Z 85 m3 := by rw [hm3]; exact (((hZ2.mono (by decide))).sR (by decide))
  have F3 : ∀ o, ¬ (83 ≤ fx_pi o ∧ fx_pi o < 119) → m3.1 o = m.1 o ∧ m3.2.1 o = m.2.1 o ∧ m3.2.2 o = m.2.2 o := fun o ho => by rw [hm3]; exact (fx_fr_sR (F2 o ho) (fun e => ho (by rw [e]; decide)))
  have E3 : fx_E1 83 m3 [(7, 84)] [(6, -1), (5, 1)] := by rw [hm3]; exact (E2.sR)
  have D3 : fx_D9 84 m3 := by rw [hm3]; exact (D2.sR)
  have C3 : fx_E1 84 m3 [] [] := by rw [hm3]; exact ((fx_E1.of hZ2 (by decide)).sRo (by decide))
  have D3 : fx_D9 85 m3 := D3.step (fx_fin_z C3.1 C3.2.1 (fun _ => rfl) rfl)
  rw [← hm3]
  refine e_aload_n dX9_init_22 rfl ?_
  refine e_bipush dX9_init_23 kcb_9 ?_
  refine e_newI (o := 85) (N := 9) dX9_init_25 wa_int rfl (by decide) rfl (by decide) (by decide) (by decide) (fun j _ => ((hZ3.mono (by decide)) _ (Nat.le_refl _)).1 j) ?_
  refine e_putr dX9_init_27 ff_X9_20 rfl (by decide) (by decide) rfl (Or.inr ⟨rfl, rfl⟩) (fun _ => rfl) (fun _ => rfl) ?_
  obtain ⟨m4, hm4⟩ : ∃ z, z = fx_sR m3 83 8 (some 85) := ⟨_, rfl⟩
  have hZ4 : fx_Z 86 m4 := by rw [hm4]; exact (((hZ3.mono (by decide))).sR (by decide))
  have F4 : ∀ o, ¬ (83 ≤ fx_pi o ∧ fx_pi o < 119) → m4.1 o = m.1 o ∧ m4.2.1 o = m.2.1 o ∧ m4.2.2 o = m.2.2 o := fun o ho => by rw [hm4]; exact (fx_fr_sR (F3 o ho) (fun e => ho (by rw [e]; decide)))
  have E4 : fx_E1 83 m4 [(8, 85), (7, 84)] [(6, -1), (5, 1)] := by rw [hm4]; exact (E3.sR)
  have D4 : fx_D9 85 m4 := by rw [hm4]; exact (D3.sR)
  have C4 : fx_E1 85 m4 [] [] := by rw [hm4]; exact ((fx_E1.of hZ3 (by decide)).sRo (by decide))
  have D4 : fx_D9 86 m4 := D4.step (fx_fin_z C4.1 C4.2.1 (fun _ => rfl) rfl)
  rw [← hm4]
  refine e_aload_n dX9_init_30 rfl ?_
  refine e_bipush dX9_init_31 kcb_9 ?_
  refine e_newI (o := 86) (N := 9) dX9_init_33 wa_int rfl (by decide) rfl (by decide) (by decide) (by decide) (fun j _ => ((hZ4.mono (by decide)) _ (Nat.le_refl _)).1 j) ?_
  refine e_putr dX9_init_35 ff_X9_23 rfl (by decide) (by decide) rfl (Or.inr ⟨rfl, rfl⟩) (fun _ => rfl) (fun _ => rfl) ?_
  obtain ⟨m5, hm5⟩ : ∃ z, z = fx_sR m4 83 9 (some 86) := ⟨_, rfl⟩
  have hZ5 : fx_Z 87 m5 := by rw [hm5]; exact (((hZ4.mono (by decide))).sR (by decide))
  have F5 : ∀ o, ¬ (83 ≤ fx_pi o ∧ fx_pi o < 119) → m5.1 o = m.1 o ∧ m5.2.1 o = m.2.1 o ∧ m5.2.2 o = m.2.2 o := fun o ho => by rw [hm5]; exact (fx_fr_sR (F4 o ho) (fun e => ho (by rw [e]; decide)))
  have E5 : fx_E1 83 m5 [(9, 86), (8, 85), (7, 84)] [(6, -1), (5, 1)] := by rw [hm5]; exact (E4.sR)
  have D5 : fx_D9 86 m5 := by rw [hm5]; exact (D4.sR)
  have C5 : fx_E1 86 m5 [] [] := by rw [hm5]; exact ((fx_E1.of hZ4 (by decide)).sRo (by decide))
  have D5 : fx_D9 87 m5 := D5.step (fx_fin_z C5.1 C5.2.1 (fun _ => rfl) rfl)
  rw [← hm5]
  refine e_aload_n dX9_init_38 rfl ?_
  refine e_bipush dX9_init_39 kcb_9 ?_
  refine e_newI (o := 87) (N := 9) dX9_init_41 wa_int rfl (by decide) rfl (by decide) (by decide) (by decide) (fun j _ => ((hZ5.mono (by decide)) _ (Nat.le_refl _)).1 j) ?_
  refine e_putr dX9_init_43 ff_X9_26 rfl (by decide) (by decide) rfl (Or.inr ⟨rfl, rfl⟩) (fun _ => rfl) (fun _ => rfl) ?_
  obtain ⟨m6, hm6⟩ : ∃ z, z = fx_sR m5 83 10 (some 87) := ⟨_, rfl⟩
  have hZ6 : fx_Z 88 m6 := by rw [hm6]; exact (((hZ5.mono (by decide))).sR (by decide))
  have F6 : ∀ o, ¬ (83 ≤ fx_pi o ∧ fx_pi o < 119) → m6.1 o = m.1 o ∧ m6.2.1 o = m.2.1 o ∧ m6.2.2 o = m.2.2 o := fun o ho => by rw [hm6]; exact (fx_fr_sR (F5 o ho) (fun e => ho (by rw [e]; decide)))
  have E6 : fx_E1 83 m6 [(10, 87), (9, 86), (8, 85), (7, 84)] [(6, -1), (5, 1)] := by rw [hm6]; exact (E5.sR)
  have D6 : fx_D9 87 m6 := by rw [hm6]; exact (D5.sR)
  have C6 : fx_E1 87 m6 [] [] := by rw [hm6]; exact ((fx_E1.of hZ5 (by decide)).sRo (by decide))
  have D6 : fx_D9 88 m6 := D6.step (fx_fin_z C6.1 C6.2.1 (fun _ => rfl) rfl)
  rw [← hm6]
  refine e_aload_n dX9_init_46 rfl ?_
  refine e_bipush dX9_init_47 kcb_9 ?_
  refine e_newI (o := 88) (N := 9) dX9_init_49 wa_int rfl (by decide) rfl (by decide) (by decide) (by decide) (fun j _ => ((hZ6.mono (by decide)) _ (Nat.le_refl _)).1 j) ?_
  refine e_putr dX9_init_51 ff_X9_29 rfl (by decide) (by decide) rfl (Or.inr ⟨rfl, rfl⟩) (fun _ => rfl) (fun _ => rfl) ?_
  obtain ⟨m7, hm7⟩ : ∃ z, z = fx_sR m6 83 11 (some 88) := ⟨_, rfl⟩
  have hZ7 : fx_Z 89 m7 := by rw [hm7]; exact (((hZ6.mono (by decide))).sR (by decide))
  have F7 : ∀ o, ¬ (83 ≤ fx_pi o ∧ fx_pi o < 119) → m7.1 o = m.1 o ∧ m7.2.1 o = m.2.1 o ∧ m7.2.2 o = m.2.2 o := fun o ho => by rw [hm7]; exact (fx_fr_sR (F6 o ho) (fun e => ho (by rw [e]; decide)))
  have E7 : fx_E1 83 m7 [(11, 88), (10, 87), (9, 86), (8, 85), (7, 84)] [(6, -1), (5, 1)] := by rw [hm7]; exact (E6.sR)
  have D7 : fx_D9 88 m7 := by rw [hm7]; exact (D6.sR)
  have C7 : fx_E1 88 m7 [] [] := by rw [hm7]; exact ((fx_E1.of hZ6 (by decide)).sRo (by decide))
  have D7 : fx_D9 89 m7 := D7.step (fx_fin_z C7.1 C7.2.1 (fun _ => rfl) rfl)
  rw [← hm7]
  refine e_aload_n dX9_init_54 rfl ?_
  refine e_bipush dX9_init_55 kcb_9 ?_
  refine e_newI (o := 89) (N := 9) dX9_init_57 wa_int rfl (by decide) rfl (by decide) (by decide) (by decide) (fun j _ => ((hZ7.mono (by decide)) _ (Nat.le_refl _)).1 j) ?_
  refine e_putr dX9_init_59 ff_X9_32 rfl (by decide) (by decide) rfl (Or.inr ⟨rfl, rfl⟩) (fun _ => rfl) (fun _ => rfl) ?_
  obtain ⟨m8, hm8⟩ : ∃ z, z = fx_sR m7 83 12 (some 89) := ⟨_, rfl⟩
  have hZ8 : fx_Z 90 m8 := by rw [hm8]; exact (((hZ7.mono (by decide))).sR (by decide))
  have F8 : ∀ o, ¬ (83 ≤ fx_pi o ∧ fx_pi o < 119) → m8.1 o = m.1 o ∧ m8.2.1 o = m.2.1 o ∧ m8.2.2 o = m.2.2 o := fun o ho => by rw [hm8]; exact (fx_fr_sR (F7 o ho) (fun e => ho (by rw [e]; decide)))
  have E8 : fx_E1 83 m8 [(12, 89), (11, 88), (10, 87), (9, 86), (8, 85), (7, 84)] [(6, -1), (5, 1)] := by rw [hm8]; exact (E7.sR)
  have D8 : fx_D9 89 m8 := by rw [hm8]; exact (D7.sR)
  have C8 : fx_E1 89 m8 [] [] := by rw [hm8]; exact ((fx_E1.of hZ7 (by decide)).sRo (by decide))
  have D8 : fx_D9 90 m8 := D8.step (fx_fin_z C8.1 C8.2.1 (fun _ => rfl) rfl)
  rw [← hm8]
  refine e_aload_n dX9_init_62 rfl ?_
  refine e_bipush dX9_init_63 kcb_9 ?_
  refine e_newI (o := 90) (N := 9) dX9_init_65 wa_int rfl (by decide) rfl (by decide) (by decide) (by decide) (fun j _ => ((hZ8.mono (by decide)) _ (Nat.le_refl _)).1 j) ?_
  refine e_putr dX9_init_67 ff_X9_35 rfl (by decide) (by decide) rfl (Or.inr ⟨rfl, rfl⟩) (fun _ => rfl) (fun _ => rfl) ?_
  obtain ⟨m9, hm9⟩ : ∃ z, z = fx_sR m8 83 13 (some 90) := ⟨_, rfl⟩
  have hZ9 : fx_Z 91 m9 := by rw [hm9]; exact (((hZ8.mono (by decide))).sR (by decide))
  have F9 : ∀ o, ¬ (83 ≤ fx_pi o ∧ fx_pi o < 119) → m9.1 o = m.1 o ∧ m9.2.1 o = m.2.1 o ∧ m9.2.2 o = m.2.2 o := fun o ho => by rw [hm9]; exact (fx_fr_sR (F8 o ho) (fun e => ho (by rw [e]; decide)))
  have E9 : fx_E1 83 m9 [(13, 90), (12, 89), (11, 88), (10, 87), (9, 86), (8, 85), (7, 84)] [(6, -1), (5, 1)] := by rw [hm9]; exact (E8.sR)
  have D9 : fx_D9 90 m9 := by rw [hm9]; exact (D8.sR)
  have C9 : fx_E1 90 m9 [] [] := by rw [hm9]; exact ((fx_E1.of hZ8 (by decide)).sRo (by decide))
  have D9 : fx_D9 91 m9 := D9.step (fx_fin_z C9.1 C9.2.1 (fun _ => rfl) rfl)
  rw [← hm9]
  refine e_aload_n dX9_init_70 rfl ?_
  refine e_bipush dX9_init_71 kcb_9 ?_
  refine e_newI (o := 91) (N := 9) dX9_init_73 wa_int rfl (by decide) rfl (by decide) (by decide) (by decide) (fun j _ => ((hZ9.mono (by decide)) _ (Nat.le_refl _)).1 j) ?_
  refine e_putr dX9_init_75 ff_X9_38 rfl (by decide) (by decide) rfl (Or.inr ⟨rfl, rfl⟩) (fun _ => rfl) (fun _ => rfl) ?_
  obtain ⟨m10, hm10⟩ : ∃ z, z = fx_sR m9 83 14 (some 91) := ⟨_, rfl⟩
  have hZ10 : fx_Z 92 m10 := by rw [hm10]; exact (((hZ9.mono (by decide))).sR (by decide))
  have F10 : ∀ o, ¬ (83 ≤ fx_pi o ∧ fx_pi o < 119) → m10.1 o = m.1 o ∧ m10.2.1 o = m.2.1 o ∧ m10.2.2 o = m.2.2 o := fun o ho => by rw [hm10]; exact (fx_fr_sR (F9 o ho) (fun e => ho (by rw [e]; decide)))
  have E10 : fx_E1 83 m10 [(14, 91), (13, 90), (12, 89), (11, 88), (10, 87), (9, 86), (8, 85), (7, 84)] [(6, -1), (5, 1)] := by rw [hm10]; exact (E9.sR)
  have D10 : fx_D9 91 m10 := by rw [hm10]; exact (D9.sR)
  have C10 : fx_E1 91 m10 [] [] := by rw [hm10]; exact ((fx_E1.of hZ9 (by decide)).sRo (by decide))
  have D10 : fx_D9 92 m10 := D10.step (fx_fin_z C10.1 C10.2.1 (fun _ => rfl) rfl)
  rw [← hm10]
  refine e_aload_n dX9_init_78 rfl ?_
  refine e_iconst dX9_init_79 kci_5 ?_
  refine e_newI (o := 92) (N := 5) dX9_init_80 wa_int rfl (by decide) rfl (by decide) (by decide) (by decide) (fun j _ => ((hZ10.mono (by decide)) _ (Nat.le_refl _)).1 j) ?_
  refine e_putr dX9_init_82 ff_X9_41 rfl (by decide) (by decide) rfl (Or.inr ⟨rfl, rfl⟩) (fun _ => rfl) (fun _ => rfl) ?_
  obtain ⟨m11, hm11⟩ : ∃ z, z = fx_sR m10 83 15 (some 92) := ⟨_, rfl⟩
  have hZ11 : fx_Z 93 m11 := by rw [hm11]; exact (((hZ10.mono (by decide))).sR (by decide))
  have F11 : ∀ o, ¬ (83 ≤ fx_pi o ∧ fx_pi o < 119) → m11.1 o = m.1 o ∧ m11.2.1 o = m.2.1 o ∧ m11.2.2 o = m.2.2 o := fun o ho => by rw [hm11]; exact (fx_fr_sR (F10 o ho) (fun e => ho (by rw [e]; decide)))
  have E11 : fx_E1 83 m11 [(15, 92), (14, 91), (13, 90), (12, 89), (11, 88), (10, 87), (9, 86), (8, 85), (7, 84)] [(6, -1), (5, 1)] := by rw [hm11]; exact (E10.sR)
  have D11 : fx_D9 92 m11 := by rw [hm11]; exact (D10.sR)
  have C11 : fx_E1 92 m11 [] [] := by rw [hm11]; exact ((fx_E1.of hZ10 (by decide)).sRo (by decide))
  have D11 : fx_D9 93 m11 := D11.step (fx_fin_z C11.1 C11.2.1 (fun _ => rfl) rfl)
  rw [← hm11]
  refine e_aload_n dX9_init_85 rfl ?_
  refine e_iconst dX9_init_86 kci_5 ?_
  refine e_newI (o := 93) (N := 5) dX9_init_87 wa_int rfl (by decide) rfl (by decide) (by decide) (by decide) (fun j _ => ((hZ11.mono (by decide)) _ (Nat.le_refl _)).1 j) ?_
  refine e_putr dX9_init_89 ff_X9_44 rfl (by decide) (by decide) rfl (Or.inr ⟨rfl, rfl⟩) (fun _ => rfl) (fun _ => rfl) ?_
  obtain ⟨m12, hm12⟩ : ∃ z, z = fx_sR m11 83 16 (some 93) := ⟨_, rfl⟩
  have hZ12 : fx_Z 94 m12 := by rw [hm12]; exact (((hZ11.mono (by decide))).sR (by decide))
  have F12 : ∀ o, ¬ (83 ≤ fx_pi o ∧ fx_pi o < 119) → m12.1 o = m.1 o ∧ m12.2.1 o = m.2.1 o ∧ m12.2.2 o = m.2.2 o := fun o ho => by rw [hm12]; exact (fx_fr_sR (F11 o ho) (fun e => ho (by rw [e]; decide)))
  have E12 : fx_E1 83 m12 [(16, 93), (15, 92), (14, 91), (13, 90), (12, 89), (11, 88), (10, 87), (9, 86), (8, 85), (7, 84)] [(6, -1), (5, 1)] := by rw [hm12]; exact (E11.sR)
  have D12 : fx_D9 93 m12 := by rw [hm12]; exact (D11.sR)
  have C12 : fx_E1 93 m12 [] [] := by rw [hm12]; exact ((fx_E1.of hZ11 (by decide)).sRo (by decide))
  have D12 : fx_D9 94 m12 := D12.step (fx_fin_z C12.1 C12.2.1 (fun _ => rfl) rfl)
  rw [← hm12]
  refine e_aload_n dX9_init_92 rfl ?_
  refine e_iconst dX9_init_93 kci_5 ?_
  refine e_newI (o := 94) (N := 5) dX9_init_94 wa_int rfl (by decide) rfl (by decide) (by decide) (by decide) (fun j _ => ((hZ12.mono (by decide)) _ (Nat.le_refl _)).1 j) ?_
  refine e_putr dX9_init_96 ff_X9_47 rfl (by decide) (by decide) rfl (Or.inr ⟨rfl, rfl⟩) (fun _ => rfl) (fun _ => rfl) ?_
  obtain ⟨m13, hm13⟩ : ∃ z, z = fx_sR m12 83 17 (some 94) := ⟨_, rfl⟩
  have hZ13 : fx_Z 95 m13 := by rw [hm13]; exact (((hZ12.mono (by decide))).sR (by decide))
  have F13 : ∀ o, ¬ (83 ≤ fx_pi o ∧ fx_pi o < 119) → m13.1 o = m.1 o ∧ m13.2.1 o = m.2.1 o ∧ m13.2.2 o = m.2.2 o := fun o ho => by rw [hm13]; exact (fx_fr_sR (F12 o ho) (fun e => ho (by rw [e]; decide)))
  have E13 : fx_E1 83 m13 [(17, 94), (16, 93), (15, 92), (14, 91), (13, 90), (12, 89), (11, 88), (10, 87), (9, 86), (8, 85), (7, 84)] [(6, -1), (5, 1)] := by rw [hm13]; exact (E12.sR)
  have D13 : fx_D9 94 m13 := by rw [hm13]; exact (D12.sR)
  have C13 : fx_E1 94 m13 [] [] := by rw [hm13]; exact ((fx_E1.of hZ12 (by decide)).sRo (by decide))
  have D13 : fx_D9 95 m13 := D13.step (fx_fin_z C13.1 C13.2.1 (fun _ => rfl) rfl)
  rw [← hm13]
  refine e_aload_n dX9_init_99 rfl ?_
  refine e_iconst dX9_init_100 kci_5 ?_
  refine e_newI (o := 95) (N := 5) dX9_init_101 wa_int rfl (by decide) rfl (by decide) (by decide) (by decide) (fun j _ => ((hZ13.mono (by decide)) _ (Nat.le_refl _)).1 j) ?_
  refine e_putr dX9_init_103 ff_X9_50 rfl (by decide) (by decide) rfl (Or.inr ⟨rfl, rfl⟩) (fun _ => rfl) (fun _ => rfl) ?_
  obtain ⟨m14, hm14⟩ : ∃ z, z = fx_sR m13 83 18 (some 95) := ⟨_, rfl⟩
  have hZ14 : fx_Z 96 m14 := by rw [hm14]; exact (((hZ13.mono (by decide))).sR (by decide))
  have F14 : ∀ o, ¬ (83 ≤ fx_pi o ∧ fx_pi o < 119) → m14.1 o = m.1 o ∧ m14.2.1 o = m.2.1 o ∧ m14.2.2 o = m.2.2 o := fun o ho => by rw [hm14]; exact (fx_fr_sR (F13 o ho) (fun e => ho (by rw [e]; decide)))
  have E14 : fx_E1 83 m14 [(18, 95), (17, 94), (16, 93), (15, 92), (14, 91), (13, 90), (12, 89), (11, 88), (10, 87), (9, 86), (8, 85), (7, 84)] [(6, -1), (5, 1)] := by rw [hm14]; exact (E13.sR)
  have D14 : fx_D9 95 m14 := by rw [hm14]; exact (D13.sR)
  have C14 : fx_E1 95 m14 [] [] := by rw [hm14]; exact ((fx_E1.of hZ13 (by decide)).sRo (by decide))
  have D14 : fx_D9 96 m14 := D14.step (fx_fin_z C14.1 C14.2.1 (fun _ => rfl) rfl)
  rw [← hm14]
  refine e_aload_n dX9_init_106 rfl ?_
  refine e_iconst dX9_init_107 kci_5 ?_
  refine e_newI (o := 96) (N := 5) dX9_init_108 wa_int rfl (by decide) rfl (by decide) (by decide) (by decide) (fun j _ => ((hZ14.mono (by decide)) _ (Nat.le_refl _)).1 j) ?_
  refine e_putr dX9_init_110 ff_X9_53 rfl (by decide) (by decide) rfl (Or.inr ⟨rfl, rfl⟩) (fun _ => rfl) (fun _ => rfl) ?_
  obtain ⟨m15, hm15⟩ : ∃ z, z = fx_sR m14 83 19 (some 96) := ⟨_, rfl⟩
  have hZ15 : fx_Z 97 m15 := by rw [hm15]; exact (((hZ14.mono (by decide))).sR (by decide))
  have F15 : ∀ o, ¬ (83 ≤ fx_pi o ∧ fx_pi o < 119) → m15.1 o = m.1 o ∧ m15.2.1 o = m.2.1 o ∧ m15.2.2 o = m.2.2 o := fun o ho => by rw [hm15]; exact (fx_fr_sR (F14 o ho) (fun e => ho (by rw [e]; decide)))
  have E15 : fx_E1 83 m15 [(19, 96), (18, 95), (17, 94), (16, 93), (15, 92), (14, 91), (13, 90), (12, 89), (11, 88), (10, 87), (9, 86), (8, 85), (7, 84)] [(6, -1), (5, 1)] := by rw [hm15]; exact (E14.sR)
  have D15 : fx_D9 96 m15 := by rw [hm15]; exact (D14.sR)
  have C15 : fx_E1 96 m15 [] [] := by rw [hm15]; exact ((fx_E1.of hZ14 (by decide)).sRo (by decide))
  have D15 : fx_D9 97 m15 := D15.step (fx_fin_z C15.1 C15.2.1 (fun _ => rfl) rfl)
  rw [← hm15]
  refine e_aload_n dX9_init_113 rfl ?_
  refine e_iconst dX9_init_114 kci_5 ?_
  refine e_newI (o := 97) (N := 5) dX9_init_115 wa_int rfl (by decide) rfl (by decide) (by decide) (by decide) (fun j _ => ((hZ15.mono (by decide)) _ (Nat.le_refl _)).1 j) ?_
  refine e_putr dX9_init_117 ff_X9_56 rfl (by decide) (by decide) rfl (Or.inr ⟨rfl, rfl⟩) (fun _ => rfl) (fun _ => rfl) ?_
  obtain ⟨m16, hm16⟩ : ∃ z, z = fx_sR m15 83 20 (some 97) := ⟨_, rfl⟩
  have hZ16 : fx_Z 98 m16 := by rw [hm16]; exact (((hZ15.mono (by decide))).sR (by decide))
  have F16 : ∀ o, ¬ (83 ≤ fx_pi o ∧ fx_pi o < 119) → m16.1 o = m.1 o ∧ m16.2.1 o = m.2.1 o ∧ m16.2.2 o = m.2.2 o := fun o ho => by rw [hm16]; exact (fx_fr_sR (F15 o ho) (fun e => ho (by rw [e]; decide)))
  have E16 : fx_E1 83 m16 [(20, 97), (19, 96), (18, 95), (17, 94), (16, 93), (15, 92), (14, 91), (13, 90), (12, 89), (11, 88), (10, 87), (9, 86), (8, 85), (7, 84)] [(6, -1), (5, 1)] := by rw [hm16]; exact (E15.sR)
  have D16 : fx_D9 97 m16 := by rw [hm16]; exact (D15.sR)
  have C16 : fx_E1 97 m16 [] [] := by rw [hm16]; exact ((fx_E1.of hZ15 (by decide)).sRo (by decide))
  have D16 : fx_D9 98 m16 := D16.step (fx_fin_z C16.1 C16.2.1 (fun _ => rfl) rfl)
  rw [← hm16]
  refine e_aload_n dX9_init_120 rfl ?_
  refine e_iconst dX9_init_121 kci_5 ?_
  refine e_newI (o := 98) (N := 5) dX9_init_122 wa_int rfl (by decide) rfl (by decide) (by decide) (by decide) (fun j _ => ((hZ16.mono (by decide)) _ (Nat.le_refl _)).1 j) ?_
  refine e_putr dX9_init_124 ff_X9_59 rfl (by decide) (by decide) rfl (Or.inr ⟨rfl, rfl⟩) (fun _ => rfl) (fun _ => rfl) ?_
  obtain ⟨m17, hm17⟩ : ∃ z, z = fx_sR m16 83 21 (some 98) := ⟨_, rfl⟩
  have hZ17 : fx_Z 99 m17 := by rw [hm17]; exact (((hZ16.mono (by decide))).sR (by decide))
  have F17 : ∀ o, ¬ (83 ≤ fx_pi o ∧ fx_pi o < 119) → m17.1 o = m.1 o ∧ m17.2.1 o = m.2.1 o ∧ m17.2.2 o = m.2.2 o := fun o ho => by rw [hm17]; exact (fx_fr_sR (F16 o ho) (fun e => ho (by rw [e]; decide)))
  have E17 : fx_E1 83 m17 [(21, 98), (20, 97), (19, 96), (18, 95), (17, 94), (16, 93), (15, 92), (14, 91), (13, 90), (12, 89), (11, 88), (10, 87), (9, 86), (8, 85), (7, 84)] [(6, -1), (5, 1)] := by rw [hm17]; exact (E16.sR)
  have D17 : fx_D9 98 m17 := by rw [hm17]; exact (D16.sR)
  have C17 : fx_E1 98 m17 [] [] := by rw [hm17]; exact ((fx_E1.of hZ16 (by decide)).sRo (by decide))
  have D17 : fx_D9 99 m17 := D17.step (fx_fin_z C17.1 C17.2.1 (fun _ => rfl) rfl)
  rw [← hm17]
  refine e_aload_n dX9_init_127 rfl ?_
  refine e_iconst dX9_init_128 kci_5 ?_
  refine e_newI (o := 99) (N := 5) dX9_init_129 wa_int rfl (by decide) rfl (by decide) (by decide) (by decide) (fun j _ => ((hZ17.mono (by decide)) _ (Nat.le_refl _)).1 j) ?_
  refine e_putr dX9_init_131 ff_X9_62 rfl (by decide) (by decide) rfl (Or.inr ⟨rfl, rfl⟩) (fun _ => rfl) (fun _ => rfl) ?_
  obtain ⟨m18, hm18⟩ : ∃ z, z = fx_sR m17 83 22 (some 99) := ⟨_, rfl⟩
  have hZ18 : fx_Z 100 m18 := by rw [hm18]; exact (((hZ17.mono (by decide))).sR (by decide))
  have F18 : ∀ o, ¬ (83 ≤ fx_pi o ∧ fx_pi o < 119) → m18.1 o = m.1 o ∧ m18.2.1 o = m.2.1 o ∧ m18.2.2 o = m.2.2 o := fun o ho => by rw [hm18]; exact (fx_fr_sR (F17 o ho) (fun e => ho (by rw [e]; decide)))
  have E18 : fx_E1 83 m18 [(22, 99), (21, 98), (20, 97), (19, 96), (18, 95), (17, 94), (16, 93), (15, 92), (14, 91), (13, 90), (12, 89), (11, 88), (10, 87), (9, 86), (8, 85), (7, 84)] [(6, -1), (5, 1)] := by rw [hm18]; exact (E17.sR)
  have D18 : fx_D9 99 m18 := by rw [hm18]; exact (D17.sR)
  have C18 : fx_E1 99 m18 [] [] := by rw [hm18]; exact ((fx_E1.of hZ17 (by decide)).sRo (by decide))
  have D18 : fx_D9 100 m18 := D18.step (fx_fin_z C18.1 C18.2.1 (fun _ => rfl) rfl)
  rw [← hm18]
  refine e_aload_n dX9_init_134 rfl ?_
  refine e_bipush dX9_init_135 kcb_8 ?_
  refine e_newI (o := 100) (N := 8) dX9_init_137 wa_int rfl (by decide) rfl (by decide) (by decide) (by decide) (fun j _ => ((hZ18.mono (by decide)) _ (Nat.le_refl _)).1 j) ?_
  refine e_putr dX9_init_139 ff_X9_65 rfl (by decide) (by decide) rfl (Or.inr ⟨rfl, rfl⟩) (fun _ => rfl) (fun _ => rfl) ?_
  obtain ⟨m19, hm19⟩ : ∃ z, z = fx_sR m18 83 23 (some 100) := ⟨_, rfl⟩
  have hZ19 : fx_Z 101 m19 := by rw [hm19]; exact (((hZ18.mono (by decide))).sR (by decide))
  have F19 : ∀ o, ¬ (83 ≤ fx_pi o ∧ fx_pi o < 119) → m19.1 o = m.1 o ∧ m19.2.1 o = m.2.1 o ∧ m19.2.2 o = m.2.2 o := fun o ho => by rw [hm19]; exact (fx_fr_sR (F18 o ho) (fun e => ho (by rw [e]; decide)))
  have E19 : fx_E1 83 m19 [(23, 100), (22, 99), (21, 98), (20, 97), (19, 96), (18, 95), (17, 94), (16, 93), (15, 92), (14, 91), (13, 90), (12, 89), (11, 88), (10, 87), (9, 86), (8, 85), (7, 84)] [(6, -1), (5, 1)] := by rw [hm19]; exact (E18.sR)
  have D19 : fx_D9 100 m19 := by rw [hm19]; exact (D18.sR)
  have C19 : fx_E1 100 m19 [] [] := by rw [hm19]; exact ((fx_E1.of hZ18 (by decide)).sRo (by decide))
  have D19 : fx_D9 101 m19 := D19.step (fx_fin_z C19.1 C19.2.1 (fun _ => rfl) rfl)
  rw [← hm19]
  refine e_aload_n dX9_init_142 rfl ?_
  refine e_bipush dX9_init_143 kcb_8 ?_
  refine e_newI (o := 101) (N := 8) dX9_init_145 wa_int rfl (by decide) rfl (by decide) (by decide) (by decide) (fun j _ => ((hZ19.mono (by decide)) _ (Nat.le_refl _)).1 j) ?_
  refine e_putr dX9_init_147 ff_X9_68 rfl (by decide) (by decide) rfl (Or.inr ⟨rfl, rfl⟩) (fun _ => rfl) (fun _ => rfl) ?_
  obtain ⟨m20, hm20⟩ : ∃ z, z = fx_sR m19 83 24 (some 101) := ⟨_, rfl⟩
  have hZ20 : fx_Z 102 m20 := by rw [hm20]; exact (((hZ19.mono (by decide))).sR (by decide))
  have F20 : ∀ o, ¬ (83 ≤ fx_pi o ∧ fx_pi o < 119) → m20.1 o = m.1 o ∧ m20.2.1 o = m.2.1 o ∧ m20.2.2 o = m.2.2 o := fun o ho => by rw [hm20]; exact (fx_fr_sR (F19 o ho) (fun e => ho (by rw [e]; decide)))
  have E20 : fx_E1 83 m20 [(24, 101), (23, 100), (22, 99), (21, 98), (20, 97), (19, 96), (18, 95), (17, 94), (16, 93), (15, 92), (14, 91), (13, 90), (12, 89), (11, 88), (10, 87), (9, 86), (8, 85), (7, 84)] [(6, -1), (5, 1)] := by rw [hm20]; exact (E19.sR)
  have D20 : fx_D9 101 m20 := by rw [hm20]; exact (D19.sR)
  have C20 : fx_E1 101 m20 [] [] := by rw [hm20]; exact ((fx_E1.of hZ19 (by decide)).sRo (by decide))
  have D20 : fx_D9 102 m20 := D20.step (fx_fin_z C20.1 C20.2.1 (fun _ => rfl) rfl)
  rw [← hm20]
  refine e_aload_n dX9_init_150 rfl ?_
  refine e_bipush dX9_init_151 kcb_8 ?_
  refine e_newI (o := 102) (N := 8) dX9_init_153 wa_int rfl (by decide) rfl (by decide) (by decide) (by decide) (fun j _ => ((hZ20.mono (by decide)) _ (Nat.le_refl _)).1 j) ?_
  refine e_putr dX9_init_155 ff_X9_71 rfl (by decide) (by decide) rfl (Or.inr ⟨rfl, rfl⟩) (fun _ => rfl) (fun _ => rfl) ?_
  obtain ⟨m21, hm21⟩ : ∃ z, z = fx_sR m20 83 25 (some 102) := ⟨_, rfl⟩
  have hZ21 : fx_Z 103 m21 := by rw [hm21]; exact (((hZ20.mono (by decide))).sR (by decide))
  have F21 : ∀ o, ¬ (83 ≤ fx_pi o ∧ fx_pi o < 119) → m21.1 o = m.1 o ∧ m21.2.1 o = m.2.1 o ∧ m21.2.2 o = m.2.2 o := fun o ho => by rw [hm21]; exact (fx_fr_sR (F20 o ho) (fun e => ho (by rw [e]; decide)))
  have E21 : fx_E1 83 m21 [(25, 102), (24, 101), (23, 100), (22, 99), (21, 98), (20, 97), (19, 96), (18, 95), (17, 94), (16, 93), (15, 92), (14, 91), (13, 90), (12, 89), (11, 88), (10, 87), (9, 86), (8, 85), (7, 84)] [(6, -1), (5, 1)] := by rw [hm21]; exact (E20.sR)
  have D21 : fx_D9 102 m21 := by rw [hm21]; exact (D20.sR)
  have C21 : fx_E1 102 m21 [] [] := by rw [hm21]; exact ((fx_E1.of hZ20 (by decide)).sRo (by decide))
  have D21 : fx_D9 103 m21 := D21.step (fx_fin_z C21.1 C21.2.1 (fun _ => rfl) rfl)
  rw [← hm21]
  refine e_aload_n dX9_init_158 rfl ?_
  refine e_bipush dX9_init_159 kcb_8 ?_
  refine e_newI (o := 103) (N := 8) dX9_init_161 wa_int rfl (by decide) rfl (by decide) (by decide) (by decide) (fun j _ => ((hZ21.mono (by decide)) _ (Nat.le_refl _)).1 j) ?_
  refine e_putr dX9_init_163 ff_X9_74 rfl (by decide) (by decide) rfl (Or.inr ⟨rfl, rfl⟩) (fun _ => rfl) (fun _ => rfl) ?_
  obtain ⟨m22, hm22⟩ : ∃ z, z = fx_sR m21 83 26 (some 103) := ⟨_, rfl⟩
  have hZ22 : fx_Z 104 m22 := by rw [hm22]; exact (((hZ21.mono (by decide))).sR (by decide))
  have F22 : ∀ o, ¬ (83 ≤ fx_pi o ∧ fx_pi o < 119) → m22.1 o = m.1 o ∧ m22.2.1 o = m.2.1 o ∧ m22.2.2 o = m.2.2 o := fun o ho => by rw [hm22]; exact (fx_fr_sR (F21 o ho) (fun e => ho (by rw [e]; decide)))
  have E22 : fx_E1 83 m22 [(26, 103), (25, 102), (24, 101), (23, 100), (22, 99), (21, 98), (20, 97), (19, 96), (18, 95), (17, 94), (16, 93), (15, 92), (14, 91), (13, 90), (12, 89), (11, 88), (10, 87), (9, 86), (8, 85), (7, 84)] [(6, -1), (5, 1)] := by rw [hm22]; exact (E21.sR)
  have D22 : fx_D9 103 m22 := by rw [hm22]; exact (D21.sR)
  have C22 : fx_E1 103 m22 [] [] := by rw [hm22]; exact ((fx_E1.of hZ21 (by decide)).sRo (by decide))
  have D22 : fx_D9 104 m22 := D22.step (fx_fin_z C22.1 C22.2.1 (fun _ => rfl) rfl)
  rw [← hm22]
  refine e_aload_n dX9_init_166 rfl ?_
  refine e_sipush dX9_init_167 kcs_1280 ?_
  refine e_newJ (o := 104) (N := 1280) dX9_init_170 wa_long rfl (by decide) rfl (by decide) (by decide) (by decide) (fun j _ => ((hZ22.mono (by decide)) _ (Nat.le_refl _)).2.1 j) ?_
  refine e_putr dX9_init_172 ff_X9_77 rfl (by decide) (by decide) rfl (Or.inr ⟨rfl, rfl⟩) (fun _ => rfl) (fun _ => rfl) ?_
  obtain ⟨m23, hm23⟩ : ∃ z, z = fx_sR m22 83 27 (some 104) := ⟨_, rfl⟩
  have hZ23 : fx_Z 105 m23 := by rw [hm23]; exact (((hZ22.mono (by decide))).sR (by decide))
  have F23 : ∀ o, ¬ (83 ≤ fx_pi o ∧ fx_pi o < 119) → m23.1 o = m.1 o ∧ m23.2.1 o = m.2.1 o ∧ m23.2.2 o = m.2.2 o := fun o ho => by rw [hm23]; exact (fx_fr_sR (F22 o ho) (fun e => ho (by rw [e]; decide)))
  have E23 : fx_E1 83 m23 [(27, 104), (26, 103), (25, 102), (24, 101), (23, 100), (22, 99), (21, 98), (20, 97), (19, 96), (18, 95), (17, 94), (16, 93), (15, 92), (14, 91), (13, 90), (12, 89), (11, 88), (10, 87), (9, 86), (8, 85), (7, 84)] [(6, -1), (5, 1)] := by rw [hm23]; exact (E22.sR)
  have D23 : fx_D9 104 m23 := by rw [hm23]; exact (D22.sR)
  have C23 : fx_E1 104 m23 [] [] := by rw [hm23]; exact ((fx_E1.of hZ22 (by decide)).sRo (by decide))
  have D23 : fx_D9 105 m23 := D23.step (fx_fin_z C23.1 C23.2.1 (fun _ => rfl) rfl)
  rw [← hm23]
  refine e_aload_n dX9_init_175 rfl ?_
  refine e_sipush dX9_init_176 kcs_160 ?_
  refine e_newJ (o := 105) (N := 160) dX9_init_179 wa_long rfl (by decide) rfl (by decide) (by decide) (by decide) (fun j _ => ((hZ23.mono (by decide)) _ (Nat.le_refl _)).2.1 j) ?_
  refine e_putr dX9_init_181 ff_X9_81 rfl (by decide) (by decide) rfl (Or.inr ⟨rfl, rfl⟩) (fun _ => rfl) (fun _ => rfl) ?_
  obtain ⟨m24, hm24⟩ : ∃ z, z = fx_sR m23 83 28 (some 105) := ⟨_, rfl⟩
  have hZ24 : fx_Z 106 m24 := by rw [hm24]; exact (((hZ23.mono (by decide))).sR (by decide))
  have F24 : ∀ o, ¬ (83 ≤ fx_pi o ∧ fx_pi o < 119) → m24.1 o = m.1 o ∧ m24.2.1 o = m.2.1 o ∧ m24.2.2 o = m.2.2 o := fun o ho => by rw [hm24]; exact (fx_fr_sR (F23 o ho) (fun e => ho (by rw [e]; decide)))
  have E24 : fx_E1 83 m24 [(28, 105), (27, 104), (26, 103), (25, 102), (24, 101), (23, 100), (22, 99), (21, 98), (20, 97), (19, 96), (18, 95), (17, 94), (16, 93), (15, 92), (14, 91), (13, 90), (12, 89), (11, 88), (10, 87), (9, 86), (8, 85), (7, 84)] [(6, -1), (5, 1)] := by rw [hm24]; exact (E23.sR)
  have D24 : fx_D9 105 m24 := by rw [hm24]; exact (D23.sR)
  have C24 : fx_E1 105 m24 [] [] := by rw [hm24]; exact ((fx_E1.of hZ23 (by decide)).sRo (by decide))
  have D24 : fx_D9 106 m24 := D24.step (fx_fin_z C24.1 C24.2.1 (fun _ => rfl) rfl)
  rw [← hm24]
  refine e_aload_n dX9_init_184 rfl ?_
  refine e_bipush dX9_init_185 kcb_26 ?_
  refine e_newI (o := 106) (N := 26) dX9_init_187 wa_int rfl (by decide) rfl (by decide) (by decide) (by decide) (fun j _ => ((hZ24.mono (by decide)) _ (Nat.le_refl _)).1 j) ?_
  refine e_dup dX9_init_189 rfl ?_
  refine e_iconst dX9_init_190 kci_0 ?_
  refine e_bipush dX9_init_191 kcb_97 ?_
  refine e_iast (j := 0) dX9_init_193 rfl (by decide) rfl (by decide) (by decide) ?_
  refine e_dup dX9_init_194 rfl ?_
  refine e_iconst dX9_init_195 kci_1 ?_
  refine e_bipush dX9_init_196 kcb_114 ?_
  refine e_iast (j := 1) dX9_init_198 rfl (by decide) rfl (by decide) (by decide) ?_
  refine e_dup dX9_init_199 rfl ?_
  refine e_iconst dX9_init_200 kci_2 ?_
  refine e_bipush dX9_init_201 kcb_109 ?_
  refine e_iast (j := 2) dX9_init_203 rfl (by decide) rfl (by decide) (by decide) ?_
  refine e_dup dX9_init_204 rfl ?_
  refine e_iconst dX9_init_205 kci_3 ?_
  refine e_bipush dX9_init_206 kcb_32 ?_
  refine e_iast (j := 3) dX9_init_208 rfl (by decide) rfl (by decide) (by decide) ?_
  refine e_dup dX9_init_209 rfl ?_
  refine e_iconst dX9_init_210 kci_4 ?_
  refine e_iconst dX9_init_211 kci_0 ?_
  refine e_iast (j := 4) dX9_init_212 rfl (by decide) rfl (by decide) (by decide) ?_
  refine e_dup dX9_init_213 rfl ?_
  refine e_iconst dX9_init_214 kci_5 ?_
  refine e_bipush dX9_init_215 kcb_100 ?_
  refine e_iast (j := 5) dX9_init_217 rfl (by decide) rfl (by decide) (by decide) ?_
  refine e_dup dX9_init_218 rfl ?_
  refine e_bipush dX9_init_219 kcb_6 ?_
  refine e_bipush dX9_init_221 kcb_111 ?_
  refine e_iast (j := 6) dX9_init_223 rfl (by decide) rfl (by decide) (by decide) ?_
  refine e_dup dX9_init_224 rfl ?_
  refine e_bipush dX9_init_225 kcb_7 ?_
  refine e_bipush dX9_init_227 kcb_108 ?_
  refine e_iast (j := 7) dX9_init_229 rfl (by decide) rfl (by decide) (by decide) ?_
  refine e_dup dX9_init_230 rfl ?_
  refine e_bipush dX9_init_231 kcb_8 ?_
  refine e_bipush dX9_init_233 kcb_108 ?_
  refine e_iast (j := 8) dX9_init_235 rfl (by decide) rfl (by decide) (by decide) ?_
  refine e_dup dX9_init_236 rfl ?_
  refine e_bipush dX9_init_237 kcb_9 ?_
  refine e_bipush dX9_init_239 kcb_32 ?_
  refine e_iast (j := 9) dX9_init_241 rfl (by decide) rfl (by decide) (by decide) ?_
  refine e_dup dX9_init_242 rfl ?_
  refine e_bipush dX9_init_243 kcb_10 ?_
  refine e_iconst dX9_init_245 kci_0 ?_
  refine e_iast (j := 10) dX9_init_246 rfl (by decide) rfl (by decide) (by decide) ?_
  refine e_dup dX9_init_247 rfl ?_
  refine e_bipush dX9_init_248 kcb_11 ?_
  refine e_bipush dX9_init_250 kcb_111 ?_
  refine e_iast (j := 11) dX9_init_252 rfl (by decide) rfl (by decide) (by decide) ?_
  refine e_dup dX9_init_253 rfl ?_
  refine e_bipush dX9_init_254 kcb_12 ?_
  refine e_bipush dX9_init_256 kcb_110 ?_
  refine e_iast (j := 12) dX9_init_258 rfl (by decide) rfl (by decide) (by decide) ?_
  refine e_dup dX9_init_259 rfl ?_
  refine e_bipush dX9_init_260 kcb_13 ?_
  refine e_bipush dX9_init_262 kcb_32 ?_
  refine e_iast (j := 13) dX9_init_264 rfl (by decide) rfl (by decide) (by decide) ?_
  refine e_dup dX9_init_265 rfl ?_
  refine e_bipush dX9_init_266 kcb_14 ?_
  refine e_iconst dX9_init_268 kci_0 ?_
  refine e_iast (j := 14) dX9_init_269 rfl (by decide) rfl (by decide) (by decide) ?_
  refine e_dup dX9_init_270 rfl ?_
  refine e_bipush dX9_init_271 kcb_15 ?_
  refine e_bipush dX9_init_273 kcb_111 ?_
  refine e_iast (j := 15) dX9_init_275 rfl (by decide) rfl (by decide) (by decide) ?_
  refine e_dup dX9_init_276 rfl ?_
  refine e_bipush dX9_init_277 kcb_16 ?_
  refine e_bipush dX9_init_279 kcb_102 ?_
  refine e_iast (j := 16) dX9_init_281 rfl (by decide) rfl (by decide) (by decide) ?_
  refine e_dup dX9_init_282 rfl ?_
  refine e_bipush dX9_init_283 kcb_17 ?_
  refine e_bipush dX9_init_285 kcb_102 ?_
  refine e_iast (j := 17) dX9_init_287 rfl (by decide) rfl (by decide) (by decide) ?_
  refine e_dup dX9_init_288 rfl ?_
  refine e_bipush dX9_init_289 kcb_18 ?_
  refine e_bipush dX9_init_291 kcb_32 ?_
  refine e_iast (j := 18) dX9_init_293 rfl (by decide) rfl (by decide) (by decide) ?_
  refine e_dup dX9_init_294 rfl ?_
  refine e_bipush dX9_init_295 kcb_19 ?_
  refine e_iconst dX9_init_297 kci_0 ?_
  refine e_iast (j := 19) dX9_init_298 rfl (by decide) rfl (by decide) (by decide) ?_
  refine e_dup dX9_init_299 rfl ?_
  refine e_bipush dX9_init_300 kcb_20 ?_
  refine e_bipush dX9_init_302 kcb_108 ?_
  refine e_iast (j := 20) dX9_init_304 rfl (by decide) rfl (by decide) (by decide) ?_
  refine e_dup dX9_init_305 rfl ?_
  refine e_bipush dX9_init_306 kcb_21 ?_
  refine e_bipush dX9_init_308 kcb_105 ?_
  refine e_iast (j := 21) dX9_init_310 rfl (by decide) rfl (by decide) (by decide) ?_
  refine e_dup dX9_init_311 rfl ?_
  refine e_bipush dX9_init_312 kcb_22 ?_
  refine e_bipush dX9_init_314 kcb_101 ?_
  refine e_iast (j := 22) dX9_init_316 rfl (by decide) rfl (by decide) (by decide) ?_
  refine e_dup dX9_init_317 rfl ?_
  refine e_bipush dX9_init_318 kcb_23 ?_
  refine e_bipush dX9_init_320 kcb_115 ?_
  refine e_iast (j := 23) dX9_init_322 rfl (by decide) rfl (by decide) (by decide) ?_
  refine e_dup dX9_init_323 rfl ?_
  refine e_bipush dX9_init_324 kcb_24 ?_
  refine e_bipush dX9_init_326 kcb_32 ?_
  refine e_iast (j := 24) dX9_init_328 rfl (by decide) rfl (by decide) (by decide) ?_
  refine e_dup dX9_init_329 rfl ?_
  refine e_bipush dX9_init_330 kcb_25 ?_
  refine e_iconst dX9_init_332 kci_0 ?_
  refine e_iast (j := 25) dX9_init_333 rfl (by decide) rfl (by decide) (by decide) ?_
  refine e_putr dX9_init_334 ff_X9_84 rfl (by decide) (by decide) rfl (Or.inr ⟨rfl, rfl⟩) (fun _ => rfl) (fun _ => rfl) ?_
  obtain ⟨m25, hm25⟩ : ∃ z, z = fx_sR (fx_sI (fx_sI (fx_sI (fx_sI (fx_sI (fx_sI (fx_sI (fx_sI (fx_sI (fx_sI (fx_sI (fx_sI (fx_sI (fx_sI (fx_sI (fx_sI (fx_sI (fx_sI (fx_sI (fx_sI (fx_sI (fx_sI (fx_sI (fx_sI (fx_sI (fx_sI m24 106 0 97) 106 1 114) 106 2 109) 106 3 32) 106 4 0) 106 5 100) 106 6 111) 106 7 108) 106 8 108) 106 9 32) 106 10 0) 106 11 111) 106 12 110) 106 13 32) 106 14 0) 106 15 111) 106 16 102) 106 17 102) 106 18 32) 106 19 0) 106 20 108) 106 21 105) 106 22 101) 106 23 115) 106 24 32) 106 25 0) 83 29 (some 106) := ⟨_, rfl⟩
  have hZ25 : fx_Z 107 m25 := by rw [hm25]; exact (((((((((((((((((((((((((((((((((((((((((((((((((((((((hZ24.mono (by decide))).sI (by decide))).sI (by decide))).sI (by decide))).sI (by decide))).sI (by decide))).sI (by decide))).sI (by decide))).sI (by decide))).sI (by decide))).sI (by decide))).sI (by decide))).sI (by decide))).sI (by decide))).sI (by decide))).sI (by decide))).sI (by decide))).sI (by decide))).sI (by decide))).sI (by decide))).sI (by decide))).sI (by decide))).sI (by decide))).sI (by decide))).sI (by decide))).sI (by decide))).sI (by decide))).sR (by decide))
  have F25 : ∀ o, ¬ (83 ≤ fx_pi o ∧ fx_pi o < 119) → m25.1 o = m.1 o ∧ m25.2.1 o = m.2.1 o ∧ m25.2.2 o = m.2.2 o := fun o ho => by rw [hm25]; exact (fx_fr_sR (fx_fr_sI (fx_fr_sI (fx_fr_sI (fx_fr_sI (fx_fr_sI (fx_fr_sI (fx_fr_sI (fx_fr_sI (fx_fr_sI (fx_fr_sI (fx_fr_sI (fx_fr_sI (fx_fr_sI (fx_fr_sI (fx_fr_sI (fx_fr_sI (fx_fr_sI (fx_fr_sI (fx_fr_sI (fx_fr_sI (fx_fr_sI (fx_fr_sI (fx_fr_sI (fx_fr_sI (fx_fr_sI (fx_fr_sI (F24 o ho) (fun e => ho (by rw [e]; decide))) (fun e => ho (by rw [e]; decide))) (fun e => ho (by rw [e]; decide))) (fun e => ho (by rw [e]; decide))) (fun e => ho (by rw [e]; decide))) (fun e => ho (by rw [e]; decide))) (fun e => ho (by rw [e]; decide))) (fun e => ho (by rw [e]; decide))) (fun e => ho (by rw [e]; decide))) (fun e => ho (by rw [e]; decide))) (fun e => ho (by rw [e]; decide))) (fun e => ho (by rw [e]; decide))) (fun e => ho (by rw [e]; decide))) (fun e => ho (by rw [e]; decide))) (fun e => ho (by rw [e]; decide))) (fun e => ho (by rw [e]; decide))) (fun e => ho (by rw [e]; decide))) (fun e => ho (by rw [e]; decide))) (fun e => ho (by rw [e]; decide))) (fun e => ho (by rw [e]; decide))) (fun e => ho (by rw [e]; decide))) (fun e => ho (by rw [e]; decide))) (fun e => ho (by rw [e]; decide))) (fun e => ho (by rw [e]; decide))) (fun e => ho (by rw [e]; decide))) (fun e => ho (by rw [e]; decide))) (fun e => ho (by rw [e]; decide)))
  have E25 : fx_E1 83 m25 [(29, 106), (28, 105), (27, 104), (26, 103), (25, 102), (24, 101), (23, 100), (22, 99), (21, 98), (20, 97), (19, 96), (18, 95), (17, 94), (16, 93), (15, 92), (14, 91), (13, 90), (12, 89), (11, 88), (10, 87), (9, 86), (8, 85), (7, 84)] [(6, -1), (5, 1)] := by rw [hm25]; exact (((((((((((((((((((((((((((E24.sIo (by decide)).sIo (by decide)).sIo (by decide)).sIo (by decide)).sIo (by decide)).sIo (by decide)).sIo (by decide)).sIo (by decide)).sIo (by decide)).sIo (by decide)).sIo (by decide)).sIo (by decide)).sIo (by decide)).sIo (by decide)).sIo (by decide)).sIo (by decide)).sIo (by decide)).sIo (by decide)).sIo (by decide)).sIo (by decide)).sIo (by decide)).sIo (by decide)).sIo (by decide)).sIo (by decide)).sIo (by decide)).sIo (by decide)).sR)
  have D25 : fx_D9 106 m25 := by rw [hm25]; exact (((((((((((((((((((((((((((D24.sI (by decide)).sI (by decide)).sI (by decide)).sI (by decide)).sI (by decide)).sI (by decide)).sI (by decide)).sI (by decide)).sI (by decide)).sI (by decide)).sI (by decide)).sI (by decide)).sI (by decide)).sI (by decide)).sI (by decide)).sI (by decide)).sI (by decide)).sI (by decide)).sI (by decide)).sI (by decide)).sI (by decide)).sI (by decide)).sI (by decide)).sI (by decide)).sI (by decide)).sI (by decide)).sR)
  have C25 : fx_E1 106 m25 [] [(25, 0), (24, 32), (23, 115), (22, 101), (21, 105), (20, 108), (19, 0), (18, 32), (17, 102), (16, 102), (15, 111), (14, 0), (13, 32), (12, 110), (11, 111), (10, 0), (9, 32), (8, 108), (7, 108), (6, 111), (5, 100), (4, 0), (3, 32), (2, 109), (1, 114), (0, 97)] := by rw [hm25]; exact ((((((((((((((((((((((((((((fx_E1.of hZ24 (by decide)).sI).sI).sI).sI).sI).sI).sI).sI).sI).sI).sI).sI).sI).sI).sI).sI).sI).sI).sI).sI).sI).sI).sI).sI).sI).sI).sRo (by decide))
  have D25 : fx_D9 107 m25 := D25.step (C25.fin (b := 26) (L := 0) (by decide) (by decide) (fun k h => fx_WT_hi h) rfl (fun k h => absurd h (Nat.not_lt_zero _)))
  rw [← hm25]
  refine e_aload_n dX9_init_337 rfl ?_
  refine e_iconst dX9_init_338 kci_5 ?_
  refine e_newI (o := 107) (N := 5) dX9_init_339 wa_int rfl (by decide) rfl (by decide) (by decide) (by decide) (fun j _ => ((hZ25.mono (by decide)) _ (Nat.le_refl _)).1 j) ?_
  refine e_dup dX9_init_341 rfl ?_
  refine e_iconst dX9_init_342 kci_0 ?_
  refine e_bipush dX9_init_343 kcb_6 ?_
  refine e_iast (j := 0) dX9_init_345 rfl (by decide) rfl (by decide) (by decide) ?_
  refine e_dup dX9_init_346 rfl ?_
  refine e_iconst dX9_init_347 kci_1 ?_
  refine e_bipush dX9_init_348 kcb_7 ?_
  refine e_iast (j := 1) dX9_init_350 rfl (by decide) rfl (by decide) (by decide) ?_
  refine e_dup dX9_init_351 rfl ?_
  refine e_iconst dX9_init_352 kci_2 ?_
  refine e_iconst dX9_init_353 kci_2 ?_
  refine e_iast (j := 2) dX9_init_354 rfl (by decide) rfl (by decide) (by decide) ?_
  refine e_dup dX9_init_355 rfl ?_
  refine e_iconst dX9_init_356 kci_3 ?_
  refine e_iconst dX9_init_357 kci_1 ?_
  refine e_iast (j := 3) dX9_init_358 rfl (by decide) rfl (by decide) (by decide) ?_
  refine e_dup dX9_init_359 rfl ?_
  refine e_iconst dX9_init_360 kci_4 ?_
  refine e_iconst dX9_init_361 kci_2 ?_
  refine e_iast (j := 4) dX9_init_362 rfl (by decide) rfl (by decide) (by decide) ?_
  refine e_putr dX9_init_363 ff_X9_87 rfl (by decide) (by decide) rfl (Or.inr ⟨rfl, rfl⟩) (fun _ => rfl) (fun _ => rfl) ?_
  obtain ⟨m26, hm26⟩ : ∃ z, z = fx_sR (fx_sI (fx_sI (fx_sI (fx_sI (fx_sI m25 107 0 6) 107 1 7) 107 2 2) 107 3 1) 107 4 2) 83 30 (some 107) := ⟨_, rfl⟩
  have hZ26 : fx_Z 108 m26 := by rw [hm26]; exact (((((((((((((hZ25.mono (by decide))).sI (by decide))).sI (by decide))).sI (by decide))).sI (by decide))).sI (by decide))).sR (by decide))
  have F26 : ∀ o, ¬ (83 ≤ fx_pi o ∧ fx_pi o < 119) → m26.1 o = m.1 o ∧ m26.2.1 o = m.2.1 o ∧ m26.2.2 o = m.2.2 o := fun o ho => by rw [hm26]; exact (fx_fr_sR (fx_fr_sI (fx_fr_sI (fx_fr_sI (fx_fr_sI (fx_fr_sI (F25 o ho) (fun e => ho (by rw [e]; decide))) (fun e => ho (by rw [e]; decide))) (fun e => ho (by rw [e]; decide))) (fun e => ho (by rw [e]; decide))) (fun e => ho (by rw [e]; decide))) (fun e => ho (by rw [e]; decide)))
  have E26 : fx_E1 83 m26 [(30, 107), (29, 106), (28, 105), (27, 104), (26, 103), (25, 102), (24, 101), (23, 100), (22, 99), (21, 98), (20, 97), (19, 96), (18, 95), (17, 94), (16, 93), (15, 92), (14, 91), (13, 90), (12, 89), (11, 88), (10, 87), (9, 86), (8, 85), (7, 84)] [(6, -1), (5, 1)] := by rw [hm26]; exact ((((((E25.sIo (by decide)).sIo (by decide)).sIo (by decide)).sIo (by decide)).sIo (by decide)).sR)
  have D26 : fx_D9 107 m26 := by rw [hm26]; exact ((((((D25.sI (by decide)).sI (by decide)).sI (by decide)).sI (by decide)).sI (by decide)).sR)
  have C26 : fx_E1 107 m26 [] [(4, 2), (3, 1), (2, 2), (1, 7), (0, 6)] := by rw [hm26]; exact (((((((fx_E1.of hZ25 (by decide)).sI).sI).sI).sI).sI).sRo (by decide))
  have D26 : fx_D9 108 m26 := D26.step (C26.fin (b := 5) (L := 0) (by decide) (by decide) (fun k h => fx_NT_hi h) rfl (fun k h => absurd h (Nat.not_lt_zero _)))
  rw [← hm26]
  refine e_aload_n dX9_init_366 rfl ?_
  refine e_bipush dX9_init_367 kcb_6 ?_
  refine e_newI (o := 108) (N := 6) dX9_init_369 wa_int rfl (by decide) rfl (by decide) (by decide) (by decide) (fun j _ => ((hZ26.mono (by decide)) _ (Nat.le_refl _)).1 j) ?_
  refine e_dup dX9_init_371 rfl ?_
  refine e_iconst dX9_init_372 kci_0 ?_
  refine e_bipush dX9_init_373 kcb_6 ?_
  refine e_iast (j := 0) dX9_init_375 rfl (by decide) rfl (by decide) (by decide) ?_
  refine e_dup dX9_init_376 rfl ?_
  refine e_iconst dX9_init_377 kci_1 ?_
  refine e_bipush dX9_init_378 kcb_9 ?_
  refine e_iast (j := 1) dX9_init_380 rfl (by decide) rfl (by decide) (by decide) ?_
  refine e_dup dX9_init_381 rfl ?_
  refine e_iconst dX9_init_382 kci_2 ?_
  refine e_iconst dX9_init_383 kci_1 ?_
  refine e_iast (j := 2) dX9_init_384 rfl (by decide) rfl (by decide) (by decide) ?_
  refine e_dup dX9_init_385 rfl ?_
  refine e_iconst dX9_init_386 kci_3 ?_
  refine e_bipush dX9_init_387 kcb_9 ?_
  refine e_iast (j := 3) dX9_init_389 rfl (by decide) rfl (by decide) (by decide) ?_
  refine e_dup dX9_init_390 rfl ?_
  refine e_iconst dX9_init_391 kci_4 ?_
  refine e_bipush dX9_init_392 kcb_9 ?_
  refine e_iast (j := 4) dX9_init_394 rfl (by decide) rfl (by decide) (by decide) ?_
  refine e_dup dX9_init_395 rfl ?_
  refine e_iconst dX9_init_396 kci_5 ?_
  refine e_bipush dX9_init_397 kcb_9 ?_
  refine e_iast (j := 5) dX9_init_399 rfl (by decide) rfl (by decide) (by decide) ?_
  refine e_putr dX9_init_400 ff_X9_90 rfl (by decide) (by decide) rfl (Or.inr ⟨rfl, rfl⟩) (fun _ => rfl) (fun _ => rfl) ?_
  obtain ⟨m27, hm27⟩ : ∃ z, z = fx_sR (fx_sI (fx_sI (fx_sI (fx_sI (fx_sI (fx_sI m26 108 0 6) 108 1 9) 108 2 1) 108 3 9) 108 4 9) 108 5 9) 83 31 (some 108) := ⟨_, rfl⟩
  have hZ27 : fx_Z 109 m27 := by rw [hm27]; exact (((((((((((((((hZ26.mono (by decide))).sI (by decide))).sI (by decide))).sI (by decide))).sI (by decide))).sI (by decide))).sI (by decide))).sR (by decide))
  have F27 : ∀ o, ¬ (83 ≤ fx_pi o ∧ fx_pi o < 119) → m27.1 o = m.1 o ∧ m27.2.1 o = m.2.1 o ∧ m27.2.2 o = m.2.2 o := fun o ho => by rw [hm27]; exact (fx_fr_sR (fx_fr_sI (fx_fr_sI (fx_fr_sI (fx_fr_sI (fx_fr_sI (fx_fr_sI (F26 o ho) (fun e => ho (by rw [e]; decide))) (fun e => ho (by rw [e]; decide))) (fun e => ho (by rw [e]; decide))) (fun e => ho (by rw [e]; decide))) (fun e => ho (by rw [e]; decide))) (fun e => ho (by rw [e]; decide))) (fun e => ho (by rw [e]; decide)))
  have E27 : fx_E1 83 m27 [(31, 108), (30, 107), (29, 106), (28, 105), (27, 104), (26, 103), (25, 102), (24, 101), (23, 100), (22, 99), (21, 98), (20, 97), (19, 96), (18, 95), (17, 94), (16, 93), (15, 92), (14, 91), (13, 90), (12, 89), (11, 88), (10, 87), (9, 86), (8, 85), (7, 84)] [(6, -1), (5, 1)] := by rw [hm27]; exact (((((((E26.sIo (by decide)).sIo (by decide)).sIo (by decide)).sIo (by decide)).sIo (by decide)).sIo (by decide)).sR)
  have D27 : fx_D9 108 m27 := by rw [hm27]; exact (((((((D26.sI (by decide)).sI (by decide)).sI (by decide)).sI (by decide)).sI (by decide)).sI (by decide)).sR)
  have C27 : fx_E1 108 m27 [] [(5, 9), (4, 9), (3, 9), (2, 1), (1, 9), (0, 6)] := by rw [hm27]; exact ((((((((fx_E1.of hZ26 (by decide)).sI).sI).sI).sI).sI).sI).sRo (by decide))
  have D27 : fx_D9 109 m27 := D27.step (C27.fin (b := 6) (L := 0) (by decide) (by decide) (fun k h => fx_108_hi h) rfl (fun k h => absurd h (Nat.not_lt_zero _)))
  rw [← hm27]
  refine e_aload_n dX9_init_403 rfl ?_
  refine e_bipush dX9_init_404 kcb_7 ?_
  refine e_newI (o := 109) (N := 7) dX9_init_406 wa_int rfl (by decide) rfl (by decide) (by decide) (by decide) (fun j _ => ((hZ27.mono (by decide)) _ (Nat.le_refl _)).1 j) ?_
  refine e_dup dX9_init_408 rfl ?_
  refine e_iconst dX9_init_409 kci_0 ?_
  refine e_bipush dX9_init_410 kcb_9 ?_
  refine e_iast (j := 0) dX9_init_412 rfl (by decide) rfl (by decide) (by decide) ?_
  refine e_dup dX9_init_413 rfl ?_
  refine e_iconst dX9_init_414 kci_1 ?_
  refine e_bipush dX9_init_415 kcb_9 ?_
  refine e_iast (j := 1) dX9_init_417 rfl (by decide) rfl (by decide) (by decide) ?_
  refine e_dup dX9_init_418 rfl ?_
  refine e_iconst dX9_init_419 kci_2 ?_
  refine e_bipush dX9_init_420 kcb_9 ?_
  refine e_iast (j := 2) dX9_init_422 rfl (by decide) rfl (by decide) (by decide) ?_
  refine e_dup dX9_init_423 rfl ?_
  refine e_iconst dX9_init_424 kci_3 ?_
  refine e_iconst dX9_init_425 kci_2 ?_
  refine e_iast (j := 3) dX9_init_426 rfl (by decide) rfl (by decide) (by decide) ?_
  refine e_dup dX9_init_427 rfl ?_
  refine e_iconst dX9_init_428 kci_4 ?_
  refine e_bipush dX9_init_429 kcb_99 ?_
  refine e_iast (j := 4) dX9_init_431 rfl (by decide) rfl (by decide) (by decide) ?_
  refine e_dup dX9_init_432 rfl ?_
  refine e_iconst dX9_init_433 kci_5 ?_
  refine e_bipush dX9_init_434 kcb_9 ?_
  refine e_iast (j := 5) dX9_init_436 rfl (by decide) rfl (by decide) (by decide) ?_
  refine e_dup dX9_init_437 rfl ?_
  refine e_bipush dX9_init_438 kcb_6 ?_
  refine e_bipush dX9_init_440 kcb_40 ?_
  refine e_iast (j := 6) dX9_init_442 rfl (by decide) rfl (by decide) (by decide) ?_
  refine e_putr dX9_init_443 ff_X9_93 rfl (by decide) (by decide) rfl (Or.inr ⟨rfl, rfl⟩) (fun _ => rfl) (fun _ => rfl) ?_
  obtain ⟨m28, hm28⟩ : ∃ z, z = fx_sR (fx_sI (fx_sI (fx_sI (fx_sI (fx_sI (fx_sI (fx_sI m27 109 0 9) 109 1 9) 109 2 9) 109 3 2) 109 4 99) 109 5 9) 109 6 40) 83 32 (some 109) := ⟨_, rfl⟩
  have hZ28 : fx_Z 110 m28 := by rw [hm28]; exact (((((((((((((((((hZ27.mono (by decide))).sI (by decide))).sI (by decide))).sI (by decide))).sI (by decide))).sI (by decide))).sI (by decide))).sI (by decide))).sR (by decide))
  have F28 : ∀ o, ¬ (83 ≤ fx_pi o ∧ fx_pi o < 119) → m28.1 o = m.1 o ∧ m28.2.1 o = m.2.1 o ∧ m28.2.2 o = m.2.2 o := fun o ho => by rw [hm28]; exact (fx_fr_sR (fx_fr_sI (fx_fr_sI (fx_fr_sI (fx_fr_sI (fx_fr_sI (fx_fr_sI (fx_fr_sI (F27 o ho) (fun e => ho (by rw [e]; decide))) (fun e => ho (by rw [e]; decide))) (fun e => ho (by rw [e]; decide))) (fun e => ho (by rw [e]; decide))) (fun e => ho (by rw [e]; decide))) (fun e => ho (by rw [e]; decide))) (fun e => ho (by rw [e]; decide))) (fun e => ho (by rw [e]; decide)))
  have E28 : fx_E1 83 m28 [(32, 109), (31, 108), (30, 107), (29, 106), (28, 105), (27, 104), (26, 103), (25, 102), (24, 101), (23, 100), (22, 99), (21, 98), (20, 97), (19, 96), (18, 95), (17, 94), (16, 93), (15, 92), (14, 91), (13, 90), (12, 89), (11, 88), (10, 87), (9, 86), (8, 85), (7, 84)] [(6, -1), (5, 1)] := by rw [hm28]; exact ((((((((E27.sIo (by decide)).sIo (by decide)).sIo (by decide)).sIo (by decide)).sIo (by decide)).sIo (by decide)).sIo (by decide)).sR)
  have D28 : fx_D9 109 m28 := by rw [hm28]; exact ((((((((D27.sI (by decide)).sI (by decide)).sI (by decide)).sI (by decide)).sI (by decide)).sI (by decide)).sI (by decide)).sR)
  have C28 : fx_E1 109 m28 [] [(6, 40), (5, 9), (4, 99), (3, 2), (2, 9), (1, 9), (0, 9)] := by rw [hm28]; exact (((((((((fx_E1.of hZ27 (by decide)).sI).sI).sI).sI).sI).sI).sI).sRo (by decide))
  have D28 : fx_D9 110 m28 := D28.step (C28.fin (b := 7) (L := 0) (by decide) (by decide) (fun k h => fx_109_hi h) rfl (fun k h => absurd h (Nat.not_lt_zero _)))
  rw [← hm28]
  refine e_aload_n dX9_init_446 rfl ?_
  refine e_bipush dX9_init_447 kcb_7 ?_
  refine e_newI (o := 110) (N := 7) dX9_init_449 wa_int rfl (by decide) rfl (by decide) (by decide) (by decide) (fun j _ => ((hZ28.mono (by decide)) _ (Nat.le_refl _)).1 j) ?_
  refine e_putr dX9_init_451 ff_X9_96 rfl (by decide) (by decide) rfl (Or.inr ⟨rfl, rfl⟩) (fun _ => rfl) (fun _ => rfl) ?_
  obtain ⟨m29, hm29⟩ : ∃ z, z = fx_sR m28 83 33 (some 110) := ⟨_, rfl⟩
  have hZ29 : fx_Z 111 m29 := by rw [hm29]; exact (((hZ28.mono (by decide))).sR (by decide))
  have F29 : ∀ o, ¬ (83 ≤ fx_pi o ∧ fx_pi o < 119) → m29.1 o = m.1 o ∧ m29.2.1 o = m.2.1 o ∧ m29.2.2 o = m.2.2 o := fun o ho => by rw [hm29]; exact (fx_fr_sR (F28 o ho) (fun e => ho (by rw [e]; decide)))
  have E29 : fx_E1 83 m29 [(33, 110), (32, 109), (31, 108), (30, 107), (29, 106), (28, 105), (27, 104), (26, 103), (25, 102), (24, 101), (23, 100), (22, 99), (21, 98), (20, 97), (19, 96), (18, 95), (17, 94), (16, 93), (15, 92), (14, 91), (13, 90), (12, 89), (11, 88), (10, 87), (9, 86), (8, 85), (7, 84)] [(6, -1), (5, 1)] := by rw [hm29]; exact (E28.sR)
  have D29 : fx_D9 110 m29 := by rw [hm29]; exact (D28.sR)
  have C29 : fx_E1 110 m29 [] [] := by rw [hm29]; exact ((fx_E1.of hZ28 (by decide)).sRo (by decide))
  have D29 : fx_D9 111 m29 := D29.step (fx_fin_z C29.1 C29.2.1 (fun _ => rfl) rfl)
  rw [← hm29]
  refine e_aload_n dX9_init_454 rfl ?_
  refine e_bipush dX9_init_455 kcb_110 ?_
  refine e_newI (o := 111) (N := 110) dX9_init_457 wa_int rfl (by decide) rfl (by decide) (by decide) (by decide) (fun j _ => ((hZ29.mono (by decide)) _ (Nat.le_refl _)).1 j) ?_
  refine e_putr dX9_init_459 ff_X9_99 rfl (by decide) (by decide) rfl (Or.inr ⟨rfl, rfl⟩) (fun _ => rfl) (fun _ => rfl) ?_
  obtain ⟨m30, hm30⟩ : ∃ z, z = fx_sR m29 83 39 (some 111) := ⟨_, rfl⟩
  have hZ30 : fx_Z 112 m30 := by rw [hm30]; exact (((hZ29.mono (by decide))).sR (by decide))
  have F30 : ∀ o, ¬ (83 ≤ fx_pi o ∧ fx_pi o < 119) → m30.1 o = m.1 o ∧ m30.2.1 o = m.2.1 o ∧ m30.2.2 o = m.2.2 o := fun o ho => by rw [hm30]; exact (fx_fr_sR (F29 o ho) (fun e => ho (by rw [e]; decide)))
  have E30 : fx_E1 83 m30 [(39, 111), (33, 110), (32, 109), (31, 108), (30, 107), (29, 106), (28, 105), (27, 104), (26, 103), (25, 102), (24, 101), (23, 100), (22, 99), (21, 98), (20, 97), (19, 96), (18, 95), (17, 94), (16, 93), (15, 92), (14, 91), (13, 90), (12, 89), (11, 88), (10, 87), (9, 86), (8, 85), (7, 84)] [(6, -1), (5, 1)] := by rw [hm30]; exact (E29.sR)
  have D30 : fx_D9 111 m30 := by rw [hm30]; exact (D29.sR)
  have C30 : fx_E1 111 m30 [] [] := by rw [hm30]; exact ((fx_E1.of hZ29 (by decide)).sRo (by decide))
  have D30 : fx_D9 112 m30 := D30.step (fx_fin_z C30.1 C30.2.1 (fun _ => rfl) rfl)
  rw [← hm30]
  refine e_aload_n dX9_init_462 rfl ?_
  refine e_bipush dX9_init_463 kcb_110 ?_
  refine e_newI (o := 112) (N := 110) dX9_init_465 wa_int rfl (by decide) rfl (by decide) (by decide) (by decide) (fun j _ => ((hZ30.mono (by decide)) _ (Nat.le_refl _)).1 j) ?_
  refine e_putr dX9_init_467 ff_X9_102 rfl (by decide) (by decide) rfl (Or.inr ⟨rfl, rfl⟩) (fun _ => rfl) (fun _ => rfl) ?_
  obtain ⟨m31, hm31⟩ : ∃ z, z = fx_sR m30 83 40 (some 112) := ⟨_, rfl⟩
  have hZ31 : fx_Z 113 m31 := by rw [hm31]; exact (((hZ30.mono (by decide))).sR (by decide))
  have F31 : ∀ o, ¬ (83 ≤ fx_pi o ∧ fx_pi o < 119) → m31.1 o = m.1 o ∧ m31.2.1 o = m.2.1 o ∧ m31.2.2 o = m.2.2 o := fun o ho => by rw [hm31]; exact (fx_fr_sR (F30 o ho) (fun e => ho (by rw [e]; decide)))
  have E31 : fx_E1 83 m31 [(40, 112), (39, 111), (33, 110), (32, 109), (31, 108), (30, 107), (29, 106), (28, 105), (27, 104), (26, 103), (25, 102), (24, 101), (23, 100), (22, 99), (21, 98), (20, 97), (19, 96), (18, 95), (17, 94), (16, 93), (15, 92), (14, 91), (13, 90), (12, 89), (11, 88), (10, 87), (9, 86), (8, 85), (7, 84)] [(6, -1), (5, 1)] := by rw [hm31]; exact (E30.sR)
  have D31 : fx_D9 112 m31 := by rw [hm31]; exact (D30.sR)
  have C31 : fx_E1 112 m31 [] [] := by rw [hm31]; exact ((fx_E1.of hZ30 (by decide)).sRo (by decide))
  have D31 : fx_D9 113 m31 := D31.step (fx_fin_z C31.1 C31.2.1 (fun _ => rfl) rfl)
  rw [← hm31]
  refine e_aload_n dX9_init_470 rfl ?_
  refine e_bipush dX9_init_471 kcb_110 ?_
  refine e_newI (o := 113) (N := 110) dX9_init_473 wa_int rfl (by decide) rfl (by decide) (by decide) (by decide) (fun j _ => ((hZ31.mono (by decide)) _ (Nat.le_refl _)).1 j) ?_
  refine e_putr dX9_init_475 ff_X9_105 rfl (by decide) (by decide) rfl (Or.inr ⟨rfl, rfl⟩) (fun _ => rfl) (fun _ => rfl) ?_
  obtain ⟨m32, hm32⟩ : ∃ z, z = fx_sR m31 83 41 (some 113) := ⟨_, rfl⟩
  have hZ32 : fx_Z 114 m32 := by rw [hm32]; exact (((hZ31.mono (by decide))).sR (by decide))
  have F32 : ∀ o, ¬ (83 ≤ fx_pi o ∧ fx_pi o < 119) → m32.1 o = m.1 o ∧ m32.2.1 o = m.2.1 o ∧ m32.2.2 o = m.2.2 o := fun o ho => by rw [hm32]; exact (fx_fr_sR (F31 o ho) (fun e => ho (by rw [e]; decide)))
  have E32 : fx_E1 83 m32 [(41, 113), (40, 112), (39, 111), (33, 110), (32, 109), (31, 108), (30, 107), (29, 106), (28, 105), (27, 104), (26, 103), (25, 102), (24, 101), (23, 100), (22, 99), (21, 98), (20, 97), (19, 96), (18, 95), (17, 94), (16, 93), (15, 92), (14, 91), (13, 90), (12, 89), (11, 88), (10, 87), (9, 86), (8, 85), (7, 84)] [(6, -1), (5, 1)] := by rw [hm32]; exact (E31.sR)
  have D32 : fx_D9 113 m32 := by rw [hm32]; exact (D31.sR)
  have C32 : fx_E1 113 m32 [] [] := by rw [hm32]; exact ((fx_E1.of hZ31 (by decide)).sRo (by decide))
  have D32 : fx_D9 114 m32 := D32.step (fx_fin_z C32.1 C32.2.1 (fun _ => rfl) rfl)
  rw [← hm32]
  refine e_aload_n dX9_init_478 rfl ?_
  refine e_sipush dX9_init_479 kcs_5632 ?_
  refine e_newI (o := 114) (N := 5632) dX9_init_482 wa_int rfl (by decide) rfl (by decide) (by decide) (by decide) (fun j _ => ((hZ32.mono (by decide)) _ (Nat.le_refl _)).1 j) ?_
  refine e_putr dX9_init_484 ff_X9_108 rfl (by decide) (by decide) rfl (Or.inr ⟨rfl, rfl⟩) (fun _ => rfl) (fun _ => rfl) ?_
  obtain ⟨m33, hm33⟩ : ∃ z, z = fx_sR m32 83 42 (some 114) := ⟨_, rfl⟩
  have hZ33 : fx_Z 115 m33 := by rw [hm33]; exact (((hZ32.mono (by decide))).sR (by decide))
  have F33 : ∀ o, ¬ (83 ≤ fx_pi o ∧ fx_pi o < 119) → m33.1 o = m.1 o ∧ m33.2.1 o = m.2.1 o ∧ m33.2.2 o = m.2.2 o := fun o ho => by rw [hm33]; exact (fx_fr_sR (F32 o ho) (fun e => ho (by rw [e]; decide)))
  have E33 : fx_E1 83 m33 [(42, 114), (41, 113), (40, 112), (39, 111), (33, 110), (32, 109), (31, 108), (30, 107), (29, 106), (28, 105), (27, 104), (26, 103), (25, 102), (24, 101), (23, 100), (22, 99), (21, 98), (20, 97), (19, 96), (18, 95), (17, 94), (16, 93), (15, 92), (14, 91), (13, 90), (12, 89), (11, 88), (10, 87), (9, 86), (8, 85), (7, 84)] [(6, -1), (5, 1)] := by rw [hm33]; exact (E32.sR)
  have D33 : fx_D9 114 m33 := by rw [hm33]; exact (D32.sR)
  have C33 : fx_E1 114 m33 [] [] := by rw [hm33]; exact ((fx_E1.of hZ32 (by decide)).sRo (by decide))
  have D33 : fx_D9 115 m33 := D33.step (fx_fin_z C33.1 C33.2.1 (fun _ => rfl) rfl)
  rw [← hm33]
  refine e_aload_n dX9_init_487 rfl ?_
  refine e_bipush dX9_init_488 kcb_10 ?_
  refine e_newI (o := 115) (N := 10) dX9_init_490 wa_int rfl (by decide) rfl (by decide) (by decide) (by decide) (fun j _ => ((hZ33.mono (by decide)) _ (Nat.le_refl _)).1 j) ?_
  refine e_putr dX9_init_492 ff_X9_111 rfl (by decide) (by decide) rfl (Or.inr ⟨rfl, rfl⟩) (fun _ => rfl) (fun _ => rfl) ?_
  obtain ⟨m34, hm34⟩ : ∃ z, z = fx_sR m33 83 43 (some 115) := ⟨_, rfl⟩
  have hZ34 : fx_Z 116 m34 := by rw [hm34]; exact (((hZ33.mono (by decide))).sR (by decide))
  have F34 : ∀ o, ¬ (83 ≤ fx_pi o ∧ fx_pi o < 119) → m34.1 o = m.1 o ∧ m34.2.1 o = m.2.1 o ∧ m34.2.2 o = m.2.2 o := fun o ho => by rw [hm34]; exact (fx_fr_sR (F33 o ho) (fun e => ho (by rw [e]; decide)))
  have E34 : fx_E1 83 m34 [(43, 115), (42, 114), (41, 113), (40, 112), (39, 111), (33, 110), (32, 109), (31, 108), (30, 107), (29, 106), (28, 105), (27, 104), (26, 103), (25, 102), (24, 101), (23, 100), (22, 99), (21, 98), (20, 97), (19, 96), (18, 95), (17, 94), (16, 93), (15, 92), (14, 91), (13, 90), (12, 89), (11, 88), (10, 87), (9, 86), (8, 85), (7, 84)] [(6, -1), (5, 1)] := by rw [hm34]; exact (E33.sR)
  have D34 : fx_D9 115 m34 := by rw [hm34]; exact (D33.sR)
  have C34 : fx_E1 115 m34 [] [] := by rw [hm34]; exact ((fx_E1.of hZ33 (by decide)).sRo (by decide))
  have D34 : fx_D9 116 m34 := D34.step (fx_fin_z C34.1 C34.2.1 (fun _ => rfl) rfl)
  rw [← hm34]
  refine e_aload_n dX9_init_495 rfl ?_
  refine e_iconst dX9_init_496 kci_m1 ?_
  refine e_put dX9_init_497 ff_X9_114 rfl (by decide) (by decide) rfl (Or.inl rfl) ?_
  obtain ⟨m35, hm35⟩ : ∃ z, z = fx_sI m34 83 44 (-1) := ⟨_, rfl⟩
  have hZ35 : fx_Z 116 m35 := by rw [hm35]; exact (((hZ34.mono (by decide))).sI (by decide))
  have F35 : ∀ o, ¬ (83 ≤ fx_pi o ∧ fx_pi o < 119) → m35.1 o = m.1 o ∧ m35.2.1 o = m.2.1 o ∧ m35.2.2 o = m.2.2 o := fun o ho => by rw [hm35]; exact (fx_fr_sI (F34 o ho) (fun e => ho (by rw [e]; decide)))
  have E35 : fx_E1 83 m35 [(43, 115), (42, 114), (41, 113), (40, 112), (39, 111), (33, 110), (32, 109), (31, 108), (30, 107), (29, 106), (28, 105), (27, 104), (26, 103), (25, 102), (24, 101), (23, 100), (22, 99), (21, 98), (20, 97), (19, 96), (18, 95), (17, 94), (16, 93), (15, 92), (14, 91), (13, 90), (12, 89), (11, 88), (10, 87), (9, 86), (8, 85), (7, 84)] [(44, -1), (6, -1), (5, 1)] := by rw [hm35]; exact (E34.sI)
  have D35 : fx_D9 116 m35 := by rw [hm35]; exact (D34.sI (by decide))
  rw [← hm35]
  refine e_aload_n dX9_init_500 rfl ?_
  refine e_iconst dX9_init_501 kci_5 ?_
  refine e_newI (o := 116) (N := 5) dX9_init_502 wa_int rfl (by decide) rfl (by decide) (by decide) (by decide) (fun j _ => ((hZ35.mono (by decide)) _ (Nat.le_refl _)).1 j) ?_
  refine e_putr dX9_init_504 ff_X9_117 rfl (by decide) (by decide) rfl (Or.inr ⟨rfl, rfl⟩) (fun _ => rfl) (fun _ => rfl) ?_
  obtain ⟨m36, hm36⟩ : ∃ z, z = fx_sR m35 83 45 (some 116) := ⟨_, rfl⟩
  have hZ36 : fx_Z 117 m36 := by rw [hm36]; exact (((hZ35.mono (by decide))).sR (by decide))
  have F36 : ∀ o, ¬ (83 ≤ fx_pi o ∧ fx_pi o < 119) → m36.1 o = m.1 o ∧ m36.2.1 o = m.2.1 o ∧ m36.2.2 o = m.2.2 o := fun o ho => by rw [hm36]; exact (fx_fr_sR (F35 o ho) (fun e => ho (by rw [e]; decide)))
  have E36 : fx_E1 83 m36 [(45, 116), (43, 115), (42, 114), (41, 113), (40, 112), (39, 111), (33, 110), (32, 109), (31, 108), (30, 107), (29, 106), (28, 105), (27, 104), (26, 103), (25, 102), (24, 101), (23, 100), (22, 99), (21, 98), (20, 97), (19, 96), (18, 95), (17, 94), (16, 93), (15, 92), (14, 91), (13, 90), (12, 89), (11, 88), (10, 87), (9, 86), (8, 85), (7, 84)] [(44, -1), (6, -1), (5, 1)] := by rw [hm36]; exact (E35.sR)
  have D36 : fx_D9 116 m36 := by rw [hm36]; exact (D35.sR)
  have C36 : fx_E1 116 m36 [] [] := by rw [hm36]; exact ((fx_E1.of hZ35 (by decide)).sRo (by decide))
  have D36 : fx_D9 117 m36 := D36.step (fx_fin_z C36.1 C36.2.1 (fun _ => rfl) rfl)
  rw [← hm36]
  refine e_aload_n dX9_init_507 rfl ?_
  refine e_iconst dX9_init_508 kci_5 ?_
  refine e_newI (o := 117) (N := 5) dX9_init_509 wa_int rfl (by decide) rfl (by decide) (by decide) (by decide) (fun j _ => ((hZ36.mono (by decide)) _ (Nat.le_refl _)).1 j) ?_
  refine e_putr dX9_init_511 ff_X9_120 rfl (by decide) (by decide) rfl (Or.inr ⟨rfl, rfl⟩) (fun _ => rfl) (fun _ => rfl) ?_
  obtain ⟨m37, hm37⟩ : ∃ z, z = fx_sR m36 83 46 (some 117) := ⟨_, rfl⟩
  have hZ37 : fx_Z 118 m37 := by rw [hm37]; exact (((hZ36.mono (by decide))).sR (by decide))
  have F37 : ∀ o, ¬ (83 ≤ fx_pi o ∧ fx_pi o < 119) → m37.1 o = m.1 o ∧ m37.2.1 o = m.2.1 o ∧ m37.2.2 o = m.2.2 o := fun o ho => by rw [hm37]; exact (fx_fr_sR (F36 o ho) (fun e => ho (by rw [e]; decide)))
  have E37 : fx_E1 83 m37 [(46, 117), (45, 116), (43, 115), (42, 114), (41, 113), (40, 112), (39, 111), (33, 110), (32, 109), (31, 108), (30, 107), (29, 106), (28, 105), (27, 104), (26, 103), (25, 102), (24, 101), (23, 100), (22, 99), (21, 98), (20, 97), (19, 96), (18, 95), (17, 94), (16, 93), (15, 92), (14, 91), (13, 90), (12, 89), (11, 88), (10, 87), (9, 86), (8, 85), (7, 84)] [(44, -1), (6, -1), (5, 1)] := by rw [hm37]; exact (E36.sR)
  have D37 : fx_D9 117 m37 := by rw [hm37]; exact (D36.sR)
  have C37 : fx_E1 117 m37 [] [] := by rw [hm37]; exact ((fx_E1.of hZ36 (by decide)).sRo (by decide))
  have D37 : fx_D9 118 m37 := D37.step (fx_fin_z C37.1 C37.2.1 (fun _ => rfl) rfl)
  rw [← hm37]
  refine e_aload_n dX9_init_514 rfl ?_
  refine e_bipush dX9_init_515 kcb_20 ?_
  refine e_newI (o := 118) (N := 20) dX9_init_517 wa_int rfl (by decide) rfl (by decide) (by decide) (by decide) (fun j _ => ((hZ37.mono (by decide)) _ (Nat.le_refl _)).1 j) ?_
  refine e_putr dX9_init_519 ff_X9_123 rfl (by decide) (by decide) rfl (Or.inr ⟨rfl, rfl⟩) (fun _ => rfl) (fun _ => rfl) ?_
  obtain ⟨m38, hm38⟩ : ∃ z, z = fx_sR m37 83 48 (some 118) := ⟨_, rfl⟩
  have hZ38 : fx_Z 119 m38 := by rw [hm38]; exact (((hZ37.mono (by decide))).sR (by decide))
  have F38 : ∀ o, ¬ (83 ≤ fx_pi o ∧ fx_pi o < 119) → m38.1 o = m.1 o ∧ m38.2.1 o = m.2.1 o ∧ m38.2.2 o = m.2.2 o := fun o ho => by rw [hm38]; exact (fx_fr_sR (F37 o ho) (fun e => ho (by rw [e]; decide)))
  have E38 : fx_E1 83 m38 [(48, 118), (46, 117), (45, 116), (43, 115), (42, 114), (41, 113), (40, 112), (39, 111), (33, 110), (32, 109), (31, 108), (30, 107), (29, 106), (28, 105), (27, 104), (26, 103), (25, 102), (24, 101), (23, 100), (22, 99), (21, 98), (20, 97), (19, 96), (18, 95), (17, 94), (16, 93), (15, 92), (14, 91), (13, 90), (12, 89), (11, 88), (10, 87), (9, 86), (8, 85), (7, 84)] [(44, -1), (6, -1), (5, 1)] := by rw [hm38]; exact (E37.sR)
  have D38 : fx_D9 118 m38 := by rw [hm38]; exact (D37.sR)
  have C38 : fx_E1 118 m38 [] [] := by rw [hm38]; exact ((fx_E1.of hZ37 (by decide)).sRo (by decide))
  have D38 : fx_D9 119 m38 := D38.step (fx_fin_z C38.1 C38.2.1 (fun _ => rfl) rfl)
  rw [← hm38]
  have nb : fx_NB 83 119 m m38 := ⟨fun o ho => F38 o ho, fun o h1 h2 => by
      by_cases c0 : o = 83
      · subst c0; exact E38.fin (b := 45) (L := 49) (by decide) (by decide) (fun k h => fx_83_hi h) rfl (by decide)
      · have e := fx_pi_hi h1
        exact D38 o (by omega) (by omega)⟩
  exact e_vret dX9_init_522 rfl rfl ⟨rfl, nb⟩
