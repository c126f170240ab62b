/-! THE REFERENCE: its cells 83 to 118. na arms, nd dolls, t the stock -/
def p_gA (A : Nat → Int32) : Prop := p_in (A 0) 0 6 ∧ p_in (A 1) 0 9 ∧ p_in (A 2) 0 1 ∧ p_in (A 3) 0 9 ∧ p_in (A 4) 0 9 ∧ p_in (A 5) 0 9
def p_gD (D : Nat → Int32) : Prop := p_in (D 0) 0 9 ∧ p_in (D 1) 0 9 ∧ p_in (D 2) 0 9 ∧ p_in (D 3) 0 2 ∧ p_in (D 4) 1 99 ∧ p_in (D 5) 0 9 ∧ p_in (D 6) 0 40 ∧ p_in (D 7) 0 99
def fx_MS (m : fx_M) (na nd : Nat) (t : p_Sg) : Prop := m.1 83 0 = nI na ∧ m.1 83 1 = nI nd ∧ (∀ j, j < 4 → m.1 83 (2 + j) = t.2.2 j) ∧ (∀ x, x < na → ∀ j, j < 7 → m.1 (85 + j) x = t.1 x j) ∧ (∀ d, d < nd → ∀ j, j < 8 → m.1 (92 + j) d = t.2.1 d j) ∧ na ≤ 9 ∧ nd ≤ 5 ∧ (∀ x, x < na → p_gA (t.1 x)) ∧ ∀ d, d < nd → p_gD (t.2.1 d)
def p_apt (a b : Int32) : Int32 := if a ≤ b then b - a else a - b
theorem p_inT {v : Int32} {a b : Int32} : p_in v a b ↔ a.toInt ≤ v.toInt ∧ v.toInt ≤ b.toInt := by
  show (a ≤ v ∧ v ≤ b) ↔ _
  rw [Int32.le_iff_toInt_le, Int32.le_iff_toInt_le]
theorem p_apt_abs {a b : Int32} (ha : p_in a 0 100) (hb : p_in b 0 100) : p_apt a b = p_abs (a - b) := by
  rw [p_inT, show (0 : Int32).toInt = 0 from rfl, show (100 : Int32).toInt = 100 from rfl] at ha hb
  have h1 : (a - b).toInt = a.toInt - b.toInt := fb_subI (by omega) (by omega)
  have h2 : (b - a).toInt = b.toInt - a.toInt := fb_subI (by omega) (by omega)
  have h3 : (0 - (a - b)).toInt = b.toInt - a.toInt := by rw [fb_subI (by rw [h1, show (0 : Int32).toInt = 0 from rfl]; omega) (by rw [h1, show (0 : Int32).toInt = 0 from rfl]; omega), h1, show (0 : Int32).toInt = 0 from rfl]; omega
  unfold p_apt p_abs
  by_cases c : a ≤ b <;> by_cases d : 0 ≤ a - b
  · rw [if_pos c, if_pos d]
    rw [Int32.le_iff_toInt_le] at c d
    rw [h1, show (0 : Int32).toInt = 0 from rfl] at d
    exact Int32.toInt_inj.mp (by omega)
  · rw [if_pos c, if_neg d]
    exact Int32.toInt_inj.mp (by omega)
  · rw [if_neg c, if_pos d]
  · rw [if_neg c, if_neg d]
    rw [Int32.le_iff_toInt_le] at c d
    rw [h1, show (0 : Int32).toInt = 0 from rfl] at d
    exact Int32.toInt_inj.mp (by omega)
theorem p_in9 {v : Int32} {b : Int32} (h : p_in v 0 b) (hb : b ≤ 100) : p_in v 0 100 := ⟨h.1, Int32.le_trans h.2 hb⟩
theorem p_min9_in {v : Int32} (h : 0 ≤ v) : p_in (p_min9 v) 0 9 := by
  unfold p_min9
  split
  · exact ⟨by decide, by decide⟩
  · exact ⟨h, Int32.not_lt.mp (by assumption)⟩
theorem p_add_in {a b : Int32} (ha : p_in a 0 100) (hb : p_in b 0 100) : 0 ≤ a + b ∧ (a + b).toInt = a.toInt + b.toInt := by
  rw [p_inT, show (0 : Int32).toInt = 0 from rfl, show (100 : Int32).toInt = 100 from rfl] at ha hb
  have h : (a + b).toInt = a.toInt + b.toInt := fb_addI (by omega) (by omega)
  exact ⟨Int32.le_iff_toInt_le.mpr (by rw [h, show (0 : Int32).toInt = 0 from rfl]; omega), h⟩
theorem p_shade_in {A : Nat → Int32} {x : Int32} (h : p_gA A) (hx : p_in x 0 9) : p_in (p_shade A x) 0 9 := by
  unfold p_shade
  split
  · exact p_min9_in (p_add_in (p_in9 hx (by decide)) (p_in9 h.2.1 (by decide))).1
  · exact hx
theorem p_min9_2 {w a : Int32} (hw : p_in w 0 9) (ha : p_in a 0 9) : p_min9 (p_min9 (w + 1) + a) = p_min9 (w + 1 + a) := by
  have h1 := (p_add_in (p_in9 hw (by decide)) (show p_in 1 0 100 from ⟨by decide, by decide⟩)).2
  rw [p_inT, show (0 : Int32).toInt = 0 from rfl, show (9 : Int32).toInt = 9 from rfl] at hw ha
  rw [show (1 : Int32).toInt = 1 from rfl] at h1
  have h2 : (w + 1 + a).toInt = w.toInt + 1 + a.toInt := by rw [fb_addI (by omega) (by omega), h1]
  have e9 : (9 : Int32).toInt = 9 := rfl
  by_cases c : 9 < w + 1
  · have e : p_min9 (w + 1) = 9 := if_pos c
    rw [e]
    have c' := Int32.lt_iff_toInt_lt.mp c
    rw [e9, h1] at c'
    have h3 : ((9 : Int32) + a).toInt = 9 + a.toInt := by rw [fb_addI (by rw [e9]; omega) (by rw [e9]; omega), e9]
    unfold p_min9
    by_cases d : 9 < 9 + a
    · rw [if_pos d, if_pos (Int32.lt_iff_toInt_lt.mpr (by rw [h2, e9]; omega))]
    · have d' := mt Int32.lt_iff_toInt_lt.mpr d
      rw [h3, e9] at d'
      rw [if_neg d, if_pos (Int32.lt_iff_toInt_lt.mpr (by rw [h2, e9]; omega))]
      exact Int32.toInt_inj.mp (by rw [h3, e9]; omega)
  · rw [show p_min9 (w + 1) = w + 1 from if_neg c]
theorem p_wear_in {A : Nat → Int32} {w : Int32} (h : p_gA A) (hw : p_in w 0 9) : p_in (p_wear A w) 0 9 := by
  have h1 := p_add_in (p_in9 hw (by decide)) (show p_in 1 0 100 from ⟨by decide, by decide⟩)
  unfold p_wear
  split
  · exact ⟨by decide, by decide⟩
  · split
    · have ha := h.2.1
      rw [p_inT, show (0 : Int32).toInt = 0 from rfl, show (9 : Int32).toInt = 9 from rfl] at ha ⊢
      rw [fb_subI (by rw [show (9 : Int32).toInt = 9 from rfl]; omega) (by rw [show (9 : Int32).toInt = 9 from rfl]; omega), show (9 : Int32).toInt = 9 from rfl]
      omega
    · split
      · exact p_min9_in h1.1
      · split
        · rw [← p_min9_2 hw h.2.1]
          exact p_min9_in (p_add_in (p_in9 (p_min9_in h1.1) (by decide)) (p_in9 h.2.1 (by decide))).1
        · exact hw
set_option maxRecDepth 100000 in
set_option maxHeartbeats 600000 in
theorem s_X9_no {Γ : fx_G} {m : fx_M} (hL : fx_Lay m) {b : Nat} {z : Int32} (hz : -z = nI b) (h7 : b ≤ 7) : fx_Ct Γ mX9_no 0 119 119 [fx_rf Γ 83, .int z] m (fx_is (some (.int (z))) (fx_sI m 84 b (m.1 84 b + 1))) := by
  refine fx_Ct.of (j := 0) (by decide) (Nat.le_of_ble_eq_true rfl) (Nat.le_of_ble_eq_true rfl) ?_
  show fx_E Γ mX9_no 0 119 119 _ 119 m 0 [some (fx_rf Γ 83), some (.int z)] []
  refine e_aload_n dX9_no_0 rfl ?_
  refine e_getr (o2 := 84) dX9_no_1 ff_X9_16 rfl (fx_pi_lt (by decide)) (by decide) rfl (hL _ _ _ rfl) ?_
  refine e_iload_n dX9_no_4 rfl ?_
  refine e_ineg dX9_no_5 ?_
  refine e_dup2 dX9_no_6 rfl rfl ?_
  refine e_iald (j := b) dX9_no_7 rfl (fx_pi_lt (by decide)) hz (by omega) (by decide) ?_
  refine e_iconst dX9_no_8 kci_1 ?_
  refine e_iadd dX9_no_9 ?_
  refine e_iast (j := b) dX9_no_10 rfl (fx_pi_lt (by decide)) hz (by omega) (by decide) ?_
  refine e_iload_n dX9_no_11 rfl ?_
  exact e_iret dX9_no_12 rfl rfl rfl ⟨rfl, rfl⟩
set_option maxRecDepth 100000 in
set_option maxHeartbeats 600000 in
theorem s_X9_noTen {Γ : fx_G} {m : fx_M} (hL : fx_Lay m) {b : Nat} {z : Int32} (hz : -z = nI b) (h7 : b ≤ 7) : fx_Ct Γ mX9_noTen 0 119 119 [fx_rf Γ 83, .int z] m (fx_is (some (.int (z - 10))) (fx_sI m 84 b (m.1 84 b + 1))) := by
  refine fx_Ct.of (j := 0) (by decide) (Nat.le_of_ble_eq_true rfl) (Nat.le_of_ble_eq_true rfl) ?_
  show fx_E Γ mX9_noTen 0 119 119 _ 119 m 0 [some (fx_rf Γ 83), some (.int z)] []
  refine e_aload_n dX9_noTen_0 rfl ?_
  refine e_getr (o2 := 84) dX9_noTen_1 ff_X9_16 rfl (fx_pi_lt (by decide)) (by decide) rfl (hL _ _ _ rfl) ?_
  refine e_iload_n dX9_noTen_4 rfl ?_
  refine e_ineg dX9_noTen_5 ?_
  refine e_dup2 dX9_noTen_6 rfl rfl ?_
  refine e_iald (j := b) dX9_noTen_7 rfl (fx_pi_lt (by decide)) hz (by omega) (by decide) ?_
  refine e_iconst dX9_noTen_8 kci_1 ?_
  refine e_iadd dX9_noTen_9 ?_
  refine e_iast (j := b) dX9_noTen_10 rfl (fx_pi_lt (by decide)) hz (by omega) (by decide) ?_
  refine e_iload_n dX9_noTen_11 rfl ?_
  refine e_bipush dX9_noTen_12 kcb_10 ?_
  refine e_isub dX9_noTen_14 ?_
  exact e_iret dX9_noTen_15 rfl rfl rfl ⟨rfl, rfl⟩
theorem p_lt8 {s : Int32} : s < 8 ↔ s ≤ 7 := by
  rw [Int32.lt_iff_toInt_lt, Int32.le_iff_toInt_le, show (8 : Int32).toInt = 8 from rfl, show (7 : Int32).toInt = 7 from rfl]
  omega
set_option maxRecDepth 100000 in
set_option maxHeartbeats 600000 in
theorem s_X9_isShelf {Γ : fx_G} {m : fx_M} (hL : fx_Lay m) (s : Int32) : fx_Ct Γ mX9_isShelf 0 119 119 [fx_rf Γ 83, .int s] m (fx_is (some (.int (if p_in s 0 7 then 1 else 0))) m) := by
  refine fx_Ct.of (j := 0) (by decide) (Nat.le_of_ble_eq_true rfl) (Nat.le_of_ble_eq_true rfl) ?_
  show fx_E Γ mX9_isShelf 0 119 119 _ 119 m 0 [some (fx_rf Γ 83), some (.int s)] []
  refine e_iload_n dX9_isShelf_0 rfl ?_
  refine e_if_lt 14 dX9_isShelf_1 rfl (fun c_1 => ?_) (fun c_1 => ?_)
  · refine e_iconst dX9_isShelf_14 kci_0 ?_
    exact e_iret dX9_isShelf_15 rfl rfl rfl ⟨by rw [if_neg (by rintro ⟨h1, h2⟩; first | exact absurd h1 (Int32.not_le.mpr c_1) | exact absurd (p_lt8.mpr h2) (Int32.not_lt.mpr c_2))], rfl⟩
  · refine e_iload_n dX9_isShelf_4 rfl ?_
    refine e_bipush dX9_isShelf_5 kcb_8 ?_
    refine e_icmp_ge 14 dX9_isShelf_7 rfl (fun c_2 => ?_) (fun c_2 => ?_)
    · refine e_iconst dX9_isShelf_14 kci_0 ?_
      exact e_iret dX9_isShelf_15 rfl rfl rfl ⟨by rw [if_neg (by rintro ⟨h1, h2⟩; first | exact absurd h1 (Int32.not_le.mpr c_1) | exact absurd (p_lt8.mpr h2) (Int32.not_lt.mpr c_2))], rfl⟩
    · refine e_iconst dX9_isShelf_10 kci_1 ?_
      refine e_goto 15 dX9_isShelf_11 rfl ?_
      exact e_iret dX9_isShelf_15 rfl rfl rfl ⟨by rw [if_pos ⟨Int32.not_lt.mp c_1, p_lt8.mp (Int32.not_le.mp c_2)⟩], rfl⟩
set_option maxRecDepth 100000 in
set_option maxHeartbeats 600000 in
theorem s_X9_isArm {Γ : fx_G} {m : fx_M} (hL : fx_Lay m) {na nd : Nat} {t : p_Sg} (H : fx_MS m na nd t) (x : Int32) : fx_Ct Γ mX9_isArm 0 119 119 [fx_rf Γ 83, .int x] m (fx_is (some (.int (if p_el x (nI na) then 1 else 0))) m) := by
  refine fx_Ct.of (j := 0) (by decide) (Nat.le_of_ble_eq_true rfl) (Nat.le_of_ble_eq_true rfl) ?_
  show fx_E Γ mX9_isArm 0 119 119 _ 119 m 0 [some (fx_rf Γ 83), some (.int x)] []
  refine e_iload_n dX9_isArm_0 rfl ?_
  refine e_if_lt 16 dX9_isArm_1 rfl (fun c_1 => ?_) (fun c_1 => ?_)
  · refine e_iconst dX9_isArm_16 kci_0 ?_
    exact e_iret dX9_isArm_17 rfl rfl rfl ⟨by rw [if_neg (by rintro ⟨h1, h2⟩; first | exact absurd h1 (Int32.not_le.mpr c_1) | exact absurd h2 (Int32.not_lt.mpr c_2))], rfl⟩
  · refine e_iload_n dX9_isArm_4 rfl ?_
    refine e_aload_n dX9_isArm_5 rfl ?_
    refine e_getv (v := nI na) dX9_isArm_6 ff_X9_126 rfl (fx_pi_lt (by decide)) (by decide) rfl H.1 ?_
    refine e_icmp_ge 16 dX9_isArm_9 rfl (fun c_2 => ?_) (fun c_2 => ?_)
    · refine e_iconst dX9_isArm_16 kci_0 ?_
      exact e_iret dX9_isArm_17 rfl rfl rfl ⟨by rw [if_neg (by rintro ⟨h1, h2⟩; first | exact absurd h1 (Int32.not_le.mpr c_1) | exact absurd h2 (Int32.not_lt.mpr c_2))], rfl⟩
    · refine e_iconst dX9_isArm_12 kci_1 ?_
      refine e_goto 17 dX9_isArm_13 rfl ?_
      exact e_iret dX9_isArm_17 rfl rfl rfl ⟨by rw [if_pos ⟨Int32.not_lt.mp c_1, Int32.not_le.mp c_2⟩], rfl⟩
set_option maxRecDepth 100000 in
set_option maxHeartbeats 600000 in
theorem s_X9_isDoll {Γ : fx_G} {m : fx_M} (hL : fx_Lay m) {na nd : Nat} {t : p_Sg} (H : fx_MS m na nd t) (x : Int32) : fx_Ct Γ mX9_isDoll 0 119 119 [fx_rf Γ 83, .int x] m (fx_is (some (.int (if p_el x (nI nd) then 1 else 0))) m) := by
  refine fx_Ct.of (j := 0) (by decide) (Nat.le_of_ble_eq_true rfl) (Nat.le_of_ble_eq_true rfl) ?_
  show fx_E Γ mX9_isDoll 0 119 119 _ 119 m 0 [some (fx_rf Γ 83), some (.int x)] []
  refine e_iload_n dX9_isDoll_0 rfl ?_
  refine e_if_lt 16 dX9_isDoll_1 rfl (fun c_1 => ?_) (fun c_1 => ?_)
  · refine e_iconst dX9_isDoll_16 kci_0 ?_
    exact e_iret dX9_isDoll_17 rfl rfl rfl ⟨by rw [if_neg (by rintro ⟨h1, h2⟩; first | exact absurd h1 (Int32.not_le.mpr c_1) | exact absurd h2 (Int32.not_lt.mpr c_2))], rfl⟩
  · refine e_iload_n dX9_isDoll_4 rfl ?_
    refine e_aload_n dX9_isDoll_5 rfl ?_
    refine e_getv (v := nI nd) dX9_isDoll_6 ff_X9_129 rfl (fx_pi_lt (by decide)) (by decide) rfl H.2.1 ?_
    refine e_icmp_ge 16 dX9_isDoll_9 rfl (fun c_2 => ?_) (fun c_2 => ?_)
    · refine e_iconst dX9_isDoll_16 kci_0 ?_
      exact e_iret dX9_isDoll_17 rfl rfl rfl ⟨by rw [if_neg (by rintro ⟨h1, h2⟩; first | exact absurd h1 (Int32.not_le.mpr c_1) | exact absurd h2 (Int32.not_lt.mpr c_2))], rfl⟩
    · refine e_iconst dX9_isDoll_12 kci_1 ?_
      refine e_goto 17 dX9_isDoll_13 rfl ?_
      exact e_iret dX9_isDoll_17 rfl rfl rfl ⟨by rw [if_pos ⟨Int32.not_lt.mp c_1, Int32.not_le.mp c_2⟩], rfl⟩
set_option maxRecDepth 100000 in
set_option maxHeartbeats 600000 in
theorem s_X9_isFrom {Γ : fx_G} {m : fx_M} (hL : fx_Lay m) (v a b : Int32) : fx_Ct Γ mX9_isFrom 0 119 119 [fx_rf Γ 83, .int v, .int a, .int b] m (fx_is (some (.int (if p_in v a b then 1 else 0))) m) := by
  refine fx_Ct.of (j := 0) (by decide) (Nat.le_of_ble_eq_true rfl) (Nat.le_of_ble_eq_true rfl) ?_
  show fx_E Γ mX9_isFrom 0 119 119 _ 119 m 0 [some (fx_rf Γ 83), some (.int v), some (.int a), some (.int b)] []
  refine e_iload_n dX9_isFrom_0 rfl ?_
  refine e_iload_n dX9_isFrom_1 rfl ?_
  refine e_icmp_lt 14 dX9_isFrom_2 rfl (fun c_1 => ?_) (fun c_1 => ?_)
  · refine e_iconst dX9_isFrom_14 kci_0 ?_
    exact e_iret dX9_isFrom_15 rfl rfl rfl ⟨by rw [if_neg (by rintro ⟨h1, h2⟩; first | exact absurd h1 (Int32.not_le.mpr c_1) | exact absurd h2 (Int32.not_le.mpr c_2))], rfl⟩
  · refine e_iload_n dX9_isFrom_5 rfl ?_
    refine e_iload_n dX9_isFrom_6 rfl ?_
    refine e_icmp_gt 14 dX9_isFrom_7 rfl (fun c_2 => ?_) (fun c_2 => ?_)
    · refine e_iconst dX9_isFrom_14 kci_0 ?_
      exact e_iret dX9_isFrom_15 rfl rfl rfl ⟨by rw [if_neg (by rintro ⟨h1, h2⟩; first | exact absurd h1 (Int32.not_le.mpr c_1) | exact absurd h2 (Int32.not_le.mpr c_2))], rfl⟩
    · refine e_iconst dX9_isFrom_10 kci_1 ?_
      refine e_goto 15 dX9_isFrom_11 rfl ?_
      exact e_iret dX9_isFrom_15 rfl rfl rfl ⟨by rw [if_pos ⟨Int32.not_lt.mp c_1, Int32.not_lt.mp c_2⟩], rfl⟩
set_option maxRecDepth 100000 in
set_option maxHeartbeats 600000 in
theorem s_X9_isNine {Γ : fx_G} {m : fx_M} (hL : fx_Lay m) (v : Int32) : fx_Ct Γ mX9_isNine 0 119 119 [fx_rf Γ 83, .int v] m (fx_is (some (.int (if p_in v 0 9 then 1 else 0))) m) := by
  refine fx_Ct.of (j := 0) (by decide) (Nat.le_of_ble_eq_true rfl) (Nat.le_of_ble_eq_true rfl) ?_
  show fx_E Γ mX9_isNine 0 119 119 _ 119 m 0 [some (fx_rf Γ 83), some (.int v)] []
  refine e_iload_n dX9_isNine_0 rfl ?_
  refine e_if_lt 14 dX9_isNine_1 rfl (fun c_1 => ?_) (fun c_1 => ?_)
  · refine e_iconst dX9_isNine_14 kci_0 ?_
    exact e_iret dX9_isNine_15 rfl rfl rfl ⟨by rw [if_neg (by rintro ⟨h1, h2⟩; first | exact absurd h1 (Int32.not_le.mpr c_1) | exact absurd h2 (Int32.not_le.mpr c_2))], rfl⟩
  · refine e_iload_n dX9_isNine_4 rfl ?_
    refine e_bipush dX9_isNine_5 kcb_9 ?_
    refine e_icmp_gt 14 dX9_isNine_7 rfl (fun c_2 => ?_) (fun c_2 => ?_)
    · refine e_iconst dX9_isNine_14 kci_0 ?_
      exact e_iret dX9_isNine_15 rfl rfl rfl ⟨by rw [if_neg (by rintro ⟨h1, h2⟩; first | exact absurd h1 (Int32.not_le.mpr c_1) | exact absurd h2 (Int32.not_le.mpr c_2))], rfl⟩
    · refine e_iconst dX9_isNine_10 kci_1 ?_
      refine e_goto 15 dX9_isNine_11 rfl ?_
      exact e_iret dX9_isNine_15 rfl rfl rfl ⟨by rw [if_pos ⟨Int32.not_lt.mp c_1, Int32.not_lt.mp c_2⟩], rfl⟩
set_option maxRecDepth 100000 in
set_option maxHeartbeats 600000 in
theorem s_X9_isUnder {Γ : fx_G} {m : fx_M} (hL : fx_Lay m) (i k : Int32) : fx_Ct Γ mX9_isUnder 0 119 119 [fx_rf Γ 83, .int i, .int k] m (fx_is (some (.int (if p_isU i k then 1 else 0))) m) := by
  refine fx_Ct.of (j := 0) (by decide) (Nat.le_of_ble_eq_true rfl) (Nat.le_of_ble_eq_true rfl) ?_
  show fx_E Γ mX9_isUnder 0 119 119 _ 119 m 0 [some (fx_rf Γ 83), some (.int i), some (.int k)] []
  refine e_iload_n dX9_isUnder_0 rfl ?_
  refine e_if_eq 46 dX9_isUnder_1 rfl (fun c_1 => ?_) (fun c_1 => ?_)
  · refine e_iconst dX9_isUnder_46 kci_1 ?_
    refine e_goto 51 dX9_isUnder_47 rfl ?_
    exact e_iret dX9_isUnder_51 rfl rfl rfl ⟨by first | (simp [p_isU, *]; done) | (simp_all [p_isU]; done), rfl⟩
  · refine e_iload_n dX9_isUnder_4 rfl ?_
    refine e_iload_n dX9_isUnder_5 rfl ?_
    refine e_icmp_eq 46 dX9_isUnder_6 rfl (fun c_2 => ?_) (fun c_2 => ?_)
    · refine e_iconst dX9_isUnder_46 kci_1 ?_
      refine e_goto 51 dX9_isUnder_47 rfl ?_
      exact e_iret dX9_isUnder_51 rfl rfl rfl ⟨by first | (simp [p_isU, *]; done) | (simp_all [p_isU]; done), rfl⟩
    · refine e_iload_n dX9_isUnder_9 rfl ?_
      refine e_iconst dX9_isUnder_10 kci_1 ?_
      refine e_icmp_ne 25 dX9_isUnder_11 rfl (fun c_3 => ?_) (fun c_3 => ?_)
      · refine e_iload_n dX9_isUnder_25 rfl ?_
        refine e_iconst dX9_isUnder_26 kci_3 ?_
        refine e_icmp_ne 36 dX9_isUnder_27 rfl (fun c_4 => ?_) (fun c_4 => ?_)
        · refine e_iload_n dX9_isUnder_36 rfl ?_
          refine e_iconst dX9_isUnder_37 kci_2 ?_
          refine e_icmp_ne 50 dX9_isUnder_38 rfl (fun c_5 => ?_) (fun c_5 => ?_)
          · refine e_iconst dX9_isUnder_50 kci_0 ?_
            exact e_iret dX9_isUnder_51 rfl rfl rfl ⟨by first | (simp [p_isU, *]; done) | (simp_all [p_isU]; done), rfl⟩
          · refine e_iload_n dX9_isUnder_41 rfl ?_
            refine e_iconst dX9_isUnder_42 kci_5 ?_
            refine e_icmp_ne 50 dX9_isUnder_43 rfl (fun c_6 => ?_) (fun c_6 => ?_)
            · refine e_iconst dX9_isUnder_50 kci_0 ?_
              exact e_iret dX9_isUnder_51 rfl rfl rfl ⟨by first | (simp [p_isU, *]; done) | (simp_all [p_isU]; done), rfl⟩
            · refine e_iconst dX9_isUnder_46 kci_1 ?_
              refine e_goto 51 dX9_isUnder_47 rfl ?_
              exact e_iret dX9_isUnder_51 rfl rfl rfl ⟨by first | (simp [p_isU, *]; done) | (simp_all [p_isU]; done), rfl⟩
        · refine e_iload_n dX9_isUnder_30 rfl ?_
          refine e_bipush dX9_isUnder_31 kcb_6 ?_
          refine e_icmp_eq 46 dX9_isUnder_33 rfl (fun c_7 => ?_) (fun c_7 => ?_)
          · refine e_iconst dX9_isUnder_46 kci_1 ?_
            refine e_goto 51 dX9_isUnder_47 rfl ?_
            exact e_iret dX9_isUnder_51 rfl rfl rfl ⟨by first | (simp [p_isU, *]; done) | (simp_all [p_isU]; done), rfl⟩
          · refine e_iload_n dX9_isUnder_36 rfl ?_
            refine e_iconst dX9_isUnder_37 kci_2 ?_
            refine e_icmp_ne 50 dX9_isUnder_38 rfl (fun c_8 => ?_) (fun c_8 => ?_)
            · refine e_iconst dX9_isUnder_50 kci_0 ?_
              exact e_iret dX9_isUnder_51 rfl rfl rfl ⟨by first | (simp [p_isU, *]; done) | (simp_all [p_isU]; done), rfl⟩
            · refine e_iload_n dX9_isUnder_41 rfl ?_
              refine e_iconst dX9_isUnder_42 kci_5 ?_
              refine e_icmp_ne 50 dX9_isUnder_43 rfl (fun c_9 => ?_) (fun c_9 => ?_)
              · refine e_iconst dX9_isUnder_50 kci_0 ?_
                exact e_iret dX9_isUnder_51 rfl rfl rfl ⟨by first | (simp [p_isU, *]; done) | (simp_all [p_isU]; done), rfl⟩
              · refine e_iconst dX9_isUnder_46 kci_1 ?_
                refine e_goto 51 dX9_isUnder_47 rfl ?_
                exact e_iret dX9_isUnder_51 rfl rfl rfl ⟨by first | (simp [p_isU, *]; done) | (simp_all [p_isU]; done), rfl⟩
      · refine e_iload_n dX9_isUnder_14 rfl ?_
        refine e_iconst dX9_isUnder_15 kci_3 ?_
        refine e_icmp_eq 46 dX9_isUnder_16 rfl (fun c_10 => ?_) (fun c_10 => ?_)
        · refine e_iconst dX9_isUnder_46 kci_1 ?_
          refine e_goto 51 dX9_isUnder_47 rfl ?_
          exact e_iret dX9_isUnder_51 rfl rfl rfl ⟨by first | (simp [p_isU, *]; done) | (simp_all [p_isU]; done), rfl⟩
        · refine e_iload_n dX9_isUnder_19 rfl ?_
          refine e_bipush dX9_isUnder_20 kcb_6 ?_
          refine e_icmp_eq 46 dX9_isUnder_22 rfl (fun c_11 => ?_) (fun c_11 => ?_)
          · refine e_iconst dX9_isUnder_46 kci_1 ?_
            refine e_goto 51 dX9_isUnder_47 rfl ?_
            exact e_iret dX9_isUnder_51 rfl rfl rfl ⟨by first | (simp [p_isU, *]; done) | (simp_all [p_isU]; done), rfl⟩
          · refine e_iload_n dX9_isUnder_25 rfl ?_
            refine e_iconst dX9_isUnder_26 kci_3 ?_
            refine e_icmp_ne 36 dX9_isUnder_27 rfl (fun c_12 => ?_) (fun c_12 => ?_)
            · refine e_iload_n dX9_isUnder_36 rfl ?_
              refine e_iconst dX9_isUnder_37 kci_2 ?_
              refine e_icmp_ne 50 dX9_isUnder_38 rfl (fun c_13 => ?_) (fun c_13 => ?_)
              · refine e_iconst dX9_isUnder_50 kci_0 ?_
                exact e_iret dX9_isUnder_51 rfl rfl rfl ⟨by first | (simp [p_isU, *]; done) | (simp_all [p_isU]; done), rfl⟩
              · refine e_iload_n dX9_isUnder_41 rfl ?_
                refine e_iconst dX9_isUnder_42 kci_5 ?_
                refine e_icmp_ne 50 dX9_isUnder_43 rfl (fun c_14 => ?_) (fun c_14 => ?_)
                · refine e_iconst dX9_isUnder_50 kci_0 ?_
                  exact e_iret dX9_isUnder_51 rfl rfl rfl ⟨by first | (simp [p_isU, *]; done) | (simp_all [p_isU]; done), rfl⟩
                · refine e_iconst dX9_isUnder_46 kci_1 ?_
                  refine e_goto 51 dX9_isUnder_47 rfl ?_
                  exact e_iret dX9_isUnder_51 rfl rfl rfl ⟨by first | (simp [p_isU, *]; done) | (simp_all [p_isU]; done), rfl⟩
            · refine e_iload_n dX9_isUnder_30 rfl ?_
              refine e_bipush dX9_isUnder_31 kcb_6 ?_
              refine e_icmp_eq 46 dX9_isUnder_33 rfl (fun c_15 => ?_) (fun c_15 => ?_)
              · refine e_iconst dX9_isUnder_46 kci_1 ?_
                refine e_goto 51 dX9_isUnder_47 rfl ?_
                exact e_iret dX9_isUnder_51 rfl rfl rfl ⟨by first | (simp [p_isU, *]; done) | (simp_all [p_isU]; done), rfl⟩
              · refine e_iload_n dX9_isUnder_36 rfl ?_
                refine e_iconst dX9_isUnder_37 kci_2 ?_
                refine e_icmp_ne 50 dX9_isUnder_38 rfl (fun c_16 => ?_) (fun c_16 => ?_)
                · refine e_iconst dX9_isUnder_50 kci_0 ?_
                  exact e_iret dX9_isUnder_51 rfl rfl rfl ⟨by first | (simp [p_isU, *]; done) | (simp_all [p_isU]; done), rfl⟩
                · refine e_iload_n dX9_isUnder_41 rfl ?_
                  refine e_iconst dX9_isUnder_42 kci_5 ?_
                  refine e_icmp_ne 50 dX9_isUnder_43 rfl (fun c_17 => ?_) (fun c_17 => ?_)
                  · refine e_iconst dX9_isUnder_50 kci_0 ?_
                    exact e_iret dX9_isUnder_51 rfl rfl rfl ⟨by first | (simp [p_isU, *]; done) | (simp_all [p_isU]; done), rfl⟩
                  · refine e_iconst dX9_isUnder_46 kci_1 ?_
                    refine e_goto 51 dX9_isUnder_47 rfl ?_
                    exact e_iret dX9_isUnder_51 rfl rfl rfl ⟨by first | (simp [p_isU, *]; done) | (simp_all [p_isU]; done), rfl⟩
set_option maxRecDepth 100000 in
set_option maxHeartbeats 600000 in
theorem s_X9_nine {Γ : fx_G} {m : fx_M} (hL : fx_Lay m) (v : Int32) : fx_Ct Γ mX9_nine 0 119 119 [fx_rf Γ 83, .int v] m (fx_is (some (.int (p_min9 v))) m) := by
  refine fx_Ct.of (j := 0) (by decide) (Nat.le_of_ble_eq_true rfl) (Nat.le_of_ble_eq_true rfl) ?_
  show fx_E Γ mX9_nine 0 119 119 _ 119 m 0 [some (fx_rf Γ 83), some (.int v)] []
  refine e_iload_n dX9_nine_0 rfl ?_
  refine e_bipush dX9_nine_1 kcb_9 ?_
  refine e_icmp_le 11 dX9_nine_3 rfl (fun c_1 => ?_) (fun c_1 => ?_)
  · refine e_iload_n dX9_nine_11 rfl ?_
    exact e_iret dX9_nine_12 rfl rfl rfl ⟨by unfold p_min9; first | rw [if_pos (Int32.not_le.mp c_1)] | rw [if_neg (Int32.not_lt.mpr c_1)], rfl⟩
  · refine e_bipush dX9_nine_6 kcb_9 ?_
    refine e_goto 12 dX9_nine_8 rfl ?_
    exact e_iret dX9_nine_12 rfl rfl rfl ⟨by unfold p_min9; first | rw [if_pos (Int32.not_le.mp c_1)] | rw [if_neg (Int32.not_lt.mpr c_1)], rfl⟩
set_option maxRecDepth 100000 in
set_option maxHeartbeats 600000 in
theorem s_X9_apart {Γ : fx_G} {m : fx_M} (hL : fx_Lay m) (a b : Int32) : fx_Ct Γ mX9_apart 0 119 119 [fx_rf Γ 83, .int a, .int b] m (fx_is (some (.int (p_apt a b))) m) := by
  refine fx_Ct.of (j := 0) (by decide) (Nat.le_of_ble_eq_true rfl) (Nat.le_of_ble_eq_true rfl) ?_
  show fx_E Γ mX9_apart 0 119 119 _ 119 m 0 [some (fx_rf Γ 83), some (.int a), some (.int b)] []
  refine e_iload_n dX9_apart_0 rfl ?_
  refine e_iload_n dX9_apart_1 rfl ?_
  refine e_icmp_le 11 dX9_apart_2 rfl (fun c_1 => ?_) (fun c_1 => ?_)
  · refine e_iload_n dX9_apart_11 rfl ?_
    refine e_iload_n dX9_apart_12 rfl ?_
    refine e_isub dX9_apart_13 ?_
    exact e_iret dX9_apart_14 rfl rfl rfl ⟨by unfold p_apt; first | rw [if_pos c_1] | rw [if_neg c_1], rfl⟩
  · refine e_iload_n dX9_apart_5 rfl ?_
    refine e_iload_n dX9_apart_6 rfl ?_
    refine e_isub dX9_apart_7 ?_
    refine e_goto 14 dX9_apart_8 rfl ?_
    exact e_iret dX9_apart_14 rfl rfl rfl ⟨by unfold p_apt; first | rw [if_pos c_1] | rw [if_neg c_1], rfl⟩
set_option maxRecDepth 100000 in
set_option maxHeartbeats 600000 in
theorem s_X9_fault {Γ : fx_G} {m : fx_M} (hL : fx_Lay m) : fx_Ct Γ mX9_fault 0 119 119 [fx_rf Γ 83] m (fx_is (some (.int (m.1 83 6))) m) := by
  refine fx_Ct.of (j := 0) (by decide) (Nat.le_of_ble_eq_true rfl) (Nat.le_of_ble_eq_true rfl) ?_
  show fx_E Γ mX9_fault 0 119 119 _ 119 m 0 [some (fx_rf Γ 83)] []
  refine e_aload_n dX9_fault_0 rfl ?_
  refine e_get dX9_fault_1 ff_X9_13 rfl (fx_pi_lt (by decide)) (by decide) rfl ?_
  exact e_iret dX9_fault_4 rfl rfl rfl ⟨rfl, rfl⟩
theorem p_isU1 {i : Int32} : p_isU i 1 ↔ (i = 1 ∨ i = 3 ∨ i = 6) := by
  constructor
  · rintro (h | h | ⟨_, h⟩ | ⟨h, _⟩ | ⟨h, _⟩)
    · exact absurd h (by decide)
    · exact Or.inl h.symm
    · exact Or.inr h
    · exact absurd h (by decide)
    · exact absurd h (by decide)
  · rintro (h | h)
    · exact Or.inr (Or.inl h.symm)
    · exact Or.inr (Or.inr (Or.inl ⟨rfl, h⟩))
set_option maxRecDepth 100000 in
set_option maxHeartbeats 600000 in
theorem s_X9_shadeSeen {Γ : fx_G} {m : fx_M} (hL : fx_Lay m) {na nd : Nat} {t : p_Sg} (H : fx_MS m na nd t) {x : Nat} (hx : x < na) : fx_Ct Γ mX9_shadeSeen 1 119 119 [fx_rf Γ 83, .int (nI x)] m (fx_is (some (.int (p_shade (t.1 x) (t.1 x 4)))) m) := by
  refine fx_Ct.of (j := 0) (by decide) (Nat.le_of_ble_eq_true rfl) (Nat.le_of_ble_eq_true rfl) ?_
  show fx_E Γ mX9_shadeSeen 1 119 119 _ 119 m 0 [some (fx_rf Γ 83), some (.int (nI x))] []
  have h9 := H.2.2.2.2.2.1
  have h5 := H.2.2.2.2.2.2.1
  refine e_aload_n dX9_shadeSeen_0 rfl ?_
  refine e_aload_n dX9_shadeSeen_1 rfl ?_
  refine e_getr (o2 := 85) dX9_shadeSeen_2 ff_X9_20 rfl (fx_pi_lt (by decide)) (by decide) rfl (hL _ _ _ rfl) ?_
  refine e_iload_n dX9_shadeSeen_5 rfl ?_
  refine e_ialdv (j := x) (v := t.1 x 0) dX9_shadeSeen_6 rfl (fx_pi_lt (by decide)) rfl (by omega) (by decide) (H.2.2.2.1 _ (by omega) 0 (by decide)) ?_
  refine e_iconst dX9_shadeSeen_7 kci_1 ?_
  refine e_callV1 (μ' := mX9_isUnder) (ci := 9) (As := [.int (t.1 x 0), .int 1]) dX9_shadeSeen_8 wl_X9_143 ok_X9_isUnder rfl rfl (fx_pi_lt (by decide)) (by decide) (Nat.le_of_ble_eq_true rfl) fx_n1 (s_X9_isUnder (m := m) hL (t.1 x 0) 1) rfl ?_
  refine e_if_eqB 34 dX9_shadeSeen_11 rfl (fun c_1 => ?_) (fun c_1 => ?_)
  · refine e_aload_n dX9_shadeSeen_34 rfl ?_
    refine e_getr (o2 := 89) dX9_shadeSeen_35 ff_X9_32 rfl (fx_pi_lt (by decide)) (by decide) rfl (hL _ _ _ rfl) ?_
    refine e_iload_n dX9_shadeSeen_38 rfl ?_
    refine e_ialdv (j := x) (v := t.1 x 4) dX9_shadeSeen_39 rfl (fx_pi_lt (by decide)) rfl (by omega) (by decide) (H.2.2.2.1 _ (by omega) 4 (by decide)) ?_
    exact e_iret dX9_shadeSeen_40 rfl rfl rfl ⟨by rw [p_isU1] at c_1; unfold p_shade; first | rw [if_pos c_1] | rw [if_neg c_1], rfl⟩
  · refine e_aload_n dX9_shadeSeen_14 rfl ?_
    refine e_aload_n dX9_shadeSeen_15 rfl ?_
    refine e_getr (o2 := 89) dX9_shadeSeen_16 ff_X9_32 rfl (fx_pi_lt (by decide)) (by decide) rfl (hL _ _ _ rfl) ?_
    refine e_iload_n dX9_shadeSeen_19 rfl ?_
    refine e_ialdv (j := x) (v := t.1 x 4) dX9_shadeSeen_20 rfl (fx_pi_lt (by decide)) rfl (by omega) (by decide) (H.2.2.2.1 _ (by omega) 4 (by decide)) ?_
    refine e_aload_n dX9_shadeSeen_21 rfl ?_
    refine e_getr (o2 := 86) dX9_shadeSeen_22 ff_X9_23 rfl (fx_pi_lt (by decide)) (by decide) rfl (hL _ _ _ rfl) ?_
    refine e_iload_n dX9_shadeSeen_25 rfl ?_
    refine e_ialdv (j := x) (v := t.1 x 1) dX9_shadeSeen_26 rfl (fx_pi_lt (by decide)) rfl (by omega) (by decide) (H.2.2.2.1 _ (by omega) 1 (by decide)) ?_
    refine e_iadd dX9_shadeSeen_27 ?_
    refine e_callV1 (μ' := mX9_nine) (ci := 9) (As := [.int ((t.1 x 4) + (t.1 x 1))]) dX9_shadeSeen_28 wl_X9_153 ok_X9_nine rfl rfl (fx_pi_lt (by decide)) (by decide) (Nat.le_of_ble_eq_true rfl) fx_n1 (s_X9_nine (m := m) hL ((t.1 x 4) + (t.1 x 1))) rfl ?_
    refine e_goto 40 dX9_shadeSeen_31 rfl ?_
    exact e_iret dX9_shadeSeen_40 rfl rfl rfl ⟨by rw [p_isU1] at c_1; unfold p_shade; first | rw [if_pos c_1] | rw [if_neg c_1], rfl⟩
set_option maxRecDepth 100000 in
set_option maxHeartbeats 600000 in
theorem s_X9_wearSeen {Γ : fx_G} {m : fx_M} (hL : fx_Lay m) {na nd : Nat} {t : p_Sg} (H : fx_MS m na nd t) {x : Nat} (hx : x < na) : fx_Ct Γ mX9_wearSeen 1 119 119 [fx_rf Γ 83, .int (nI x)] m (fx_is (some (.int (p_wear (t.1 x) (t.1 x 5)))) m) := by
  refine fx_Ct.of (j := 0) (by decide) (Nat.le_of_ble_eq_true rfl) (Nat.le_of_ble_eq_true rfl) ?_
  show fx_E Γ mX9_wearSeen 1 119 119 _ 119 m 0 [some (fx_rf Γ 83), some (.int (nI x))] []
  have h9 := H.2.2.2.2.2.1
  have h5 := H.2.2.2.2.2.2.1
  have gA := H.2.2.2.2.2.2.2.1 x hx
  refine e_aload_n dX9_wearSeen_0 rfl ?_
  refine e_getr (o2 := 85) dX9_wearSeen_1 ff_X9_20 rfl (fx_pi_lt (by decide)) (by decide) rfl (hL _ _ _ rfl) ?_
  refine e_iload_n dX9_wearSeen_4 rfl ?_
  refine e_ialdv (j := x) (v := t.1 x 0) dX9_wearSeen_5 rfl (fx_pi_lt (by decide)) rfl (by omega) (by decide) (H.2.2.2.1 _ (by omega) 0 (by decide)) ?_
  by_cases c_1 : (t.1 x 0) = 2
  · refine e_tableIn (off := 71) 77 dX9_wearSeen_6 (by rw [c_1]; decide) (by rw [c_1]; decide) (by rw [c_1]; decide) rfl ?_
    refine e_iconst dX9_wearSeen_77 kci_0 ?_
    exact e_iret dX9_wearSeen_78 rfl rfl rfl ⟨by first | (simp [p_wear, *]; done) | (simp [p_wear, *]; rw [p_min9_2 gA.2.2.2.2.2 gA.2.1]; done) | (exfalso; simp_all; done) | (unfold p_wear; simp_all; done), rfl⟩
  by_cases c_2 : (t.1 x 0) = 3
  · refine e_tableIn (off := 34) 40 dX9_wearSeen_6 (by rw [c_2]; decide) (by rw [c_2]; decide) (by rw [c_2]; decide) rfl ?_
    refine e_aload_n dX9_wearSeen_40 rfl ?_
    refine e_aload_n dX9_wearSeen_41 rfl ?_
    refine e_getr (o2 := 90) dX9_wearSeen_42 ff_X9_35 rfl (fx_pi_lt (by decide)) (by decide) rfl (hL _ _ _ rfl) ?_
    refine e_iload_n dX9_wearSeen_45 rfl ?_
    refine e_ialdv (j := x) (v := t.1 x 5) dX9_wearSeen_46 rfl (fx_pi_lt (by decide)) rfl (by omega) (by decide) (H.2.2.2.1 _ (by omega) 5 (by decide)) ?_
    refine e_iconst dX9_wearSeen_47 kci_1 ?_
    refine e_iadd dX9_wearSeen_48 ?_
    refine e_callV1 (μ' := mX9_nine) (ci := 9) (As := [.int ((t.1 x 5) + 1)]) dX9_wearSeen_49 wl_X9_153 ok_X9_nine rfl rfl (fx_pi_lt (by decide)) (by decide) (Nat.le_of_ble_eq_true rfl) fx_n1 (s_X9_nine (m := m) hL ((t.1 x 5) + 1)) rfl ?_
    exact e_iret dX9_wearSeen_52 rfl rfl rfl ⟨by first | (simp [p_wear, *]; done) | (simp [p_wear, *]; rw [p_min9_2 gA.2.2.2.2.2 gA.2.1]; done) | (exfalso; simp_all; done) | (unfold p_wear; simp_all; done), rfl⟩
  by_cases c_3 : (t.1 x 0) = 4
  · refine e_tableIn (off := 83) 89 dX9_wearSeen_6 (by rw [c_3]; decide) (by rw [c_3]; decide) (by rw [c_3]; decide) rfl ?_
    refine e_aload_n dX9_wearSeen_89 rfl ?_
    refine e_getr (o2 := 90) dX9_wearSeen_90 ff_X9_35 rfl (fx_pi_lt (by decide)) (by decide) rfl (hL _ _ _ rfl) ?_
    refine e_iload_n dX9_wearSeen_93 rfl ?_
    refine e_ialdv (j := x) (v := t.1 x 5) dX9_wearSeen_94 rfl (fx_pi_lt (by decide)) rfl (by omega) (by decide) (H.2.2.2.1 _ (by omega) 5 (by decide)) ?_
    exact e_iret dX9_wearSeen_95 rfl rfl rfl ⟨by first | (simp [p_wear, *]; done) | (simp [p_wear, *]; rw [p_min9_2 gA.2.2.2.2.2 gA.2.1]; done) | (exfalso; simp_all; done) | (unfold p_wear; simp_all; done), rfl⟩
  by_cases c_4 : (t.1 x 0) = 5
  · refine e_tableIn (off := 73) 79 dX9_wearSeen_6 (by rw [c_4]; decide) (by rw [c_4]; decide) (by rw [c_4]; decide) rfl ?_
    refine e_bipush dX9_wearSeen_79 kcb_9 ?_
    refine e_aload_n dX9_wearSeen_81 rfl ?_
    refine e_getr (o2 := 86) dX9_wearSeen_82 ff_X9_23 rfl (fx_pi_lt (by decide)) (by decide) rfl (hL _ _ _ rfl) ?_
    refine e_iload_n dX9_wearSeen_85 rfl ?_
    refine e_ialdv (j := x) (v := t.1 x 1) dX9_wearSeen_86 rfl (fx_pi_lt (by decide)) rfl (by omega) (by decide) (H.2.2.2.1 _ (by omega) 1 (by decide)) ?_
    refine e_isub dX9_wearSeen_87 ?_
    exact e_iret dX9_wearSeen_88 rfl rfl rfl ⟨by first | (simp [p_wear, *]; done) | (simp [p_wear, *]; rw [p_min9_2 gA.2.2.2.2.2 gA.2.1]; done) | (exfalso; simp_all; done) | (unfold p_wear; simp_all; done), rfl⟩
  by_cases c_5 : (t.1 x 0) = 6
  · refine e_tableIn (off := 47) 53 dX9_wearSeen_6 (by rw [c_5]; decide) (by rw [c_5]; decide) (by rw [c_5]; decide) rfl ?_
    refine e_aload_n dX9_wearSeen_53 rfl ?_
    refine e_aload_n dX9_wearSeen_54 rfl ?_
    refine e_aload_n dX9_wearSeen_55 rfl ?_
    refine e_getr (o2 := 90) dX9_wearSeen_56 ff_X9_35 rfl (fx_pi_lt (by decide)) (by decide) rfl (hL _ _ _ rfl) ?_
    refine e_iload_n dX9_wearSeen_59 rfl ?_
    refine e_ialdv (j := x) (v := t.1 x 5) dX9_wearSeen_60 rfl (fx_pi_lt (by decide)) rfl (by omega) (by decide) (H.2.2.2.1 _ (by omega) 5 (by decide)) ?_
    refine e_iconst dX9_wearSeen_61 kci_1 ?_
    refine e_iadd dX9_wearSeen_62 ?_
    refine e_callV1 (μ' := mX9_nine) (ci := 9) (As := [.int ((t.1 x 5) + 1)]) dX9_wearSeen_63 wl_X9_153 ok_X9_nine rfl rfl (fx_pi_lt (by decide)) (by decide) (Nat.le_of_ble_eq_true rfl) fx_n1 (s_X9_nine (m := m) hL ((t.1 x 5) + 1)) rfl ?_
    refine e_aload_n dX9_wearSeen_66 rfl ?_
    refine e_getr (o2 := 86) dX9_wearSeen_67 ff_X9_23 rfl (fx_pi_lt (by decide)) (by decide) rfl (hL _ _ _ rfl) ?_
    refine e_iload_n dX9_wearSeen_70 rfl ?_
    refine e_ialdv (j := x) (v := t.1 x 1) dX9_wearSeen_71 rfl (fx_pi_lt (by decide)) rfl (by omega) (by decide) (H.2.2.2.1 _ (by omega) 1 (by decide)) ?_
    refine e_iadd dX9_wearSeen_72 ?_
    refine e_callV1 (μ' := mX9_nine) (ci := 9) (As := [.int ((p_min9 ((t.1 x 5) + 1)) + (t.1 x 1))]) dX9_wearSeen_73 wl_X9_153 ok_X9_nine rfl rfl (fx_pi_lt (by decide)) (by decide) (Nat.le_of_ble_eq_true rfl) fx_n1 (s_X9_nine (m := m) hL ((p_min9 ((t.1 x 5) + 1)) + (t.1 x 1))) rfl ?_
    exact e_iret dX9_wearSeen_76 rfl rfl rfl ⟨by first | (simp [p_wear, *]; done) | (simp [p_wear, *]; rw [p_min9_2 gA.2.2.2.2.2 gA.2.1]; done) | (exfalso; simp_all; done) | (unfold p_wear; simp_all; done), rfl⟩
  have tc_1 := lv_neT c_1 (show (2 : Int32).toInt = 2 by decide)
  have tc_2 := lv_neT c_2 (show (3 : Int32).toInt = 3 by decide)
  have tc_3 := lv_neT c_3 (show (4 : Int32).toInt = 4 by decide)
  have tc_4 := lv_neT c_4 (show (5 : Int32).toInt = 5 by decide)
  have tc_5 := lv_neT c_5 (show (6 : Int32).toInt = 6 by decide)
  refine e_tableOut 89 dX9_wearSeen_6 (by omega) rfl ?_
  refine e_aload_n dX9_wearSeen_89 rfl ?_
  refine e_getr (o2 := 90) dX9_wearSeen_90 ff_X9_35 rfl (fx_pi_lt (by decide)) (by decide) rfl (hL _ _ _ rfl) ?_
  refine e_iload_n dX9_wearSeen_93 rfl ?_
  refine e_ialdv (j := x) (v := t.1 x 5) dX9_wearSeen_94 rfl (fx_pi_lt (by decide)) rfl (by omega) (by decide) (H.2.2.2.1 _ (by omega) 5 (by decide)) ?_
  exact e_iret dX9_wearSeen_95 rfl rfl rfl ⟨by first | (simp [p_wear, *]; done) | (simp [p_wear, *]; rw [p_min9_2 gA.2.2.2.2.2 gA.2.1]; done) | (exfalso; simp_all; done) | (unfold p_wear; simp_all; done), rfl⟩
