theorem p_wd_y {tx : Nat → Int32} {n p w F : Nat} {l : List Int32} {r : List (Nat × List Int32)} (h : p_mc tx n l p = l.length) : p_wd tx n p ((w, l) :: r) F = (some w, p + l.length) := if_pos h
theorem p_wd_n {tx : Nat → Int32} {n p w F c : Nat} {l : List Int32} {r : List (Nat × List Int32)} (h : p_mc tx n l p = c) (hc : ¬ c = l.length) : p_wd tx n p ((w, l) :: r) F = p_wd tx n p r (max F (p + c)) := by
  subst h
  exact if_neg hc
theorem p_mc_y {tx : Nat → Int32} {n p c : Nat} {a : Int32} {l : List Int32} (h : p_tc tx n p = a) (g : p_mc tx n l (p + 1) = c) : p_mc tx n (a :: l) p = c + 1 := by
  rw [p_mc, if_pos h, g]
theorem p_mc_no {tx : Nat → Int32} {n p : Nat} {a : Int32} {l : List Int32} (h : ¬ p_tc tx n p = a) : p_mc tx n (a :: l) p = 0 := if_neg h
theorem p_spI_y {tx : Nat → Int32} {n p i j : Nat} {w : List Int32} {o : Option Nat} (h : p_tc tx n p = w.getD i 0) (g : p_spI tx n w j (i + 1) (p + 1) = o) : p_spI tx n w (j + 1) i p = o := (if_pos h).trans g
theorem p_spI_n {tx : Nat → Int32} {n p i j : Nat} {w : List Int32} (h : ¬ p_tc tx n p = w.getD i 0) : p_spI tx n w (j + 1) i p = some p := if_neg h
theorem p_nmF_b {tx : Nat → Int32} {n q : Nat} (h : ¬ p_tc tx n q = 32) : p_nmF tx n q = some q := if_pos h
theorem p_nmsF_b {tx : Nat → Int32} {n q j : Nat} {lo hi : Nat → Int32} (h : ¬ p_tc tx n q = 32) : p_nmsF tx n lo hi q (j + 1) 0 = some q := by
  unfold p_nmsF
  rw [show p_nmF tx n (p_pls tx n q 0) = some q from p_nmF_b h]
theorem p_armI_b {tx : Nat → Int32} {n q w na nd : Nat} {t : p_Sg} (h : na < 8) (hb : ¬ p_tc tx n q = 32) : (p_armI tx n w q na nd t).1 = some q := by
  unfold p_armI
  rw [if_neg (not_not_intro h), p_nmsF_b hb]
theorem p_dollI_b {tx : Nat → Int32} {n q w na nd : Nat} {t : p_Sg} (h : nd < 5) (hb : ¬ p_tc tx n q = 32) : (p_dollI tx n w q na nd t).1 = some q := by
  unfold p_dollI
  rw [if_neg (not_not_intro h), p_nmsF_b hb]
theorem p_onI_b {tx : Nat → Int32} {n q na nd : Nat} {t : p_Sg} (hb : ¬ p_tc tx n q = 32) : (p_onI tx n q na nd t).1 = some q := by
  unfold p_onI
  rw [p_nmF_b hb]
theorem p_offI_b {tx : Nat → Int32} {n q na nd : Nat} {t : p_Sg} (hb : ¬ p_tc tx n q = 32) : (p_offI tx n q na nd t).1 = some q := by
  unfold p_offI
  rw [p_nmF_b hb]
theorem p_lieI_b {tx : Nat → Int32} {n q na nd : Nat} {t : p_Sg} (hb : ¬ p_tc tx n q = 32) : (p_lieI tx n q na nd t).1 = some q := by
  unfold p_lieI
  rw [p_nmF_b hb]
/-- what the word tells of the item -/
def p_WR (tx : Nat → Int32) (n p na nd : Nat) (t : p_Sg) (res : Option Nat × Nat) : Prop := (∃ f, res = (none, f) ∧ (p_it tx n p na nd t).1 = some f) ∨
  (res = (some 0, p + 3 + 1) ∧ p_tc tx n (p + 3) = 32 ∧ na < 8 ∧ p_it tx n p na nd t = p_armI tx n p (p + 3) na nd t) ∨
  (res = (some 1, p + 4 + 1) ∧ p_tc tx n (p + 4) = 32 ∧ nd < 5 ∧ p_it tx n p na nd t = p_dollI tx n p (p + 4) na nd t) ∨
  (res = (some 2, p + 2 + 1) ∧ p_tc tx n (p + 2) = 32 ∧ p_it tx n p na nd t = p_onI tx n (p + 2) na nd t) ∨
  (res = (some 3, p + 3 + 1) ∧ p_tc tx n (p + 3) = 32 ∧ p_it tx n p na nd t = p_offI tx n (p + 3) na nd t) ∨
  (res = (some 4, p + 4 + 1) ∧ p_tc tx n (p + 4) = 32 ∧ p_it tx n p na nd t = p_lieI tx n (p + 4) na nd t)
set_option maxHeartbeats 2000000 in
theorem p_wd_it {tx : Nat → Int32} {n p na nd : Nat} {t : p_Sg} (hA : p_spI tx n [97, 114, 109] 3 0 p = none → na < 8) (hD : p_spI tx n [100, 111, 108, 108] 4 0 p = none → nd < 5) : p_WR tx n p na nd t (p_wd tx n p [(0, [97, 114, 109, 32]), (1, [100, 111, 108, 108, 32]), (2, [111, 110, 32]), (3, [111, 102, 102, 32]), (4, [108, 105, 101, 115, 32])] p) := by
  by_cases h97 : p_tc tx n (p) = 97
  · by_cases g1_114 : p_tc tx n (p + 1) = 114
    · by_cases g2_109 : p_tc tx n (p + 1 + 1) = 109
      · by_cases g3_32 : p_tc tx n (p + 1 + 1 + 1) = 32
        · have hs : p_spI tx n [97, 114, 109] 3 0 p = none := (p_spI_y (w := [97, 114, 109]) (i := 0) h97 (p_spI_y (w := [97, 114, 109]) (i := 1) g1_114 (p_spI_y (w := [97, 114, 109]) (i := 2) g2_109 rfl)))
          have hit : p_it tx n p na nd t = p_armI tx n p (p + 3) na nd t := by unfold p_it; rw [if_pos h97, hs]
          have hw : p_wd tx n p [(0, [97, 114, 109, 32]), (1, [100, 111, 108, 108, 32]), (2, [111, 110, 32]), (3, [111, 102, 102, 32]), (4, [108, 105, 101, 115, 32])] p = (some 0, p + 3 + 1) := (p_wd_y (p_mc_y h97 (p_mc_y g1_114 (p_mc_y g2_109 (p_mc_y g3_32 rfl)))))
          exact Or.inr (Or.inl ⟨hw, g3_32, hA hs, hit⟩)
        · have hs : p_spI tx n [97, 114, 109] 3 0 p = none := (p_spI_y (w := [97, 114, 109]) (i := 0) h97 (p_spI_y (w := [97, 114, 109]) (i := 1) g1_114 (p_spI_y (w := [97, 114, 109]) (i := 2) g2_109 rfl)))
          have hit : p_it tx n p na nd t = p_armI tx n p (p + 3) na nd t := by unfold p_it; rw [if_pos h97, hs]
          have hr : (p_it tx n p na nd t).1 = some (p + 3) := by rw [hit]; exact p_armI_b (hA hs) g3_32
          have hw : p_wd tx n p [(0, [97, 114, 109, 32]), (1, [100, 111, 108, 108, 32]), (2, [111, 110, 32]), (3, [111, 102, 102, 32]), (4, [108, 105, 101, 115, 32])] p = (none, (max (max (max (max (max p (p + 3)) (p + 0)) (p + 0)) (p + 0)) (p + 0))) := ((p_wd_n (p_mc_y h97 (p_mc_y g1_114 (p_mc_y g2_109 (p_mc_no g3_32)))) (by decide)).trans ((p_wd_n (p_mc_no (by rw [h97]; decide)) (by decide)).trans ((p_wd_n (p_mc_no (by rw [h97]; decide)) (by decide)).trans ((p_wd_n (p_mc_no (by rw [h97]; decide)) (by decide)).trans ((p_wd_n (p_mc_no (by rw [h97]; decide)) (by decide)).trans rfl)))))
          refine Or.inl ⟨_, hw, hr.trans (congrArg some ?_)⟩
          omega
      · have hs : p_spI tx n [97, 114, 109] 3 0 p = some (p + 1 + 1) := (p_spI_y (w := [97, 114, 109]) (i := 0) h97 (p_spI_y (w := [97, 114, 109]) (i := 1) g1_114 (p_spI_n (w := [97, 114, 109]) (i := 2) g2_109)))
        have hit : p_it tx n p na nd t = (some (p + 1 + 1), p, na, nd, t) := by unfold p_it; rw [if_pos h97, hs]
        have hr : (p_it tx n p na nd t).1 = some (p + 1 + 1) := by rw [hit]
        have hw : p_wd tx n p [(0, [97, 114, 109, 32]), (1, [100, 111, 108, 108, 32]), (2, [111, 110, 32]), (3, [111, 102, 102, 32]), (4, [108, 105, 101, 115, 32])] p = (none, (max (max (max (max (max p (p + 2)) (p + 0)) (p + 0)) (p + 0)) (p + 0))) := ((p_wd_n (p_mc_y h97 (p_mc_y g1_114 (p_mc_no g2_109))) (by decide)).trans ((p_wd_n (p_mc_no (by rw [h97]; decide)) (by decide)).trans ((p_wd_n (p_mc_no (by rw [h97]; decide)) (by decide)).trans ((p_wd_n (p_mc_no (by rw [h97]; decide)) (by decide)).trans ((p_wd_n (p_mc_no (by rw [h97]; decide)) (by decide)).trans rfl)))))
        refine Or.inl ⟨_, hw, hr.trans (congrArg some ?_)⟩
        omega
    · have hs : p_spI tx n [97, 114, 109] 3 0 p = some (p + 1) := (p_spI_y (w := [97, 114, 109]) (i := 0) h97 (p_spI_n (w := [97, 114, 109]) (i := 1) g1_114))
      have hit : p_it tx n p na nd t = (some (p + 1), p, na, nd, t) := by unfold p_it; rw [if_pos h97, hs]
      have hr : (p_it tx n p na nd t).1 = some (p + 1) := by rw [hit]
      have hw : p_wd tx n p [(0, [97, 114, 109, 32]), (1, [100, 111, 108, 108, 32]), (2, [111, 110, 32]), (3, [111, 102, 102, 32]), (4, [108, 105, 101, 115, 32])] p = (none, (max (max (max (max (max p (p + 1)) (p + 0)) (p + 0)) (p + 0)) (p + 0))) := ((p_wd_n (p_mc_y h97 (p_mc_no g1_114)) (by decide)).trans ((p_wd_n (p_mc_no (by rw [h97]; decide)) (by decide)).trans ((p_wd_n (p_mc_no (by rw [h97]; decide)) (by decide)).trans ((p_wd_n (p_mc_no (by rw [h97]; decide)) (by decide)).trans ((p_wd_n (p_mc_no (by rw [h97]; decide)) (by decide)).trans rfl)))))
      refine Or.inl ⟨_, hw, hr.trans (congrArg some ?_)⟩
      omega
  · by_cases h100 : p_tc tx n (p) = 100
    · by_cases g1_111 : p_tc tx n (p + 1) = 111
      · by_cases g2_108 : p_tc tx n (p + 1 + 1) = 108
        · by_cases g3_108 : p_tc tx n (p + 1 + 1 + 1) = 108
          · by_cases g4_32 : p_tc tx n (p + 1 + 1 + 1 + 1) = 32
            · have hs : p_spI tx n [100, 111, 108, 108] 4 0 p = none := (p_spI_y (w := [100, 111, 108, 108]) (i := 0) h100 (p_spI_y (w := [100, 111, 108, 108]) (i := 1) g1_111 (p_spI_y (w := [100, 111, 108, 108]) (i := 2) g2_108 (p_spI_y (w := [100, 111, 108, 108]) (i := 3) g3_108 rfl))))
              have hit : p_it tx n p na nd t = p_dollI tx n p (p + 4) na nd t := by unfold p_it; rw [if_neg (show ¬ p_tc tx n p = 97 by rw [h100]; decide), if_pos h100, hs]
              have hw : p_wd tx n p [(0, [97, 114, 109, 32]), (1, [100, 111, 108, 108, 32]), (2, [111, 110, 32]), (3, [111, 102, 102, 32]), (4, [108, 105, 101, 115, 32])] p = (some 1, p + 4 + 1) := ((p_wd_n (p_mc_no (by rw [h100]; decide)) (by decide)).trans (p_wd_y (p_mc_y h100 (p_mc_y g1_111 (p_mc_y g2_108 (p_mc_y g3_108 (p_mc_y g4_32 rfl)))))))
              exact Or.inr (Or.inr (Or.inl ⟨hw, g4_32, hD hs, hit⟩))
            · have hs : p_spI tx n [100, 111, 108, 108] 4 0 p = none := (p_spI_y (w := [100, 111, 108, 108]) (i := 0) h100 (p_spI_y (w := [100, 111, 108, 108]) (i := 1) g1_111 (p_spI_y (w := [100, 111, 108, 108]) (i := 2) g2_108 (p_spI_y (w := [100, 111, 108, 108]) (i := 3) g3_108 rfl))))
              have hit : p_it tx n p na nd t = p_dollI tx n p (p + 4) na nd t := by unfold p_it; rw [if_neg (show ¬ p_tc tx n p = 97 by rw [h100]; decide), if_pos h100, hs]
              have hr : (p_it tx n p na nd t).1 = some (p + 4) := by rw [hit]; exact p_dollI_b (hD hs) g4_32
              have hw : p_wd tx n p [(0, [97, 114, 109, 32]), (1, [100, 111, 108, 108, 32]), (2, [111, 110, 32]), (3, [111, 102, 102, 32]), (4, [108, 105, 101, 115, 32])] p = (none, (max (max (max (max (max p (p + 0)) (p + 4)) (p + 0)) (p + 0)) (p + 0))) := ((p_wd_n (p_mc_no (by rw [h100]; decide)) (by decide)).trans ((p_wd_n (p_mc_y h100 (p_mc_y g1_111 (p_mc_y g2_108 (p_mc_y g3_108 (p_mc_no g4_32))))) (by decide)).trans ((p_wd_n (p_mc_no (by rw [h100]; decide)) (by decide)).trans ((p_wd_n (p_mc_no (by rw [h100]; decide)) (by decide)).trans ((p_wd_n (p_mc_no (by rw [h100]; decide)) (by decide)).trans rfl)))))
              refine Or.inl ⟨_, hw, hr.trans (congrArg some ?_)⟩
              omega
          · have hs : p_spI tx n [100, 111, 108, 108] 4 0 p = some (p + 1 + 1 + 1) := (p_spI_y (w := [100, 111, 108, 108]) (i := 0) h100 (p_spI_y (w := [100, 111, 108, 108]) (i := 1) g1_111 (p_spI_y (w := [100, 111, 108, 108]) (i := 2) g2_108 (p_spI_n (w := [100, 111, 108, 108]) (i := 3) g3_108))))
            have hit : p_it tx n p na nd t = (some (p + 1 + 1 + 1), p, na, nd, t) := by unfold p_it; rw [if_neg (show ¬ p_tc tx n p = 97 by rw [h100]; decide), if_pos h100, hs]
            have hr : (p_it tx n p na nd t).1 = some (p + 1 + 1 + 1) := by rw [hit]
            have hw : p_wd tx n p [(0, [97, 114, 109, 32]), (1, [100, 111, 108, 108, 32]), (2, [111, 110, 32]), (3, [111, 102, 102, 32]), (4, [108, 105, 101, 115, 32])] p = (none, (max (max (max (max (max p (p + 0)) (p + 3)) (p + 0)) (p + 0)) (p + 0))) := ((p_wd_n (p_mc_no (by rw [h100]; decide)) (by decide)).trans ((p_wd_n (p_mc_y h100 (p_mc_y g1_111 (p_mc_y g2_108 (p_mc_no g3_108)))) (by decide)).trans ((p_wd_n (p_mc_no (by rw [h100]; decide)) (by decide)).trans ((p_wd_n (p_mc_no (by rw [h100]; decide)) (by decide)).trans ((p_wd_n (p_mc_no (by rw [h100]; decide)) (by decide)).trans rfl)))))
            refine Or.inl ⟨_, hw, hr.trans (congrArg some ?_)⟩
            omega
        · have hs : p_spI tx n [100, 111, 108, 108] 4 0 p = some (p + 1 + 1) := (p_spI_y (w := [100, 111, 108, 108]) (i := 0) h100 (p_spI_y (w := [100, 111, 108, 108]) (i := 1) g1_111 (p_spI_n (w := [100, 111, 108, 108]) (i := 2) g2_108)))
          have hit : p_it tx n p na nd t = (some (p + 1 + 1), p, na, nd, t) := by unfold p_it; rw [if_neg (show ¬ p_tc tx n p = 97 by rw [h100]; decide), if_pos h100, hs]
          have hr : (p_it tx n p na nd t).1 = some (p + 1 + 1) := by rw [hit]
          have hw : p_wd tx n p [(0, [97, 114, 109, 32]), (1, [100, 111, 108, 108, 32]), (2, [111, 110, 32]), (3, [111, 102, 102, 32]), (4, [108, 105, 101, 115, 32])] p = (none, (max (max (max (max (max p (p + 0)) (p + 2)) (p + 0)) (p + 0)) (p + 0))) := ((p_wd_n (p_mc_no (by rw [h100]; decide)) (by decide)).trans ((p_wd_n (p_mc_y h100 (p_mc_y g1_111 (p_mc_no g2_108))) (by decide)).trans ((p_wd_n (p_mc_no (by rw [h100]; decide)) (by decide)).trans ((p_wd_n (p_mc_no (by rw [h100]; decide)) (by decide)).trans ((p_wd_n (p_mc_no (by rw [h100]; decide)) (by decide)).trans rfl)))))
          refine Or.inl ⟨_, hw, hr.trans (congrArg some ?_)⟩
          omega
      · have hs : p_spI tx n [100, 111, 108, 108] 4 0 p = some (p + 1) := (p_spI_y (w := [100, 111, 108, 108]) (i := 0) h100 (p_spI_n (w := [100, 111, 108, 108]) (i := 1) g1_111))
        have hit : p_it tx n p na nd t = (some (p + 1), p, na, nd, t) := by unfold p_it; rw [if_neg (show ¬ p_tc tx n p = 97 by rw [h100]; decide), if_pos h100, hs]
        have hr : (p_it tx n p na nd t).1 = some (p + 1) := by rw [hit]
        have hw : p_wd tx n p [(0, [97, 114, 109, 32]), (1, [100, 111, 108, 108, 32]), (2, [111, 110, 32]), (3, [111, 102, 102, 32]), (4, [108, 105, 101, 115, 32])] p = (none, (max (max (max (max (max p (p + 0)) (p + 1)) (p + 0)) (p + 0)) (p + 0))) := ((p_wd_n (p_mc_no (by rw [h100]; decide)) (by decide)).trans ((p_wd_n (p_mc_y h100 (p_mc_no g1_111)) (by decide)).trans ((p_wd_n (p_mc_no (by rw [h100]; decide)) (by decide)).trans ((p_wd_n (p_mc_no (by rw [h100]; decide)) (by decide)).trans ((p_wd_n (p_mc_no (by rw [h100]; decide)) (by decide)).trans rfl)))))
        refine Or.inl ⟨_, hw, hr.trans (congrArg some ?_)⟩
        omega
    · by_cases h108 : p_tc tx n (p) = 108
      · by_cases g1_105 : p_tc tx n (p + 1) = 105
        · by_cases g2_101 : p_tc tx n (p + 1 + 1) = 101
          · by_cases g3_115 : p_tc tx n (p + 1 + 1 + 1) = 115
            · by_cases g4_32 : p_tc tx n (p + 1 + 1 + 1 + 1) = 32
              · have hs : p_spI tx n [108, 105, 101, 115] 4 0 p = none := (p_spI_y (w := [108, 105, 101, 115]) (i := 0) h108 (p_spI_y (w := [108, 105, 101, 115]) (i := 1) g1_105 (p_spI_y (w := [108, 105, 101, 115]) (i := 2) g2_101 (p_spI_y (w := [108, 105, 101, 115]) (i := 3) g3_115 rfl))))
                have hit : p_it tx n p na nd t = p_lieI tx n (p + 4) na nd t := by unfold p_it; rw [if_neg (show ¬ p_tc tx n p = 97 by rw [h108]; decide), if_neg (show ¬ p_tc tx n p = 100 by rw [h108]; decide), if_pos h108, hs]
                have hw : p_wd tx n p [(0, [97, 114, 109, 32]), (1, [100, 111, 108, 108, 32]), (2, [111, 110, 32]), (3, [111, 102, 102, 32]), (4, [108, 105, 101, 115, 32])] p = (some 4, p + 4 + 1) := ((p_wd_n (p_mc_no (by rw [h108]; decide)) (by decide)).trans ((p_wd_n (p_mc_no (by rw [h108]; decide)) (by decide)).trans ((p_wd_n (p_mc_no (by rw [h108]; decide)) (by decide)).trans ((p_wd_n (p_mc_no (by rw [h108]; decide)) (by decide)).trans (p_wd_y (p_mc_y h108 (p_mc_y g1_105 (p_mc_y g2_101 (p_mc_y g3_115 (p_mc_y g4_32 rfl))))))))))
                exact Or.inr (Or.inr (Or.inr (Or.inr (Or.inr (⟨hw, g4_32, hit⟩)))))
              · have hs : p_spI tx n [108, 105, 101, 115] 4 0 p = none := (p_spI_y (w := [108, 105, 101, 115]) (i := 0) h108 (p_spI_y (w := [108, 105, 101, 115]) (i := 1) g1_105 (p_spI_y (w := [108, 105, 101, 115]) (i := 2) g2_101 (p_spI_y (w := [108, 105, 101, 115]) (i := 3) g3_115 rfl))))
                have hit : p_it tx n p na nd t = p_lieI tx n (p + 4) na nd t := by unfold p_it; rw [if_neg (show ¬ p_tc tx n p = 97 by rw [h108]; decide), if_neg (show ¬ p_tc tx n p = 100 by rw [h108]; decide), if_pos h108, hs]
                have hr : (p_it tx n p na nd t).1 = some (p + 4) := by rw [hit]; exact p_lieI_b g4_32
                have hw : p_wd tx n p [(0, [97, 114, 109, 32]), (1, [100, 111, 108, 108, 32]), (2, [111, 110, 32]), (3, [111, 102, 102, 32]), (4, [108, 105, 101, 115, 32])] p = (none, (max (max (max (max (max p (p + 0)) (p + 0)) (p + 0)) (p + 0)) (p + 4))) := ((p_wd_n (p_mc_no (by rw [h108]; decide)) (by decide)).trans ((p_wd_n (p_mc_no (by rw [h108]; decide)) (by decide)).trans ((p_wd_n (p_mc_no (by rw [h108]; decide)) (by decide)).trans ((p_wd_n (p_mc_no (by rw [h108]; decide)) (by decide)).trans ((p_wd_n (p_mc_y h108 (p_mc_y g1_105 (p_mc_y g2_101 (p_mc_y g3_115 (p_mc_no g4_32))))) (by decide)).trans rfl)))))
                refine Or.inl ⟨_, hw, hr.trans (congrArg some ?_)⟩
                omega
            · have hs : p_spI tx n [108, 105, 101, 115] 4 0 p = some (p + 1 + 1 + 1) := (p_spI_y (w := [108, 105, 101, 115]) (i := 0) h108 (p_spI_y (w := [108, 105, 101, 115]) (i := 1) g1_105 (p_spI_y (w := [108, 105, 101, 115]) (i := 2) g2_101 (p_spI_n (w := [108, 105, 101, 115]) (i := 3) g3_115))))
              have hit : p_it tx n p na nd t = (some (p + 1 + 1 + 1), p, na, nd, t) := by unfold p_it; rw [if_neg (show ¬ p_tc tx n p = 97 by rw [h108]; decide), if_neg (show ¬ p_tc tx n p = 100 by rw [h108]; decide), if_pos h108, hs]
              have hr : (p_it tx n p na nd t).1 = some (p + 1 + 1 + 1) := by rw [hit]
              have hw : p_wd tx n p [(0, [97, 114, 109, 32]), (1, [100, 111, 108, 108, 32]), (2, [111, 110, 32]), (3, [111, 102, 102, 32]), (4, [108, 105, 101, 115, 32])] p = (none, (max (max (max (max (max p (p + 0)) (p + 0)) (p + 0)) (p + 0)) (p + 3))) := ((p_wd_n (p_mc_no (by rw [h108]; decide)) (by decide)).trans ((p_wd_n (p_mc_no (by rw [h108]; decide)) (by decide)).trans ((p_wd_n (p_mc_no (by rw [h108]; decide)) (by decide)).trans ((p_wd_n (p_mc_no (by rw [h108]; decide)) (by decide)).trans ((p_wd_n (p_mc_y h108 (p_mc_y g1_105 (p_mc_y g2_101 (p_mc_no g3_115)))) (by decide)).trans rfl)))))
              refine Or.inl ⟨_, hw, hr.trans (congrArg some ?_)⟩
              omega
          · have hs : p_spI tx n [108, 105, 101, 115] 4 0 p = some (p + 1 + 1) := (p_spI_y (w := [108, 105, 101, 115]) (i := 0) h108 (p_spI_y (w := [108, 105, 101, 115]) (i := 1) g1_105 (p_spI_n (w := [108, 105, 101, 115]) (i := 2) g2_101)))
            have hit : p_it tx n p na nd t = (some (p + 1 + 1), p, na, nd, t) := by unfold p_it; rw [if_neg (show ¬ p_tc tx n p = 97 by rw [h108]; decide), if_neg (show ¬ p_tc tx n p = 100 by rw [h108]; decide), if_pos h108, hs]
            have hr : (p_it tx n p na nd t).1 = some (p + 1 + 1) := by rw [hit]
            have hw : p_wd tx n p [(0, [97, 114, 109, 32]), (1, [100, 111, 108, 108, 32]), (2, [111, 110, 32]), (3, [111, 102, 102, 32]), (4, [108, 105, 101, 115, 32])] p = (none, (max (max (max (max (max p (p + 0)) (p + 0)) (p + 0)) (p + 0)) (p + 2))) := ((p_wd_n (p_mc_no (by rw [h108]; decide)) (by decide)).trans ((p_wd_n (p_mc_no (by rw [h108]; decide)) (by decide)).trans ((p_wd_n (p_mc_no (by rw [h108]; decide)) (by decide)).trans ((p_wd_n (p_mc_no (by rw [h108]; decide)) (by decide)).trans ((p_wd_n (p_mc_y h108 (p_mc_y g1_105 (p_mc_no g2_101))) (by decide)).trans rfl)))))
            refine Or.inl ⟨_, hw, hr.trans (congrArg some ?_)⟩
            omega
        · have hs : p_spI tx n [108, 105, 101, 115] 4 0 p = some (p + 1) := (p_spI_y (w := [108, 105, 101, 115]) (i := 0) h108 (p_spI_n (w := [108, 105, 101, 115]) (i := 1) g1_105))
          have hit : p_it tx n p na nd t = (some (p + 1), p, na, nd, t) := by unfold p_it; rw [if_neg (show ¬ p_tc tx n p = 97 by rw [h108]; decide), if_neg (show ¬ p_tc tx n p = 100 by rw [h108]; decide), if_pos h108, hs]
          have hr : (p_it tx n p na nd t).1 = some (p + 1) := by rw [hit]
          have hw : p_wd tx n p [(0, [97, 114, 109, 32]), (1, [100, 111, 108, 108, 32]), (2, [111, 110, 32]), (3, [111, 102, 102, 32]), (4, [108, 105, 101, 115, 32])] p = (none, (max (max (max (max (max p (p + 0)) (p + 0)) (p + 0)) (p + 0)) (p + 1))) := ((p_wd_n (p_mc_no (by rw [h108]; decide)) (by decide)).trans ((p_wd_n (p_mc_no (by rw [h108]; decide)) (by decide)).trans ((p_wd_n (p_mc_no (by rw [h108]; decide)) (by decide)).trans ((p_wd_n (p_mc_no (by rw [h108]; decide)) (by decide)).trans ((p_wd_n (p_mc_y h108 (p_mc_no g1_105)) (by decide)).trans rfl)))))
          refine Or.inl ⟨_, hw, hr.trans (congrArg some ?_)⟩
          omega
      · by_cases h111 : p_tc tx n (p) = 111
        · by_cases g1_110 : p_tc tx n (p + 1) = 110
          · by_cases g2_32 : p_tc tx n (p + 1 + 1) = 32
            · have hs : p_spI tx n [111, 110] 2 0 p = none := (p_spI_y (w := [111, 110]) (i := 0) h111 (p_spI_y (w := [111, 110]) (i := 1) g1_110 rfl))
              have hit : p_it tx n p na nd t = p_onI tx n (p + 2) na nd t := by unfold p_it; rw [if_neg (show ¬ p_tc tx n p = 97 by rw [h111]; decide), if_neg (show ¬ p_tc tx n p = 100 by rw [h111]; decide), if_neg (show ¬ p_tc tx n p = 108 by rw [h111]; decide), if_pos h111, if_neg (not_not_intro g1_110), hs]
              have hw : p_wd tx n p [(0, [97, 114, 109, 32]), (1, [100, 111, 108, 108, 32]), (2, [111, 110, 32]), (3, [111, 102, 102, 32]), (4, [108, 105, 101, 115, 32])] p = (some 2, p + 2 + 1) := ((p_wd_n (p_mc_no (by rw [h111]; decide)) (by decide)).trans ((p_wd_n (p_mc_no (by rw [h111]; decide)) (by decide)).trans (p_wd_y (p_mc_y h111 (p_mc_y g1_110 (p_mc_y g2_32 rfl))))))
              exact Or.inr (Or.inr (Or.inr (Or.inl ⟨hw, g2_32, hit⟩)))
            · have hs : p_spI tx n [111, 110] 2 0 p = none := (p_spI_y (w := [111, 110]) (i := 0) h111 (p_spI_y (w := [111, 110]) (i := 1) g1_110 rfl))
              have hit : p_it tx n p na nd t = p_onI tx n (p + 2) na nd t := by unfold p_it; rw [if_neg (show ¬ p_tc tx n p = 97 by rw [h111]; decide), if_neg (show ¬ p_tc tx n p = 100 by rw [h111]; decide), if_neg (show ¬ p_tc tx n p = 108 by rw [h111]; decide), if_pos h111, if_neg (not_not_intro g1_110), hs]
              have hr : (p_it tx n p na nd t).1 = some (p + 2) := by rw [hit]; exact p_onI_b g2_32
              have hw : p_wd tx n p [(0, [97, 114, 109, 32]), (1, [100, 111, 108, 108, 32]), (2, [111, 110, 32]), (3, [111, 102, 102, 32]), (4, [108, 105, 101, 115, 32])] p = (none, (max (max (max (max (max p (p + 0)) (p + 0)) (p + 2)) (p + 1)) (p + 0))) := ((p_wd_n (p_mc_no (by rw [h111]; decide)) (by decide)).trans ((p_wd_n (p_mc_no (by rw [h111]; decide)) (by decide)).trans ((p_wd_n (p_mc_y h111 (p_mc_y g1_110 (p_mc_no g2_32))) (by decide)).trans ((p_wd_n (p_mc_y h111 (p_mc_no (by rw [g1_110]; decide))) (by decide)).trans ((p_wd_n (p_mc_no (by rw [h111]; decide)) (by decide)).trans rfl)))))
              refine Or.inl ⟨_, hw, hr.trans (congrArg some ?_)⟩
              omega
          · by_cases g1_102 : p_tc tx n (p + 1) = 102
            · by_cases g2_102 : p_tc tx n (p + 1 + 1) = 102
              · by_cases g3_32 : p_tc tx n (p + 1 + 1 + 1) = 32
                · have hs : p_spI tx n [111, 102, 102] 3 0 p = none := (p_spI_y (w := [111, 102, 102]) (i := 0) h111 (p_spI_y (w := [111, 102, 102]) (i := 1) g1_102 (p_spI_y (w := [111, 102, 102]) (i := 2) g2_102 rfl)))
                  have hit : p_it tx n p na nd t = p_offI tx n (p + 3) na nd t := by unfold p_it; rw [if_neg (show ¬ p_tc tx n p = 97 by rw [h111]; decide), if_neg (show ¬ p_tc tx n p = 100 by rw [h111]; decide), if_neg (show ¬ p_tc tx n p = 108 by rw [h111]; decide), if_pos h111, if_pos (show ¬ p_tc tx n (p + 1) = 110 from (by rw [g1_102]; decide)), hs]
                  have hw : p_wd tx n p [(0, [97, 114, 109, 32]), (1, [100, 111, 108, 108, 32]), (2, [111, 110, 32]), (3, [111, 102, 102, 32]), (4, [108, 105, 101, 115, 32])] p = (some 3, p + 3 + 1) := ((p_wd_n (p_mc_no (by rw [h111]; decide)) (by decide)).trans ((p_wd_n (p_mc_no (by rw [h111]; decide)) (by decide)).trans ((p_wd_n (p_mc_y h111 (p_mc_no (by rw [g1_102]; decide))) (by decide)).trans (p_wd_y (p_mc_y h111 (p_mc_y g1_102 (p_mc_y g2_102 (p_mc_y g3_32 rfl))))))))
                  exact Or.inr (Or.inr (Or.inr (Or.inr (Or.inl ⟨hw, g3_32, hit⟩))))
                · have hs : p_spI tx n [111, 102, 102] 3 0 p = none := (p_spI_y (w := [111, 102, 102]) (i := 0) h111 (p_spI_y (w := [111, 102, 102]) (i := 1) g1_102 (p_spI_y (w := [111, 102, 102]) (i := 2) g2_102 rfl)))
                  have hit : p_it tx n p na nd t = p_offI tx n (p + 3) na nd t := by unfold p_it; rw [if_neg (show ¬ p_tc tx n p = 97 by rw [h111]; decide), if_neg (show ¬ p_tc tx n p = 100 by rw [h111]; decide), if_neg (show ¬ p_tc tx n p = 108 by rw [h111]; decide), if_pos h111, if_pos (show ¬ p_tc tx n (p + 1) = 110 from (by rw [g1_102]; decide)), hs]
                  have hr : (p_it tx n p na nd t).1 = some (p + 3) := by rw [hit]; exact p_offI_b g3_32
                  have hw : p_wd tx n p [(0, [97, 114, 109, 32]), (1, [100, 111, 108, 108, 32]), (2, [111, 110, 32]), (3, [111, 102, 102, 32]), (4, [108, 105, 101, 115, 32])] p = (none, (max (max (max (max (max p (p + 0)) (p + 0)) (p + 1)) (p + 3)) (p + 0))) := ((p_wd_n (p_mc_no (by rw [h111]; decide)) (by decide)).trans ((p_wd_n (p_mc_no (by rw [h111]; decide)) (by decide)).trans ((p_wd_n (p_mc_y h111 (p_mc_no (by rw [g1_102]; decide))) (by decide)).trans ((p_wd_n (p_mc_y h111 (p_mc_y g1_102 (p_mc_y g2_102 (p_mc_no g3_32)))) (by decide)).trans ((p_wd_n (p_mc_no (by rw [h111]; decide)) (by decide)).trans rfl)))))
                  refine Or.inl ⟨_, hw, hr.trans (congrArg some ?_)⟩
                  omega
              · have hs : p_spI tx n [111, 102, 102] 3 0 p = some (p + 1 + 1) := (p_spI_y (w := [111, 102, 102]) (i := 0) h111 (p_spI_y (w := [111, 102, 102]) (i := 1) g1_102 (p_spI_n (w := [111, 102, 102]) (i := 2) g2_102)))
                have hit : p_it tx n p na nd t = (some (p + 1 + 1), p, na, nd, t) := by unfold p_it; rw [if_neg (show ¬ p_tc tx n p = 97 by rw [h111]; decide), if_neg (show ¬ p_tc tx n p = 100 by rw [h111]; decide), if_neg (show ¬ p_tc tx n p = 108 by rw [h111]; decide), if_pos h111, if_pos (show ¬ p_tc tx n (p + 1) = 110 from (by rw [g1_102]; decide)), hs]
                have hr : (p_it tx n p na nd t).1 = some (p + 1 + 1) := by rw [hit]
                have hw : p_wd tx n p [(0, [97, 114, 109, 32]), (1, [100, 111, 108, 108, 32]), (2, [111, 110, 32]), (3, [111, 102, 102, 32]), (4, [108, 105, 101, 115, 32])] p = (none, (max (max (max (max (max p (p + 0)) (p + 0)) (p + 1)) (p + 2)) (p + 0))) := ((p_wd_n (p_mc_no (by rw [h111]; decide)) (by decide)).trans ((p_wd_n (p_mc_no (by rw [h111]; decide)) (by decide)).trans ((p_wd_n (p_mc_y h111 (p_mc_no (by rw [g1_102]; decide))) (by decide)).trans ((p_wd_n (p_mc_y h111 (p_mc_y g1_102 (p_mc_no g2_102))) (by decide)).trans ((p_wd_n (p_mc_no (by rw [h111]; decide)) (by decide)).trans rfl)))))
                refine Or.inl ⟨_, hw, hr.trans (congrArg some ?_)⟩
                omega
            · have hs : p_spI tx n [111, 102, 102] 3 0 p = some (p + 1) := (p_spI_y (w := [111, 102, 102]) (i := 0) h111 (p_spI_n (w := [111, 102, 102]) (i := 1) g1_102))
              have hit : p_it tx n p na nd t = (some (p + 1), p, na, nd, t) := by unfold p_it; rw [if_neg (show ¬ p_tc tx n p = 97 by rw [h111]; decide), if_neg (show ¬ p_tc tx n p = 100 by rw [h111]; decide), if_neg (show ¬ p_tc tx n p = 108 by rw [h111]; decide), if_pos h111, if_pos (show ¬ p_tc tx n (p + 1) = 110 from g1_110), hs]
              have hr : (p_it tx n p na nd t).1 = some (p + 1) := by rw [hit]
              have hw : p_wd tx n p [(0, [97, 114, 109, 32]), (1, [100, 111, 108, 108, 32]), (2, [111, 110, 32]), (3, [111, 102, 102, 32]), (4, [108, 105, 101, 115, 32])] p = (none, (max (max (max (max (max p (p + 0)) (p + 0)) (p + 1)) (p + 1)) (p + 0))) := ((p_wd_n (p_mc_no (by rw [h111]; decide)) (by decide)).trans ((p_wd_n (p_mc_no (by rw [h111]; decide)) (by decide)).trans ((p_wd_n (p_mc_y h111 (p_mc_no g1_110)) (by decide)).trans ((p_wd_n (p_mc_y h111 (p_mc_no g1_102)) (by decide)).trans ((p_wd_n (p_mc_no (by rw [h111]; decide)) (by decide)).trans rfl)))))
              refine Or.inl ⟨_, hw, hr.trans (congrArg some ?_)⟩
              omega
        · have hit : p_it tx n p na nd t = (some p, p, na, nd, t) := by unfold p_it; rw [if_neg h97, if_neg h100, if_neg h108, if_neg h111]
          have hr : (p_it tx n p na nd t).1 = some p := by rw [hit]
          have hw : p_wd tx n p [(0, [97, 114, 109, 32]), (1, [100, 111, 108, 108, 32]), (2, [111, 110, 32]), (3, [111, 102, 102, 32]), (4, [108, 105, 101, 115, 32])] p = (none, (max (max (max (max (max p (p + 0)) (p + 0)) (p + 0)) (p + 0)) (p + 0))) := ((p_wd_n (p_mc_no h97) (by decide)).trans ((p_wd_n (p_mc_no h100) (by decide)).trans ((p_wd_n (p_mc_no h111) (by decide)).trans ((p_wd_n (p_mc_no h111) (by decide)).trans ((p_wd_n (p_mc_no h108) (by decide)).trans rfl)))))
          refine Or.inl ⟨_, hw, hr.trans (congrArg some ?_)⟩
          omega
