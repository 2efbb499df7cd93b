/-! level 2: what a city is told and asked -/
theorem q_post {nC nB : Nat} {mi mj : MemI} {ml mlj : MemL} (h : k_R nC nB mi ml mj mlj) (bg is : Int32) (his : is = 0 ∨ is = 1) : k_Q nC nB (f_X6_post mi bg is) ml (f_X7_post mj bg is) mlj := by
  unfold f_X6_post f_X7_post
  by_cases w : vp_in bg nB
  · have hb := k_clamp w
    have h6 := h.1.1.2
    obtain ⟨⟨-, e2, -⟩, e3, -⟩ := h.1.2.2.2.2.2.2.1 _ hb
    rw [bA_eq h.1 w, if_pos (show bg.toNatClampNeg < 6 by omega), if_neg (fun z => (isB_iff h.1 bg).mp z w), e2]
    have hR : ∀ v, k_bt 1 v → k_R nC nB (k_ui mi (0, 0, bg.toNatClampNeg) 2 v) ml (k_ui mj (8, 17, 0) bg.toNatClampNeg v) mlj := fun v hv => R_city h (CR_b2 h.1 hb hv) (Nat.le_refl _) (fun kk qq hk => k_frG hk rfl) (fun kk qq hk => k_frN hk rfl) (fun kk qq hk => k_frW hk rfl)
    have h0 := hR 0 ⟨0, by decide, rfl⟩
    have h1 := hR 1 ⟨1, by decide, rfl⟩
    rcases bt_01 e3 with q | q <;> rcases his with r | r <;> subst r <;> rw [q]
    · rw [if_pos rfl, if_pos rfl]; exact Q_mk rfl h0
    · rw [if_pos rfl, if_neg (by decide)]; exact Q_mk rfl h1
    · rw [if_neg (by decide), if_pos rfl]; exact Q_mk rfl h0
    · rw [if_neg (by decide), if_neg (by decide)]; exact Q_mk rfl h1
  · rw [bA_no h.1 w, if_neg (Nat.lt_irrefl 6), if_pos ((isB_iff h.1 bg).mpr w)]
    exact Q_no h 1 (by decide) (by decide)
theorem q_citizenOf {nC nB : Nat} {mi mj : MemI} {ml mlj : MemL} (h : k_R nC nB mi ml mj mlj) (cz v : Int32) : k_Q nC nB (f_X6_citizenOf mi cz v) ml (f_X7_citizenOf mj cz v) mlj := by
  unfold f_X6_citizenOf f_X7_citizenOf
  by_cases w : vp_in cz nC
  · have hb := k_clamp w
    have h6 := h.1.1.1
    obtain ⟨hcz, e3, -⟩ := h.1.2.2.2.2.1 _ hb
    have hf := k_face hcz (by omega)
    rw [← k_nat w] at hf
    obtain ⟨-, c2, c3, c4, c5, c6, c7, c8⟩ := hcz
    rw [cA_eq h.1 w, if_pos (show cz.toNatClampNeg < 6 by omega), if_neg (fun z => (isC_iff h.1 cz).mp z w), c2, c3, c4, c5, c6, c7, c8, hf]
    by_cases a0 : v = 0
    · rw [if_pos a0, if_pos a0]; exact Q_mk rfl h
    rw [if_neg a0, if_neg a0]
    by_cases a1 : v = 1
    · rw [if_pos a1, if_pos a1]; exact Q_mk rfl h
    rw [if_neg a1, if_neg a1]
    by_cases a2 : v = 2
    · rw [if_pos a2, if_pos a2]; exact Q_mk rfl h
    rw [if_neg a2, if_neg a2]
    by_cases a3 : v = 3
    · rw [if_pos a3, if_pos a3]; exact Q_mk rfl h
    rw [if_neg a3, if_neg a3]
    by_cases a4 : v = 4
    · rw [if_pos a4, if_pos a4]; exact Q_mk rfl h
    rw [if_neg a4, if_neg a4]
    by_cases a5 : v = 5
    · rw [if_pos a5, if_pos a5]; exact Q_mk rfl h
    rw [if_neg a5, if_neg a5]
    by_cases a6 : v = 6
    · rw [if_pos a6, if_pos a6]
      rcases bt_01 e3 with q | q <;> rw [q]
      · rw [if_pos rfl]; exact Q_mk rfl h
      · rw [if_neg (by decide)]; exact Q_mk rfl h
    rw [if_neg a6, if_neg a6]
    by_cases a7 : v = 7
    · rw [if_pos a7, if_pos a7]; exact Q_mk rfl h
    rw [if_neg a7, if_neg a7]
    exact Q_no h 5 (by decide) (by decide)
  · rw [cA_no h.1 w, if_neg (Nat.lt_irrefl 6), if_pos ((isC_iff h.1 cz).mpr w)]
    exact Q_no h 5 (by decide) (by decide)
theorem q_beggarOf {nC nB : Nat} {mi mj : MemI} {ml mlj : MemL} (h : k_R nC nB mi ml mj mlj) (bg v : Int32) : k_Q nC nB (f_X6_beggarOf mi bg v) ml (f_X7_beggarOf mj bg v) mlj := by
  unfold f_X6_beggarOf f_X7_beggarOf
  by_cases w : vp_in bg nB
  · have hb := k_clamp w
    have h6 := h.1.1.2
    obtain ⟨⟨-, c2, c3, c4, c5, c6⟩, e3, -⟩ := h.1.2.2.2.2.2.2.1 _ hb
    rw [bA_eq h.1 w, if_pos (show bg.toNatClampNeg < 6 by omega), if_neg (fun z => (isB_iff h.1 bg).mp z w), c2, c3, c4, c5, c6]
    by_cases a0 : v = 0
    · rw [if_pos a0, if_pos a0]; exact Q_mk rfl h
    rw [if_neg a0, if_neg a0]
    by_cases a1 : v = 1
    · rw [if_pos a1, if_pos a1]; exact Q_mk rfl h
    rw [if_neg a1, if_neg a1]
    by_cases a2 : v = 2
    · rw [if_pos a2, if_pos a2]; exact Q_mk rfl h
    rw [if_neg a2, if_neg a2]
    by_cases a3 : v = 3
    · rw [if_pos a3, if_pos a3]; exact Q_mk rfl h
    rw [if_neg a3, if_neg a3]
    by_cases a4 : v = 4
    · rw [if_pos a4, if_pos a4]
      rcases bt_01 e3 with q | q <;> rw [q]
      · rw [if_pos rfl]; exact Q_mk rfl h
      · rw [if_neg (by decide)]; exact Q_mk rfl h
    rw [if_neg a4, if_neg a4]
    exact Q_noT h 5 (by decide) (by decide)
  · rw [bA_no h.1 w, if_neg (Nat.lt_irrefl 6), if_pos ((isB_iff h.1 bg).mpr w)]
    exact Q_noT h 5 (by decide) (by decide)
theorem bt_of {v hi : Int32} {n : Nat} (h0 : ¬ v < 0) (h1 : v ≤ hi) (hn : hi = nI n) (h31 : n < 2 ^ 31) : k_bt n v := by
  subst hn
  obtain ⟨j, hj, rfl⟩ := nI_of h0
  refine ⟨j, ?_, rfl⟩
  rcases Nat.lt_or_ge n j with q | q
  · exact absurd h1 (nI_ge q hj)
  · exact q
theorem q_tell {nC nB : Nat} {mi mj : MemI} {ml mlj : MemL} (h : k_R nC nB mi ml mj mlj) (cz t v : Int32) : k_Q nC nB (f_X6_tell mi cz t v) ml (f_X7_tell mj cz t v) mlj := by
  unfold f_X6_tell f_X7_tell
  by_cases w : vp_in cz nC
  · have hb := k_clamp w
    have h6 := h.1.1.1
    obtain ⟨⟨-, c2, -, -, c5, c6, c7, -⟩, e3, -⟩ := h.1.2.2.2.2.1 _ hb
    rw [cA_eq h.1 w, if_pos (show cz.toNatClampNeg < 6 by omega), if_neg (fun z => (isC_iff h.1 cz).mp z w)]
    have hno := Q_no h 6 (by decide) (by decide)
    have out : ∀ hi : Int32, ¬ f_X6_isOutside v 0 hi = 0 → f_X7_isFrom v 0 hi = 0 := fun hi o => Decidable.of_not_not (fun z => o ((k_iO v 0 hi).mpr z))
    have inn : ∀ hi : Int32, f_X6_isOutside v 0 hi = 0 → ¬ f_X7_isFrom v 0 hi = 0 := fun hi o => (k_iO v 0 hi).mp o
    unfold f_X1_becomes f_X6_mostToTell
    by_cases a0 : t = 0
    · subst a0
      rw [if_pos rfl, if_pos rfl, if_neg (show ¬ (0 : Int32) < 0 by decide), if_neg (show ¬ (3 : Int32) < 0 by decide), if_pos rfl]
      by_cases o : f_X6_isOutside v 0 1 = 0
      · rw [if_pos o, if_neg (inn 1 o), c2]
        obtain ⟨o1, o2⟩ := (k_iO2 v 1).mp o
        have hv := bt_of o1 o2 (n := 1) rfl (by decide)
        have hR := R_city h (CR_c2 h.1 hb hv) (Nat.le_refl _) (fun kk qq hk => k_frG hk rfl) (fun kk qq hk => k_frN hk rfl) (fun kk qq hk => k_frW hk rfl)
        rcases bt_01 hv with r | r <;> subst r <;> rcases bt_01 e3 with q | q <;> rw [q]
        · rw [if_pos rfl, if_neg (by decide)]; exact Q_mk rfl hR
        · rw [if_neg (by decide), if_neg (by decide)]; exact Q_mk rfl hR
        · rw [if_pos rfl, if_pos rfl]; exact Q_mk rfl hR
        · rw [if_neg (by decide), if_pos rfl]; exact Q_mk rfl hR
      · rw [if_neg o, if_pos (out 1 o)]; exact hno
    · simp only [if_neg a0]
      by_cases a1 : t = 1
      · subst a1
        simp only [if_true, show ¬ (1 : Int32) < 0 by decide, show ¬ (3 : Int32) < 1 by decide, show ¬ (1 : Int32) = 2 by decide, if_false]
        by_cases o : f_X6_isOutside v 0 99 = 0
        · rw [if_pos o, if_neg (inn 99 o), c7]
          obtain ⟨o1, o2⟩ := (k_iO2 v 99).mp o
          exact Q_mk rfl (R_city h (CR_c7 h.1 hb (bt_of o1 o2 (n := 99) rfl (by decide))) (Nat.le_refl _) (fun kk qq hk => k_frG hk rfl) (fun kk qq hk => k_frN hk rfl) (fun kk qq hk => k_frW hk rfl))
        · rw [if_neg o, if_pos (out 99 o)]; exact hno
      · simp only [if_neg a1]
        by_cases a2 : t = 2
        · subst a2
          simp only [if_true, show ¬ (2 : Int32) < 0 by decide, show ¬ (3 : Int32) < 2 by decide, if_false]
          by_cases o : f_X6_isOutside v 0 20 = 0
          · rw [if_pos o, if_neg (inn 20 o), c6]
            obtain ⟨o1, o2⟩ := (k_iO2 v 20).mp o
            exact Q_mk rfl (R_city h (CR_c6 h.1 hb (bt_of o1 o2 (n := 20) rfl (by decide))) (Nat.le_refl _) (fun kk qq hk => k_frG hk rfl) (fun kk qq hk => k_frN hk rfl) (fun kk qq hk => k_frW hk rfl))
          · rw [if_neg o, if_pos (out 20 o)]; exact hno
        · simp only [if_neg a2]
          by_cases a3 : t = 3
          · subst a3
            simp only [if_true, show ¬ (3 : Int32) < 0 by decide, show ¬ (3 : Int32) < 3 by decide, if_false]
            by_cases o : f_X6_isOutside v 0 99 = 0
            · rw [if_pos o, if_neg (inn 99 o), c5]
              obtain ⟨o1, o2⟩ := (k_iO2 v 99).mp o
              exact Q_mk rfl (R_city h (CR_c5 h.1 hb (bt_of o1 o2 (n := 99) rfl (by decide))) (Nat.le_refl _) (fun kk qq hk => k_frG hk rfl) (fun kk qq hk => k_frN hk rfl) (fun kk qq hk => k_frW hk rfl))
            · rw [if_neg o, if_pos (out 99 o)]; exact hno
          · simp only [if_neg a3]
            have o : ¬ f_X6_isOutside v 0 (-1) = 0 := fun o => by
              obtain ⟨o1, o2⟩ := (k_iO2 v (-1)).mp o
              exact o1 (Int32.lt_of_le_of_lt o2 (by decide))
            rw [if_neg o]
            by_cases b0 : t < 0
            · rw [if_pos b0]; exact hno
            · rw [if_neg b0]
              by_cases b3 : 3 < t
              · rw [if_pos b3]; exact hno
              · exfalso
                obtain ⟨j, hj, rfl⟩ := nI_of b0
                have hj3 : j ≤ 3 := by
                  rcases Nat.lt_or_ge 3 j with q | q
                  · exact absurd (nI_lt (a := 3) q hj) b3
                  · exact q
                rcases (show j = 0 ∨ j = 1 ∨ j = 2 ∨ j = 3 by omega) with r | r | r | r <;> subst r
                · exact a0 rfl
                · exact a1 rfl
                · exact a2 rfl
                · exact a3 rfl
  · rw [cA_no h.1 w, if_neg (Nat.lt_irrefl 6), if_pos ((isC_iff h.1 cz).mpr w)]
    exact Q_no h 1 (by decide) (by decide)
