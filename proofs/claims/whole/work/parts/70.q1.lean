/-! level 2: calls that look, that ask of a city, that tell a city -/
theorem Q_mk {nC nB : Nat} {x y : Int32} {m m' : MemI} {ml mlj : MemL} (e : x = y) (h : k_R nC nB m ml m' mlj) : k_Q nC nB (x, m) ml (y, m') mlj := ⟨e, h⟩
theorem q_picks {nC nB : Nat} {mi mj : MemI} {ml mlj : MemL} (h : k_R nC nB mi ml mj mlj) (bg : Int32) : k_Q nC nB (f_X6_picks mi bg) ml (f_X7_picks mj bg nC nB) mlj := by
  unfold f_X6_picks f_X7_picks
  by_cases w : vp_in bg nB
  · have hb := k_clamp w
    have h6 := h.1.1.2
    rw [bA_eq h.1 w, if_pos (show bg.toNatClampNeg < 6 by omega), if_neg (fun z => (isB_iff h.1 bg).mp z w)]
    exact Q_mk ((go_res h.1).1.2.2.1 _ hb).1 (R_look h)
  · rw [bA_no h.1 w, if_neg (Nat.lt_irrefl 6), if_pos ((isB_iff h.1 bg).mpr w)]
    exact Q_noT h 1 (by decide) (by decide)
theorem q_kept {nC nB : Nat} {mi mj : MemI} {ml mlj : MemL} (h : k_R nC nB mi ml mj mlj) : k_Q nC nB (f_X6_kept mi) ml (f_X7_kept mj nC nB) mlj := by
  unfold f_X6_kept f_X7_kept
  exact Q_mk (go_res h.1).2.2 (R_look h)
theorem q_picked {nC nB : Nat} {mi mj : MemI} {ml mlj : MemL} (h : k_R nC nB mi ml mj mlj) (cz v : Int32) : k_Q nC nB (f_X6_picked mi cz v) ml (f_X7_picked mj cz v nC nB) mlj := by
  unfold f_X6_picked f_X7_picked
  by_cases w : vp_in cz nC
  · have hb := k_clamp w
    have h6 := h.1.1.1
    have hB := h.1.1.2
    rw [cA_eq h.1 w, if_pos (show cz.toNatClampNeg < 6 by omega), if_neg (fun z => (isC_iff h.1 cz).mp z w)]
    by_cases o : f_X6_isOutside v 0 1 = 0
    · obtain ⟨o1, o2⟩ := (k_iO2 v 1).mp o
      rw [if_pos o, if_neg o1, if_pos o2]
      obtain ⟨g1, -⟩ := go_res h.1
      by_cases z : v = 0
      · rw [if_pos z, if_pos z]
        obtain ⟨x, -, x1, x2, -⟩ := g1.2.2.2.2.2 _ hb
        refine Q_mk ?_ (R_look h)
        unfold f_X7_pickedBy
        rw [k_nat w]
        rw [nI_clamp (by omega)]
        exact x1.trans x2.symm
      · rw [if_neg z, if_neg z]
        exact Q_mk (g1.2.1 _ hb).2.2.2 (R_look h)
    · have o3 : v < 0 ∨ ¬ v ≤ 1 := by
        by_cases a : v < 0
        · exact Or.inl a
        · exact Or.inr (fun b => o ((k_iO2 v 1).mpr ⟨a, b⟩))
      rw [if_neg o]
      rcases o3 with a | a
      · rw [if_pos a]; exact Q_no h 5 (by decide) (by decide)
      · by_cases b : v < 0
        · rw [if_pos b]; exact Q_no h 5 (by decide) (by decide)
        · rw [if_neg b, if_neg a]; exact Q_no h 5 (by decide) (by decide)
  · rw [cA_no h.1 w, if_neg (Nat.lt_irrefl 6), if_pos ((isC_iff h.1 cz).mpr w)]
    exact Q_no h 1 (by decide) (by decide)
