/-! level 2: element, set -/
theorem R_ml {nC nB : Nat} {mi mj : MemI} {ml mlj ml' mlj' : MemL} (h : k_R nC nB mi ml mj mlj) (h4 : ∀ s, s < 8 → ∀ i, i < 160 → ml' (9, 0, s) i = mlj' (9, 1, 0) (160 * s + i)) : k_R nC nB mi ml' mj mlj' := by
  obtain ⟨a1, a2, a2b, a3, a4, a5, a6, a7, a8, a9⟩ := h
  exact ⟨a1, a2, a2b, a3, a4, a5, a6, a7, h4, a9⟩
/-- an element's place -/
theorem el_in {x : Int32} {len : Nat} (x0 : ¬ x < 0) (x1 : ¬ nI len ≤ x) (l : len ≤ 160) : vp_in x 160 ∧ ¬ (160 : Int32) ≤ x := by
  have v := k_vin x0 x1 (nI_toInt (by omega))
  obtain ⟨i, hi, rfl⟩ := vp_in_of v (by omega)
  exact ⟨x160 (by omega), nI_ge (b := 160) (by omega) (by decide)⟩
theorem q_element {nC nB : Nat} {mi mj : MemI} {ml mlj : MemL} (h : k_R nC nB mi ml mj mlj) (s0 x : Int32) : f_X6_element mi ml s0 x = f_X7_element mj mlj s0 x := by
  unfold f_X6_element f_X7_element
  by_cases w : vp_in s0 8
  · have hb := k_clamp w
    rw [shA_eq w, if_pos hb, if_neg (fun z => (isS_iff s0).mp z w)]
    obtain ⟨⟨len, l1, l2⟩, a⟩ := h.2.2.2.2.2.2.2.1 _ hb
    unfold f_X5_get f_X5_hasElement
    have off : mi (5, 0, s0.toNatClampNeg) 2 = 0 → (if (if x < 0 then (0 : Int32) else if mi (5, 0, s0.toNatClampNeg) 2 ≤ x then 0 else if 160 ≤ x then 0 else 1) = 0 then (0 : Int64) else ml (9, 0, s0.toNatClampNeg) x.toNatClampNeg) = 0 := fun e => by
      rw [e]
      by_cases x0 : x < 0
      · rw [if_pos x0, if_pos rfl]
      · rw [if_neg x0, if_pos (Int32.not_lt.mp x0), if_pos rfl]
    rcases a with ⟨a1, a2, a3, a4, a5⟩ | ⟨a1, a2, a3, a4⟩ | ⟨a1, a2, a3, a4, a5⟩
    · rw [a4, l2, a5, if_pos rfl]
      by_cases x0 : x < 0
      · rw [if_pos x0, if_pos x0, if_pos rfl]
      rw [if_neg x0, if_neg x0]
      by_cases x1 : nI len ≤ x
      · rw [if_pos x1, if_pos x1, if_pos rfl]
      · obtain ⟨v, x2⟩ := el_in x0 x1 l1
        rw [if_neg x1, if_neg x1, if_neg x2, if_neg (by decide), (k_cellin w v).2]
        exact h.2.2.2.2.2.2.2.2.1 _ hb _ (k_clamp v)
    · rw [off a3, a4, if_neg (by decide)]
    · rw [off a2, a5, if_neg (by decide)]
  · rw [shA_no w, if_neg (Nat.lt_irrefl 8), if_pos ((isS_iff s0).mpr w)]
theorem bt3_3 {v : Int32} (h : k_bt 3 v) (h0 : ¬ v = 0) (h1 : ¬ v = 1) (h2 : ¬ v = 2) : v = 3 := by
  obtain ⟨m, hm, rfl⟩ := h
  rcases (show m = 0 ∨ m = 1 ∨ m = 2 ∨ m = 3 by omega) with rfl | rfl | rfl | rfl
  · exact absurd rfl h0
  · exact absurd rfl h1
  · exact absurd rfl h2
  · rfl
theorem q_set {nC nB : Nat} {mi mj : MemI} {ml mlj : MemL} (h : k_R nC nB mi ml mj mlj) (s0 x : Int32) (v : Int64) : k_Q3 nC nB (f_X6_set mi ml s0 x v) (f_X7_set mj mlj s0 x v) := by
  unfold f_X6_set f_X7_set f_X6_noRow
  by_cases w : vp_in s0 8
  · have hb := k_clamp w
    have h6 := h.1.1.1
    rw [shA_eq w, if_pos hb, if_neg (fun z => (isS_iff s0).mp z w)]
    obtain ⟨⟨len, l1, l2⟩, a⟩ := h.2.2.2.2.2.2.2.1 _ hb
    unfold f_X5_hasCitizen f_X5_hasRow
    rcases a with ⟨a1, a2, a3, a4, a5⟩ | ⟨a1, a2, a3, a4⟩ | ⟨a1, a2, a3, a4, a5⟩
    · rw [a3, if_pos rfl, if_pos rfl, a1, if_neg (bt3_ne a2), if_neg (show ¬ (1 : Int32) = 0 by decide), if_pos rfl, if_pos hb, a5, if_neg (show ¬ (1 : Int32) = 2 by decide), if_neg (show ¬ (1 : Int32) = 0 by decide), l2]
      unfold f_X5_put f_X5_hasElement
      rw [a1, a4, l2]
      by_cases x0 : x < 0
      · simp only [if_pos x0, if_true]
        exact Q3_of (Q_no h 5 (by decide) (by decide))
      simp only [if_neg x0]
      by_cases x1 : nI len ≤ x
      · simp only [if_pos x1, if_neg (Int32.not_lt.mpr x1), if_true]
        exact Q3_of (Q_no h 5 (by decide) (by decide))
      · obtain ⟨u, x2⟩ := el_in x0 x1 l1
        have hR : ∀ v : Int64, k_R nC nB mi (k_ul ml (9, 0, s0.toNatClampNeg) x.toNatClampNeg v) mj (k_ul mlj (9, 1, 0) (160 * s0 + x).toNatClampNeg v) := fun v => R_ml h (fun t ht i hi => by
          have hr := h.2.2.2.2.2.2.2.2.1 t ht i hi
          have hx := k_clamp u
          rw [ul_at, ul_at, (k_cellin w u).2]
          by_cases e : t = s0.toNatClampNeg ∧ i = x.toNatClampNeg
          · rw [if_pos ⟨by rw [e.1], e.2⟩, if_pos ⟨rfl, by omega⟩]
          · rw [if_neg (fun z => e ⟨by have := z.1; simp at this; exact this, z.2⟩), if_neg (fun z => e (by have := z.2; omega))]
            exact hr)
        have n1 : ¬ (1 : Int32) = 0 := by decide
        simp only [if_neg x1, if_neg x2, if_pos (Int32.not_le.mp x1), if_neg n1]
        by_cases o0 : mj (8, 19, 0) s0.toNatClampNeg = 0
        · rw [if_pos o0, if_pos o0]; exact Q3_mk rfl (hR _)
        rw [if_neg o0, if_neg o0]
        by_cases o1 : mj (8, 19, 0) s0.toNatClampNeg = 1
        · rw [if_pos o1, if_pos o1]; exact Q3_mk rfl (hR _)
        rw [if_neg o1, if_neg o1]
        by_cases o2 : mj (8, 19, 0) s0.toNatClampNeg = 2
        · rw [if_pos o2, if_pos o2]; exact Q3_mk rfl (hR _)
        rw [if_neg o2, if_neg o2, if_pos (bt3_3 a2 o0 o1 o2)]; exact Q3_mk rfl (hR _)
    · rw [a2, if_pos rfl, if_pos rfl, a1, if_pos rfl, if_pos rfl, if_neg (show ¬ (3 : Int32) = 0 by decide), a4, if_neg (show ¬ (0 : Int32) = 2 by decide), if_pos rfl]
      exact Q3_of (Q_no h 3 (by decide) (by decide))
    · have hn : ¬ mj (8, 21, 0) s0.toNatClampNeg = -1 := by
        obtain ⟨j, hj, e⟩ := vp_in_of a4 (by omega)
        rw [e]; exact k_nIne (by omega)
      rw [a3, if_neg hn, if_neg (show ¬ (1 : Int32) = 0 by decide), if_neg (show ¬ (2 : Int32) = 0 by decide), a5, if_pos rfl]
      exact Q3_of (Q_no h 2 (by decide) (by decide))
  · rw [shA_no w, if_neg (Nat.lt_irrefl 8), if_neg (show ¬ (1 : Int32) = 0 by decide), if_pos ((isS_iff s0).mpr w)]
    exact Q3_of (Q_no h 1 (by decide) (by decide))
