/-! level 2: status -/
theorem k_sub6 : ∀ a, a < 7 → ∀ b, b < 7 → b ≤ a → nI a - nI b = nI (a - b) := by decide +kernel
theorem k_inc6 : ∀ a, a < 7 → nI a + 1 = nI (a + 1) := by decide +kernel
theorem st_wear {nC nB : Nat} {mi mj : MemI} (h : k_CR 0 nC nB mi mj) : f_X2_wearTogether mi 0 6 = f_X7_toL mj 10 nC := by
  rw [k_tail6 h.1.1 (f := f_X2_wearTogether mi 0) (fun j h1 h2 => by rw [f_X2_wearTogether, if_pos (h.2.2.2.2.2.1 j h1 h2)])]
  have e : ∀ j, j ≤ nC → f_X2_wearTogether mi 0 j = f_X7_toL mj 10 j := by
    intro j
    induction j with
    | zero => intro _; rfl
    | succ j ih =>
      intro hj
      obtain ⟨⟨c1, -, -, -, -, -, c7, -⟩, -⟩ := h.2.2.2.2.1 j (by omega)
      rw [f_X2_wearTogether, f_X7_toL, if_neg (show ¬ mi (1, 0, j) 1 = 0 by rw [c1]; decide), ih (by omega), c7]
  exact e nC (Nat.le_refl _)
theorem st_hunger {nC nB : Nat} {mi mj : MemI} (h : k_CR 0 nC nB mi mj) : f_X2_hungerTogether mi 0 6 = f_X7_toL mj 16 nB := by
  rw [k_tail6 h.1.2 (f := f_X2_hungerTogether mi 0) (fun j h1 h2 => by rw [f_X2_hungerTogether, if_pos (h.2.2.2.2.2.2.2.1 j h1 h2)])]
  have e : ∀ j, j ≤ nB → f_X2_hungerTogether mi 0 j = f_X7_toL mj 16 j := by
    intro j
    induction j with
    | zero => intro _; rfl
    | succ j ih =>
      intro hj
      obtain ⟨⟨c1, -, -, -, -, c6⟩, -⟩ := h.2.2.2.2.2.2.1 j (by omega)
      rw [f_X2_hungerTogether, f_X7_toL, if_neg (show ¬ mi (0, 0, j) 1 = 0 by rw [c1]; decide), ih (by omega), c6]
  exact e nB (Nat.le_refl _)
theorem st_hid {nC nB : Nat} {mi mj : MemI} (h : k_CR 0 nC nB mi mj) : f_X2_countHidden mi 0 = f_X7_toL mj 12 nC := by
  have h6 := h.1.1
  have e : ∀ j, j ≤ nC → f_X2_countOpen mi 0 j ≤ j ∧ f_X7_toL mj 12 j = nI (j - f_X2_countOpen mi 0 j) := by
    intro j
    induction j with
    | zero => intro _; exact ⟨Nat.le_refl _, rfl⟩
    | succ j ih =>
      intro hj
      obtain ⟨i1, i2⟩ := ih (by omega)
      have hc := CR_open h (i := j) (by omega)
      rw [f_X2_countOpen, f_X7_toL, i2]
      rcases bt_01 (h.2.2.2.2.1 j (by omega)).2.1 with q | q
      · rw [q, if_neg (fun z => by have := hc.mp z; rw [q] at this; exact absurd this (by decide)), Int32.add_zero]
        exact ⟨by omega, by congr 1; omega⟩
      · rw [if_pos (hc.mpr q), q, k_inc6 _ (by omega)]
        exact ⟨by omega, by congr 1; omega⟩
  obtain ⟨e1, e2⟩ := e nC (Nat.le_refl _)
  unfold f_X2_countHidden
  rw [k_tail6 h.1.1 (f := f_X2_countOpen mi 0) (fun j h1 h2 => by rw [f_X2_countOpen, if_pos (CR_shut h h1 h2)]), h.2.1.1, e2, k_sub6 _ (by omega) _ (by omega) e1]
theorem st_post {nC nB : Nat} {mi mj : MemI} (h : k_CR 0 nC nB mi mj) : f_X2_countPosts mi 0 = f_X7_toL mj 17 nB := by
  have h6 := h.1.2
  have e : ∀ j, j ≤ nB → f_X2_countComing mi 0 j ≤ j ∧ f_X7_toL mj 17 j = nI (j - f_X2_countComing mi 0 j) := by
    intro j
    induction j with
    | zero => intro _; exact ⟨Nat.le_refl _, rfl⟩
    | succ j ih =>
      intro hj
      obtain ⟨i1, i2⟩ := ih (by omega)
      have hc := CR_comes h (b := j) (by omega)
      rw [f_X2_countComing, f_X7_toL, i2]
      rcases bt_01 (h.2.2.2.2.2.2.1 j (by omega)).2.1 with q | q
      · rw [q, if_neg (fun z => by have := hc.mp z; rw [q] at this; exact absurd this (by decide)), Int32.add_zero]
        exact ⟨by omega, by congr 1; omega⟩
      · rw [if_pos (hc.mpr q), q, k_inc6 _ (by omega)]
        exact ⟨by omega, by congr 1; omega⟩
  obtain ⟨e1, e2⟩ := e nB (Nat.le_refl _)
  unfold f_X2_countPosts
  rw [k_tail6 h.1.2 (f := f_X2_countComing mi 0) (fun j h1 h2 => by rw [f_X2_countComing, if_pos (CR_away h h1 h2)]), h.2.1.2.1, e2, k_sub6 _ (by omega) _ (by omega) e1]
theorem st_low {nC nB : Nat} {mi mj : MemI} {ml mlj : MemL} (h : k_R nC nB mi ml mj mlj) (w : Int32) : (if w = 0 then mi (2, 0, 0) 2 else if w = 1 then mi (2, 0, 0) 3 else if w = 2 then mi (2, 0, 0) 4 else if w = 3 then f_X2_wearTogether mi 0 6 else if w = 4 then f_X2_hungerTogether mi 0 6 else if w = 5 then f_X2_countHidden mi 0 else if w = 6 then f_X2_countPosts mi 0 else if w = 7 then mi (2, 0, 0) 5 else if w = 8 then mi (3, 0, 0) 1 else -1) = (if w = 0 then nI nC else if w = 1 then nI nB else if w = 2 then mj (7, 0, 0) 2 else if w = 3 then f_X7_together mj 10 nC else if w = 4 then f_X7_together mj 16 nB else if w = 5 then f_X7_together mj 12 nC else if w = 6 then f_X7_together mj 17 nB else if w = 7 then mj (7, 0, 0) 3 else if w = 8 then mj (7, 0, 0) 51 else -1) := by
  obtain ⟨r, -, t1, t2, -⟩ := h.2.2.2.2.2.2.1
  unfold f_X7_together
  rw [h.1.2.1.1, h.1.2.1.2.1, h.1.2.2.1.1, h.1.2.2.1.2, st_wear h.1, st_hunger h.1, st_hid h.1, st_post h.1, t1, t2]
theorem q_status {nC nB : Nat} {mi mj : MemI} {ml mlj : MemL} (h : k_R nC nB mi ml mj mlj) (w : Int32) : f_X6_status mi w = f_X7_status mj w nC nB := by
  unfold f_X6_status f_X7_status
  have e10 : (10 : Int32).toInt = 10 := rfl
  have e11 : (11 : Int32).toInt = 11 := rfl
  have e17 : (17 : Int32).toInt = 17 := rfl
  have e8 : (8 : Int32).toInt = 8 := rfl
  by_cases a : w ≤ 10
  · rw [if_pos a, if_pos (Int32.lt_of_le_of_lt a (by decide)), st_low h w]
  · have a2 : ¬ w < 11 := fun z => a (Int32.le_iff_toInt_le.mpr (by have := Int32.lt_iff_toInt_lt.mp z; omega))
    rw [if_neg a, if_neg a2, st_low h w]
    have lo : 10 < w.toInt := by
      have := Int32.lt_iff_toInt_lt.mp (Int32.not_le.mp a)
      omega
    have hi : w.toInt < 2 ^ 31 := w.toInt_lt
    have es : (w - 10).toInt = w.toInt - 10 := by
      rw [Int32.toInt_sub, e10]
      exact Int.bmod_eq_of_le (by omega) (by omega)
    by_cases b : 8 ≤ w - 10
    · have b2 : 17 < w := Int32.lt_iff_toInt_lt.mpr (by have := Int32.le_iff_toInt_le.mp b; omega)
      rw [if_pos b, if_pos b2]
    · have b2 : ¬ 17 < w := fun z => b (Int32.le_iff_toInt_le.mpr (by have := Int32.lt_iff_toInt_lt.mp z; omega))
      rw [if_neg b, if_neg b2]
      have l2 : (w - 10).toInt < 8 := by
        have := Int32.lt_iff_toInt_lt.mp (Int32.not_le.mp b)
        omega
      exact h.2.2.2.2.1 _ (by show 1 ≤ (w - 10).toInt.toNat; omega) (by show (w - 10).toInt.toNat < 8; omega)
