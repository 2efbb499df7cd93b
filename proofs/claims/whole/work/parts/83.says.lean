/-! level 2: says, status -/
theorem k_lt7 {P : Nat → Prop} (h0 : P 0) (h1 : P 1) (h2 : P 2) (h3 : P 3) (h4 : P 4) (h5 : P 5) (h6 : P 6) : ∀ n, n < 7 → P n := by
  intro n hn
  rcases (show n = 0 ∨ n = 1 ∨ n = 2 ∨ n = 3 ∨ n = 4 ∨ n = 5 ∨ n = 6 by omega) with rfl | rfl | rfl | rfl | rfl | rfl | rfl <;> assumption
theorem says_rel {α β : Type} (Q : α → β → Prop) {r : α} {S : Nat → α} {r' F' W' A' L' : β} (hr : Q r r') (s0 : Q (S 0) F') (s1 : Q (S 1) W') (s2 : Q (S 2) A') (s3 : Q (S 3) A') (s4 : Q (S 4) L') (s5 : Q (S 5) L') (s6 : Q (S 6) A') : ∀ a, a < 7 → ∀ b, b < 7 → Q (if f_X6_isUnder (nI a) (nI b) = 0 then r else S b) (if nI b = 2 then if nI a = 3 then if nI b = nI a then A' else A' else if nI a = 6 then if nI b = nI a then A' else A' else if nI b = nI a then A' else r' else if nI b = 3 then if nI a = 6 then if nI b = nI a then A' else A' else if nI b = nI a then A' else r' else if nI b = 4 then if nI a = 5 then if nI b = nI a then L' else L' else if nI b = nI a then L' else r' else if nI b = 0 then F' else if nI b = nI a then if nI b = 0 then F' else if nI b = 1 then W' else if nI b = 2 then A' else if nI b = 3 then A' else if nI b = 4 then L' else if nI b = 5 then L' else A' else r') := by
  refine k_lt7 ?_ ?_ ?_ ?_ ?_ ?_ ?_ <;> refine k_lt7 ?_ ?_ ?_ ?_ ?_ ?_ ?_ <;> first | exact hr | exact s0 | exact s1 | exact s2 | exact s3 | exact s4 | exact s5 | exact s6
theorem q_says {nC nB : Nat} {mi mj : MemI} {ml mlj : MemL} (h : k_R nC nB mi ml mj mlj) (s0 kd : Int32) : k_Q nC nB (f_X6_says mi s0 kd) ml (f_X7_says mj s0 kd) mlj := by
  unfold f_X6_says f_X7_says
  by_cases w : vp_in s0 8
  · have hb := k_clamp w
    rw [shA_eq w, if_pos hb, if_neg (fun z => (isS_iff s0).mp z w)]
    obtain ⟨-, sh⟩ := h.2.2.2.2.2.2.2.1 _ hb
    by_cases k0 : kd < 0
    · rw [if_pos k0, if_pos k0]; exact Q_no h 1 (by decide) (by decide)
    rw [if_neg k0, if_neg k0]
    by_cases k6 : kd ≤ 6
    · have k7 : kd < 7 := Int32.lt_of_le_of_lt k6 (by decide)
      rw [if_pos k7, if_pos k6]
      unfold f_X5_hasRow
      rcases sh with ⟨a1, a2, a3, a4, a5⟩ | ⟨a1, a2, a3, a4⟩ | ⟨a1, a2, a3, a4, a5⟩
      · rw [a1, if_neg (bt3_ne a2), if_neg (show ¬ (1 : Int32) = 0 by decide), a5, if_pos rfl]
        exact Q_no h 2 (by decide) (by decide)
      · have hm : ¬ vp_in (-1 : Int32) nC := fun z => z (Or.inl (by decide))
        rw [a1, if_pos rfl, if_pos rfl, a2, cA_no h.1 hm, if_neg (Nat.lt_irrefl 6), a4, if_neg (show ¬ (0 : Int32) = 1 by decide), if_pos rfl]
        exact Q_no h 3 (by decide) (by decide)
      · have hc := k_clamp a4
        have h6 := h.1.1.1
        obtain ⟨hcz, -, ⟨a, ha, ea⟩, -⟩ := h.1.2.2.2.2.1 _ hc
        have hf := k_face hcz (by omega)
        rw [← k_nat a4] at hf
        obtain ⟨-, c2, c3, c4, c5, c6, c7, c8⟩ := hcz
        rw [a1, if_pos rfl, if_pos rfl, a3, cA_eq h.1 a4, if_pos (show (mj (8, 21, 0) s0.toNatClampNeg).toNatClampNeg < 6 by omega), a5, if_neg (show ¬ (2 : Int32) = 1 by decide), if_neg (show ¬ (2 : Int32) = 0 by decide), c3, ea]
        obtain ⟨b, hb2, rfl⟩ := bt_of k0 k6 (n := 6) rfl (by decide)
        have S := says_rel (fun X Y => k_Q nC nB X ml Y mlj) (r := ((f_X6_refuse mi 0 2).1, (f_X6_refuse mi 0 2).2)) (S := fun b => (f_X1_saysAs mi 0 (mj (8, 21, 0) s0.toNatClampNeg).toNatClampNeg (nI b), mi)) (r' := ((f_X7_no mj (-2)).1, (f_X7_no mj (-2)).2)) (F' := (f_X7_face mj (mj (8, 21, 0) s0.toNatClampNeg), mj)) (W' := (mj (8, 10, 0) (mj (8, 21, 0) s0.toNatClampNeg).toNatClampNeg, mj)) (A' := (mj (8, 7, 0) (mj (8, 21, 0) s0.toNatClampNeg).toNatClampNeg, mj)) (L' := (mj (8, 11, 0) (mj (8, 21, 0) s0.toNatClampNeg).toNatClampNeg, mj)) (Q_no h 2 (by decide) (by decide))
          (Q_mk hf h) (Q_mk c7 h) (Q_mk c4 h) (Q_mk c4 h) (Q_mk c8 h) (Q_mk c8 h) (Q_mk c4 h) a (by omega) b (by omega)
        exact S
    · have k7 : ¬ kd < 7 := fun z => k6 (by
        have h1 := Int32.lt_iff_toInt_lt.mp z
        have e7 : (7 : Int32).toInt = 7 := rfl
        have e6 : (6 : Int32).toInt = 6 := rfl
        exact Int32.le_iff_toInt_le.mpr (by omega))
      rw [if_neg k7, if_neg k6]; exact Q_no h 1 (by decide) (by decide)
  · rw [shA_no w, if_neg (Nat.lt_irrefl 8), if_pos ((isS_iff s0).mpr w)]
    exact Q_no h 1 (by decide) (by decide)
