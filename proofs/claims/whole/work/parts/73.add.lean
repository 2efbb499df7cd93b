/-! level 2: one more citizen, one more beggar -/
theorem adC_cl {mi : MemI} {g n : Nat} {k a ms h : Int32} (e : mi (2, g, 0) 2 = nI n) (hn : n < 6) : f_X2_addCitizen mi g k a ms h = (nI n, k_ui (f_X1_arrive mi g n k a ms h) (2, g, 0) 2 (nI (n + 1))) := by
  unfold f_X2_addCitizen
  rw [e, if_neg (nI_pos (by omega)), if_pos (show nI n < 6 from nI_lt (b := 6) hn (by decide)), nI_clamp (by omega), nI_succ]
  have : f_X1_arrive mi g n k a ms h (2, g, 0) 2 = nI n := by
    unfold f_X1_arrive
    repeat rw [k_uk k_ne21]
    exact e
  rw [this]
theorem adB_cl {mi : MemI} {g n : Nat} {k r : Int32} (e : mi (2, g, 0) 3 = nI n) (hn : n < 6) : f_X2_addBeggar mi g k r = (nI n, k_ui (f_X0_arrive mi g n k r) (2, g, 0) 3 (nI (n + 1))) := by
  unfold f_X2_addBeggar
  rw [e, if_neg (nI_pos (by omega)), if_pos (show nI n < 6 from nI_lt (b := 6) hn (by decide)), nI_clamp (by omega), nI_succ]
  have : f_X0_arrive mi g n k r (2, g, 0) 3 = nI n := by
    unfold f_X0_arrive
    repeat rw [k_uk k_ne20]
    exact e
  rw [this]
theorem addC_CR {g nC nB : Nat} {mi mj : MemI} {k a ms hh : Int32} (h : k_CR g nC nB mi mj) (h6 : nC < 6) (r1 : k_bt 6 k) (r2 : k_bt 9 a) (r3 : k_bt 99 ms) (r4 : k_bt 20 hh) :
    (f_X2_addCitizen mi g k a ms hh).1 = (f_X7_addsCitizen mj k a ms hh).1 ∧ k_CR g (nC + 1) nB (f_X2_addCitizen mi g k a ms hh).2 (f_X7_addsCitizen mj k a ms hh).2 := by
  obtain ⟨⟨a1, a2⟩, ⟨b1, b2, b3, b4⟩, ⟨c1, c2⟩, d, e, f, p, r, z⟩ := h
  rw [adC_cl b1 h6, adC_eq b3 (by omega)]
  refine ⟨rfl, ?_⟩
  dsimp only
  unfold f_X1_arrive
  have hne : ∀ i, i ≠ nC → ((1, g, i) : Ky) ≠ (1, g, nC) := fun i hi => by simp [hi]
  refine ⟨⟨by omega, a2⟩, ⟨?_, ?_, ?_, ?_⟩, ⟨?_, ?_⟩, fun i hi => ?_, fun i hi => ?_, fun i hi hi6 => ?_, fun i hi => ?_, fun i hi hi6 => ?_, fun i hi => ?_⟩
  · rw [k_uis]
  · rw [k_uj (by decide)]; repeat rw [k_uk k_ne21]
    exact b2
  · rw [k_uis]
  · rw [k_uj (by decide)]; simp only [k_uk (show ((7, 0, 0) : Ky) ≠ (8, 6, 0) by decide), k_uk (show ((7, 0, 0) : Ky) ≠ (8, 7, 0) by decide), k_uk (show ((7, 0, 0) : Ky) ≠ (8, 8, 0) by decide), k_uk (show ((7, 0, 0) : Ky) ≠ (8, 9, 0) by decide), k_uk (show ((7, 0, 0) : Ky) ≠ (8, 10, 0) by decide), k_uk (show ((7, 0, 0) : Ky) ≠ (8, 11, 0) by decide), k_uk (show ((7, 0, 0) : Ky) ≠ (8, 12, 0) by decide)]; exact b4
  · rw [k_uj (by decide), k_uj (by decide)]; repeat rw [k_uk k_ne21]
    simp only [k_uk (show ((7, 0, 0) : Ky) ≠ (8, 6, 0) by decide), k_uk (show ((7, 0, 0) : Ky) ≠ (8, 7, 0) by decide), k_uk (show ((7, 0, 0) : Ky) ≠ (8, 8, 0) by decide), k_uk (show ((7, 0, 0) : Ky) ≠ (8, 9, 0) by decide), k_uk (show ((7, 0, 0) : Ky) ≠ (8, 10, 0) by decide), k_uk (show ((7, 0, 0) : Ky) ≠ (8, 11, 0) by decide), k_uk (show ((7, 0, 0) : Ky) ≠ (8, 12, 0) by decide)]; exact c1
  · rw [k_uj (by decide), k_uj (by decide)]; repeat rw [k_uk k_ne21]
    simp only [k_uk (show ((7, 0, 0) : Ky) ≠ (8, 6, 0) by decide), k_uk (show ((7, 0, 0) : Ky) ≠ (8, 7, 0) by decide), k_uk (show ((7, 0, 0) : Ky) ≠ (8, 8, 0) by decide), k_uk (show ((7, 0, 0) : Ky) ≠ (8, 9, 0) by decide), k_uk (show ((7, 0, 0) : Ky) ≠ (8, 10, 0) by decide), k_uk (show ((7, 0, 0) : Ky) ≠ (8, 11, 0) by decide), k_uk (show ((7, 0, 0) : Ky) ≠ (8, 12, 0) by decide)]; exact c2
  · rw [k_uk k_ne12, k_uk k_ne02]; repeat rw [k_uk k_ne01]
    by_cases w : i = nC
    · subst w; repeat rw [k_uj (by decide)]
      exact d i hi
    · repeat rw [k_uk (hne i w)]
      exact d i hi
  · by_cases w : i = nC
    · subst w
      unfold k_cz k_cr
      simp only [k_uk k_ne12, k_uk (show ((8, 6, 0) : Ky) ≠ (7, 0, 0) by decide), k_uk (show ((8, 7, 0) : Ky) ≠ (7, 0, 0) by decide), k_uk (show ((8, 8, 0) : Ky) ≠ (7, 0, 0) by decide), k_uk (show ((8, 9, 0) : Ky) ≠ (7, 0, 0) by decide), k_uk (show ((8, 10, 0) : Ky) ≠ (7, 0, 0) by decide), k_uk (show ((8, 11, 0) : Ky) ≠ (7, 0, 0) by decide), k_uk (show ((8, 12, 0) : Ky) ≠ (7, 0, 0) by decide), k_uk (show ((8, 6, 0) : Ky) ≠ (8, 7, 0) by decide), k_uk (show ((8, 6, 0) : Ky) ≠ (8, 8, 0) by decide), k_uk (show ((8, 6, 0) : Ky) ≠ (8, 9, 0) by decide), k_uk (show ((8, 6, 0) : Ky) ≠ (8, 10, 0) by decide), k_uk (show ((8, 6, 0) : Ky) ≠ (8, 11, 0) by decide), k_uk (show ((8, 6, 0) : Ky) ≠ (8, 12, 0) by decide), k_uk (show ((8, 7, 0) : Ky) ≠ (8, 6, 0) by decide), k_uk (show ((8, 7, 0) : Ky) ≠ (8, 8, 0) by decide), k_uk (show ((8, 7, 0) : Ky) ≠ (8, 9, 0) by decide), k_uk (show ((8, 7, 0) : Ky) ≠ (8, 10, 0) by decide), k_uk (show ((8, 7, 0) : Ky) ≠ (8, 11, 0) by decide), k_uk (show ((8, 7, 0) : Ky) ≠ (8, 12, 0) by decide), k_uk (show ((8, 8, 0) : Ky) ≠ (8, 6, 0) by decide), k_uk (show ((8, 8, 0) : Ky) ≠ (8, 7, 0) by decide), k_uk (show ((8, 8, 0) : Ky) ≠ (8, 9, 0) by decide), k_uk (show ((8, 8, 0) : Ky) ≠ (8, 10, 0) by decide), k_uk (show ((8, 8, 0) : Ky) ≠ (8, 11, 0) by decide), k_uk (show ((8, 8, 0) : Ky) ≠ (8, 12, 0) by decide), k_uk (show ((8, 9, 0) : Ky) ≠ (8, 6, 0) by decide), k_uk (show ((8, 9, 0) : Ky) ≠ (8, 7, 0) by decide), k_uk (show ((8, 9, 0) : Ky) ≠ (8, 8, 0) by decide), k_uk (show ((8, 9, 0) : Ky) ≠ (8, 10, 0) by decide), k_uk (show ((8, 9, 0) : Ky) ≠ (8, 11, 0) by decide), k_uk (show ((8, 9, 0) : Ky) ≠ (8, 12, 0) by decide), k_uk (show ((8, 10, 0) : Ky) ≠ (8, 6, 0) by decide), k_uk (show ((8, 10, 0) : Ky) ≠ (8, 7, 0) by decide), k_uk (show ((8, 10, 0) : Ky) ≠ (8, 8, 0) by decide), k_uk (show ((8, 10, 0) : Ky) ≠ (8, 9, 0) by decide), k_uk (show ((8, 10, 0) : Ky) ≠ (8, 11, 0) by decide), k_uk (show ((8, 10, 0) : Ky) ≠ (8, 12, 0) by decide), k_uk (show ((8, 11, 0) : Ky) ≠ (8, 6, 0) by decide), k_uk (show ((8, 11, 0) : Ky) ≠ (8, 7, 0) by decide), k_uk (show ((8, 11, 0) : Ky) ≠ (8, 8, 0) by decide), k_uk (show ((8, 11, 0) : Ky) ≠ (8, 9, 0) by decide), k_uk (show ((8, 11, 0) : Ky) ≠ (8, 10, 0) by decide), k_uk (show ((8, 11, 0) : Ky) ≠ (8, 12, 0) by decide), k_uk (show ((8, 12, 0) : Ky) ≠ (8, 6, 0) by decide), k_uk (show ((8, 12, 0) : Ky) ≠ (8, 7, 0) by decide), k_uk (show ((8, 12, 0) : Ky) ≠ (8, 8, 0) by decide), k_uk (show ((8, 12, 0) : Ky) ≠ (8, 9, 0) by decide), k_uk (show ((8, 12, 0) : Ky) ≠ (8, 10, 0) by decide), k_uk (show ((8, 12, 0) : Ky) ≠ (8, 11, 0) by decide), k_uis]
      refine ⟨⟨?_, ?_, ?_, ?_, ?_, ?_, ?_, ?_⟩, ⟨0, by decide, rfl⟩, r1, r2, r3, r4, ⟨0, by decide, rfl⟩, ⟨0, by decide, rfl⟩⟩
      all_goals first | trivial | (repeat first | rw [k_uj (by decide)] | rw [k_uis])
    · have he := e i (by omega)
      unfold k_cz k_cr at he ⊢
      simp only [k_uk k_ne12, k_uk (hne i w), k_uk (show ((8, 6, 0) : Ky) ≠ (7, 0, 0) by decide), k_uk (show ((8, 7, 0) : Ky) ≠ (7, 0, 0) by decide), k_uk (show ((8, 8, 0) : Ky) ≠ (7, 0, 0) by decide), k_uk (show ((8, 9, 0) : Ky) ≠ (7, 0, 0) by decide), k_uk (show ((8, 10, 0) : Ky) ≠ (7, 0, 0) by decide), k_uk (show ((8, 11, 0) : Ky) ≠ (7, 0, 0) by decide), k_uk (show ((8, 12, 0) : Ky) ≠ (7, 0, 0) by decide), k_uk (show ((8, 6, 0) : Ky) ≠ (8, 7, 0) by decide), k_uk (show ((8, 6, 0) : Ky) ≠ (8, 8, 0) by decide), k_uk (show ((8, 6, 0) : Ky) ≠ (8, 9, 0) by decide), k_uk (show ((8, 6, 0) : Ky) ≠ (8, 10, 0) by decide), k_uk (show ((8, 6, 0) : Ky) ≠ (8, 11, 0) by decide), k_uk (show ((8, 6, 0) : Ky) ≠ (8, 12, 0) by decide), k_uk (show ((8, 7, 0) : Ky) ≠ (8, 6, 0) by decide), k_uk (show ((8, 7, 0) : Ky) ≠ (8, 8, 0) by decide), k_uk (show ((8, 7, 0) : Ky) ≠ (8, 9, 0) by decide), k_uk (show ((8, 7, 0) : Ky) ≠ (8, 10, 0) by decide), k_uk (show ((8, 7, 0) : Ky) ≠ (8, 11, 0) by decide), k_uk (show ((8, 7, 0) : Ky) ≠ (8, 12, 0) by decide), k_uk (show ((8, 8, 0) : Ky) ≠ (8, 6, 0) by decide), k_uk (show ((8, 8, 0) : Ky) ≠ (8, 7, 0) by decide), k_uk (show ((8, 8, 0) : Ky) ≠ (8, 9, 0) by decide), k_uk (show ((8, 8, 0) : Ky) ≠ (8, 10, 0) by decide), k_uk (show ((8, 8, 0) : Ky) ≠ (8, 11, 0) by decide), k_uk (show ((8, 8, 0) : Ky) ≠ (8, 12, 0) by decide), k_uk (show ((8, 9, 0) : Ky) ≠ (8, 6, 0) by decide), k_uk (show ((8, 9, 0) : Ky) ≠ (8, 7, 0) by decide), k_uk (show ((8, 9, 0) : Ky) ≠ (8, 8, 0) by decide), k_uk (show ((8, 9, 0) : Ky) ≠ (8, 10, 0) by decide), k_uk (show ((8, 9, 0) : Ky) ≠ (8, 11, 0) by decide), k_uk (show ((8, 9, 0) : Ky) ≠ (8, 12, 0) by decide), k_uk (show ((8, 10, 0) : Ky) ≠ (8, 6, 0) by decide), k_uk (show ((8, 10, 0) : Ky) ≠ (8, 7, 0) by decide), k_uk (show ((8, 10, 0) : Ky) ≠ (8, 8, 0) by decide), k_uk (show ((8, 10, 0) : Ky) ≠ (8, 9, 0) by decide), k_uk (show ((8, 10, 0) : Ky) ≠ (8, 11, 0) by decide), k_uk (show ((8, 10, 0) : Ky) ≠ (8, 12, 0) by decide), k_uk (show ((8, 11, 0) : Ky) ≠ (8, 6, 0) by decide), k_uk (show ((8, 11, 0) : Ky) ≠ (8, 7, 0) by decide), k_uk (show ((8, 11, 0) : Ky) ≠ (8, 8, 0) by decide), k_uk (show ((8, 11, 0) : Ky) ≠ (8, 9, 0) by decide), k_uk (show ((8, 11, 0) : Ky) ≠ (8, 10, 0) by decide), k_uk (show ((8, 11, 0) : Ky) ≠ (8, 12, 0) by decide), k_uk (show ((8, 12, 0) : Ky) ≠ (8, 6, 0) by decide), k_uk (show ((8, 12, 0) : Ky) ≠ (8, 7, 0) by decide), k_uk (show ((8, 12, 0) : Ky) ≠ (8, 8, 0) by decide), k_uk (show ((8, 12, 0) : Ky) ≠ (8, 9, 0) by decide), k_uk (show ((8, 12, 0) : Ky) ≠ (8, 10, 0) by decide), k_uk (show ((8, 12, 0) : Ky) ≠ (8, 11, 0) by decide), k_uj (k := (8, 6, 0)) w, k_uj (k := (8, 7, 0)) w, k_uj (k := (8, 8, 0)) w, k_uj (k := (8, 9, 0)) w, k_uj (k := (8, 10, 0)) w, k_uj (k := (8, 11, 0)) w, k_uj (k := (8, 12, 0)) w]
      exact he
  · rw [k_uk k_ne12]
    repeat rw [k_uk (hne i (by omega))]
    exact f i (by omega) hi6
  · have he := p i hi
    unfold k_bz k_br at he ⊢
    simp only [k_uk k_ne02, k_uk k_ne01, k_uk (show ((8, 13, 0) : Ky) ≠ (7, 0, 0) by decide), k_uk (show ((8, 14, 0) : Ky) ≠ (7, 0, 0) by decide), k_uk (show ((8, 15, 0) : Ky) ≠ (7, 0, 0) by decide), k_uk (show ((8, 16, 0) : Ky) ≠ (7, 0, 0) by decide), k_uk (show ((8, 17, 0) : Ky) ≠ (7, 0, 0) by decide), k_uk (show ((8, 13, 0) : Ky) ≠ (8, 6, 0) by decide), k_uk (show ((8, 13, 0) : Ky) ≠ (8, 7, 0) by decide), k_uk (show ((8, 13, 0) : Ky) ≠ (8, 8, 0) by decide), k_uk (show ((8, 13, 0) : Ky) ≠ (8, 9, 0) by decide), k_uk (show ((8, 13, 0) : Ky) ≠ (8, 10, 0) by decide), k_uk (show ((8, 13, 0) : Ky) ≠ (8, 11, 0) by decide), k_uk (show ((8, 13, 0) : Ky) ≠ (8, 12, 0) by decide), k_uk (show ((8, 14, 0) : Ky) ≠ (8, 6, 0) by decide), k_uk (show ((8, 14, 0) : Ky) ≠ (8, 7, 0) by decide), k_uk (show ((8, 14, 0) : Ky) ≠ (8, 8, 0) by decide), k_uk (show ((8, 14, 0) : Ky) ≠ (8, 9, 0) by decide), k_uk (show ((8, 14, 0) : Ky) ≠ (8, 10, 0) by decide), k_uk (show ((8, 14, 0) : Ky) ≠ (8, 11, 0) by decide), k_uk (show ((8, 14, 0) : Ky) ≠ (8, 12, 0) by decide), k_uk (show ((8, 15, 0) : Ky) ≠ (8, 6, 0) by decide), k_uk (show ((8, 15, 0) : Ky) ≠ (8, 7, 0) by decide), k_uk (show ((8, 15, 0) : Ky) ≠ (8, 8, 0) by decide), k_uk (show ((8, 15, 0) : Ky) ≠ (8, 9, 0) by decide), k_uk (show ((8, 15, 0) : Ky) ≠ (8, 10, 0) by decide), k_uk (show ((8, 15, 0) : Ky) ≠ (8, 11, 0) by decide), k_uk (show ((8, 15, 0) : Ky) ≠ (8, 12, 0) by decide), k_uk (show ((8, 16, 0) : Ky) ≠ (8, 6, 0) by decide), k_uk (show ((8, 16, 0) : Ky) ≠ (8, 7, 0) by decide), k_uk (show ((8, 16, 0) : Ky) ≠ (8, 8, 0) by decide), k_uk (show ((8, 16, 0) : Ky) ≠ (8, 9, 0) by decide), k_uk (show ((8, 16, 0) : Ky) ≠ (8, 10, 0) by decide), k_uk (show ((8, 16, 0) : Ky) ≠ (8, 11, 0) by decide), k_uk (show ((8, 16, 0) : Ky) ≠ (8, 12, 0) by decide), k_uk (show ((8, 17, 0) : Ky) ≠ (8, 6, 0) by decide), k_uk (show ((8, 17, 0) : Ky) ≠ (8, 7, 0) by decide), k_uk (show ((8, 17, 0) : Ky) ≠ (8, 8, 0) by decide), k_uk (show ((8, 17, 0) : Ky) ≠ (8, 9, 0) by decide), k_uk (show ((8, 17, 0) : Ky) ≠ (8, 10, 0) by decide), k_uk (show ((8, 17, 0) : Ky) ≠ (8, 11, 0) by decide), k_uk (show ((8, 17, 0) : Ky) ≠ (8, 12, 0) by decide)]
    obtain ⟨x1, y1, y2, y3, y4, y5⟩ := he
    exact ⟨x1, y1, y2, y3, y4.imp id (fun q => vp_mono q (by omega)), y5⟩
  · rw [k_uk k_ne02]; repeat rw [k_uk k_ne01]
    exact r i hi hi6
  · rw [k_uk k_ne12, k_uk k_ne02]; repeat rw [k_uk k_ne01]
    by_cases w : i = nC
    · subst w
      repeat first | rw [k_uj (by decide)] | rw [k_uis]
      exact ⟨Or.inl rfl, (z i hi).2⟩
    · repeat rw [k_uk (hne i w)]
      exact z i hi
theorem addB_CR {g nC nB : Nat} {mi mj : MemI} {k rr : Int32} (h : k_CR g nC nB mi mj) (h6 : nB < 6) (r1 : ∃ m : Nat, 1 ≤ m ∧ m ≤ 9 ∧ k = nI m) (r2 : k_bt 4 rr) :
    (f_X2_addBeggar mi g k rr).1 = (f_X7_addsBeggar mj k rr).1 ∧ k_CR g nC (nB + 1) (f_X2_addBeggar mi g k rr).2 (f_X7_addsBeggar mj k rr).2 := by
  obtain ⟨⟨a1, a2⟩, ⟨b1, b2, b3, b4⟩, ⟨c1, c2⟩, d, e, f, p, r, z⟩ := h
  rw [adB_cl b2 h6, adB_eq b4 (by omega)]
  refine ⟨rfl, ?_⟩
  dsimp only
  unfold f_X0_arrive
  have hne : ∀ i, i ≠ nB → ((0, g, i) : Ky) ≠ (0, g, nB) := fun i hi => by simp [hi]
  refine ⟨⟨a1, by omega⟩, ⟨?_, ?_, ?_, ?_⟩, ⟨?_, ?_⟩, fun i hi => ?_, fun i hi => ?_, fun i hi hi6 => ?_, fun i hi => ?_, fun i hi hi6 => ?_, fun i hi => ?_⟩
  · rw [k_uj (by decide)]; repeat rw [k_uk k_ne20]
    exact b1
  · rw [k_uis]
  · rw [k_uj (by decide)]; simp only [k_uk (show ((7, 0, 0) : Ky) ≠ (8, 13, 0) by decide), k_uk (show ((7, 0, 0) : Ky) ≠ (8, 14, 0) by decide), k_uk (show ((7, 0, 0) : Ky) ≠ (8, 15, 0) by decide), k_uk (show ((7, 0, 0) : Ky) ≠ (8, 16, 0) by decide), k_uk (show ((7, 0, 0) : Ky) ≠ (8, 17, 0) by decide)]; exact b3
  · rw [k_uis]
  · rw [k_uj (by decide), k_uj (by decide)]; repeat rw [k_uk k_ne20]
    simp only [k_uk (show ((7, 0, 0) : Ky) ≠ (8, 13, 0) by decide), k_uk (show ((7, 0, 0) : Ky) ≠ (8, 14, 0) by decide), k_uk (show ((7, 0, 0) : Ky) ≠ (8, 15, 0) by decide), k_uk (show ((7, 0, 0) : Ky) ≠ (8, 16, 0) by decide), k_uk (show ((7, 0, 0) : Ky) ≠ (8, 17, 0) by decide)]; exact c1
  · rw [k_uj (by decide), k_uj (by decide)]; repeat rw [k_uk k_ne20]
    simp only [k_uk (show ((7, 0, 0) : Ky) ≠ (8, 13, 0) by decide), k_uk (show ((7, 0, 0) : Ky) ≠ (8, 14, 0) by decide), k_uk (show ((7, 0, 0) : Ky) ≠ (8, 15, 0) by decide), k_uk (show ((7, 0, 0) : Ky) ≠ (8, 16, 0) by decide), k_uk (show ((7, 0, 0) : Ky) ≠ (8, 17, 0) by decide)]; exact c2
  · rw [k_uk k_ne12, k_uk k_ne02]; repeat rw [k_uk k_ne10]
    by_cases w : i = nB
    · subst w; repeat rw [k_uj (by decide)]
      exact d i hi
    · repeat rw [k_uk (hne i w)]
      exact d i hi
  · have he := e i hi
    unfold k_cz k_cr at he ⊢
    simp only [k_uk k_ne12, k_uk k_ne10, k_uk (show ((8, 6, 0) : Ky) ≠ (7, 0, 0) by decide), k_uk (show ((8, 7, 0) : Ky) ≠ (7, 0, 0) by decide), k_uk (show ((8, 8, 0) : Ky) ≠ (7, 0, 0) by decide), k_uk (show ((8, 9, 0) : Ky) ≠ (7, 0, 0) by decide), k_uk (show ((8, 10, 0) : Ky) ≠ (7, 0, 0) by decide), k_uk (show ((8, 11, 0) : Ky) ≠ (7, 0, 0) by decide), k_uk (show ((8, 12, 0) : Ky) ≠ (7, 0, 0) by decide), k_uk (show ((8, 6, 0) : Ky) ≠ (8, 13, 0) by decide), k_uk (show ((8, 6, 0) : Ky) ≠ (8, 14, 0) by decide), k_uk (show ((8, 6, 0) : Ky) ≠ (8, 15, 0) by decide), k_uk (show ((8, 6, 0) : Ky) ≠ (8, 16, 0) by decide), k_uk (show ((8, 6, 0) : Ky) ≠ (8, 17, 0) by decide), k_uk (show ((8, 7, 0) : Ky) ≠ (8, 13, 0) by decide), k_uk (show ((8, 7, 0) : Ky) ≠ (8, 14, 0) by decide), k_uk (show ((8, 7, 0) : Ky) ≠ (8, 15, 0) by decide), k_uk (show ((8, 7, 0) : Ky) ≠ (8, 16, 0) by decide), k_uk (show ((8, 7, 0) : Ky) ≠ (8, 17, 0) by decide), k_uk (show ((8, 8, 0) : Ky) ≠ (8, 13, 0) by decide), k_uk (show ((8, 8, 0) : Ky) ≠ (8, 14, 0) by decide), k_uk (show ((8, 8, 0) : Ky) ≠ (8, 15, 0) by decide), k_uk (show ((8, 8, 0) : Ky) ≠ (8, 16, 0) by decide), k_uk (show ((8, 8, 0) : Ky) ≠ (8, 17, 0) by decide), k_uk (show ((8, 9, 0) : Ky) ≠ (8, 13, 0) by decide), k_uk (show ((8, 9, 0) : Ky) ≠ (8, 14, 0) by decide), k_uk (show ((8, 9, 0) : Ky) ≠ (8, 15, 0) by decide), k_uk (show ((8, 9, 0) : Ky) ≠ (8, 16, 0) by decide), k_uk (show ((8, 9, 0) : Ky) ≠ (8, 17, 0) by decide), k_uk (show ((8, 10, 0) : Ky) ≠ (8, 13, 0) by decide), k_uk (show ((8, 10, 0) : Ky) ≠ (8, 14, 0) by decide), k_uk (show ((8, 10, 0) : Ky) ≠ (8, 15, 0) by decide), k_uk (show ((8, 10, 0) : Ky) ≠ (8, 16, 0) by decide), k_uk (show ((8, 10, 0) : Ky) ≠ (8, 17, 0) by decide), k_uk (show ((8, 11, 0) : Ky) ≠ (8, 13, 0) by decide), k_uk (show ((8, 11, 0) : Ky) ≠ (8, 14, 0) by decide), k_uk (show ((8, 11, 0) : Ky) ≠ (8, 15, 0) by decide), k_uk (show ((8, 11, 0) : Ky) ≠ (8, 16, 0) by decide), k_uk (show ((8, 11, 0) : Ky) ≠ (8, 17, 0) by decide), k_uk (show ((8, 12, 0) : Ky) ≠ (8, 13, 0) by decide), k_uk (show ((8, 12, 0) : Ky) ≠ (8, 14, 0) by decide), k_uk (show ((8, 12, 0) : Ky) ≠ (8, 15, 0) by decide), k_uk (show ((8, 12, 0) : Ky) ≠ (8, 16, 0) by decide), k_uk (show ((8, 12, 0) : Ky) ≠ (8, 17, 0) by decide)]
    exact he
  · rw [k_uk k_ne12]; repeat rw [k_uk k_ne10]
    exact f i hi hi6
  · by_cases w : i = nB
    · subst w
      unfold k_bz k_br
      simp only [k_uk k_ne02, k_uk (show ((8, 13, 0) : Ky) ≠ (7, 0, 0) by decide), k_uk (show ((8, 14, 0) : Ky) ≠ (7, 0, 0) by decide), k_uk (show ((8, 15, 0) : Ky) ≠ (7, 0, 0) by decide), k_uk (show ((8, 16, 0) : Ky) ≠ (7, 0, 0) by decide), k_uk (show ((8, 17, 0) : Ky) ≠ (7, 0, 0) by decide), k_uk (show ((8, 13, 0) : Ky) ≠ (8, 14, 0) by decide), k_uk (show ((8, 13, 0) : Ky) ≠ (8, 15, 0) by decide), k_uk (show ((8, 13, 0) : Ky) ≠ (8, 16, 0) by decide), k_uk (show ((8, 13, 0) : Ky) ≠ (8, 17, 0) by decide), k_uk (show ((8, 14, 0) : Ky) ≠ (8, 13, 0) by decide), k_uk (show ((8, 14, 0) : Ky) ≠ (8, 15, 0) by decide), k_uk (show ((8, 14, 0) : Ky) ≠ (8, 16, 0) by decide), k_uk (show ((8, 14, 0) : Ky) ≠ (8, 17, 0) by decide), k_uk (show ((8, 15, 0) : Ky) ≠ (8, 13, 0) by decide), k_uk (show ((8, 15, 0) : Ky) ≠ (8, 14, 0) by decide), k_uk (show ((8, 15, 0) : Ky) ≠ (8, 16, 0) by decide), k_uk (show ((8, 15, 0) : Ky) ≠ (8, 17, 0) by decide), k_uk (show ((8, 16, 0) : Ky) ≠ (8, 13, 0) by decide), k_uk (show ((8, 16, 0) : Ky) ≠ (8, 14, 0) by decide), k_uk (show ((8, 16, 0) : Ky) ≠ (8, 15, 0) by decide), k_uk (show ((8, 16, 0) : Ky) ≠ (8, 17, 0) by decide), k_uk (show ((8, 17, 0) : Ky) ≠ (8, 13, 0) by decide), k_uk (show ((8, 17, 0) : Ky) ≠ (8, 14, 0) by decide), k_uk (show ((8, 17, 0) : Ky) ≠ (8, 15, 0) by decide), k_uk (show ((8, 17, 0) : Ky) ≠ (8, 16, 0) by decide), k_uis]
      refine ⟨⟨?_, ?_, ?_, ?_, ?_, ?_⟩, ⟨0, by decide, rfl⟩, r1, r2, Or.inl trivial, ⟨0, by decide, rfl⟩⟩
      all_goals first | trivial | (repeat first | rw [k_uj (by decide)] | rw [k_uis])
    · have he := p i (by omega)
      unfold k_bz k_br at he ⊢
      simp only [k_uk k_ne02, k_uk (hne i w), k_uk (show ((8, 13, 0) : Ky) ≠ (7, 0, 0) by decide), k_uk (show ((8, 14, 0) : Ky) ≠ (7, 0, 0) by decide), k_uk (show ((8, 15, 0) : Ky) ≠ (7, 0, 0) by decide), k_uk (show ((8, 16, 0) : Ky) ≠ (7, 0, 0) by decide), k_uk (show ((8, 17, 0) : Ky) ≠ (7, 0, 0) by decide), k_uk (show ((8, 13, 0) : Ky) ≠ (8, 14, 0) by decide), k_uk (show ((8, 13, 0) : Ky) ≠ (8, 15, 0) by decide), k_uk (show ((8, 13, 0) : Ky) ≠ (8, 16, 0) by decide), k_uk (show ((8, 13, 0) : Ky) ≠ (8, 17, 0) by decide), k_uk (show ((8, 14, 0) : Ky) ≠ (8, 13, 0) by decide), k_uk (show ((8, 14, 0) : Ky) ≠ (8, 15, 0) by decide), k_uk (show ((8, 14, 0) : Ky) ≠ (8, 16, 0) by decide), k_uk (show ((8, 14, 0) : Ky) ≠ (8, 17, 0) by decide), k_uk (show ((8, 15, 0) : Ky) ≠ (8, 13, 0) by decide), k_uk (show ((8, 15, 0) : Ky) ≠ (8, 14, 0) by decide), k_uk (show ((8, 15, 0) : Ky) ≠ (8, 16, 0) by decide), k_uk (show ((8, 15, 0) : Ky) ≠ (8, 17, 0) by decide), k_uk (show ((8, 16, 0) : Ky) ≠ (8, 13, 0) by decide), k_uk (show ((8, 16, 0) : Ky) ≠ (8, 14, 0) by decide), k_uk (show ((8, 16, 0) : Ky) ≠ (8, 15, 0) by decide), k_uk (show ((8, 16, 0) : Ky) ≠ (8, 17, 0) by decide), k_uk (show ((8, 17, 0) : Ky) ≠ (8, 13, 0) by decide), k_uk (show ((8, 17, 0) : Ky) ≠ (8, 14, 0) by decide), k_uk (show ((8, 17, 0) : Ky) ≠ (8, 15, 0) by decide), k_uk (show ((8, 17, 0) : Ky) ≠ (8, 16, 0) by decide), k_uj (k := (8, 13, 0)) w, k_uj (k := (8, 14, 0)) w, k_uj (k := (8, 15, 0)) w, k_uj (k := (8, 16, 0)) w, k_uj (k := (8, 17, 0)) w]
      exact he
  · rw [k_uk k_ne02]
    repeat rw [k_uk (hne i (by omega))]
    exact r i (by omega) hi6
  · rw [k_uk k_ne12, k_uk k_ne02]; repeat rw [k_uk k_ne10]
    by_cases w : i = nB
    · subst w
      repeat first | rw [k_uj (by decide)] | rw [k_uis]
      exact ⟨(z i hi).1, Or.inl rfl⟩
    · repeat rw [k_uk (hne i w)]
      exact z i hi
/-- citizen, beggar -/
theorem q_citizen {nC nB : Nat} {mi mj : MemI} {ml mlj : MemL} (h : k_R nC nB mi ml mj mlj) (k a ms hh : Int32) : ∃ nC', k_Q nC' nB (f_X6_citizen mi k a ms hh) ml (f_X7_citizen mj k a ms hh) mlj := by
  unfold f_X6_citizen f_X7_citizen
  have h6 := h.1.1.1
  have hb3 := h.1.2.1.2.2.1
  by_cases k0 : k < 0
  · rw [if_pos k0, if_pos k0]; exact ⟨nC, Q_no h 1 (by decide) (by decide)⟩
  rw [if_neg k0, if_neg k0]
  by_cases k7 : k ≤ 6
  · have k7' : k < 7 := Int32.lt_of_le_of_lt k7 (by decide)
    rw [if_pos k7, if_pos k7']
    by_cases o1 : f_X6_isOutside a 0 9 = 0
    · rw [if_pos o1, if_neg ((k_iO a 0 9).mp o1)]
      by_cases o2 : f_X6_isOutside ms 0 99 = 0
      · rw [if_pos o2, if_neg ((k_iO ms 0 99).mp o2)]
        by_cases o3 : f_X6_isOutside hh 0 20 = 0
        · rw [if_pos o3, if_neg ((k_iO hh 0 20).mp o3), hb3]
          by_cases n6 : nC < 6
          · have hc := addC_CR (k := k) (a := a) (ms := ms) (hh := hh) h.1 n6 (bt_of k0 k7 (n := 6) rfl (by decide)) (bt_of ((k_iO2 a 9).mp o1).1 ((k_iO2 a 9).mp o1).2 (n := 9) rfl (by decide)) (bt_of ((k_iO2 ms 99).mp o2).1 ((k_iO2 ms 99).mp o2).2 (n := 99) rfl (by decide)) (bt_of ((k_iO2 hh 20).mp o3).1 ((k_iO2 hh 20).mp o3).2 (n := 20) rfl (by decide))
            have e1 : (f_X2_addCitizen mi 0 k a ms hh).1 = nI nC := by rw [adC_cl h.1.2.1.1 n6]
            have hne : ¬ nI nC = 6 := fun z => by
              have := nI_inj6 (a := nC) (b := 6) (by omega) (by decide) z
              omega
            rw [if_neg hne, e1, if_neg (k_nIne (by omega))]
            refine ⟨nC + 1, Q_mk (e1.symm.trans hc.1) (R_city h hc.2 (by omega) (fun kk qq hk => fg_X2_addCitizen hk) (fun kk qq hk => fn_X2_addCitizen hk) (fun kk qq hk => ?_))⟩
            have hne1 : ∀ n, 6 ≤ n → n ≤ 17 → kk ≠ (8, n, 0) := fun n h1 h2 e => by subst e; simp [k_mw] at hk; omega
            exact adC_fr (fun z => by rw [z.1, z.2] at hk; exact absurd hk (by decide)) (hne1 6 (by decide) (by decide)) (hne1 7 (by decide) (by decide)) (hne1 8 (by decide) (by decide)) (hne1 9 (by decide) (by decide)) (hne1 10 (by decide) (by decide)) (hne1 11 (by decide) (by decide)) (hne1 12 (by decide) (by decide))
          · have n6' : nC = 6 := by omega
            subst n6'
            have e1 : f_X2_addCitizen mi 0 k a ms hh = (-1, mi) := by
              unfold f_X2_addCitizen
              rw [h.1.2.1.1, if_neg (by decide), if_neg (by decide)]
            rw [if_pos (show nI 6 = 6 from rfl), e1]
            dsimp only
            rw [if_pos rfl]
            exact ⟨6, Q_no h 7 (by decide) (by decide)⟩
        · rw [if_neg o3, if_pos (Decidable.of_not_not (fun z => o3 ((k_iO hh 0 20).mpr z)))]; exact ⟨nC, Q_no h 6 (by decide) (by decide)⟩
      · rw [if_neg o2, if_pos (Decidable.of_not_not (fun z => o2 ((k_iO ms 0 99).mpr z)))]; exact ⟨nC, Q_no h 6 (by decide) (by decide)⟩
    · rw [if_neg o1, if_pos (Decidable.of_not_not (fun z => o1 ((k_iO a 0 9).mpr z)))]; exact ⟨nC, Q_no h 6 (by decide) (by decide)⟩
  · have k7' : ¬ k < 7 := fun z => k7 (by
      have h1 := Int32.lt_iff_toInt_lt.mp z
      have e7 : (7 : Int32).toInt = 7 := rfl
      have e6 : (6 : Int32).toInt = 6 := rfl
      exact Int32.le_iff_toInt_le.mpr (by omega))
    rw [if_neg k7, if_neg k7']; exact ⟨nC, Q_no h 1 (by decide) (by decide)⟩
theorem q_beggar {nC nB : Nat} {mi mj : MemI} {ml mlj : MemL} (h : k_R nC nB mi ml mj mlj) (n r : Int32) : ∃ nB', k_Q nC nB' (f_X6_beggar mi n r) ml (f_X7_beggar mj n r) mlj := by
  unfold f_X6_beggar f_X7_beggar
  have h6 := h.1.1.2
  have hb3 := h.1.2.1.2.2.2
  by_cases o1 : f_X6_isOutside n 1 9 = 0
  · rw [if_pos o1, if_neg ((k_iO n 1 9).mp o1)]
    by_cases o2 : f_X6_isOutside r 0 4 = 0
    · rw [if_pos o2, if_neg ((k_iO r 0 4).mp o2), hb3]
      by_cases n6 : nB < 6
      · have hn : ∃ m : Nat, 1 ≤ m ∧ m ≤ 9 ∧ n = nI m := by
          have i1 := (k_iO n 1 9).mp o1
          have i0 := isFrom_nn i1 (by decide)
          have i9 := isFrom_le i1
          obtain ⟨m, hm, rfl⟩ := nI_of i0
          refine ⟨m, ?_, ?_, rfl⟩
          · rcases Nat.lt_or_ge m 1 with q | q
            · exfalso
              apply i1
              unfold f_X7_isFrom
              rw [if_pos (show nI m < 1 from nI_lt (b := 1) q (by decide))]
            · exact q
          · rcases Nat.lt_or_ge 9 m with q | q
            · exact absurd (nI_lt (a := 9) q hm) i9
            · exact q
        have hc := addB_CR (k := n) (rr := r) h.1 n6 hn (bt_of ((k_iO2 r 4).mp o2).1 ((k_iO2 r 4).mp o2).2 (n := 4) rfl (by decide))
        have e1 : (f_X2_addBeggar mi 0 n r).1 = nI nB := by rw [adB_cl h.1.2.1.2.1 n6]
        have hne : ¬ nI nB = 6 := fun z => by
          have := nI_inj6 (a := nB) (b := 6) (by omega) (by decide) z
          omega
        rw [if_neg hne, e1, if_neg (k_nIne (by omega))]
        refine ⟨nB + 1, Q_mk (e1.symm.trans hc.1) (R_city h hc.2 (Nat.le_refl _) (fun kk qq hk => fg_X2_addBeggar hk) (fun kk qq hk => fn_X2_addBeggar hk) (fun kk qq hk => ?_))⟩
        have hne1 : ∀ n, 6 ≤ n → n ≤ 17 → kk ≠ (8, n, 0) := fun n h1 h2 e => by subst e; simp [k_mw] at hk; omega
        exact adB_fr (fun z => by rw [z.1, z.2] at hk; exact absurd hk (by decide)) (hne1 13 (by decide) (by decide)) (hne1 14 (by decide) (by decide)) (hne1 15 (by decide) (by decide)) (hne1 16 (by decide) (by decide)) (hne1 17 (by decide) (by decide))
      · have n6' : nB = 6 := by omega
        subst n6'
        have e1 : f_X2_addBeggar mi 0 n r = (-1, mi) := by
          unfold f_X2_addBeggar
          rw [h.1.2.1.2.1, if_neg (by decide), if_neg (by decide)]
        rw [if_pos (show nI 6 = 6 from rfl), e1]
        dsimp only
        rw [if_pos rfl]
        exact ⟨6, Q_no h 7 (by decide) (by decide)⟩
    · rw [if_neg o2, if_pos (Decidable.of_not_not (fun z => o2 ((k_iO r 0 4).mpr z)))]; exact ⟨nB, Q_no h 6 (by decide) (by decide)⟩
  · rw [if_neg o1, if_pos (Decidable.of_not_not (fun z => o1 ((k_iO n 1 9).mpr z)))]; exact ⟨nB, Q_no h 6 (by decide) (by decide)⟩
