/-! level 2: one field is set -/
theorem k_ne20 {g i g' : Nat} : ((2, g, 0) : Ky) ≠ (0, g', i) := by simp
theorem k_ne21 {g i g' : Nat} : ((2, g, 0) : Ky) ≠ (1, g', i) := by simp
theorem k_ne12 {g i g' : Nat} : ((1, g, i) : Ky) ≠ (2, g', 0) := by simp
theorem k_ne02 {g i g' : Nat} : ((0, g, i) : Ky) ≠ (2, g', 0) := by simp
theorem CR_c2 {g nC nB c : Nat} {mi mj : MemI} {v : Int32} (h : k_CR g nC nB mi mj) (hc : c < nC) (hv : k_bt 1 v) : k_CR g nC nB (k_ui mi (1, g, c) 2 v) (k_ui mj (8, 12, 0) c v) := by
  obtain ⟨a0, ⟨b1, b2, b3, b4⟩, ⟨c1, c2⟩, d, e, f, p, r, z⟩ := h
  have hne : ∀ i, i ≠ c → ((1, g, i) : Ky) ≠ (1, g, c) := fun i hi => by simp [hi]
  refine ⟨a0, ⟨?_, ?_, ?_, ?_⟩, ⟨?_, ?_⟩, fun i hi => ?_, fun i hi => ?_, fun i hi hi6 => ?_, fun i hi => ?_, fun i hi hi6 => ?_, fun i hi => ?_⟩
  · rw [k_uk k_ne21]; exact b1
  · rw [k_uk k_ne21]; exact b2
  · rw [k_uk (by decide)]; exact b3
  · rw [k_uk (by decide)]; exact b4
  · rw [k_uk k_ne21, k_uk (by decide)]; exact c1
  · rw [k_uk k_ne21, k_uk (by decide)]; exact c2
  · rw [k_uk k_ne01]
    by_cases w : i = c
    · subst w; rw [k_uj (by decide)]; exact d i hi
    · rw [k_uk (hne i w)]; exact d i hi
  · have he := e i hi
    unfold k_cz k_cr at he ⊢
    by_cases w : i = c
    · subst w
      simp only [k_uj (show (1 : Nat) ≠ 2 by decide), k_uj (show (3 : Nat) ≠ 2 by decide), k_uj (show (4 : Nat) ≠ 2 by decide), k_uj (show (5 : Nat) ≠ 2 by decide), k_uj (show (6 : Nat) ≠ 2 by decide), k_uj (show (7 : Nat) ≠ 2 by decide), k_uj (show (8 : Nat) ≠ 2 by decide), k_uis, k_uk (show ((8, 6, 0) : Ky) ≠ (8, 12, 0) by decide), k_uk (show ((8, 7, 0) : Ky) ≠ (8, 12, 0) by decide), k_uk (show ((8, 8, 0) : Ky) ≠ (8, 12, 0) by decide), k_uk (show ((8, 9, 0) : Ky) ≠ (8, 12, 0) by decide), k_uk (show ((8, 10, 0) : Ky) ≠ (8, 12, 0) by decide), k_uk (show ((8, 11, 0) : Ky) ≠ (8, 12, 0) by decide)]
      simp only [he.1.1, he.1.2.1, he.1.2.2.1, he.1.2.2.2.1, he.1.2.2.2.2.1, he.1.2.2.2.2.2.1, he.1.2.2.2.2.2.2.1, he.1.2.2.2.2.2.2.2, true_and, and_true]
      exact ⟨hv, he.2.2.1, he.2.2.2.1, he.2.2.2.2.1, he.2.2.2.2.2.1, he.2.2.2.2.2.2.1, he.2.2.2.2.2.2.2⟩
    · simp only [k_uk (hne i w), k_uj (mi := mj) (k := (8, 12, 0)) (v := v) w, k_uk (show ((8, 6, 0) : Ky) ≠ (8, 12, 0) by decide), k_uk (show ((8, 7, 0) : Ky) ≠ (8, 12, 0) by decide), k_uk (show ((8, 8, 0) : Ky) ≠ (8, 12, 0) by decide), k_uk (show ((8, 9, 0) : Ky) ≠ (8, 12, 0) by decide), k_uk (show ((8, 10, 0) : Ky) ≠ (8, 12, 0) by decide), k_uk (show ((8, 11, 0) : Ky) ≠ (8, 12, 0) by decide)]
      exact he
  · by_cases w : i = c
    · subst w; omega
    · rw [k_uk (hne i w)]; exact f i hi hi6
  · have he := p i hi
    unfold k_bz k_br at he ⊢
    simp only [k_uk k_ne01, k_uk (show ((8, 13, 0) : Ky) ≠ (8, 12, 0) by decide), k_uk (show ((8, 14, 0) : Ky) ≠ (8, 12, 0) by decide), k_uk (show ((8, 15, 0) : Ky) ≠ (8, 12, 0) by decide), k_uk (show ((8, 16, 0) : Ky) ≠ (8, 12, 0) by decide), k_uk (show ((8, 17, 0) : Ky) ≠ (8, 12, 0) by decide)]
    exact he
  · rw [k_uk k_ne01]; exact r i hi hi6
  · rw [k_uk k_ne01]
    by_cases w : i = c
    · subst w
      rw [k_uis]; exact ⟨bt_01 hv, (z i hi).2⟩
    · rw [k_uk (hne i w)]; exact z i hi
theorem CR_c5 {g nC nB c : Nat} {mi mj : MemI} {v : Int32} (h : k_CR g nC nB mi mj) (hc : c < nC) (hv : k_bt 99 v) : k_CR g nC nB (k_ui mi (1, g, c) 5 v) (k_ui mj (8, 8, 0) c v) := by
  obtain ⟨a0, ⟨b1, b2, b3, b4⟩, ⟨c1, c2⟩, d, e, f, p, r, z⟩ := h
  have hne : ∀ i, i ≠ c → ((1, g, i) : Ky) ≠ (1, g, c) := fun i hi => by simp [hi]
  refine ⟨a0, ⟨?_, ?_, ?_, ?_⟩, ⟨?_, ?_⟩, fun i hi => ?_, fun i hi => ?_, fun i hi hi6 => ?_, fun i hi => ?_, fun i hi hi6 => ?_, fun i hi => ?_⟩
  · rw [k_uk k_ne21]; exact b1
  · rw [k_uk k_ne21]; exact b2
  · rw [k_uk (by decide)]; exact b3
  · rw [k_uk (by decide)]; exact b4
  · rw [k_uk k_ne21, k_uk (by decide)]; exact c1
  · rw [k_uk k_ne21, k_uk (by decide)]; exact c2
  · rw [k_uk k_ne01]
    by_cases w : i = c
    · subst w; rw [k_uj (by decide)]; exact d i hi
    · rw [k_uk (hne i w)]; exact d i hi
  · have he := e i hi
    unfold k_cz k_cr at he ⊢
    by_cases w : i = c
    · subst w
      simp only [k_uj (show (1 : Nat) ≠ 5 by decide), k_uj (show (2 : Nat) ≠ 5 by decide), k_uj (show (3 : Nat) ≠ 5 by decide), k_uj (show (4 : Nat) ≠ 5 by decide), k_uj (show (6 : Nat) ≠ 5 by decide), k_uj (show (7 : Nat) ≠ 5 by decide), k_uj (show (8 : Nat) ≠ 5 by decide), k_uis, k_uk (show ((8, 6, 0) : Ky) ≠ (8, 8, 0) by decide), k_uk (show ((8, 7, 0) : Ky) ≠ (8, 8, 0) by decide), k_uk (show ((8, 9, 0) : Ky) ≠ (8, 8, 0) by decide), k_uk (show ((8, 10, 0) : Ky) ≠ (8, 8, 0) by decide), k_uk (show ((8, 11, 0) : Ky) ≠ (8, 8, 0) by decide), k_uk (show ((8, 12, 0) : Ky) ≠ (8, 8, 0) by decide)]
      simp only [he.1.1, he.1.2.1, he.1.2.2.1, he.1.2.2.2.1, he.1.2.2.2.2.1, he.1.2.2.2.2.2.1, he.1.2.2.2.2.2.2.1, he.1.2.2.2.2.2.2.2, true_and, and_true]
      exact ⟨he.2.1, he.2.2.1, he.2.2.2.1, hv, he.2.2.2.2.2.1, he.2.2.2.2.2.2.1, he.2.2.2.2.2.2.2⟩
    · simp only [k_uk (hne i w), k_uj (mi := mj) (k := (8, 8, 0)) (v := v) w, k_uk (show ((8, 6, 0) : Ky) ≠ (8, 8, 0) by decide), k_uk (show ((8, 7, 0) : Ky) ≠ (8, 8, 0) by decide), k_uk (show ((8, 9, 0) : Ky) ≠ (8, 8, 0) by decide), k_uk (show ((8, 10, 0) : Ky) ≠ (8, 8, 0) by decide), k_uk (show ((8, 11, 0) : Ky) ≠ (8, 8, 0) by decide), k_uk (show ((8, 12, 0) : Ky) ≠ (8, 8, 0) by decide)]
      exact he
  · by_cases w : i = c
    · subst w; omega
    · rw [k_uk (hne i w)]; exact f i hi hi6
  · have he := p i hi
    unfold k_bz k_br at he ⊢
    simp only [k_uk k_ne01, k_uk (show ((8, 13, 0) : Ky) ≠ (8, 8, 0) by decide), k_uk (show ((8, 14, 0) : Ky) ≠ (8, 8, 0) by decide), k_uk (show ((8, 15, 0) : Ky) ≠ (8, 8, 0) by decide), k_uk (show ((8, 16, 0) : Ky) ≠ (8, 8, 0) by decide), k_uk (show ((8, 17, 0) : Ky) ≠ (8, 8, 0) by decide)]
    exact he
  · rw [k_uk k_ne01]; exact r i hi hi6
  · rw [k_uk k_ne01]
    by_cases w : i = c
    · subst w
      rw [k_uj (by decide)]; exact z i hi
    · rw [k_uk (hne i w)]; exact z i hi
theorem CR_c6 {g nC nB c : Nat} {mi mj : MemI} {v : Int32} (h : k_CR g nC nB mi mj) (hc : c < nC) (hv : k_bt 20 v) : k_CR g nC nB (k_ui mi (1, g, c) 6 v) (k_ui mj (8, 9, 0) c v) := by
  obtain ⟨a0, ⟨b1, b2, b3, b4⟩, ⟨c1, c2⟩, d, e, f, p, r, z⟩ := h
  have hne : ∀ i, i ≠ c → ((1, g, i) : Ky) ≠ (1, g, c) := fun i hi => by simp [hi]
  refine ⟨a0, ⟨?_, ?_, ?_, ?_⟩, ⟨?_, ?_⟩, fun i hi => ?_, fun i hi => ?_, fun i hi hi6 => ?_, fun i hi => ?_, fun i hi hi6 => ?_, fun i hi => ?_⟩
  · rw [k_uk k_ne21]; exact b1
  · rw [k_uk k_ne21]; exact b2
  · rw [k_uk (by decide)]; exact b3
  · rw [k_uk (by decide)]; exact b4
  · rw [k_uk k_ne21, k_uk (by decide)]; exact c1
  · rw [k_uk k_ne21, k_uk (by decide)]; exact c2
  · rw [k_uk k_ne01]
    by_cases w : i = c
    · subst w; rw [k_uj (by decide)]; exact d i hi
    · rw [k_uk (hne i w)]; exact d i hi
  · have he := e i hi
    unfold k_cz k_cr at he ⊢
    by_cases w : i = c
    · subst w
      simp only [k_uj (show (1 : Nat) ≠ 6 by decide), k_uj (show (2 : Nat) ≠ 6 by decide), k_uj (show (3 : Nat) ≠ 6 by decide), k_uj (show (4 : Nat) ≠ 6 by decide), k_uj (show (5 : Nat) ≠ 6 by decide), k_uj (show (7 : Nat) ≠ 6 by decide), k_uj (show (8 : Nat) ≠ 6 by decide), k_uis, k_uk (show ((8, 6, 0) : Ky) ≠ (8, 9, 0) by decide), k_uk (show ((8, 7, 0) : Ky) ≠ (8, 9, 0) by decide), k_uk (show ((8, 8, 0) : Ky) ≠ (8, 9, 0) by decide), k_uk (show ((8, 10, 0) : Ky) ≠ (8, 9, 0) by decide), k_uk (show ((8, 11, 0) : Ky) ≠ (8, 9, 0) by decide), k_uk (show ((8, 12, 0) : Ky) ≠ (8, 9, 0) by decide)]
      simp only [he.1.1, he.1.2.1, he.1.2.2.1, he.1.2.2.2.1, he.1.2.2.2.2.1, he.1.2.2.2.2.2.1, he.1.2.2.2.2.2.2.1, he.1.2.2.2.2.2.2.2, true_and, and_true]
      exact ⟨he.2.1, he.2.2.1, he.2.2.2.1, he.2.2.2.2.1, hv, he.2.2.2.2.2.2.1, he.2.2.2.2.2.2.2⟩
    · simp only [k_uk (hne i w), k_uj (mi := mj) (k := (8, 9, 0)) (v := v) w, k_uk (show ((8, 6, 0) : Ky) ≠ (8, 9, 0) by decide), k_uk (show ((8, 7, 0) : Ky) ≠ (8, 9, 0) by decide), k_uk (show ((8, 8, 0) : Ky) ≠ (8, 9, 0) by decide), k_uk (show ((8, 10, 0) : Ky) ≠ (8, 9, 0) by decide), k_uk (show ((8, 11, 0) : Ky) ≠ (8, 9, 0) by decide), k_uk (show ((8, 12, 0) : Ky) ≠ (8, 9, 0) by decide)]
      exact he
  · by_cases w : i = c
    · subst w; omega
    · rw [k_uk (hne i w)]; exact f i hi hi6
  · have he := p i hi
    unfold k_bz k_br at he ⊢
    simp only [k_uk k_ne01, k_uk (show ((8, 13, 0) : Ky) ≠ (8, 9, 0) by decide), k_uk (show ((8, 14, 0) : Ky) ≠ (8, 9, 0) by decide), k_uk (show ((8, 15, 0) : Ky) ≠ (8, 9, 0) by decide), k_uk (show ((8, 16, 0) : Ky) ≠ (8, 9, 0) by decide), k_uk (show ((8, 17, 0) : Ky) ≠ (8, 9, 0) by decide)]
    exact he
  · rw [k_uk k_ne01]; exact r i hi hi6
  · rw [k_uk k_ne01]
    by_cases w : i = c
    · subst w
      rw [k_uj (by decide)]; exact z i hi
    · rw [k_uk (hne i w)]; exact z i hi
theorem CR_c7 {g nC nB c : Nat} {mi mj : MemI} {v : Int32} (h : k_CR g nC nB mi mj) (hc : c < nC) (hv : k_bt 99 v) : k_CR g nC nB (k_ui mi (1, g, c) 7 v) (k_ui mj (8, 10, 0) c v) := by
  obtain ⟨a0, ⟨b1, b2, b3, b4⟩, ⟨c1, c2⟩, d, e, f, p, r, z⟩ := h
  have hne : ∀ i, i ≠ c → ((1, g, i) : Ky) ≠ (1, g, c) := fun i hi => by simp [hi]
  refine ⟨a0, ⟨?_, ?_, ?_, ?_⟩, ⟨?_, ?_⟩, fun i hi => ?_, fun i hi => ?_, fun i hi hi6 => ?_, fun i hi => ?_, fun i hi hi6 => ?_, fun i hi => ?_⟩
  · rw [k_uk k_ne21]; exact b1
  · rw [k_uk k_ne21]; exact b2
  · rw [k_uk (by decide)]; exact b3
  · rw [k_uk (by decide)]; exact b4
  · rw [k_uk k_ne21, k_uk (by decide)]; exact c1
  · rw [k_uk k_ne21, k_uk (by decide)]; exact c2
  · rw [k_uk k_ne01]
    by_cases w : i = c
    · subst w; rw [k_uj (by decide)]; exact d i hi
    · rw [k_uk (hne i w)]; exact d i hi
  · have he := e i hi
    unfold k_cz k_cr at he ⊢
    by_cases w : i = c
    · subst w
      simp only [k_uj (show (1 : Nat) ≠ 7 by decide), k_uj (show (2 : Nat) ≠ 7 by decide), k_uj (show (3 : Nat) ≠ 7 by decide), k_uj (show (4 : Nat) ≠ 7 by decide), k_uj (show (5 : Nat) ≠ 7 by decide), k_uj (show (6 : Nat) ≠ 7 by decide), k_uj (show (8 : Nat) ≠ 7 by decide), k_uis, k_uk (show ((8, 6, 0) : Ky) ≠ (8, 10, 0) by decide), k_uk (show ((8, 7, 0) : Ky) ≠ (8, 10, 0) by decide), k_uk (show ((8, 8, 0) : Ky) ≠ (8, 10, 0) by decide), k_uk (show ((8, 9, 0) : Ky) ≠ (8, 10, 0) by decide), k_uk (show ((8, 11, 0) : Ky) ≠ (8, 10, 0) by decide), k_uk (show ((8, 12, 0) : Ky) ≠ (8, 10, 0) by decide)]
      simp only [he.1.1, he.1.2.1, he.1.2.2.1, he.1.2.2.2.1, he.1.2.2.2.2.1, he.1.2.2.2.2.2.1, he.1.2.2.2.2.2.2.1, he.1.2.2.2.2.2.2.2, true_and, and_true]
      exact ⟨he.2.1, he.2.2.1, he.2.2.2.1, he.2.2.2.2.1, he.2.2.2.2.2.1, hv, he.2.2.2.2.2.2.2⟩
    · simp only [k_uk (hne i w), k_uj (mi := mj) (k := (8, 10, 0)) (v := v) w, k_uk (show ((8, 6, 0) : Ky) ≠ (8, 10, 0) by decide), k_uk (show ((8, 7, 0) : Ky) ≠ (8, 10, 0) by decide), k_uk (show ((8, 8, 0) : Ky) ≠ (8, 10, 0) by decide), k_uk (show ((8, 9, 0) : Ky) ≠ (8, 10, 0) by decide), k_uk (show ((8, 11, 0) : Ky) ≠ (8, 10, 0) by decide), k_uk (show ((8, 12, 0) : Ky) ≠ (8, 10, 0) by decide)]
      exact he
  · by_cases w : i = c
    · subst w; omega
    · rw [k_uk (hne i w)]; exact f i hi hi6
  · have he := p i hi
    unfold k_bz k_br at he ⊢
    simp only [k_uk k_ne01, k_uk (show ((8, 13, 0) : Ky) ≠ (8, 10, 0) by decide), k_uk (show ((8, 14, 0) : Ky) ≠ (8, 10, 0) by decide), k_uk (show ((8, 15, 0) : Ky) ≠ (8, 10, 0) by decide), k_uk (show ((8, 16, 0) : Ky) ≠ (8, 10, 0) by decide), k_uk (show ((8, 17, 0) : Ky) ≠ (8, 10, 0) by decide)]
    exact he
  · rw [k_uk k_ne01]; exact r i hi hi6
  · rw [k_uk k_ne01]
    by_cases w : i = c
    · subst w
      rw [k_uj (by decide)]; exact z i hi
    · rw [k_uk (hne i w)]; exact z i hi
theorem CR_b2 {g nC nB c : Nat} {mi mj : MemI} {v : Int32} (h : k_CR g nC nB mi mj) (hc : c < nB) (hv : k_bt 1 v) : k_CR g nC nB (k_ui mi (0, g, c) 2 v) (k_ui mj (8, 17, 0) c v) := by
  obtain ⟨a0, ⟨b1, b2, b3, b4⟩, ⟨c1, c2⟩, d, e, f, p, r, z⟩ := h
  have hne : ∀ i, i ≠ c → ((0, g, i) : Ky) ≠ (0, g, c) := fun i hi => by simp [hi]
  refine ⟨a0, ⟨?_, ?_, ?_, ?_⟩, ⟨?_, ?_⟩, fun i hi => ?_, fun i hi => ?_, fun i hi hi6 => ?_, fun i hi => ?_, fun i hi hi6 => ?_, fun i hi => ?_⟩
  · rw [k_uk k_ne20]; exact b1
  · rw [k_uk k_ne20]; exact b2
  · rw [k_uk (by decide)]; exact b3
  · rw [k_uk (by decide)]; exact b4
  · rw [k_uk k_ne20, k_uk (by decide)]; exact c1
  · rw [k_uk k_ne20, k_uk (by decide)]; exact c2
  · rw [k_uk k_ne10]
    by_cases w : i = c
    · subst w; rw [k_uj (by decide)]; exact d i hi
    · rw [k_uk (hne i w)]; exact d i hi
  · have he := e i hi
    unfold k_cz k_cr at he ⊢
    simp only [k_uk k_ne10, k_uk (show ((8, 6, 0) : Ky) ≠ (8, 17, 0) by decide), k_uk (show ((8, 7, 0) : Ky) ≠ (8, 17, 0) by decide), k_uk (show ((8, 8, 0) : Ky) ≠ (8, 17, 0) by decide), k_uk (show ((8, 9, 0) : Ky) ≠ (8, 17, 0) by decide), k_uk (show ((8, 10, 0) : Ky) ≠ (8, 17, 0) by decide), k_uk (show ((8, 11, 0) : Ky) ≠ (8, 17, 0) by decide), k_uk (show ((8, 12, 0) : Ky) ≠ (8, 17, 0) by decide)]
    exact he
  · rw [k_uk k_ne10]; exact f i hi hi6
  · have he := p i hi
    unfold k_bz k_br at he ⊢
    by_cases w : i = c
    · subst w
      simp only [k_uj (show (1 : Nat) ≠ 2 by decide), k_uj (show (3 : Nat) ≠ 2 by decide), k_uj (show (4 : Nat) ≠ 2 by decide), k_uj (show (5 : Nat) ≠ 2 by decide), k_uj (show (6 : Nat) ≠ 2 by decide), k_uis, k_uk (show ((8, 13, 0) : Ky) ≠ (8, 17, 0) by decide), k_uk (show ((8, 14, 0) : Ky) ≠ (8, 17, 0) by decide), k_uk (show ((8, 15, 0) : Ky) ≠ (8, 17, 0) by decide), k_uk (show ((8, 16, 0) : Ky) ≠ (8, 17, 0) by decide)]
      obtain ⟨⟨x1, x2, x3, x4, x5, x6⟩, y1, y2, y3, y4, y5⟩ := he
      exact ⟨⟨x1, trivial, x3, x4, x5, x6⟩, hv, y2, y3, y4, y5⟩
    · simp only [k_uk (hne i w), k_uj (mi := mj) (k := (8, 17, 0)) (v := v) w, k_uk (show ((8, 13, 0) : Ky) ≠ (8, 17, 0) by decide), k_uk (show ((8, 14, 0) : Ky) ≠ (8, 17, 0) by decide), k_uk (show ((8, 15, 0) : Ky) ≠ (8, 17, 0) by decide), k_uk (show ((8, 16, 0) : Ky) ≠ (8, 17, 0) by decide)]
      exact he
  · by_cases w : i = c
    · subst w; omega
    · rw [k_uk (hne i w)]; exact r i hi hi6
  · rw [k_uk k_ne10]
    by_cases w : i = c
    · subst w
      rw [k_uis]; exact ⟨(z i hi).1, bt_01 hv⟩
    · rw [k_uk (hne i w)]; exact z i hi
theorem CR_b4 {g nC nB c : Nat} {mi mj : MemI} {v : Int32} (h : k_CR g nC nB mi mj) (hc : c < nB) (hv : k_bt 4 v) : k_CR g nC nB (k_ui mi (0, g, c) 4 v) (k_ui mj (8, 14, 0) c v) := by
  obtain ⟨a0, ⟨b1, b2, b3, b4⟩, ⟨c1, c2⟩, d, e, f, p, r, z⟩ := h
  have hne : ∀ i, i ≠ c → ((0, g, i) : Ky) ≠ (0, g, c) := fun i hi => by simp [hi]
  refine ⟨a0, ⟨?_, ?_, ?_, ?_⟩, ⟨?_, ?_⟩, fun i hi => ?_, fun i hi => ?_, fun i hi hi6 => ?_, fun i hi => ?_, fun i hi hi6 => ?_, fun i hi => ?_⟩
  · rw [k_uk k_ne20]; exact b1
  · rw [k_uk k_ne20]; exact b2
  · rw [k_uk (by decide)]; exact b3
  · rw [k_uk (by decide)]; exact b4
  · rw [k_uk k_ne20, k_uk (by decide)]; exact c1
  · rw [k_uk k_ne20, k_uk (by decide)]; exact c2
  · rw [k_uk k_ne10]
    by_cases w : i = c
    · subst w; rw [k_uj (by decide)]; exact d i hi
    · rw [k_uk (hne i w)]; exact d i hi
  · have he := e i hi
    unfold k_cz k_cr at he ⊢
    simp only [k_uk k_ne10, k_uk (show ((8, 6, 0) : Ky) ≠ (8, 14, 0) by decide), k_uk (show ((8, 7, 0) : Ky) ≠ (8, 14, 0) by decide), k_uk (show ((8, 8, 0) : Ky) ≠ (8, 14, 0) by decide), k_uk (show ((8, 9, 0) : Ky) ≠ (8, 14, 0) by decide), k_uk (show ((8, 10, 0) : Ky) ≠ (8, 14, 0) by decide), k_uk (show ((8, 11, 0) : Ky) ≠ (8, 14, 0) by decide), k_uk (show ((8, 12, 0) : Ky) ≠ (8, 14, 0) by decide)]
    exact he
  · rw [k_uk k_ne10]; exact f i hi hi6
  · have he := p i hi
    unfold k_bz k_br at he ⊢
    by_cases w : i = c
    · subst w
      simp only [k_uj (show (1 : Nat) ≠ 4 by decide), k_uj (show (2 : Nat) ≠ 4 by decide), k_uj (show (3 : Nat) ≠ 4 by decide), k_uj (show (5 : Nat) ≠ 4 by decide), k_uj (show (6 : Nat) ≠ 4 by decide), k_uis, k_uk (show ((8, 13, 0) : Ky) ≠ (8, 14, 0) by decide), k_uk (show ((8, 15, 0) : Ky) ≠ (8, 14, 0) by decide), k_uk (show ((8, 16, 0) : Ky) ≠ (8, 14, 0) by decide), k_uk (show ((8, 17, 0) : Ky) ≠ (8, 14, 0) by decide)]
      obtain ⟨⟨x1, x2, x3, x4, x5, x6⟩, y1, y2, y3, y4, y5⟩ := he
      exact ⟨⟨x1, x2, x3, trivial, x5, x6⟩, y1, y2, hv, y4, y5⟩
    · simp only [k_uk (hne i w), k_uj (mi := mj) (k := (8, 14, 0)) (v := v) w, k_uk (show ((8, 13, 0) : Ky) ≠ (8, 14, 0) by decide), k_uk (show ((8, 15, 0) : Ky) ≠ (8, 14, 0) by decide), k_uk (show ((8, 16, 0) : Ky) ≠ (8, 14, 0) by decide), k_uk (show ((8, 17, 0) : Ky) ≠ (8, 14, 0) by decide)]
      exact he
  · by_cases w : i = c
    · subst w; omega
    · rw [k_uk (hne i w)]; exact r i hi hi6
  · rw [k_uk k_ne10]
    by_cases w : i = c
    · subst w
      rw [k_uj (by decide)]; exact z i hi
    · rw [k_uk (hne i w)]; exact z i hi
theorem CR_seed {g nC nB : Nat} {mi mj : MemI} {v : Int32} (h : k_CR g nC nB mi mj) : k_CR g nC nB (k_ui mi (2, g, 0) 5 v) (k_ui mj (7, 0, 0) 3 v) := by
  obtain ⟨a0, ⟨b1, b2, b3, b4⟩, ⟨c1, c2⟩, d, e, f, p, r, z⟩ := h
  refine ⟨a0, ⟨?_, ?_, ?_, ?_⟩, ⟨?_, ?_⟩, fun i hi => ?_, fun i hi => ?_, fun i hi hi6 => ?_, fun i hi => ?_, fun i hi hi6 => ?_, fun i hi => ?_⟩
  · rw [k_uj (by decide)]; exact b1
  · rw [k_uj (by decide)]; exact b2
  · rw [k_uj (by decide)]; exact b3
  · rw [k_uj (by decide)]; exact b4
  · rw [k_uj (by decide), k_uj (by decide)]; exact c1
  · rw [k_uis, k_uis]
  · rw [k_uk k_ne12, k_uk k_ne02]; exact d i hi
  · have he := e i hi
    unfold k_cz k_cr at he ⊢
    simp only [k_uk k_ne12, k_uk (show ((8, 6, 0) : Ky) ≠ (7, 0, 0) by decide), k_uk (show ((8, 7, 0) : Ky) ≠ (7, 0, 0) by decide), k_uk (show ((8, 8, 0) : Ky) ≠ (7, 0, 0) by decide), k_uk (show ((8, 9, 0) : Ky) ≠ (7, 0, 0) by decide), k_uk (show ((8, 10, 0) : Ky) ≠ (7, 0, 0) by decide), k_uk (show ((8, 11, 0) : Ky) ≠ (7, 0, 0) by decide), k_uk (show ((8, 12, 0) : Ky) ≠ (7, 0, 0) by decide)]
    exact he
  · rw [k_uk k_ne12]; exact f i hi hi6
  · have he := p i hi
    unfold k_bz k_br at he ⊢
    simp only [k_uk k_ne02, k_uk (show ((8, 13, 0) : Ky) ≠ (7, 0, 0) by decide), k_uk (show ((8, 14, 0) : Ky) ≠ (7, 0, 0) by decide), k_uk (show ((8, 15, 0) : Ky) ≠ (7, 0, 0) by decide), k_uk (show ((8, 16, 0) : Ky) ≠ (7, 0, 0) by decide), k_uk (show ((8, 17, 0) : Ky) ≠ (7, 0, 0) by decide)]
    exact he
  · rw [k_uk k_ne02]; exact r i hi hi6
  · rw [k_uk k_ne12, k_uk k_ne02]; exact z i hi
