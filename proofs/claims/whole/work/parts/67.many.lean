/-! level 2: many mornings; winters; looks at a changed city -/
theorem passN_CR {g nC nB : Nat} {mi mj : MemI} (h : k_CR g nC nB mi mj) : ∀ j, (f_X2_passN mi g j).1 = (f_X7_moL mj nC nB j).1 ∧ k_CR g nC nB (f_X2_passN mi g j).2 (f_X7_moL mj nC nB j).2 := by
  intro j
  induction j with
  | zero => exact ⟨rfl, h⟩
  | succ j ih =>
    obtain ⟨a1, a2⟩ := pass_CR ih.2
    rw [f_X2_passN_s, f_X7_moL_s]
    exact ⟨by dsimp only; rw [ih.1, a1], a2⟩
theorem weL_eq {nC nB : Nat} {mj : MemI} : ∀ j, f_X7_weL mj nC nB j = (f_X7_moL mj nC nB j).2 := by
  intro j
  induction j with
  | zero => rfl
  | succ j ih => rw [f_X7_weL_s, f_X7_moL_s, ih]
theorem unL_eq {nC nB : Nat} {mj : MemI} : ∀ j, (f_X7_unL mj nC nB j).1 = (f_X7_moL mj nC nB j).1 ∧ (f_X7_unL mj nC nB j).2.2 = (f_X7_moL mj nC nB j).2 := by
  intro j
  induction j with
  | zero => exact ⟨rfl, rfl⟩
  | succ j ih =>
    rw [f_X7_unL_s, f_X7_moL_s, ih.1, ih.2]
    repeat' split
    all_goals exact ⟨rfl, rfl⟩
/-- once found the first stays -/
theorem unL_st {nC nB : Nat} {mj : MemI} : ∀ d j, ¬ (f_X7_unL mj nC nB j).2.1 = -1 → (f_X7_unL mj nC nB (j + d)).2.1 = (f_X7_unL mj nC nB j).2.1 := by
  intro d
  induction d with
  | zero => intro j _; rfl
  | succ d ih =>
    intro j h
    rw [show j + (d + 1) = (j + d) + 1 from rfl, f_X7_unL_s]
    have := ih j h
    repeat' split
    · exact this
    · rename_i q; rw [this] at q; exact absurd q h
    · exact this
theorem fh_eq {g nC nB : Nat} : ∀ n j {mi mj : MemI}, j + n ≤ 60 → (f_X7_unL mj nC nB j).2.1 = -1 → k_CR g nC nB mi (f_X7_moL mj nC nB j).2 → (f_X2_fhR g n j mi).1 = (f_X7_unL mj nC nB (j + n)).2.1 := by
  intro n
  induction n with
  | zero => intro j mi mj _ h _; exact h.symm
  | succ n ih =>
    intro j mi mj hj h hc
    obtain ⟨a1, a2⟩ := pass_CR hc
    have e2 := (unL_eq (nC := nC) (nB := nB) (mj := mj) j).2
    have hs : (f_X7_unL mj nC nB (j + 1)).2.1 = if (f_X7_passes (f_X7_moL mj nC nB j).2 nC nB) (7, 0, 0) 42 ≤ 0 then -1 else nI (j + 1) := by
      rw [f_X7_unL_s, e2]
      split
      · exact h
      · first | rfl | rw [if_pos h]
    rw [f_X2_fhR_s, a1]
    by_cases q : (f_X7_passes (f_X7_moL mj nC nB j).2 nC nB) (7, 0, 0) 42 ≤ 0
    · rw [if_pos q]
      rw [if_pos q] at hs
      rw [show j + (n + 1) = (j + 1) + n by omega]
      exact ih (j + 1) (by omega) hs (by rw [f_X7_moL_s]; exact a2)
    · rw [if_neg q]
      rw [if_neg q] at hs
      rw [show j + (n + 1) = (j + 1) + n by omega, unL_st n (j + 1) (by rw [hs]; exact k_nIne (by omega)), hs]
/-! winters -/
/-- the number that is drawn -/
def k_dX (s : Int32) : Int32 := s * 1103515245 + 12345
def k_dr (x : Int32) : Int32 := (x.toUInt32 >>> ((16 : Int32).toUInt32 &&& Int32.toUInt32 31)).toInt32 - (x.toUInt32 >>> ((16 : Int32).toUInt32 &&& Int32.toUInt32 31)).toInt32 / 10 * 10
theorem drC_eq (mi : MemI) (g : Nat) : f_X2_draw mi g 10 = (k_dr (k_dX (mi (2, g, 0) 5)), k_ui mi (2, g, 0) 5 (k_dX (mi (2, g, 0) 5))) := by
  unfold f_X2_draw
  rw [if_neg (by decide), k_uis]
  rfl
theorem drM_eq (mj : MemI) : f_X7_draw mj 10 = (k_dr (k_dX (mj (7, 0, 0) 3)), k_ui mj (7, 0, 0) 3 (k_dX (mj (7, 0, 0) 3))) := rfl
theorem dH_CR {g nC nB : Nat} {mi mj : MemI} (h : k_CR g nC nB mi mj) : ∀ j, j ≤ nC → k_CR g nC nB (f_X2_drawH mi g j) (f_X7_wiC mj j) := by
  intro j
  induction j with
  | zero => intro _; exact h
  | succ j ih =>
    intro hj
    have hc := ih (by omega)
    obtain ⟨⟨e1, -, -, -, -, -, e7, -⟩, -⟩ := hc.2.2.2.2.1 j (by omega)
    have e5 := hc.2.2.1.2
    have e7a : ∀ X, k_ui (f_X2_drawH mi g j) (2, g, 0) 5 X (1, g, j) 7 = f_X7_wiC mj j (8, 10, 0) j := fun X => (k_uk k_ne12).trans e7
    have e7b : ∀ X, k_ui (f_X7_wiC mj j) (7, 0, 0) 3 X (8, 10, 0) j = f_X7_wiC mj j (8, 10, 0) j := fun X => k_uk (by decide)
    rw [f_X2_drawH_s, f_X7_wiC_s, drC_eq, drM_eq, e1, if_neg (by decide), e5]
    have hs := CR_seed (v := k_dX (f_X7_wiC mj j (7, 0, 0) 3)) hc
    show k_CR g nC nB (if k_ui (f_X2_drawH mi g j) (2, g, 0) 5 (k_dX (f_X7_wiC mj j (7, 0, 0) 3)) (1, g, j) 7 / 10 ≤ k_dr (k_dX (f_X7_wiC mj j (7, 0, 0) 3)) then _ else _) (if k_ui (f_X7_wiC mj j) (7, 0, 0) 3 (k_dX (f_X7_wiC mj j (7, 0, 0) 3)) (8, 10, 0) j / 10 ≤ k_dr (k_dX (f_X7_wiC mj j (7, 0, 0) 3)) then _ else _)
    rw [e7a, e7b]
    split
    · exact CR_c2 hs (by omega) ⟨0, by decide, rfl⟩
    · exact CR_c2 hs (by omega) ⟨1, by decide, rfl⟩
theorem dH_6 {g nC nB : Nat} {mi mj : MemI} (h : k_CR g nC nB mi mj) : k_CR g nC nB (f_X2_drawWhoHides mi g) (f_X7_wiC mj nC) := by
  have hc := dH_CR h nC (Nat.le_refl _)
  have e : f_X2_drawH mi g 6 = f_X2_drawH mi g nC := by
    have hk : ∀ d, nC + d ≤ 6 → f_X2_drawH mi g (nC + d) = f_X2_drawH mi g nC := by
      intro d
      induction d with
      | zero => intro _; rfl
      | succ d ih =>
        intro hd
        have i2 := ih (by omega)
        rw [show nC + (d + 1) = (nC + d) + 1 from rfl, f_X2_drawH_s, i2, if_pos (hc.2.2.2.2.2.1 (nC + d) (by omega) (by omega))]
    have := hk (6 - nC) (by have := h.1.1; omega)
    rw [show nC + (6 - nC) = 6 by have := h.1.1; omega] at this
    exact this
  unfold f_X2_drawWhoHides
  rw [e]; exact hc
theorem wint_CR {nC nB N : Nat} {mi mj : MemI} (h : k_CR 0 nC nB mi mj) : ∀ j, (f_X6_wintL mi N j).1 = (f_X7_wiL mj nC nB j).1 ∧ k_CR 0 nC nB (f_X6_wintL mi N j).2 (f_X7_wiL mj nC nB j).2 := by
  intro j
  induction j with
  | zero => exact ⟨rfl, h⟩
  | succ j ih =>
    obtain ⟨a1, a2⟩ := pass_CR (dH_6 ih.2)
    rw [f_X6_wintL_s, f_X7_wiL_s]
    exact ⟨by dsimp only; rw [ih.1, a1], a2⟩
