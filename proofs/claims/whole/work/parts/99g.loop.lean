/-! the whole text -/
def k_lr (N nC0 : Nat) (s0 : Int32) (sg : Nat → Int32) (A : Int32 × MemI) (B : Int32 × Int32 × MemI) : Prop := (A.1 = -1 ∧ B.2.1 = 0 ∧ A.2 (4, 0, 0) 3 = B.2.2 (7, 0, 0) 32) ∨ (¬ A.1 = -1 ∧ ¬ B.2.1 = 0 ∧ A.1 = B.1 ∧ ∃ nC nB P, nC0 ≤ nC ∧ k_rx nC nB N P s0 sg A.2 B.2.2)
theorem rx_loop {N nC0 : Nat} {s0 : Int32} {sg : Nat → Int32} {mlj : MemL} (v : vp_in s0 8) (hs : ∀ i, i < 160 → sg i = (mlj (9, 1, 0) (160 * s0.toNatClampNeg + i)).toInt32) : ∀ u j nC nB P m m', j + u = 160 → 2 * j ≤ P → nC0 ≤ nC → k_rx nC nB N P s0 sg m m' → k_lr N nC0 s0 sg (f_X4_rdR u j m) (f_X7_ctR mlj (u + 2) (nI (j + 1)) (f_X7_item m' mlj).1 (f_X7_item m' mlj).2) := by
  intro u
  induction u with
  | zero =>
    intro j nC nB P m m' hj hP hn h
    have := h.2.2.2.2
    omega
  | succ u ih =>
    intro j nC nB P m m' hj hP hn h
    have it := rx_item h v hs
    have hN := h.2.2.2.2.2
    rw [f_X4_rdR_s, show u + 1 + 2 = (u + 2) + 1 by omega, f_X7_ctR_s]
    generalize f_X4_readItem m = X at it ⊢
    generalize f_X7_item m' mlj = Y at it ⊢
    rcases it with ⟨a, b, c⟩ | ⟨a, b, nC2, nB2, P2, hQ, r⟩
    · rw [if_pos a, if_pos b]
      exact Or.inl ⟨rfl, rfl, c⟩
    · rw [if_neg a, if_neg (show ¬ Y.1 = 0 by rw [b]; decide), r.2.1.2.1, r.2.1.1, rx_sg r]
      have hP2 := r.2.2.2.2.1
      by_cases e : P2 < N
      · rw [if_pos ((nI_ltI (by omega) (by omega)).mpr e), if_neg (fun z => (rx_me r).mp z e)]
        by_cases g : rx_ss N sg P2 = 59
        · rw [if_pos g, if_pos ((rx_ms2 r v hs e).mpr g), if_neg (show ¬ (1 : Int32) = 0 by decide), r.2.2.1.2.1, nI_1, nI_1]
          exact ih (j + 1) nC2 nB2 (P2 + 1) _ _ (by omega) (by omega) (by omega) (rx_up r e)
        · rw [if_neg g, if_neg (fun z => g ((rx_ms2 r v hs e).mp z)), if_pos rfl]
          unfold f_X7_wrong
          refine Or.inl ⟨rfl, rfl, ?_⟩
          dsimp only
          rw [k_uis, k_uis]
          exact r.2.2.1.2.1.symm
      · rw [if_neg (fun z => e ((nI_ltI (by omega) (by omega)).mp z)), if_pos ((rx_me r).mpr e)]
        exact Or.inr ⟨k_nIne (by omega), by rw [b]; exact (by decide : ¬ (1 : Int32) = 0), rfl, nC2, nB2, P2, by omega, r⟩
