/-! level 2: the best beggar to send away; the heart to shun -/
theorem best_step {nC nB j : Nat} {A F mj : MemI} (hb : j < nB) (a1 : k_CR 1 nC nB A F) (a2 : k_s6 mj F) (hz : F (8, 17, 0) j = 0) : nI (f_X2_countUnkept (f_X2_goBy (k_ui A (0, 1, j) 2 1) 1) 1 6) = (f_X7_goes (k_ui F (8, 17, 0) j 1) nC nB) (7, 0, 0) 42 ∧ k_CR 1 nC nB (k_ui (f_X2_goBy (k_ui A (0, 1, j) 2 1) 1) (0, 1, j) 2 0) (k_ui (f_X7_goes (k_ui F (8, 17, 0) j 1) nC nB) (8, 17, 0) j 0) ∧ k_s6 mj (k_ui (f_X7_goes (k_ui F (8, 17, 0) j 1) nC nB) (8, 17, 0) j 0) ∧ (k_ui (f_X2_goBy (k_ui A (0, 1, j) 2 1) 1) (0, 1, j) 2 0) (0, 1, j) 0 = nI j := by
  obtain ⟨u1, u2, -⟩ := go_res (CR_b2 (v := 1) a1 hb ⟨1, by decide, rfl⟩)
  have hs := sxm_back (sxm_goes (nC := nC) (nB := nB) (sxm_put (v := 1) (sxm_rf (n := 17) (c := j) (mj := F))))
  rw [hz] at hs
  have c2 := CR_b2 (v := 0) u1.1 hb ⟨0, by decide, rfl⟩
  have h6 := a1.1.2
  exact ⟨u2, c2, s6_tr a2 hs, (c2.2.2.2.1 j (by omega)).2⟩
theorem best_eq {nC nB : Nat} {T mj : MemI} (t0 : k_CR 1 nC nB T mj) : ∀ j, j ≤ nB → k_CR 1 nC nB (f_X6_bestL T j).2.2 (f_X7_beL mj nC nB j).2.2 ∧ k_s6 mj (f_X7_beL mj nC nB j).2.2 ∧ (((f_X6_bestL T j).1 = -1 ∧ (f_X7_beL mj nC nB j).1 = 6) ∨ ((f_X7_beL mj nC nB j).1 < 6 ∧ (f_X6_bestL T j).1 = nI (f_X7_beL mj nC nB j).1 ∧ (f_X6_bestL T j).2.1 = (f_X7_beL mj nC nB j).2.1)) := by
  have hB := t0.1.2
  intro j
  induction j with
  | zero => intro _; exact ⟨t0, s6_rf, Or.inl ⟨rfl, rfl⟩⟩
  | succ j ih =>
    intro hj
    obtain ⟨a1, a2, a3⟩ := ih (by omega)
    rw [f_X6_bestL, f_X7_beL]
    unfold f_X2_hungryMorning
    generalize f_X6_bestL T j = X at *
    generalize f_X7_beL mj nC nB j = Y at *
    obtain ⟨x1, x2, A⟩ := X
    obtain ⟨y1, y2, F⟩ := Y
    dsimp only at a1 a2 a3 ⊢
    have hc := CR_comes a1 (b := j) (by omega)
    have e17 := bt_01 (a1.2.2.2.2.2.2.1 j (by omega)).2.1
    rcases e17 with z | z
    · obtain ⟨s1, s2, s3, s4⟩ := best_step (nC := nC) (nB := nB) (by omega) a1 a2 z
      have z1 : ¬ F (8, 17, 0) j = 1 := by rw [z]; decide
      rw [if_neg (fun q => z1 (hc.mp q)), if_neg z1, if_neg z1, s1, s4]
      generalize (k_ui (f_X2_goBy (k_ui A (0, 1, j) 2 1) 1) (0, 1, j) 2 0) = A2 at *
      generalize (k_ui (f_X7_goes (k_ui F (8, 17, 0) j 1) nC nB) (8, 17, 0) j 0) = F2 at *
      generalize (f_X7_goes (k_ui F (8, 17, 0) j 1) nC nB) (7, 0, 0) 42 = v at *
      rcases a3 with ⟨r1, r2⟩ | ⟨r1, r2, r3⟩
      · rw [if_pos r1, if_neg (show ¬ y1 < 6 by omega)]
        exact ⟨s2, s3, Or.inr ⟨(by omega : j < 6), rfl, rfl⟩⟩
      · have hn : ¬ x1 = -1 := by rw [r2]; exact k_nIne (by omega)
        rw [if_neg hn, if_pos r1, r3]
        by_cases q : y2 ≤ v
        · rw [if_pos q, if_neg (Int32.not_lt.mpr q)]
          exact ⟨s2, s3, Or.inr ⟨r1, r2, rfl⟩⟩
        · rw [if_neg q, if_pos (Int32.not_le.mp q)]
          exact ⟨s2, s3, Or.inr ⟨(by omega : j < 6), rfl, rfl⟩⟩
    · rw [if_pos (hc.mpr z), if_pos z, if_pos z]
      rcases a3 with ⟨r1, r2⟩ | ⟨r1, r2, r3⟩
      · rw [if_neg (show ¬ y1 < 6 by omega)]
        exact ⟨a1, a2, Or.inl ⟨r1, rfl⟩⟩
      · rw [if_pos r1]
        exact ⟨a1, a2, Or.inr ⟨r1, r2, r3⟩⟩
theorem q_best {nC nB : Nat} {mi mj : MemI} {ml mlj : MemL} (h : k_R nC nB mi ml mj mlj) : k_Q nC nB (f_X6_best mi) ml (f_X7_best mj nC nB) mlj := by
  unfold f_X6_best f_X7_best
  have t0 := R_trial h
  obtain ⟨b1, b2, b3⟩ := best_eq t0 nB (Nat.le_refl _)
  have keep : ∀ d, nB + d ≤ 6 → f_X6_bestL (f_X2_become mi 1 0) (nB + d) = f_X6_bestL (f_X2_become mi 1 0) nB := by
    intro d
    induction d with
    | zero => intro _; rfl
    | succ d ih =>
      intro hd
      have e := ih (by omega)
      rw [show nB + (d + 1) = (nB + d) + 1 from rfl, f_X6_bestL, e, if_pos (CR_away b1 (b := nB + d) (by omega) (by omega))]
  have e6 : f_X6_bestL (f_X2_become mi 1 0) 6 = f_X6_bestL (f_X2_become mi 1 0) nB := by
    have h6 := h.1.1.2
    have := keep (6 - nB) (by omega)
    rw [show nB + (6 - nB) = 6 by omega] at this
    exact this
  rw [e6]
  refine Q_mk ?_ (R_ext h (kp_g1 (fun kk qq hk => (fgX6_bestL hk _).trans (fg_X2_become hk)) (fun kk qq hk => (fn_X6_bestL hk).trans (fn_X2_become hk))) (fun kk qq hk => fw_X7_beL hk) b2)
  unfold k_op
  rcases b3 with ⟨r1, r2⟩ | ⟨r1, r2, -⟩
  · rw [r1, r2, if_neg (by decide)]
  · rw [r2, if_pos r1]
