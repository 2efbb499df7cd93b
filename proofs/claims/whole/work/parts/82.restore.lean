/-! level 2: restore -/
theorem R_cityS {nC nB nC' nB' : Nat} {mi mj m m' : MemI} {ml mlj : MemL} (h : k_R nC nB mi ml mj mlj) (hcr : k_CR 0 nC' nB' m m') (h1 : ∀ kk qq, k_gr 0 kk = false → kk.1 ≠ 5 → m kk qq = mi kk qq) (h2 : ∀ kk qq, k_nr kk qq = true → m kk qq = mi kk qq) (h3 : ∀ kk qq, k_mw kk qq = false → kk ≠ (8, 18, 0) → m' kk qq = mj kk qq) (hs : ∀ s, s < 8 → k_sh nC' s m m') : k_R nC' nB' m ml m' mlj := by
  obtain ⟨a1, a2, a2b, a3, a4, a5, a6, a7, a8, a9⟩ := h
  have k8 : ∀ n j, (n ≤ 5 ∨ (19 ≤ n ∧ n ≤ 26) ∨ n = 34 ∨ n = 50) → m' (8, n, 0) j = mj (8, n, 0) j := fun n j hn => h3 _ _ (by
    rcases hn with q | q | q | q
    · simp [k_mw, k_sc]; omega
    · simp [k_mw, k_sc]; omega
    · subst q; rfl
    · subst q; rfl) (by simp; omega)
  have k7 : ∀ q, (q = 4 ∨ q = 51 ∨ q = 52) → m' (7, 0, 0) q = mj (7, 0, 0) q := fun q hq => h3 _ _ (by rcases hq with rfl | rfl | rfl <;> rfl) (by decide)
  refine ⟨hcr, nums_ext a2 (fun g i => h2 _ _ rfl) (fun g i => h2 _ _ rfl), fun i hi => ?_, im_ext a3 (h1 _ _ rfl (by decide)) ⟨fun i q _ => h1 _ _ rfl (show (1 : Nat) ≠ 5 by decide), fun i q _ => h1 _ _ rfl (show (0 : Nat) ≠ 5 by decide), fun q _ => h1 _ _ rfl (by decide)⟩ (k7 52 (by simp)) (fun p => k8 34 p (by simp)), fun j hj1 hj8 => ?_, ?_, tc_ext a6 (h1 _ _ rfl (by decide)) (fun i => h1 _ _ rfl (by decide)) (k7 51 (by simp)) (fun i => k8 50 i (by simp)), hs, a8, tb_ext a9 (fun n j x y => k8 n j (by omega))⟩
  · rw [h1 (1, 2, i) 1 rfl (show (1 : Nat) ≠ 5 by decide), h1 (1, 2, i) 2 rfl (show (1 : Nat) ≠ 5 by decide), h1 (0, 2, i) 1 rfl (show (0 : Nat) ≠ 5 by decide), h1 (0, 2, i) 2 rfl (show (0 : Nat) ≠ 5 by decide)]; exact a2b i hi
  · rw [h1 (8, 100, 0) j rfl (by decide), k8 5 j (by simp)]; exact a4 j hj1 hj8
  · rw [h1 (4, 0, 0) 3 rfl (by decide), k7 4 (by simp)]; exact a5
/-- the shelves, after the city is another -/
theorem rest_eq {nC a b : Nat} {mi mj m m' : MemI} (hs : ∀ s, s < 8 → k_sh nC s mi mj) (hC : nC ≤ 6) (hcr : k_CR 0 a b m m') (h1 : ∀ s q, m (5, 0, s) q = mi (5, 0, s) q) (h3 : ∀ n j, 18 ≤ n → n ≤ 21 → m' (8, n, 0) j = mj (8, n, 0) j) : ∀ j, j ≤ 8 → (∀ s, s < j → k_sh a s (f_X6_restL m j) (f_X7_reL m' j)) ∧ (∀ kk qq, (kk.1 ≠ 5 ∨ j ≤ kk.2.2) → (f_X6_restL m j) kk qq = m kk qq) ∧ (∀ kk qq, (kk ≠ (8, 18, 0) ∨ j ≤ qq) → (f_X7_reL m' j) kk qq = m' kk qq) := by
  intro j
  induction j with
  | zero => intro _; exact ⟨fun s h => absurd h (Nat.not_lt_zero s), fun _ _ _ => rfl, fun _ _ _ => rfl⟩
  | succ j ih =>
    intro hj
    obtain ⟨i1, i2, i3⟩ := ih (by omega)
    have q5 : ∀ q, (f_X6_restL m j) (5, 0, j) q = mi (5, 0, j) q := fun q => (i2 _ _ (Or.inr (Nat.le_refl j))).trans (h1 j q)
    have q18 : (f_X7_reL m' j) (8, 18, 0) j = mj (8, 18, 0) j := (i3 _ _ (Or.inr (Nat.le_refl j))).trans (h3 18 j (by decide) (by decide))
    have q19 : ∀ n s, 19 ≤ n → n ≤ 21 → (f_X7_reL m' j) (8, n, 0) s = mj (8, n, 0) s := fun n s y z => (i3 _ _ (Or.inl (k_keyne (by omega)))).trans (h3 n s (by omega) z)
    have q0 : (f_X7_reL m' j) (7, 0, 0) 0 = nI a := (i3 _ _ (Or.inl (by decide))).trans hcr.2.1.2.2.1
    have cr : k_CR 0 a b (f_X6_restL m j) m' := CR_ext hcr ⟨fun i q _ => i2 _ _ (Or.inl (show (1 : Nat) ≠ 5 by decide)), fun i q _ => i2 _ _ (Or.inl (show (0 : Nat) ≠ 5 by decide)), fun q _ => i2 _ _ (Or.inl (show (2 : Nat) ≠ 5 by decide))⟩ sM_rf
    have w2 : ∀ kk qq, (kk.1 ≠ 5 ∨ j + 1 ≤ kk.2.2) → (f_X6_restL m j) kk qq = m kk qq := fun kk qq e => i2 kk qq (e.imp id (fun z => by omega))
    have w3 : ∀ kk qq, (kk ≠ (8, 18, 0) ∨ j + 1 ≤ qq) → (f_X7_reL m' j) kk qq = m' kk qq := fun kk qq e => i3 kk qq (e.imp id (fun z => by omega))
    obtain ⟨⟨len, l1, l2⟩, sh⟩ := hs j (by omega)
    rw [f_X6_restL, f_X7_reL, q18, q5 3, q19 21 j (by decide) (by decide), q0]
    unfold f_X5_hasCitizen
    rw [q5 3]
    have put : ∀ X Y, X = f_X6_restL m j → Y = f_X7_reL m' j → k_sh a j X Y → ∀ s, s < j + 1 → k_sh a s X Y := fun X Y e1 e2 hh s hs => by
      subst e1; subst e2
      rcases Nat.lt_or_ge s j with q | q
      · exact i1 s q
      · rw [show s = j by omega]; exact hh
    rcases sh with ⟨a1, a2, a3, a4, a5⟩ | ⟨a1, a2, a3, a4⟩ | ⟨a1, a2, a3, a4, a5⟩
    · rw [a3, if_pos rfl, if_pos rfl, a5, if_neg (show ¬ (1 : Int32) = 2 by decide)]
      refine ⟨put _ _ rfl rfl ⟨⟨len, l1, (q19 20 j (by decide) (by decide)).trans l2⟩, Or.inl ⟨?_, ?_, (q5 3).trans a3, ?_, q18.trans a5⟩⟩, w2, w3⟩
      · rw [q5, q19 19 j (by decide) (by decide)]; exact a1
      · rw [q19 19 j (by decide) (by decide)]; exact a2
      · rw [q5, q19 20 j (by decide) (by decide)]; exact a4
    · rw [a2, if_pos rfl, if_pos rfl, a4, if_neg (show ¬ (0 : Int32) = 2 by decide)]
      exact ⟨put _ _ rfl rfl ⟨⟨len, l1, (q19 20 j (by decide) (by decide)).trans l2⟩, Or.inr (Or.inl ⟨(q5 1).trans a1, (q5 3).trans a2, (q5 2).trans a3, q18.trans a4⟩)⟩, w2, w3⟩
    · have hv := vp_in_of a4 (by omega)
      obtain ⟨v, hv, ev⟩ := hv
      have hn : ¬ mj (8, 21, 0) j = -1 := by rw [ev]; exact k_nIne (by omega)
      have hA := cr.1.1
      rw [a3, if_neg hn, if_neg (show ¬ (1 : Int32) = 0 by decide), a5, if_pos rfl]
      by_cases c : v < a
      · have va : vp_in (mj (8, 21, 0) j) a := by rw [ev]; exact k_vin (nI_pos (by omega)) (nI_ge c (by omega)) (nI_toInt (by omega))
        have hc6 := k_clamp va
        rw [cA_eq cr va, if_pos (show (mj (8, 21, 0) j).toNatClampNeg < 6 by omega), if_pos (show mj (8, 21, 0) j < nI a by rw [ev]; exact nI_lt c (by omega))]
        exact ⟨put _ _ rfl rfl ⟨⟨len, l1, (q19 20 j (by decide) (by decide)).trans l2⟩, Or.inr (Or.inr ⟨(q5 1).trans a1, (q5 2).trans a2, (q5 3).trans (a3.trans (q19 21 j (by decide) (by decide)).symm), by rw [q19 21 j (by decide) (by decide)]; exact va, q18.trans a5⟩)⟩, w2, w3⟩
      · have va : ¬ vp_in (mj (8, 21, 0) j) a := fun z => by
          have := k_clamp z
          rw [ev, nI_clamp (by omega)] at this
          omega
        rw [cA_no cr va, if_neg (Nat.lt_irrefl 6), if_neg (show ¬ mj (8, 21, 0) j < nI a by rw [ev]; exact Int32.not_lt.mpr (Int32.not_lt.mp (fun z => c (by
          rcases Nat.lt_or_ge v a with q | q
          · exact q
          · exact absurd (Int32.not_lt.mpr (Int32.not_lt.mp (nI_nlt q (by omega)))  z) (fun f => f)))))]
        obtain ⟨t1, t2, t3⟩ := tc_at (mi := f_X6_restL m j) (i := j) (v := -1)
        refine ⟨fun s hs => ?_, fun kk qq e => ?_, fun kk qq e => ?_⟩
        · rcases Nat.lt_or_ge s j with q | q
          · exact sh_ext (i1 s q) (Nat.le_refl _) (fun q2 => tc_fr (by simp; omega)) (k_uj (by omega)) (k_uk (by decide)) (k_uk (by decide)) (k_uk (by decide))
          · rw [show s = j by omega]
            exact ⟨⟨len, l1, (k_uk (by decide)).trans ((q19 20 j (by decide) (by decide)).trans l2)⟩, Or.inr (Or.inl ⟨t1, t3, t2, k_uis⟩)⟩
        · refine (tc_fr (fun z => ?_)).trans (w2 kk qq e)
          subst z
          rcases e with e | e
          · exact e rfl
          · exact absurd (show j + 1 ≤ j from e) (by omega)
        · refine (k_ufr (fun z => ?_)).trans (w3 kk qq e)
          rcases e with e | e
          · exact e z.1
          · rw [z.2] at e; omega
theorem q_restore {nC nB : Nat} {mi mj : MemI} {ml mlj : MemL} (h : k_R nC nB mi ml mj mlj) : ∃ nC' nB', k_Q nC' nB' (f_X6_restore mi) ml (f_X7_restore mj) mlj := by
  unfold f_X6_restore f_X7_restore
  rcases h.2.2.2.1 with ⟨b1, b2⟩ | ⟨b1, b2, x, y, mk, b3, b4⟩
  · rw [if_pos b1, if_pos b2]
    exact ⟨nC, nB, Q_no h 6 (by decide) (by decide)⟩
  · rw [if_neg (show ¬ mi (6, 0, 0) 3 = 0 by rw [b1]; decide), if_neg (show ¬ mj (7, 0, 0) 52 = 0 by rw [b2]; decide)]
    have t0 : k_CR 0 x y (f_X2_become mi 0 2) (f_X7_allI mj 34) := CR_ext6 (bec_CR (by decide) b3 (fun i hi => h.2.1 0 (by decide) i hi)) sC_rf (sv_back (by decide) b4)
    obtain ⟨r1, r2, r3⟩ := rest_eq (m := f_X2_become mi 0 2) (m' := f_X7_allI mj 34) h.2.2.2.2.2.2.2.1 h.1.1.1 t0 (fun s q => fg_X2_become rfl) (fun n j y z => fw_X7_allI (by simp [k_mw, k_sc]; omega)) 8 (Nat.le_refl _)
    have c0 : k_CR 0 x y (f_X6_restL (f_X2_become mi 0 2) 8) (f_X7_reL (f_X7_allI mj 34) 8) := CR_ext t0 ⟨fun i q _ => r2 _ _ (Or.inl (show (1 : Nat) ≠ 5 by decide)), fun i q _ => r2 _ _ (Or.inl (show (0 : Nat) ≠ 5 by decide)), fun q _ => r2 _ _ (Or.inl (show (2 : Nat) ≠ 5 by decide))⟩ ⟨fun n j y z => r3 _ _ (Or.inl (k_keyne (by omega))), fun q _ => r3 _ _ (Or.inl (by decide))⟩
    refine ⟨x, y, Q_mk (c0.2.1.1.trans c0.2.1.2.2.1.symm) (R_cityS h c0 (fun kk qq hk h5 => (r2 _ _ (Or.inl h5)).trans (fg_X2_become hk)) (fun kk qq hk => (r2 _ _ (Or.inl (fun z => ?_))).trans (fn_X2_become hk)) (fun kk qq hk h18 => (r3 _ _ (Or.inl h18)).trans (fw_X7_allI hk)) r1)⟩
    unfold k_nr at hk
    rw [z] at hk
    exact absurd hk (by simp)
