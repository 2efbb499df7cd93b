/-! Model: a text -/
theorem k_ite {α : Type} {P : α → Prop} {c : Prop} {inst : Decidable c} {a b : α} (ha : c → P a) (hb : ¬ c → P b) : P (@ite α c inst a b) := by
  by_cases h : c
  · rw [if_pos h]; exact ha h
  · rw [if_neg h]; exact hb h
theorem adC_eq {mi : MemI} {n : Nat} {k a ms h : Int32} (e : mi (7, 0, 0) 0 = nI n) (hn : n < 1000) : f_X7_addsCitizen mi k a ms h = (nI n, k_ui (k_ui (k_ui (k_ui (k_ui (k_ui (k_ui (k_ui (mi) (8, 6, 0) n k) (8, 7, 0) n a) (8, 8, 0) n ms) (8, 9, 0) n h) (8, 10, 0) n 0) (8, 11, 0) n 0) (8, 12, 0) n 0) (7, 0, 0) 0 (nI (n + 1))) := by
  unfold f_X7_addsCitizen
  simp only [k_uk (show ((7, 0, 0) : Ky) ≠ (8, 6, 0) by decide), k_uk (show ((7, 0, 0) : Ky) ≠ (8, 7, 0) by decide), k_uk (show ((7, 0, 0) : Ky) ≠ (8, 8, 0) by decide), k_uk (show ((7, 0, 0) : Ky) ≠ (8, 9, 0) by decide), k_uk (show ((7, 0, 0) : Ky) ≠ (8, 10, 0) by decide), k_uk (show ((7, 0, 0) : Ky) ≠ (8, 11, 0) by decide), k_uk (show ((7, 0, 0) : Ky) ≠ (8, 12, 0) by decide), e, nI_clamp (show n < 2 ^ 31 by omega), nI_succ]
theorem adB_eq {mi : MemI} {n : Nat} {k r : Int32} (e : mi (7, 0, 0) 1 = nI n) (hn : n < 1000) : f_X7_addsBeggar mi k r = (nI n, k_ui (k_ui (k_ui (k_ui (k_ui (k_ui (mi) (8, 13, 0) n k) (8, 14, 0) n r) (8, 15, 0) n (-1)) (8, 16, 0) n 0) (8, 17, 0) n 0) (7, 0, 0) 1 (nI (n + 1))) := by
  unfold f_X7_addsBeggar
  simp only [k_uk (show ((7, 0, 0) : Ky) ≠ (8, 13, 0) by decide), k_uk (show ((7, 0, 0) : Ky) ≠ (8, 14, 0) by decide), k_uk (show ((7, 0, 0) : Ky) ≠ (8, 15, 0) by decide), k_uk (show ((7, 0, 0) : Ky) ≠ (8, 16, 0) by decide), k_uk (show ((7, 0, 0) : Ky) ≠ (8, 17, 0) by decide), e, nI_clamp (show n < 2 ^ 31 by omega), nI_succ]
theorem mo_adC {nC nB : Nat} {mi : MemI} {k a ms h : Int32} (hm : k_mo nC nB mi) (h6 : nC < 6) : k_mo (nC + 1) nB (f_X7_addsCitizen mi k a ms h).2 := by
  obtain ⟨a1, a2, a3, a4, a5⟩ := hm
  rw [adC_eq a1 (by omega)]
  dsimp only
  refine ⟨k_uis, by omega, ?_, a4, fun b hb => ?_⟩
  · show k_ui _ (7, 0, 0) 0 _ (7, 0, 0) 1 = _
    rw [k_uj (by decide)]; simp only [k_uk (show ((7, 0, 0) : Ky) ≠ (8, 6, 0) by decide), k_uk (show ((7, 0, 0) : Ky) ≠ (8, 7, 0) by decide), k_uk (show ((7, 0, 0) : Ky) ≠ (8, 8, 0) by decide), k_uk (show ((7, 0, 0) : Ky) ≠ (8, 9, 0) by decide), k_uk (show ((7, 0, 0) : Ky) ≠ (8, 10, 0) by decide), k_uk (show ((7, 0, 0) : Ky) ≠ (8, 11, 0) by decide), k_uk (show ((7, 0, 0) : Ky) ≠ (8, 12, 0) by decide)]; exact a3
  · simp only [k_uk (show ((8, 15, 0) : Ky) ≠ (7, 0, 0) by decide), k_uk (show ((8, 15, 0) : Ky) ≠ (8, 6, 0) by decide), k_uk (show ((8, 15, 0) : Ky) ≠ (8, 7, 0) by decide), k_uk (show ((8, 15, 0) : Ky) ≠ (8, 8, 0) by decide), k_uk (show ((8, 15, 0) : Ky) ≠ (8, 9, 0) by decide), k_uk (show ((8, 15, 0) : Ky) ≠ (8, 10, 0) by decide), k_uk (show ((8, 15, 0) : Ky) ≠ (8, 11, 0) by decide), k_uk (show ((8, 15, 0) : Ky) ≠ (8, 12, 0) by decide)]
    exact (a5 b hb).imp id (fun z => vp_mono z (by omega))
theorem mo_adB {nC nB : Nat} {mi : MemI} {k r : Int32} (hm : k_mo nC nB mi) (h6 : nB < 6) : k_mo nC (nB + 1) (f_X7_addsBeggar mi k r).2 := by
  obtain ⟨a1, a2, a3, a4, a5⟩ := hm
  rw [adB_eq a3 (by omega)]
  dsimp only
  refine ⟨?_, a2, k_uis, by omega, fun b hb => ?_⟩
  · show k_ui _ (7, 0, 0) 1 _ (7, 0, 0) 0 = _
    rw [k_uj (by decide)]; simp only [k_uk (show ((7, 0, 0) : Ky) ≠ (8, 13, 0) by decide), k_uk (show ((7, 0, 0) : Ky) ≠ (8, 14, 0) by decide), k_uk (show ((7, 0, 0) : Ky) ≠ (8, 15, 0) by decide), k_uk (show ((7, 0, 0) : Ky) ≠ (8, 16, 0) by decide), k_uk (show ((7, 0, 0) : Ky) ≠ (8, 17, 0) by decide)]; exact a1
  · simp only [k_uk (show ((8, 15, 0) : Ky) ≠ (7, 0, 0) by decide), k_uk (show ((8, 15, 0) : Ky) ≠ (8, 16, 0) by decide), k_uk (show ((8, 15, 0) : Ky) ≠ (8, 17, 0) by decide)]
    by_cases e : b = nB
    · subst e; left; exact k_uis
    · rw [k_uj e]
      simp only [k_uk (show ((8, 15, 0) : Ky) ≠ (8, 13, 0) by decide), k_uk (show ((8, 15, 0) : Ky) ≠ (8, 14, 0) by decide)]
      exact a5 b (by omega)
theorem adC_fr {mi : MemI} {k a ms h : Int32} {kk : Ky} {q : Nat} (h0 : ¬ (kk = (7, 0, 0) ∧ q = 0)) (h6 : kk ≠ (8, 6, 0)) (h7 : kk ≠ (8, 7, 0)) (h8 : kk ≠ (8, 8, 0)) (h9 : kk ≠ (8, 9, 0)) (h10 : kk ≠ (8, 10, 0)) (h11 : kk ≠ (8, 11, 0)) (h12 : kk ≠ (8, 12, 0)) : (f_X7_addsCitizen mi k a ms h).2 kk q = mi kk q := by
  unfold f_X7_addsCitizen
  dsimp only
  exact (if_neg h0).trans ((k_uk h12).trans ((k_uk h11).trans ((k_uk h10).trans ((k_uk h9).trans ((k_uk h8).trans ((k_uk h7).trans (k_uk h6)))))))
theorem adB_fr {mi : MemI} {k r : Int32} {kk : Ky} {q : Nat} (h0 : ¬ (kk = (7, 0, 0) ∧ q = 1)) (h13 : kk ≠ (8, 13, 0)) (h14 : kk ≠ (8, 14, 0)) (h15 : kk ≠ (8, 15, 0)) (h16 : kk ≠ (8, 16, 0)) (h17 : kk ≠ (8, 17, 0)) : (f_X7_addsBeggar mi k r).2 kk q = mi kk q := by
  unfold f_X7_addsBeggar
  dsimp only
  exact (if_neg h0).trans ((k_uk h17).trans ((k_uk h16).trans ((k_uk h15).trans ((k_uk h14).trans (k_uk h13)))))
/-- what an item leaves as it is: all but the city, the place, the number and what was told -/
theorem item_fr {mi : MemI} {ml : MemL} {kk : Ky} {q : Nat} (h7 : ¬ (kk = (7, 0, 0) ∧ (q = 0 ∨ q = 1 ∨ q = 29 ∨ q = 31 ∨ q = 32))) (h27 : kk ≠ (8, 27, 0)) (h6 : kk ≠ (8, 6, 0)) (h7b : kk ≠ (8, 7, 0)) (h8 : kk ≠ (8, 8, 0)) (h9 : kk ≠ (8, 9, 0)) (h10 : kk ≠ (8, 10, 0)) (h11 : kk ≠ (8, 11, 0)) (h12 : kk ≠ (8, 12, 0)) (h13 : kk ≠ (8, 13, 0)) (h14 : kk ≠ (8, 14, 0)) (h15 : kk ≠ (8, 15, 0)) (h16 : kk ≠ (8, 16, 0)) (h17 : kk ≠ (8, 17, 0)) : (f_X7_item mi ml).2 kk q = mi kk q := by
  have e1 : ∀ m w x, (f_X7_rdn m ml w x).2 kk q = m kk q := fun m w x => rdn_fr (fun z => h7 ⟨z.1, by rcases z.2 with h | h | h <;> simp [h]⟩) (fun z => h27 z.1)
  have e2 : ∀ m, (f_X7_bl m ml).2 kk q = m kk q := fun m => bl_fr (fun z => h7 ⟨z.1, by rcases z.2 with h | h <;> simp [h]⟩)
  have e3 : ∀ m, (f_X7_word m ml).2 kk q = m kk q := fun m => word_fr (fun z => h7 ⟨z.1, by rcases z.2 with h | h <;> simp [h]⟩)
  have e4 : ∀ m k a ms h, (f_X7_addsCitizen m k a ms h).2 kk q = m kk q := fun m k a ms h => adC_fr (fun z => h7 ⟨z.1, Or.inl z.2⟩) h6 h7b h8 h9 h10 h11 h12
  have e5 : ∀ m k r, (f_X7_addsBeggar m k r).2 kk q = m kk q := fun m k r => adB_fr (fun z => h7 ⟨z.1, Or.inr (Or.inl z.2)⟩) h13 h14 h15 h16 h17
  have e6 : ∀ m v, (f_X7_wrong m v).2 kk q = m kk q := fun m v => if_neg (fun z => h7 ⟨z.1, by simp [z.2]⟩)
  unfold f_X7_item

  refine k_ite (P := fun (z : Int32 × MemI) => z.2 kk q = mi kk q) (fun hq0 => ?_) (fun hq0 => ?_)
  · skip
    refine k_ite (P := fun (z : Int32 × MemI) => z.2 kk q = mi kk q) (fun hq1 => ?_) (fun hq1 => ?_)
    · skip
      dsimp only
      exact (e3 _).trans (rfl)
    · skip
      refine k_ite (P := fun (z : Int32 × MemI) => z.2 kk q = mi kk q) (fun hq2 => ?_) (fun hq2 => ?_)
      · skip
        refine k_ite (P := fun (z : Int32 × MemI) => z.2 kk q = mi kk q) (fun hq3 => ?_) (fun hq3 => ?_)
        · skip
          dsimp only
          exact (e1 _ _ _).trans ((e3 _).trans (rfl))
        · skip
          refine k_ite (P := fun (z : Int32 × MemI) => z.2 kk q = mi kk q) (fun hq4 => ?_) (fun hq4 => ?_)
          · skip
            dsimp only
            exact (e2 _).trans ((e1 _ _ _).trans ((e3 _).trans (rfl)))
          · skip
            refine k_ite (P := fun (z : Int32 × MemI) => z.2 kk q = mi kk q) (fun hq5 => ?_) (fun hq5 => ?_)
            · skip
              dsimp only
              exact (e1 _ _ _).trans ((e2 _).trans ((e1 _ _ _).trans ((e3 _).trans (rfl))))
            · skip
              refine k_ite (P := fun (z : Int32 × MemI) => z.2 kk q = mi kk q) (fun hq6 => ?_) (fun hq6 => ?_)
              · skip
                dsimp only
                exact (e2 _).trans ((e1 _ _ _).trans ((e2 _).trans ((e1 _ _ _).trans ((e3 _).trans (rfl)))))
              · skip
                refine k_ite (P := fun (z : Int32 × MemI) => z.2 kk q = mi kk q) (fun hq7 => ?_) (fun hq7 => ?_)
                · skip
                  dsimp only
                  exact (e1 _ _ _).trans ((e2 _).trans ((e1 _ _ _).trans ((e2 _).trans ((e1 _ _ _).trans ((e3 _).trans (rfl))))))
                · skip
                  refine k_ite (P := fun (z : Int32 × MemI) => z.2 kk q = mi kk q) (fun hq8 => ?_) (fun hq8 => ?_)
                  · skip
                    dsimp only
                    exact (e2 _).trans ((e1 _ _ _).trans ((e2 _).trans ((e1 _ _ _).trans ((e2 _).trans ((e1 _ _ _).trans ((e3 _).trans (rfl)))))))
                  · skip
                    refine k_ite (P := fun (z : Int32 × MemI) => z.2 kk q = mi kk q) (fun hq9 => ?_) (fun hq9 => ?_)
                    · skip
                      dsimp only
                      exact (e1 _ _ _).trans ((e2 _).trans ((e1 _ _ _).trans ((e2 _).trans ((e1 _ _ _).trans ((e2 _).trans ((e1 _ _ _).trans ((e3 _).trans (rfl))))))))
                    · skip
                      dsimp only
                      exact (e4 _ _ _ _ _).trans ((e1 _ _ _).trans ((e2 _).trans ((e1 _ _ _).trans ((e2 _).trans ((e1 _ _ _).trans ((e2 _).trans ((e1 _ _ _).trans ((e3 _).trans (rfl)))))))))
      · skip
        refine k_ite (P := fun (z : Int32 × MemI) => z.2 kk q = mi kk q) (fun hq3 => ?_) (fun hq3 => ?_)
        · skip
          refine k_ite (P := fun (z : Int32 × MemI) => z.2 kk q = mi kk q) (fun hq4 => ?_) (fun hq4 => ?_)
          · skip
            dsimp only
            exact (e1 _ _ _).trans ((e3 _).trans (rfl))
          · skip
            refine k_ite (P := fun (z : Int32 × MemI) => z.2 kk q = mi kk q) (fun hq5 => ?_) (fun hq5 => ?_)
            · skip
              dsimp only
              exact (e2 _).trans ((e1 _ _ _).trans ((e3 _).trans (rfl)))
            · skip
              refine k_ite (P := fun (z : Int32 × MemI) => z.2 kk q = mi kk q) (fun hq6 => ?_) (fun hq6 => ?_)
              · skip
                dsimp only
                exact (e1 _ _ _).trans ((e2 _).trans ((e1 _ _ _).trans ((e3 _).trans (rfl))))
              · skip
                dsimp only
                exact (e5 _ _ _).trans ((e1 _ _ _).trans ((e2 _).trans ((e1 _ _ _).trans ((e3 _).trans (rfl)))))
        · skip
          refine k_ite (P := fun (z : Int32 × MemI) => z.2 kk q = mi kk q) (fun hq4 => ?_) (fun hq4 => ?_)
          · skip
            refine k_ite (P := fun (z : Int32 × MemI) => z.2 kk q = mi kk q) (fun hq5 => ?_) (fun hq5 => ?_)
            · skip
              dsimp only
              exact (e1 _ _ _).trans ((e3 _).trans (rfl))
            · skip
              refine k_ite (P := fun (z : Int32 × MemI) => z.2 kk q = mi kk q) (fun hq6 => ?_) (fun hq6 => ?_)
              · skip
                dsimp only
                exact (e2 _).trans ((e1 _ _ _).trans ((e3 _).trans (rfl)))
              · skip
                refine k_ite (P := fun (z : Int32 × MemI) => z.2 kk q = mi kk q) (fun hq7 => ?_) (fun hq7 => ?_)
                · skip
                  dsimp only
                  exact (e1 _ _ _).trans ((e2 _).trans ((e1 _ _ _).trans ((e3 _).trans (rfl))))
                · skip
                  dsimp only
                  exact (k_uk h10).trans ((e1 _ _ _).trans ((e2 _).trans ((e1 _ _ _).trans ((e3 _).trans (rfl)))))
          · skip
            refine k_ite (P := fun (z : Int32 × MemI) => z.2 kk q = mi kk q) (fun hq5 => ?_) (fun hq5 => ?_)
            · skip
              refine k_ite (P := fun (z : Int32 × MemI) => z.2 kk q = mi kk q) (fun hq6 => ?_) (fun hq6 => ?_)
              · skip
                dsimp only
                exact (e1 _ _ _).trans ((e3 _).trans (rfl))
              · skip
                dsimp only
                exact (k_uk h12).trans ((e1 _ _ _).trans ((e3 _).trans (rfl)))
            · skip
              refine k_ite (P := fun (z : Int32 × MemI) => z.2 kk q = mi kk q) (fun hq6 => ?_) (fun hq6 => ?_)
              · skip
                refine k_ite (P := fun (z : Int32 × MemI) => z.2 kk q = mi kk q) (fun hq7 => ?_) (fun hq7 => ?_)
                · skip
                  dsimp only
                  exact (e1 _ _ _).trans ((e3 _).trans (rfl))
                · skip
                  dsimp only
                  exact (k_uk h12).trans ((e1 _ _ _).trans ((e3 _).trans (rfl)))
              · skip
                refine k_ite (P := fun (z : Int32 × MemI) => z.2 kk q = mi kk q) (fun hq7 => ?_) (fun hq7 => ?_)
                · skip
                  dsimp only
                  exact (e1 _ _ _).trans ((e3 _).trans (rfl))
                · skip
                  dsimp only
                  exact (k_uk h17).trans ((e1 _ _ _).trans ((e3 _).trans (rfl)))
  · skip
    dsimp only
    exact (e6 _ _).trans (rfl)
theorem rd_adC {mi : MemI} {k a ms h : Int32} (hr : k_rd mi) : k_rd (f_X7_addsCitizen mi k a ms h).2 := by
  obtain ⟨sn, len, pl, a1, a2, a3, a4, a5, a6⟩ := hr
  exact ⟨sn, len, pl, a1, a2, a3, (adC_fr (by simp) (by decide) (by decide) (by decide) (by decide) (by decide) (by decide) (by decide)).trans a4, (adC_fr (by simp) (by decide) (by decide) (by decide) (by decide) (by decide) (by decide) (by decide)).trans a5, (adC_fr (by simp) (by decide) (by decide) (by decide) (by decide) (by decide) (by decide) (by decide)).trans a6⟩
theorem rd_adB {mi : MemI} {k r : Int32} (hr : k_rd mi) : k_rd (f_X7_addsBeggar mi k r).2 := by
  obtain ⟨sn, len, pl, a1, a2, a3, a4, a5, a6⟩ := hr
  exact ⟨sn, len, pl, a1, a2, a3, (adB_fr (by simp) (by decide) (by decide) (by decide) (by decide) (by decide)).trans a4, (adB_fr (by simp) (by decide) (by decide) (by decide) (by decide) (by decide)).trans a5, (adB_fr (by simp) (by decide) (by decide) (by decide) (by decide) (by decide)).trans a6⟩
theorem rd_wrong {mi : MemI} {v : Int32} (h : k_rd mi) : k_rd (f_X7_wrong mi v).2 := rd_ui h (by simp)
theorem mo_wrong {nC nB : Nat} {mi : MemI} {v : Int32} (h : k_mo nC nB mi) : k_mo nC nB (f_X7_wrong mi v).2 := k_mo_ui h (by simp) (by simp)
theorem rd_item {mi : MemI} {ml : MemL} (h : k_rd mi) : k_rd (f_X7_item mi ml).2 := by
  unfold f_X7_item

  refine k_ite (P := fun (z : Int32 × MemI) => k_rd z.2) (fun hq0 => ?_) (fun hq0 => ?_)
  · skip
    refine k_ite (P := fun (z : Int32 × MemI) => k_rd z.2) (fun hq1 => ?_) (fun hq1 => ?_)
    · skip
      dsimp only
      exact (rd_word h)
    · skip
      refine k_ite (P := fun (z : Int32 × MemI) => k_rd z.2) (fun hq2 => ?_) (fun hq2 => ?_)
      · skip
        refine k_ite (P := fun (z : Int32 × MemI) => k_rd z.2) (fun hq3 => ?_) (fun hq3 => ?_)
        · skip
          dsimp only
          exact (rd_rdn (rd_word h))
        · skip
          refine k_ite (P := fun (z : Int32 × MemI) => k_rd z.2) (fun hq4 => ?_) (fun hq4 => ?_)
          · skip
            dsimp only
            exact (rd_bl (rd_rdn (rd_word h)))
          · skip
            refine k_ite (P := fun (z : Int32 × MemI) => k_rd z.2) (fun hq5 => ?_) (fun hq5 => ?_)
            · skip
              dsimp only
              exact (rd_rdn (rd_bl (rd_rdn (rd_word h))))
            · skip
              refine k_ite (P := fun (z : Int32 × MemI) => k_rd z.2) (fun hq6 => ?_) (fun hq6 => ?_)
              · skip
                dsimp only
                exact (rd_bl (rd_rdn (rd_bl (rd_rdn (rd_word h)))))
              · skip
                refine k_ite (P := fun (z : Int32 × MemI) => k_rd z.2) (fun hq7 => ?_) (fun hq7 => ?_)
                · skip
                  dsimp only
                  exact (rd_rdn (rd_bl (rd_rdn (rd_bl (rd_rdn (rd_word h))))))
                · skip
                  refine k_ite (P := fun (z : Int32 × MemI) => k_rd z.2) (fun hq8 => ?_) (fun hq8 => ?_)
                  · skip
                    dsimp only
                    exact (rd_bl (rd_rdn (rd_bl (rd_rdn (rd_bl (rd_rdn (rd_word h)))))))
                  · skip
                    refine k_ite (P := fun (z : Int32 × MemI) => k_rd z.2) (fun hq9 => ?_) (fun hq9 => ?_)
                    · skip
                      dsimp only
                      exact (rd_rdn (rd_bl (rd_rdn (rd_bl (rd_rdn (rd_bl (rd_rdn (rd_word h))))))))
                    · skip
                      dsimp only
                      exact (rd_adC (rd_rdn (rd_bl (rd_rdn (rd_bl (rd_rdn (rd_bl (rd_rdn (rd_word h)))))))))
      · skip
        refine k_ite (P := fun (z : Int32 × MemI) => k_rd z.2) (fun hq3 => ?_) (fun hq3 => ?_)
        · skip
          refine k_ite (P := fun (z : Int32 × MemI) => k_rd z.2) (fun hq4 => ?_) (fun hq4 => ?_)
          · skip
            dsimp only
            exact (rd_rdn (rd_word h))
          · skip
            refine k_ite (P := fun (z : Int32 × MemI) => k_rd z.2) (fun hq5 => ?_) (fun hq5 => ?_)
            · skip
              dsimp only
              exact (rd_bl (rd_rdn (rd_word h)))
            · skip
              refine k_ite (P := fun (z : Int32 × MemI) => k_rd z.2) (fun hq6 => ?_) (fun hq6 => ?_)
              · skip
                dsimp only
                exact (rd_rdn (rd_bl (rd_rdn (rd_word h))))
              · skip
                dsimp only
                exact (rd_adB (rd_rdn (rd_bl (rd_rdn (rd_word h)))))
        · skip
          refine k_ite (P := fun (z : Int32 × MemI) => k_rd z.2) (fun hq4 => ?_) (fun hq4 => ?_)
          · skip
            refine k_ite (P := fun (z : Int32 × MemI) => k_rd z.2) (fun hq5 => ?_) (fun hq5 => ?_)
            · skip
              dsimp only
              exact (rd_rdn (rd_word h))
            · skip
              refine k_ite (P := fun (z : Int32 × MemI) => k_rd z.2) (fun hq6 => ?_) (fun hq6 => ?_)
              · skip
                dsimp only
                exact (rd_bl (rd_rdn (rd_word h)))
              · skip
                refine k_ite (P := fun (z : Int32 × MemI) => k_rd z.2) (fun hq7 => ?_) (fun hq7 => ?_)
                · skip
                  dsimp only
                  exact (rd_rdn (rd_bl (rd_rdn (rd_word h))))
                · skip
                  dsimp only
                  exact (rd_ui (rd_rdn (rd_bl (rd_rdn (rd_word h)))) (by simp))
          · skip
            refine k_ite (P := fun (z : Int32 × MemI) => k_rd z.2) (fun hq5 => ?_) (fun hq5 => ?_)
            · skip
              refine k_ite (P := fun (z : Int32 × MemI) => k_rd z.2) (fun hq6 => ?_) (fun hq6 => ?_)
              · skip
                dsimp only
                exact (rd_rdn (rd_word h))
              · skip
                dsimp only
                exact (rd_ui (rd_rdn (rd_word h)) (by simp))
            · skip
              refine k_ite (P := fun (z : Int32 × MemI) => k_rd z.2) (fun hq6 => ?_) (fun hq6 => ?_)
              · skip
                refine k_ite (P := fun (z : Int32 × MemI) => k_rd z.2) (fun hq7 => ?_) (fun hq7 => ?_)
                · skip
                  dsimp only
                  exact (rd_rdn (rd_word h))
                · skip
                  dsimp only
                  exact (rd_ui (rd_rdn (rd_word h)) (by simp))
              · skip
                refine k_ite (P := fun (z : Int32 × MemI) => k_rd z.2) (fun hq7 => ?_) (fun hq7 => ?_)
                · skip
                  dsimp only
                  exact (rd_rdn (rd_word h))
                · skip
                  dsimp only
                  exact (rd_ui (rd_rdn (rd_word h)) (by simp))
  · skip
    dsimp only
    exact (rd_wrong h)
theorem mo_rdn {nC nB : Nat} {mi : MemI} {ml : MemL} {w x : Int32} (h : k_mo nC nB mi) : k_mo nC nB (f_X7_rdn mi ml w x).2 := by
  obtain ⟨a1, a2, a3, a4, a5⟩ := h
  exact ⟨(rdn_fr (by simp) (by simp)).trans a1, a2, (rdn_fr (by simp) (by simp)).trans a3, a4, fun b hb => by rw [rdn_fr (by simp) (by simp)]; exact a5 b hb⟩
theorem mo_bl {nC nB : Nat} {mi : MemI} {ml : MemL} (h : k_mo nC nB mi) : k_mo nC nB (f_X7_bl mi ml).2 := by
  obtain ⟨a1, a2, a3, a4, a5⟩ := h
  exact ⟨(bl_fr (by simp)).trans a1, a2, (bl_fr (by simp)).trans a3, a4, fun b hb => by rw [bl_fr (by simp)]; exact a5 b hb⟩
theorem mo_word {nC nB : Nat} {mi : MemI} {ml : MemL} (h : k_mo nC nB mi) : k_mo nC nB (f_X7_word mi ml).2 := by
  obtain ⟨a1, a2, a3, a4, a5⟩ := h
  exact ⟨(word_fr (by simp)).trans a1, a2, (word_fr (by simp)).trans a3, a4, fun b hb => by rw [word_fr (by simp)]; exact a5 b hb⟩
theorem k_lt6 {n : Nat} {x : Int32} (e : x = nI n) (h6 : n ≤ 6) (h : ¬ x = 6) : n < 6 := by
  rcases Nat.lt_or_ge n 6 with q | q
  · exact q
  · exact absurd (by rw [e, show n = 6 by omega]; rfl) h
theorem mo_item {nC nB : Nat} {mi : MemI} {ml : MemL} (h : k_mo nC nB mi) : ∃ nC' nB', k_mo nC' nB' (f_X7_item mi ml).2 := by
  have hc := fun (hf : f_X7_full mi ml = 0) (hw : (f_X7_word mi ml).1 = 0) => k_lt6 h.1 h.2.1 (full_c hf hw)
  have hb := fun (hf : f_X7_full mi ml = 0) (hw : (f_X7_word mi ml).1 = 1) => k_lt6 h.2.2.1 h.2.2.2.1 (full_b hf hw)
  unfold f_X7_item

  refine k_ite (P := fun (z : Int32 × MemI) => ∃ nC1 nB1, k_mo nC1 nB1 z.2) (fun hq0 => ?_) (fun hq0 => ?_)
  · skip
    refine k_ite (P := fun (z : Int32 × MemI) => ∃ nC1 nB1, k_mo nC1 nB1 z.2) (fun hq1 => ?_) (fun hq1 => ?_)
    · skip
      dsimp only
      exact ⟨nC, nB, (mo_word h)⟩
    · skip
      refine k_ite (P := fun (z : Int32 × MemI) => ∃ nC1 nB1, k_mo nC1 nB1 z.2) (fun hq2 => ?_) (fun hq2 => ?_)
      · skip
        refine k_ite (P := fun (z : Int32 × MemI) => ∃ nC1 nB1, k_mo nC1 nB1 z.2) (fun hq3 => ?_) (fun hq3 => ?_)
        · skip
          dsimp only
          exact ⟨nC, nB, (mo_rdn (mo_word h))⟩
        · skip
          refine k_ite (P := fun (z : Int32 × MemI) => ∃ nC1 nB1, k_mo nC1 nB1 z.2) (fun hq4 => ?_) (fun hq4 => ?_)
          · skip
            dsimp only
            exact ⟨nC, nB, (mo_bl (mo_rdn (mo_word h)))⟩
          · skip
            refine k_ite (P := fun (z : Int32 × MemI) => ∃ nC1 nB1, k_mo nC1 nB1 z.2) (fun hq5 => ?_) (fun hq5 => ?_)
            · skip
              dsimp only
              exact ⟨nC, nB, (mo_rdn (mo_bl (mo_rdn (mo_word h))))⟩
            · skip
              refine k_ite (P := fun (z : Int32 × MemI) => ∃ nC1 nB1, k_mo nC1 nB1 z.2) (fun hq6 => ?_) (fun hq6 => ?_)
              · skip
                dsimp only
                exact ⟨nC, nB, (mo_bl (mo_rdn (mo_bl (mo_rdn (mo_word h)))))⟩
              · skip
                refine k_ite (P := fun (z : Int32 × MemI) => ∃ nC1 nB1, k_mo nC1 nB1 z.2) (fun hq7 => ?_) (fun hq7 => ?_)
                · skip
                  dsimp only
                  exact ⟨nC, nB, (mo_rdn (mo_bl (mo_rdn (mo_bl (mo_rdn (mo_word h))))))⟩
                · skip
                  refine k_ite (P := fun (z : Int32 × MemI) => ∃ nC1 nB1, k_mo nC1 nB1 z.2) (fun hq8 => ?_) (fun hq8 => ?_)
                  · skip
                    dsimp only
                    exact ⟨nC, nB, (mo_bl (mo_rdn (mo_bl (mo_rdn (mo_bl (mo_rdn (mo_word h)))))))⟩
                  · skip
                    refine k_ite (P := fun (z : Int32 × MemI) => ∃ nC1 nB1, k_mo nC1 nB1 z.2) (fun hq9 => ?_) (fun hq9 => ?_)
                    · skip
                      dsimp only
                      exact ⟨nC, nB, (mo_rdn (mo_bl (mo_rdn (mo_bl (mo_rdn (mo_bl (mo_rdn (mo_word h))))))))⟩
                    · skip
                      dsimp only
                      exact ⟨nC + 1, nB, (mo_adC (mo_rdn (mo_bl (mo_rdn (mo_bl (mo_rdn (mo_bl (mo_rdn (mo_word h)))))))) (hc (by assumption) (by assumption)))⟩
      · skip
        refine k_ite (P := fun (z : Int32 × MemI) => ∃ nC1 nB1, k_mo nC1 nB1 z.2) (fun hq3 => ?_) (fun hq3 => ?_)
        · skip
          refine k_ite (P := fun (z : Int32 × MemI) => ∃ nC1 nB1, k_mo nC1 nB1 z.2) (fun hq4 => ?_) (fun hq4 => ?_)
          · skip
            dsimp only
            exact ⟨nC, nB, (mo_rdn (mo_word h))⟩
          · skip
            refine k_ite (P := fun (z : Int32 × MemI) => ∃ nC1 nB1, k_mo nC1 nB1 z.2) (fun hq5 => ?_) (fun hq5 => ?_)
            · skip
              dsimp only
              exact ⟨nC, nB, (mo_bl (mo_rdn (mo_word h)))⟩
            · skip
              refine k_ite (P := fun (z : Int32 × MemI) => ∃ nC1 nB1, k_mo nC1 nB1 z.2) (fun hq6 => ?_) (fun hq6 => ?_)
              · skip
                dsimp only
                exact ⟨nC, nB, (mo_rdn (mo_bl (mo_rdn (mo_word h))))⟩
              · skip
                dsimp only
                exact ⟨nC, nB + 1, (mo_adB (mo_rdn (mo_bl (mo_rdn (mo_word h)))) (hb (by assumption) (by assumption)))⟩
        · skip
          refine k_ite (P := fun (z : Int32 × MemI) => ∃ nC1 nB1, k_mo nC1 nB1 z.2) (fun hq4 => ?_) (fun hq4 => ?_)
          · skip
            refine k_ite (P := fun (z : Int32 × MemI) => ∃ nC1 nB1, k_mo nC1 nB1 z.2) (fun hq5 => ?_) (fun hq5 => ?_)
            · skip
              dsimp only
              exact ⟨nC, nB, (mo_rdn (mo_word h))⟩
            · skip
              refine k_ite (P := fun (z : Int32 × MemI) => ∃ nC1 nB1, k_mo nC1 nB1 z.2) (fun hq6 => ?_) (fun hq6 => ?_)
              · skip
                dsimp only
                exact ⟨nC, nB, (mo_bl (mo_rdn (mo_word h)))⟩
              · skip
                refine k_ite (P := fun (z : Int32 × MemI) => ∃ nC1 nB1, k_mo nC1 nB1 z.2) (fun hq7 => ?_) (fun hq7 => ?_)
                · skip
                  dsimp only
                  exact ⟨nC, nB, (mo_rdn (mo_bl (mo_rdn (mo_word h))))⟩
                · skip
                  dsimp only
                  exact ⟨nC, nB, (k_mo_ui (mo_rdn (mo_bl (mo_rdn (mo_word h)))) (by simp) (by simp))⟩
          · skip
            refine k_ite (P := fun (z : Int32 × MemI) => ∃ nC1 nB1, k_mo nC1 nB1 z.2) (fun hq5 => ?_) (fun hq5 => ?_)
            · skip
              refine k_ite (P := fun (z : Int32 × MemI) => ∃ nC1 nB1, k_mo nC1 nB1 z.2) (fun hq6 => ?_) (fun hq6 => ?_)
              · skip
                dsimp only
                exact ⟨nC, nB, (mo_rdn (mo_word h))⟩
              · skip
                dsimp only
                exact ⟨nC, nB, (k_mo_ui (mo_rdn (mo_word h)) (by simp) (by simp))⟩
            · skip
              refine k_ite (P := fun (z : Int32 × MemI) => ∃ nC1 nB1, k_mo nC1 nB1 z.2) (fun hq6 => ?_) (fun hq6 => ?_)
              · skip
                refine k_ite (P := fun (z : Int32 × MemI) => ∃ nC1 nB1, k_mo nC1 nB1 z.2) (fun hq7 => ?_) (fun hq7 => ?_)
                · skip
                  dsimp only
                  exact ⟨nC, nB, (mo_rdn (mo_word h))⟩
                · skip
                  dsimp only
                  exact ⟨nC, nB, (k_mo_ui (mo_rdn (mo_word h)) (by simp) (by simp))⟩
              · skip
                refine k_ite (P := fun (z : Int32 × MemI) => ∃ nC1 nB1, k_mo nC1 nB1 z.2) (fun hq7 => ?_) (fun hq7 => ?_)
                · skip
                  dsimp only
                  exact ⟨nC, nB, (mo_rdn (mo_word h))⟩
                · skip
                  dsimp only
                  exact ⟨nC, nB, (k_mo_ui (mo_rdn (mo_word h)) (by simp) (by simp))⟩
  · skip
    dsimp only
    exact ⟨nC, nB, (mo_wrong h)⟩
/-- the place goes on, by b at most -/
def k_go (b : Nat) (mi m : MemI) : Prop := ∀ pl : Nat, mi (7, 0, 0) 29 = nI pl → ∃ q, pl ≤ q ∧ q ≤ pl + b ∧ m (7, 0, 0) 29 = nI q
theorem go_tr {a b : Nat} {x y z : MemI} (h1 : k_go a x y) (h2 : k_go b y z) : k_go (a + b) x z := fun pl e => by
  obtain ⟨q, a1, a2, a3⟩ := h1 pl e
  obtain ⟨r, b1, b2, b3⟩ := h2 q a3
  exact ⟨r, by omega, by omega, b3⟩
theorem go_eq {x y : MemI} (b : Nat) (h : y (7, 0, 0) 29 = x (7, 0, 0) 29) : k_go b x y := fun pl e => ⟨pl, by omega, by omega, h.trans e⟩
theorem go_w {a b : Nat} {x y : MemI} (h : k_go a x y) (hab : a ≤ b) : k_go b x y := fun pl e => by
  obtain ⟨q, a1, a2, a3⟩ := h pl e
  exact ⟨q, a1, by omega, a3⟩
theorem go_wrong {mi : MemI} {v : Int32} : k_go 0 mi (f_X7_wrong mi v).2 := go_eq 0 (show k_ui mi (7, 0, 0) 32 v (7, 0, 0) 29 = _ from k_uj (by decide))
theorem go_reads {mi : MemI} {ml : MemL} : k_go 2 mi (f_X7_reads mi ml).2 := by
  intro pl e
  unfold f_X7_reads f_X7_wrong
  split
  · exact ⟨pl, by omega, by omega, by dsimp only; rw [k_uj (by decide), k_uj (by decide)]; exact e⟩
  · split
    · exact ⟨pl + 1, by omega, by omega, by dsimp only; rw [k_uis, e, nI_succ]⟩
    · exact ⟨pl + 1 + 1, by omega, by omega, by dsimp only; rw [k_uis, e, nI_succ, nI_succ]⟩
theorem go_rdn {mi : MemI} {ml : MemL} {w x : Int32} : k_go 2 mi (f_X7_rdn mi ml w x).2 := by
  unfold f_X7_rdn
  split
  · exact go_reads
  · split
    · exact go_tr (b := 0) go_reads go_wrong
    · exact go_tr (b := 0) go_reads (go_eq 0 (by dsimp only; exact k_uk (by decide)))
theorem go_bl {mi : MemI} {ml : MemL} : k_go 1 mi (f_X7_bl mi ml).2 := by
  unfold f_X7_bl
  split
  · exact go_w go_wrong (by decide)
  · split
    · exact fun pl e => ⟨pl + 1, by omega, by omega, by dsimp only; rw [k_uis, e, nI_succ]⟩
    · exact go_w go_wrong (by decide)
theorem go_word {mi : MemI} {ml : MemL} : k_go 8 mi (f_X7_word mi ml).2 := by
  unfold f_X7_word
  split
  · exact fun pl e => ⟨pl + 8, by omega, by omega, by dsimp only; rw [k_uis, e, nI_add]⟩
  · skip
    split
    · exact fun pl e => ⟨pl + 7, by omega, by omega, by dsimp only; rw [k_uis, e, nI_add]⟩
    · skip
      split
      · exact fun pl e => ⟨pl + 5, by omega, by omega, by dsimp only; rw [k_uis, e, nI_add]⟩
      · skip
        split
        · exact fun pl e => ⟨pl + 6, by omega, by omega, by dsimp only; rw [k_uis, e, nI_add]⟩
        · skip
          split
          · exact fun pl e => ⟨pl + 6, by omega, by omega, by dsimp only; rw [k_uis, e, nI_add]⟩
          · skip
            split
            · exact fun pl e => ⟨pl + 5, by omega, by omega, by dsimp only; rw [k_uis, e, nI_add]⟩
            · skip
              exact go_eq 8 (by dsimp only; exact k_uj (by decide))
theorem go_item {mi : MemI} {ml : MemL} : k_go 30 mi (f_X7_item mi ml).2 := by
  have e4 : ∀ m k a ms h, k_go 0 m (f_X7_addsCitizen m k a ms h).2 := fun m k a ms h => go_eq 0 (adC_fr (by simp) (by decide) (by decide) (by decide) (by decide) (by decide) (by decide) (by decide))
  have e5 : ∀ m k r, k_go 0 m (f_X7_addsBeggar m k r).2 := fun m k r => go_eq 0 (adB_fr (by simp) (by decide) (by decide) (by decide) (by decide) (by decide))
  unfold f_X7_item

  refine k_ite (P := fun (z : Int32 × MemI) => k_go 30 mi z.2) (fun hq0 => ?_) (fun hq0 => ?_)
  · skip
    refine k_ite (P := fun (z : Int32 × MemI) => k_go 30 mi z.2) (fun hq1 => ?_) (fun hq1 => ?_)
    · skip
      dsimp only
      exact go_w (go_tr (go_eq 0 rfl) go_word) (by decide)
    · skip
      refine k_ite (P := fun (z : Int32 × MemI) => k_go 30 mi z.2) (fun hq2 => ?_) (fun hq2 => ?_)
      · skip
        refine k_ite (P := fun (z : Int32 × MemI) => k_go 30 mi z.2) (fun hq3 => ?_) (fun hq3 => ?_)
        · skip
          dsimp only
          exact go_w (go_tr (go_tr (go_eq 0 rfl) go_word) go_rdn) (by decide)
        · skip
          refine k_ite (P := fun (z : Int32 × MemI) => k_go 30 mi z.2) (fun hq4 => ?_) (fun hq4 => ?_)
          · skip
            dsimp only
            exact go_w (go_tr (go_tr (go_tr (go_eq 0 rfl) go_word) go_rdn) go_bl) (by decide)
          · skip
            refine k_ite (P := fun (z : Int32 × MemI) => k_go 30 mi z.2) (fun hq5 => ?_) (fun hq5 => ?_)
            · skip
              dsimp only
              exact go_w (go_tr (go_tr (go_tr (go_tr (go_eq 0 rfl) go_word) go_rdn) go_bl) go_rdn) (by decide)
            · skip
              refine k_ite (P := fun (z : Int32 × MemI) => k_go 30 mi z.2) (fun hq6 => ?_) (fun hq6 => ?_)
              · skip
                dsimp only
                exact go_w (go_tr (go_tr (go_tr (go_tr (go_tr (go_eq 0 rfl) go_word) go_rdn) go_bl) go_rdn) go_bl) (by decide)
              · skip
                refine k_ite (P := fun (z : Int32 × MemI) => k_go 30 mi z.2) (fun hq7 => ?_) (fun hq7 => ?_)
                · skip
                  dsimp only
                  exact go_w (go_tr (go_tr (go_tr (go_tr (go_tr (go_tr (go_eq 0 rfl) go_word) go_rdn) go_bl) go_rdn) go_bl) go_rdn) (by decide)
                · skip
                  refine k_ite (P := fun (z : Int32 × MemI) => k_go 30 mi z.2) (fun hq8 => ?_) (fun hq8 => ?_)
                  · skip
                    dsimp only
                    exact go_w (go_tr (go_tr (go_tr (go_tr (go_tr (go_tr (go_tr (go_eq 0 rfl) go_word) go_rdn) go_bl) go_rdn) go_bl) go_rdn) go_bl) (by decide)
                  · skip
                    refine k_ite (P := fun (z : Int32 × MemI) => k_go 30 mi z.2) (fun hq9 => ?_) (fun hq9 => ?_)
                    · skip
                      dsimp only
                      exact go_w (go_tr (go_tr (go_tr (go_tr (go_tr (go_tr (go_tr (go_tr (go_eq 0 rfl) go_word) go_rdn) go_bl) go_rdn) go_bl) go_rdn) go_bl) go_rdn) (by decide)
                    · skip
                      dsimp only
                      exact go_w (go_tr (go_tr (go_tr (go_tr (go_tr (go_tr (go_tr (go_tr (go_tr (go_eq 0 rfl) go_word) go_rdn) go_bl) go_rdn) go_bl) go_rdn) go_bl) go_rdn) (e4 _ _ _ _ _)) (by decide)
      · skip
        refine k_ite (P := fun (z : Int32 × MemI) => k_go 30 mi z.2) (fun hq3 => ?_) (fun hq3 => ?_)
        · skip
          refine k_ite (P := fun (z : Int32 × MemI) => k_go 30 mi z.2) (fun hq4 => ?_) (fun hq4 => ?_)
          · skip
            dsimp only
            exact go_w (go_tr (go_tr (go_eq 0 rfl) go_word) go_rdn) (by decide)
          · skip
            refine k_ite (P := fun (z : Int32 × MemI) => k_go 30 mi z.2) (fun hq5 => ?_) (fun hq5 => ?_)
            · skip
              dsimp only
              exact go_w (go_tr (go_tr (go_tr (go_eq 0 rfl) go_word) go_rdn) go_bl) (by decide)
            · skip
              refine k_ite (P := fun (z : Int32 × MemI) => k_go 30 mi z.2) (fun hq6 => ?_) (fun hq6 => ?_)
              · skip
                dsimp only
                exact go_w (go_tr (go_tr (go_tr (go_tr (go_eq 0 rfl) go_word) go_rdn) go_bl) go_rdn) (by decide)
              · skip
                dsimp only
                exact go_w (go_tr (go_tr (go_tr (go_tr (go_tr (go_eq 0 rfl) go_word) go_rdn) go_bl) go_rdn) (e5 _ _ _)) (by decide)
        · skip
          refine k_ite (P := fun (z : Int32 × MemI) => k_go 30 mi z.2) (fun hq4 => ?_) (fun hq4 => ?_)
          · skip
            refine k_ite (P := fun (z : Int32 × MemI) => k_go 30 mi z.2) (fun hq5 => ?_) (fun hq5 => ?_)
            · skip
              dsimp only
              exact go_w (go_tr (go_tr (go_eq 0 rfl) go_word) go_rdn) (by decide)
            · skip
              refine k_ite (P := fun (z : Int32 × MemI) => k_go 30 mi z.2) (fun hq6 => ?_) (fun hq6 => ?_)
              · skip
                dsimp only
                exact go_w (go_tr (go_tr (go_tr (go_eq 0 rfl) go_word) go_rdn) go_bl) (by decide)
              · skip
                refine k_ite (P := fun (z : Int32 × MemI) => k_go 30 mi z.2) (fun hq7 => ?_) (fun hq7 => ?_)
                · skip
                  dsimp only
                  exact go_w (go_tr (go_tr (go_tr (go_tr (go_eq 0 rfl) go_word) go_rdn) go_bl) go_rdn) (by decide)
                · skip
                  dsimp only
                  exact go_w (go_tr (go_tr (go_tr (go_tr (go_tr (go_eq 0 rfl) go_word) go_rdn) go_bl) go_rdn) (go_eq 0 (k_uk (by decide)))) (by decide)
          · skip
            refine k_ite (P := fun (z : Int32 × MemI) => k_go 30 mi z.2) (fun hq5 => ?_) (fun hq5 => ?_)
            · skip
              refine k_ite (P := fun (z : Int32 × MemI) => k_go 30 mi z.2) (fun hq6 => ?_) (fun hq6 => ?_)
              · skip
                dsimp only
                exact go_w (go_tr (go_tr (go_eq 0 rfl) go_word) go_rdn) (by decide)
              · skip
                dsimp only
                exact go_w (go_tr (go_tr (go_tr (go_eq 0 rfl) go_word) go_rdn) (go_eq 0 (k_uk (by decide)))) (by decide)
            · skip
              refine k_ite (P := fun (z : Int32 × MemI) => k_go 30 mi z.2) (fun hq6 => ?_) (fun hq6 => ?_)
              · skip
                refine k_ite (P := fun (z : Int32 × MemI) => k_go 30 mi z.2) (fun hq7 => ?_) (fun hq7 => ?_)
                · skip
                  dsimp only
                  exact go_w (go_tr (go_tr (go_eq 0 rfl) go_word) go_rdn) (by decide)
                · skip
                  dsimp only
                  exact go_w (go_tr (go_tr (go_tr (go_eq 0 rfl) go_word) go_rdn) (go_eq 0 (k_uk (by decide)))) (by decide)
              · skip
                refine k_ite (P := fun (z : Int32 × MemI) => k_go 30 mi z.2) (fun hq7 => ?_) (fun hq7 => ?_)
                · skip
                  dsimp only
                  exact go_w (go_tr (go_tr (go_eq 0 rfl) go_word) go_rdn) (by decide)
                · skip
                  dsimp only
                  exact go_w (go_tr (go_tr (go_tr (go_eq 0 rfl) go_word) go_rdn) (go_eq 0 (k_uk (by decide)))) (by decide)
  · skip
    dsimp only
    exact go_w (go_tr (go_eq 0 rfl) go_wrong) (by decide)
/-- what stands while the model reads a text -/
def k_ri (mi : MemI) : Prop := k_rd mi ∧ k_wok mi ∧ k_nok mi ∧ ∃ nC nB, k_mo nC nB mi
theorem ri_item {mi : MemI} {ml : MemL} (h : k_ri mi) : k_ri (f_X7_item mi ml).2 := by
  obtain ⟨h1, h2, h3, nC, nB, h4⟩ := h
  exact ⟨rd_item h1, fun j hj => (item_fr (by simp) (by decide) (by decide) (by decide) (by decide) (by decide) (by decide) (by decide) (by decide) (by decide) (by decide) (by decide) (by decide) (by decide)).trans (h2 j hj), fun j hj => (item_fr (by simp) (by decide) (by decide) (by decide) (by decide) (by decide) (by decide) (by decide) (by decide) (by decide) (by decide) (by decide) (by decide) (by decide)).trans (h3 j hj), mo_item h4⟩
theorem ri_inc {mi : MemI} (h : k_ri mi) (hlt : ¬ mi (7, 0, 0) 30 ≤ mi (7, 0, 0) 29) : k_ri (k_ui mi (7, 0, 0) 29 (mi (7, 0, 0) 29 + 1)) := by
  obtain ⟨h1, h2, h3, nC, nB, h4⟩ := h
  exact ⟨rd_inc h1 hlt, k_wok_ui h2 (by decide), fun j hj => (k_uk (by decide)).trans (h3 j hj), nC, nB, k_mo_ui h4 (by simp) (by simp)⟩
theorem z_X7_item (mi : MemI) (ml : MemL) : (f_X7_item mi ml).1 = 0 ∨ (f_X7_item mi ml).1 = 1 := by
  unfold f_X7_item

  refine k_ite (P := fun (z : Int32 × MemI) => z.1 = 0 ∨ z.1 = 1) (fun hq0 => ?_) (fun hq0 => ?_)
  · skip
    refine k_ite (P := fun (z : Int32 × MemI) => z.1 = 0 ∨ z.1 = 1) (fun hq1 => ?_) (fun hq1 => ?_)
    · skip
      dsimp only
      exact Or.inl rfl
    · skip
      refine k_ite (P := fun (z : Int32 × MemI) => z.1 = 0 ∨ z.1 = 1) (fun hq2 => ?_) (fun hq2 => ?_)
      · skip
        refine k_ite (P := fun (z : Int32 × MemI) => z.1 = 0 ∨ z.1 = 1) (fun hq3 => ?_) (fun hq3 => ?_)
        · skip
          dsimp only
          exact Or.inl rfl
        · skip
          refine k_ite (P := fun (z : Int32 × MemI) => z.1 = 0 ∨ z.1 = 1) (fun hq4 => ?_) (fun hq4 => ?_)
          · skip
            dsimp only
            exact Or.inl rfl
          · skip
            refine k_ite (P := fun (z : Int32 × MemI) => z.1 = 0 ∨ z.1 = 1) (fun hq5 => ?_) (fun hq5 => ?_)
            · skip
              dsimp only
              exact Or.inl rfl
            · skip
              refine k_ite (P := fun (z : Int32 × MemI) => z.1 = 0 ∨ z.1 = 1) (fun hq6 => ?_) (fun hq6 => ?_)
              · skip
                dsimp only
                exact Or.inl rfl
              · skip
                refine k_ite (P := fun (z : Int32 × MemI) => z.1 = 0 ∨ z.1 = 1) (fun hq7 => ?_) (fun hq7 => ?_)
                · skip
                  dsimp only
                  exact Or.inl rfl
                · skip
                  refine k_ite (P := fun (z : Int32 × MemI) => z.1 = 0 ∨ z.1 = 1) (fun hq8 => ?_) (fun hq8 => ?_)
                  · skip
                    dsimp only
                    exact Or.inl rfl
                  · skip
                    refine k_ite (P := fun (z : Int32 × MemI) => z.1 = 0 ∨ z.1 = 1) (fun hq9 => ?_) (fun hq9 => ?_)
                    · skip
                      dsimp only
                      exact Or.inl rfl
                    · skip
                      dsimp only
                      exact Or.inr rfl
      · skip
        refine k_ite (P := fun (z : Int32 × MemI) => z.1 = 0 ∨ z.1 = 1) (fun hq3 => ?_) (fun hq3 => ?_)
        · skip
          refine k_ite (P := fun (z : Int32 × MemI) => z.1 = 0 ∨ z.1 = 1) (fun hq4 => ?_) (fun hq4 => ?_)
          · skip
            dsimp only
            exact Or.inl rfl
          · skip
            refine k_ite (P := fun (z : Int32 × MemI) => z.1 = 0 ∨ z.1 = 1) (fun hq5 => ?_) (fun hq5 => ?_)
            · skip
              dsimp only
              exact Or.inl rfl
            · skip
              refine k_ite (P := fun (z : Int32 × MemI) => z.1 = 0 ∨ z.1 = 1) (fun hq6 => ?_) (fun hq6 => ?_)
              · skip
                dsimp only
                exact Or.inl rfl
              · skip
                dsimp only
                exact Or.inr rfl
        · skip
          refine k_ite (P := fun (z : Int32 × MemI) => z.1 = 0 ∨ z.1 = 1) (fun hq4 => ?_) (fun hq4 => ?_)
          · skip
            refine k_ite (P := fun (z : Int32 × MemI) => z.1 = 0 ∨ z.1 = 1) (fun hq5 => ?_) (fun hq5 => ?_)
            · skip
              dsimp only
              exact Or.inl rfl
            · skip
              refine k_ite (P := fun (z : Int32 × MemI) => z.1 = 0 ∨ z.1 = 1) (fun hq6 => ?_) (fun hq6 => ?_)
              · skip
                dsimp only
                exact Or.inl rfl
              · skip
                refine k_ite (P := fun (z : Int32 × MemI) => z.1 = 0 ∨ z.1 = 1) (fun hq7 => ?_) (fun hq7 => ?_)
                · skip
                  dsimp only
                  exact Or.inl rfl
                · skip
                  dsimp only
                  exact Or.inr rfl
          · skip
            refine k_ite (P := fun (z : Int32 × MemI) => z.1 = 0 ∨ z.1 = 1) (fun hq5 => ?_) (fun hq5 => ?_)
            · skip
              refine k_ite (P := fun (z : Int32 × MemI) => z.1 = 0 ∨ z.1 = 1) (fun hq6 => ?_) (fun hq6 => ?_)
              · skip
                dsimp only
                exact Or.inl rfl
              · skip
                dsimp only
                exact Or.inr rfl
            · skip
              refine k_ite (P := fun (z : Int32 × MemI) => z.1 = 0 ∨ z.1 = 1) (fun hq6 => ?_) (fun hq6 => ?_)
              · skip
                refine k_ite (P := fun (z : Int32 × MemI) => z.1 = 0 ∨ z.1 = 1) (fun hq7 => ?_) (fun hq7 => ?_)
                · skip
                  dsimp only
                  exact Or.inl rfl
                · skip
                  dsimp only
                  exact Or.inr rfl
              · skip
                refine k_ite (P := fun (z : Int32 × MemI) => z.1 = 0 ∨ z.1 = 1) (fun hq7 => ?_) (fun hq7 => ?_)
                · skip
                  dsimp only
                  exact Or.inl rfl
                · skip
                  dsimp only
                  exact Or.inr rfl
  · skip
    dsimp only
    exact Or.inl rfl
/-- the place, and how many rounds it bears -/
def k_fu (u : Nat) (mi : MemI) : Prop := ∃ pl : Nat, pl ≤ 160 ∧ mi (7, 0, 0) 29 = nI pl ∧ 161 ≤ u + pl
theorem fu_item {mi : MemI} {ml : MemL} {u : Nat} (h : k_ri mi) (hlt : ¬ mi (7, 0, 0) 30 ≤ mi (7, 0, 0) 29) (hu : k_fu (u + 1) mi) : k_fu u (f_X7_item (k_ui mi (7, 0, 0) 29 (mi (7, 0, 0) 29 + 1)) ml).2 := by
  obtain ⟨pl, h1, h2, h3⟩ := hu
  obtain ⟨q, a1, a2, a3⟩ := go_item (mi := k_ui mi (7, 0, 0) 29 (mi (7, 0, 0) 29 + 1)) (ml := ml) (pl + 1) (k_uis.trans (by rw [h2, nI_succ]))
  obtain ⟨⟨sn, len, r, b1, b2, b3, b4, b5, b6⟩, -⟩ := ri_item (ml := ml) (ri_inc h hlt)
  have e : q = r := nI_inj6 (by omega) (by omega) (a3.symm.trans b6)
  exact ⟨q, by omega, a3, by omega⟩
theorem fu_0 {mi : MemI} {u : Nat} (h : k_ri mi) (hu : 161 ≤ u) : k_fu u mi := by
  obtain ⟨⟨sn, len, r, b1, b2, b3, b4, b5, b6⟩, -⟩ := h
  exact ⟨r, by omega, b6, by omega⟩
theorem ri_0 {nC nB : Nat} {mi : MemI} {s0 : Int32} (hm : k_mo nC nB mi) (hw : k_wok mi) (hn : k_nok mi) (hsz : k_sz mi) (hs : vp_in s0 8) :
    k_ri (k_ui (k_ui (k_ui (k_ui (f_X7_allO mi 33) (7, 0, 0) 28 (160 * s0)) (7, 0, 0) 29 0) (7, 0, 0) 30 (f_X7_allO mi 33 (8, 20, 0) s0.toNatClampNeg)) (7, 0, 0) 4 (-1)) := by
  obtain ⟨len, hl, e⟩ := hsz _ (k_clamp hs)
  refine ⟨⟨s0.toNatClampNeg, len, 0, k_clamp hs, hl, Nat.zero_le _, ?_, ?_, ?_⟩, fun j hj => ?_, fun j hj => ?_, nC, nB, k_mo_ui (k_mo_ui (k_mo_ui (k_mo_ui (mo_allO hm (by decide)) (by simp) (by simp)) (by simp) (by simp)) (by simp) (by simp)) (by simp) (by simp)⟩
  · rw [k_uj (by decide), k_uj (by decide), k_uj (by decide), k_uis]
    have h2 := k_nat hs
    rw [← pk_mul, ← h2]; rfl
  · rw [k_uj (by decide), k_uis, allO_fr (by decide)]; exact e
  · rw [k_uj (by decide), k_uj (by decide), k_uis]; rfl
  · rw [k_uk (by decide), k_uk (by decide), k_uk (by decide), k_uk (by decide), allO_fr (by decide)]; exact hw j hj
  · rw [k_uk (by decide), k_uk (by decide), k_uk (by decide), k_uk (by decide), allO_fr (by decide)]; exact hn j hj
def f_X7_ctR (ml : MemL) : Nat → Int32 → Int32 → MemI → Int32 × Int32 × MemI
  | 0, n, g, m => (n, g, m)
  | u + 1, n, g, m => if g = 0 then (n, 0, m) else if (m (7, 0, 0) 30) ≤ (m (7, 0, 0) 29) then (n, g, m) else if ((ml (9, 1, 0) (((m (7, 0, 0) 28) + (m (7, 0, 0) 29)).toNatClampNeg)).toInt32) = 59 then f_X7_ctR ml u (n + 1) (f_X7_item (k_ui m (7, 0, 0) 29 ((m (7, 0, 0) 29) + 1)) ml).1 (f_X7_item (k_ui m (7, 0, 0) 29 ((m (7, 0, 0) 29) + 1)) ml).2 else (n, 0, (f_X7_wrong m (m (7, 0, 0) 29)).2)
theorem f_X7_ctR_s (ml : MemL) (u : Nat) (n g : Int32) (m : MemI) : f_X7_ctR ml (u + 1) n g m = if g = 0 then (n, 0, m) else if (m (7, 0, 0) 30) ≤ (m (7, 0, 0) 29) then (n, g, m) else if ((ml (9, 1, 0) (((m (7, 0, 0) 28) + (m (7, 0, 0) 29)).toNatClampNeg)).toInt32) = 59 then f_X7_ctR ml u (n + 1) (f_X7_item (k_ui m (7, 0, 0) 29 ((m (7, 0, 0) 29) + 1)) ml).1 (f_X7_item (k_ui m (7, 0, 0) 29 ((m (7, 0, 0) 29) + 1)) ml).2 else (n, 0, (f_X7_wrong m (m (7, 0, 0) 29)).2) := rfl
/-- what comes of a text that was gone through -/
def f_X7_ctE (R : Int32 × Int32 × MemI) : Int32 × MemI :=
  if R.2.1 = 0 then f_X7_no (k_ui (f_X7_allI R.2.2 33) (7, 0, 0) 4 (f_X7_allI R.2.2 33 (7, 0, 0) 32)) (-6) else (R.1, R.2.2)
def f_X7_city (mi : MemI) (ml : MemL) (s0 : Int32) : Int32 × MemI :=
  if (f_X7_wanted mi s0) = 0 then f_X7_ctE (f_X7_ctR ml 162 1 (f_X7_item (k_ui (k_ui (k_ui (k_ui (f_X7_allO mi 33) (7, 0, 0) 28 (160 * s0)) (7, 0, 0) 29 0) (7, 0, 0) 30 ((f_X7_allO mi 33) (8, 20, 0) s0.toNatClampNeg)) (7, 0, 0) 4 (-1)) ml).1 (f_X7_item (k_ui (k_ui (k_ui (k_ui (f_X7_allO mi 33) (7, 0, 0) 28 (160 * s0)) (7, 0, 0) 29 0) (7, 0, 0) 30 ((f_X7_allO mi 33) (8, 20, 0) s0.toNatClampNeg)) (7, 0, 0) 4 (-1)) ml).2)
  else ((f_X7_no mi (f_X7_wanted mi s0)).1, (f_X7_no mi (f_X7_wanted mi s0)).2)
set_option maxRecDepth 100000 in
set_option maxHeartbeats 4000000 in
theorem ct_X7_city {nC nB : Nat} {mi : MemI} {ml : MemL} {s0 : Int32} (hm : k_mo nC nB mi) (hw : k_wok mi) (hnm : k_nok mi) (hsz : k_sz mi) : k_Ct k_KS k_R0 Mt_X7_city 3 [vR (7, 0, 0), vI s0] mi ml (k_rt (some (vI (f_X7_city mi ml s0).1)) (f_X7_city mi ml s0).2 ml) := by
  refine k_ofV (L0 := [vR (7, 0, 0), vI s0, vU, vU, vU]) (by decide +kernel) (Nat.le_of_ble_eq_true rfl) rfl rfl ?_
  intro p l e s m args below meth c D cy ad bs C
  refine k_aload_n (pc := 0) C dX7_city_0 rfl ?_
  refine k_iload_n (pc := 1) C dX7_city_1 rfl ?_
  refine k_call1 (pc := 2) C cv_X7_210 ct_X7_wanted k_in7 rfl (by decide) rfl (Nat.le_of_ble_eq_true rfl) dX7_city_2 ?_
  refine k_istore_2 (pc := 5) C dX7_city_5 rfl ?_
  refine k_iload_n (pc := 6) C dX7_city_6 rfl ?_
  refine k_if_eq (pc := 7) C 16 dX7_city_7 (by decide) (fun c7 => ?_) (fun c7 => ?_)
  · skip
    have qc7 := wanted_s c7
    refine k_aload_n (pc := 16) C dX7_city_16 rfl ?_
    refine k_aload_n (pc := 17) C dX7_city_17 rfl ?_
    refine k_getR (pc := 18) (r := some (8, 33, 0)) C fl_X7_87 k_in7 rfl rfl rfl dX7_city_18 ?_
    refine k_iconst (pc := 21) (v := 0) C dX7_city_21 (by decide) ?_
    refine k_callv2 (pc := 22) C cv_X7_213 (ct_X7_all_O (by decide +kernel) rfl) k_in7 rfl (by decide) rfl (Nat.le_of_ble_eq_true rfl) dX7_city_22 ?_
    refine k_aload_n (pc := 25) C dX7_city_25 rfl ?_
    refine k_sipush (pc := 26) (v := 160) C dX7_city_26 (by decide) ?_
    refine k_iload_n (pc := 29) C dX7_city_29 rfl ?_
    refine k_imul (pc := 30) C dX7_city_30 ?_
    refine k_putI (pc := 31) C pl_X7_176 k_in7 rfl rfl dX7_city_31 ?_
    refine k_aload_n (pc := 34) C dX7_city_34 rfl ?_
    refine k_iconst (pc := 35) (v := 0) C dX7_city_35 (by decide) ?_
    refine k_putI (pc := 36) C pl_X7_170 k_in7 rfl rfl dX7_city_36 ?_
    refine k_aload_n (pc := 39) C dX7_city_39 rfl ?_
    refine k_aload_n (pc := 40) C dX7_city_40 rfl ?_
    refine k_getR (pc := 41) (r := some (8, 20, 0)) C fl_X7_62 k_in7 rfl rfl rfl dX7_city_41 ?_
    refine k_iload_n (pc := 44) C dX7_city_44 rfl ?_
    refine k_ialdX (pc := 45) (j := s0.toNatClampNeg) C rfl (by decide +kernel) rfl (by first | assumption | exact k_vin (N := 8) (n := 8) (by assumption) (by assumption) (by decide)) dX7_city_45 ?_
    refine k_sx (x := (f_X7_allO mi 33) (8, 20, 0) s0.toNatClampNeg) (Eq.trans (k_uk (by decide)) (k_uk (by decide))) ?_
    refine k_putI (pc := 46) C pl_X7_173 k_in7 rfl rfl dX7_city_46 ?_
    refine k_aload_n (pc := 49) C dX7_city_49 rfl ?_
    refine k_iconst (pc := 50) (v := (-1)) C dX7_city_50 (by decide) ?_
    refine k_putI (pc := 51) C pl_X7_13 k_in7 rfl rfl dX7_city_51 ?_
    refine k_iconst (pc := 54) (v := 1) C dX7_city_54 (by decide) ?_
    refine k_istore_3 (pc := 55) C dX7_city_55 rfl ?_
    refine k_aload_n (pc := 56) C dX7_city_56 rfl ?_
    have hri0 : k_ri (k_ui (k_ui (k_ui (k_ui (f_X7_allO mi 33) (7, 0, 0) 28 (160 * s0)) (7, 0, 0) 29 0) (7, 0, 0) 30 ((f_X7_allO mi 33) (8, 20, 0) s0.toNatClampNeg)) (7, 0, 0) 4 (-1)) := ri_0 hm hw hnm hsz (by assumption)
    obtain ⟨hrj, hwj, hnj, nC1, nB1, hmj⟩ := hri0
    have hri0 : k_ri (k_ui (k_ui (k_ui (k_ui (f_X7_allO mi 33) (7, 0, 0) 28 (160 * s0)) (7, 0, 0) 29 0) (7, 0, 0) 30 ((f_X7_allO mi 33) (8, 20, 0) s0.toNatClampNeg)) (7, 0, 0) 4 (-1)) := ⟨hrj, hwj, hnj, nC1, nB1, hmj⟩
    refine k_call0 (pc := 57) C cv_X7_217 (ct_X7_item hmj hrj hwj hnj) k_in7 rfl (by decide) rfl (Nat.le_of_ble_eq_true rfl) dX7_city_57 ?_
    refine k_istore_4 (pc := 60) C dX7_city_60 rfl ?_
    have hF : f_X7_city mi ml s0 = f_X7_ctE (f_X7_ctR ml 162 1 (f_X7_item (k_ui (k_ui (k_ui (k_ui (f_X7_allO mi 33) (7, 0, 0) 28 (160 * s0)) (7, 0, 0) 29 0) (7, 0, 0) 30 ((f_X7_allO mi 33) (8, 20, 0) s0.toNatClampNeg)) (7, 0, 0) 4 (-1)) ml).1 (f_X7_item (k_ui (k_ui (k_ui (k_ui (f_X7_allO mi 33) (7, 0, 0) 28 (160 * s0)) (7, 0, 0) 29 0) (7, 0, 0) 30 ((f_X7_allO mi 33) (8, 20, 0) s0.toNatClampNeg)) (7, 0, 0) 4 (-1)) ml).2) := by unfold f_X7_city; rw [if_pos c7]
    rw [hF]
    refine k_drop_2 ?_
    have hloop : ∀ (u : Nat) (n g : Int32) (m8 : MemI), k_ri m8 → (g = 0 ∨ g = 1) → k_fu u m8 → f_X7_ctR ml u n g m8 = f_X7_ctR ml 162 1 (f_X7_item (k_ui (k_ui (k_ui (k_ui (f_X7_allO mi 33) (7, 0, 0) 28 (160 * s0)) (7, 0, 0) 29 0) (7, 0, 0) 30 ((f_X7_allO mi 33) (8, 20, 0) s0.toNatClampNeg)) (7, 0, 0) 4 (-1)) ml).1 (f_X7_item (k_ui (k_ui (k_ui (k_ui (f_X7_allO mi 33) (7, 0, 0) 28 (160 * s0)) (7, 0, 0) 29 0) (7, 0, 0) 30 ((f_X7_allO mi 33) (8, 20, 0) s0.toNatClampNeg)) (7, 0, 0) 4 (-1)) ml).2 → k_V p l e (k_rm 3) s m args below meth c D cy ad bs k_KS k_R0 0 0 (k_End below D cy ad bs k_KS k_R0 (k_rt (some (vI (f_X7_ctE (f_X7_ctR ml 162 1 (f_X7_item (k_ui (k_ui (k_ui (k_ui (f_X7_allO mi 33) (7, 0, 0) 28 (160 * s0)) (7, 0, 0) 29 0) (7, 0, 0) 30 ((f_X7_allO mi 33) (8, 20, 0) s0.toNatClampNeg)) (7, 0, 0) 4 (-1)) ml).1 (f_X7_item (k_ui (k_ui (k_ui (k_ui (f_X7_allO mi 33) (7, 0, 0) 28 (160 * s0)) (7, 0, 0) 29 0) (7, 0, 0) 30 ((f_X7_allO mi 33) (8, 20, 0) s0.toNatClampNeg)) (7, 0, 0) 4 (-1)) ml).2)).1)) (f_X7_ctE (f_X7_ctR ml 162 1 (f_X7_item (k_ui (k_ui (k_ui (k_ui (f_X7_allO mi 33) (7, 0, 0) 28 (160 * s0)) (7, 0, 0) 29 0) (7, 0, 0) 30 ((f_X7_allO mi 33) (8, 20, 0) s0.toNatClampNeg)) (7, 0, 0) 4 (-1)) ml).1 (f_X7_item (k_ui (k_ui (k_ui (k_ui (f_X7_allO mi 33) (7, 0, 0) 28 (160 * s0)) (7, 0, 0) 29 0) (7, 0, 0) 30 ((f_X7_allO mi 33) (8, 20, 0) s0.toNatClampNeg)) (7, 0, 0) 4 (-1)) ml).2)).2 ml) args s) m8 ml 62 [vR (7, 0, 0), vI s0, vU, vI n, vI g] [] := by
      intro u
      induction u with
      | zero =>
        intro n g m8 hri hg01 hfu hres
        obtain ⟨pl, h1, h2, h3⟩ := hfu
        omega
      | succ u ih =>
        intro n g m8 hri hg01 hfu hres
        refine k_iload (pc := 62) C dX7_city_62 rfl ?_
        refine k_if_eq (pc := 64) C 133 dX7_city_64 (by decide) (fun c64 => ?_) (fun c64 => ?_)
        · skip
          refine k_iload (pc := 133) C dX7_city_133 rfl ?_
          refine k_if_eqT (pc := 135) C 140 dX7_city_135 (by decide) c64 ?_
          refine k_aload_n (pc := 140) C dX7_city_140 rfl ?_
          refine k_aload_n (pc := 141) C dX7_city_141 rfl ?_
          refine k_getR (pc := 142) (r := some (8, 33, 0)) C fl_X7_87 k_in7 rfl rfl rfl dX7_city_142 ?_
          refine k_iconst (pc := 145) (v := 1) C dX7_city_145 (by decide) ?_
          refine k_callv2 (pc := 146) C cv_X7_213 (ct_X7_all_I (by decide +kernel) rfl) k_in7 rfl (by decide) rfl (Nat.le_of_ble_eq_true rfl) dX7_city_146 ?_
          refine k_aload_n (pc := 149) C dX7_city_149 rfl ?_
          refine k_aload_n (pc := 150) C dX7_city_150 rfl ?_
          refine k_getI (pc := 151) C fl_X7_167 k_in7 rfl rfl dX7_city_151 ?_
          refine k_putI (pc := 154) C pl_X7_13 k_in7 rfl rfl dX7_city_154 ?_
          refine k_aload_n (pc := 157) C dX7_city_157 rfl ?_
          refine k_bipush (pc := 158) (v := (-6)) C dX7_city_158 (by decide) ?_
          refine k_call1 (pc := 160) C cv_X7_139 (ct_X7_no (k_vd (by decide))) k_in7 rfl (by decide) rfl (Nat.le_of_ble_eq_true rfl) dX7_city_160 ?_
          exact k_iret (pc := 163) C rfl (k_fIm (by rw [← hres, f_X7_ctR_s, if_pos c64]; unfold f_X7_ctE; first | rw [if_pos rfl] | rw [if_neg c64])) dX7_city_163
        · skip
          refine k_aload_n (pc := 67) C dX7_city_67 rfl ?_
          refine k_getI (pc := 68) C fl_X7_170 k_in7 rfl rfl dX7_city_68 ?_
          refine k_aload_n (pc := 71) C dX7_city_71 rfl ?_
          refine k_getI (pc := 72) C fl_X7_173 k_in7 rfl rfl dX7_city_72 ?_
          refine k_icmp_ge (pc := 75) C 133 dX7_city_75 (by decide) (fun c75 => ?_) (fun c75 => ?_)
          · skip
            refine k_iload (pc := 133) C dX7_city_133 rfl ?_
            refine k_if_eqF (pc := 135) C 140 dX7_city_135 (by decide) c64 ?_
            refine k_iload_n (pc := 138) C dX7_city_138 rfl ?_
            exact k_iret (pc := 139) C rfl (k_fIm (by rw [← hres, f_X7_ctR_s, if_neg c64, if_pos c75]; unfold f_X7_ctE; first | rw [if_pos rfl] | rw [if_neg c64])) dX7_city_139
          · skip
            refine k_aload_n (pc := 78) C dX7_city_78 rfl ?_
            refine k_getR (pc := 79) (r := some (9, 1, 0)) C fl_X7_68 k_in7 rfl rfl rfl dX7_city_79 ?_
            refine k_aload_n (pc := 82) C dX7_city_82 rfl ?_
            refine k_getI (pc := 83) C fl_X7_176 k_in7 rfl rfl dX7_city_83 ?_
            refine k_aload_n (pc := 86) C dX7_city_86 rfl ?_
            refine k_getI (pc := 87) C fl_X7_170 k_in7 rfl rfl dX7_city_87 ?_
            refine k_iadd (pc := 90) C dX7_city_90 ?_
            refine k_laldX (pc := 91) (j := ((m8 (7, 0, 0) 28) + (m8 (7, 0, 0) 29)).toNatClampNeg) C rfl (by decide +kernel) rfl (k_cin hri.1 (by assumption)) dX7_city_91 ?_
            refine k_l2i (pc := 92) C dX7_city_92 ?_
            refine k_bipush (pc := 93) (v := 59) C dX7_city_93 (by decide) ?_
            refine k_icmp_eq (pc := 95) C 111 dX7_city_95 (by decide) (fun c95 => ?_) (fun c95 => ?_)
            · skip
              refine k_aload_n (pc := 111) C dX7_city_111 rfl ?_
              refine k_dup (pc := 112) C dX7_city_112 rfl ?_
              refine k_getI (pc := 113) C fl_X7_170 k_in7 rfl rfl dX7_city_113 ?_
              refine k_iconst (pc := 116) (v := 1) C dX7_city_116 (by decide) ?_
              refine k_iadd (pc := 117) C dX7_city_117 ?_
              refine k_putI (pc := 118) C pl_X7_170 k_in7 rfl rfl dX7_city_118 ?_
              refine k_iinc_3 (pc := 121) (v := n + 1) C dX7_city_121 rfl rfl ?_
              refine k_aload_n (pc := 124) C dX7_city_124 rfl ?_
              obtain ⟨hrj, hwj, hnj, nC2, nB2, hmj⟩ := ri_inc hri c75
              refine k_call0 (pc := 125) C cv_X7_217 (ct_X7_item hmj hrj hwj hnj) k_in7 rfl (by decide) rfl (Nat.le_of_ble_eq_true rfl) dX7_city_125 ?_
              refine k_istore_4 (pc := 128) C dX7_city_128 rfl ?_
              refine k_goto (pc := 130) C 62 dX7_city_130 (by decide) ?_
              exact ih (n + 1) ((f_X7_item (k_ui m8 (7, 0, 0) 29 ((m8 (7, 0, 0) 29) + 1)) ml).1) ((f_X7_item (k_ui m8 (7, 0, 0) 29 ((m8 (7, 0, 0) 29) + 1)) ml).2) (ri_item (ri_inc hri c75)) (z_X7_item _ _) (fu_item hri c75 hfu) (by rw [← hres, f_X7_ctR_s, if_neg c64, if_neg c75, if_pos c95])
            · skip
              refine k_aload_n (pc := 98) C dX7_city_98 rfl ?_
              refine k_aload_n (pc := 99) C dX7_city_99 rfl ?_
              refine k_getI (pc := 100) C fl_X7_170 k_in7 rfl rfl dX7_city_100 ?_
              refine k_call1 (pc := 103) C cv_X7_186 ct_X7_wrong k_in7 rfl (by decide) rfl (Nat.le_of_ble_eq_true rfl) dX7_city_103 ?_
              refine k_istore_4 (pc := 106) C dX7_city_106 rfl ?_
              refine k_goto (pc := 108) C 62 dX7_city_108 (by decide) ?_
              refine k_cast (L' := [vR (7, 0, 0), vI s0, vU, vI n, vI 0]) rfl rfl rfl ?_
              refine k_iload (pc := 62) C dX7_city_62 rfl ?_
              refine k_if_eqT (pc := 64) C 133 dX7_city_64 (by decide) (by decide) ?_
              refine k_iload (pc := 133) C dX7_city_133 rfl ?_
              refine k_if_eqT (pc := 135) C 140 dX7_city_135 (by decide) (by decide) ?_
              refine k_aload_n (pc := 140) C dX7_city_140 rfl ?_
              refine k_aload_n (pc := 141) C dX7_city_141 rfl ?_
              refine k_getR (pc := 142) (r := some (8, 33, 0)) C fl_X7_87 k_in7 rfl rfl rfl dX7_city_142 ?_
              refine k_iconst (pc := 145) (v := 1) C dX7_city_145 (by decide) ?_
              refine k_callv2 (pc := 146) C cv_X7_213 (ct_X7_all_I (by decide +kernel) rfl) k_in7 rfl (by decide) rfl (Nat.le_of_ble_eq_true rfl) dX7_city_146 ?_
              refine k_aload_n (pc := 149) C dX7_city_149 rfl ?_
              refine k_aload_n (pc := 150) C dX7_city_150 rfl ?_
              refine k_getI (pc := 151) C fl_X7_167 k_in7 rfl rfl dX7_city_151 ?_
              refine k_putI (pc := 154) C pl_X7_13 k_in7 rfl rfl dX7_city_154 ?_
              refine k_aload_n (pc := 157) C dX7_city_157 rfl ?_
              refine k_bipush (pc := 158) (v := (-6)) C dX7_city_158 (by decide) ?_
              refine k_call1 (pc := 160) C cv_X7_139 (ct_X7_no (k_vd (by decide))) k_in7 rfl (by decide) rfl (Nat.le_of_ble_eq_true rfl) dX7_city_160 ?_
              exact k_iret (pc := 163) C rfl (k_fIm (by rw [← hres, f_X7_ctR_s, if_neg c64, if_neg c75, if_neg c95]; unfold f_X7_ctE; first | rw [if_pos rfl] | rw [if_neg c64])) dX7_city_163
    exact hloop 162 1 (f_X7_item (k_ui (k_ui (k_ui (k_ui (f_X7_allO mi 33) (7, 0, 0) 28 (160 * s0)) (7, 0, 0) 29 0) (7, 0, 0) 30 ((f_X7_allO mi 33) (8, 20, 0) s0.toNatClampNeg)) (7, 0, 0) 4 (-1)) ml).1 (f_X7_item (k_ui (k_ui (k_ui (k_ui (f_X7_allO mi 33) (7, 0, 0) 28 (160 * s0)) (7, 0, 0) 29 0) (7, 0, 0) 30 ((f_X7_allO mi 33) (8, 20, 0) s0.toNatClampNeg)) (7, 0, 0) 4 (-1)) ml).2 (ri_item hri0) (z_X7_item _ _) (fu_0 (ri_item hri0) (by decide)) rfl
  · skip
    have qc7 := wanted_in c7
    refine k_aload_n (pc := 10) C dX7_city_10 rfl ?_
    refine k_iload_n (pc := 11) C dX7_city_11 rfl ?_
    refine k_call1 (pc := 12) C cv_X7_139 (ct_X7_no (by assumption)) k_in7 rfl (by decide) rfl (Nat.le_of_ble_eq_true rfl) dX7_city_12 ?_
    exact k_iret (pc := 15) C rfl (k_fIm (by unfold f_X7_city; rw [if_neg c7]; try rfl)) dX7_city_15
