/-! level 2: trace, show -/
theorem q_trace {nC nB : Nat} {mi mj : MemI} {ml mlj : MemL} (h : k_R nC nB mi ml mj mlj) (x : Int32) : f_X6_trace mi x = f_X7_trace mj x := by
  unfold f_X6_trace f_X3_bodyAt f_X7_trace
  obtain ⟨r, b1, b2, b3, b4⟩ := h.2.2.2.2.2.2.1
  rw [b2, b3]
  by_cases a : x < 0
  · rw [if_pos a, if_pos a]
  rw [if_neg a, if_neg a]
  by_cases b : nI r ≤ x
  · rw [if_pos b]
    by_cases c : 20 ≤ x
    · rw [if_pos c]
    · rw [if_neg c, if_pos b]
  · rw [if_neg b]
    by_cases c : 20 ≤ x
    · rw [if_pos c, if_pos c]
    · rw [if_neg c, if_neg c, if_neg b]
      exact b4 _ (k_clamp (k_vin a c rfl)) (k_clamp (k_vin a b (nI_toInt (by omega))))
theorem k_ufr {mi : MemI} {k kk : Ky} {j qq : Nat} {v : Int32} (h : ¬ (kk = k ∧ qq = j)) : k_ui mi k j v kk qq = mi kk qq := by
  by_cases a : kk = k
  · subst a; exact k_uj (fun z => h ⟨rfl, z⟩)
  · exact k_uk a
theorem tc_at {mi : MemI} {i : Nat} {v : Int32} : f_X5_takeCitizen mi i v (5, 0, i) 1 = -1 ∧ f_X5_takeCitizen mi i v (5, 0, i) 2 = 0 ∧ f_X5_takeCitizen mi i v (5, 0, i) 3 = v := by
  unfold f_X5_takeCitizen
  refine ⟨?_, ?_, ?_⟩
  · rw [k_uj (by decide), k_uj (by decide), k_uis]
  · rw [k_uj (by decide), k_uis]
  · rw [k_uis]
theorem tc_fr {mi : MemI} {i : Nat} {v : Int32} {kk : Ky} {qq : Nat} (h : kk ≠ (5, 0, i)) : f_X5_takeCitizen mi i v kk qq = mi kk qq := by
  unfold f_X5_takeCitizen
  rw [k_uk h, k_uk h, k_uk h]
theorem sh_key {n s : Nat} (h1 : 18 ≤ n) (h2 : n ≤ 21) {kk : Ky} {qq : Nat} (y : kk = (8, n, 0) ∧ qq = s) : kk.1 = 8 ∧ 18 ≤ kk.2.1 ∧ kk.2.1 ≤ 21 ∧ qq = s := by
  obtain ⟨rfl, rfl⟩ := y
  exact ⟨rfl, h1, h2, rfl⟩
theorem q_show {nC nB : Nat} {mi mj : MemI} {ml mlj : MemL} (h : k_R nC nB mi ml mj mlj) (s0 cz : Int32) : k_Q nC nB (f_X6_show mi s0 cz) ml (f_X7_show mj s0 cz) mlj := by
  unfold f_X6_show f_X7_show
  by_cases w : vp_in s0 8
  · have hb := k_clamp w
    rw [shA_eq w, if_pos hb, if_neg (fun z => (isS_iff s0).mp z w)]
    have h1 : ∀ kk qq, kk ≠ (5, 0, s0.toNatClampNeg) → (f_X5_takeCitizen mi s0.toNatClampNeg cz) kk qq = mi kk qq := fun kk qq e => tc_fr e
    have h2 : ∀ v kk qq, ¬ (kk.1 = 8 ∧ 18 ≤ kk.2.1 ∧ kk.2.1 ≤ 21 ∧ qq = s0.toNatClampNeg) → (k_ui (k_ui mj (8, 18, 0) s0.toNatClampNeg v) (8, 21, 0) s0.toNatClampNeg cz) kk qq = mj kk qq := fun v kk qq z =>
      (k_ufr (fun y => z (sh_key (by decide) (by decide) y))).trans (k_ufr (fun y => z (sh_key (by decide) (by decide) y)))
    obtain ⟨⟨len, l1, l2⟩, -⟩ := h.2.2.2.2.2.2.2.1 _ hb
    obtain ⟨t1, t2, t3⟩ := tc_at (mi := mi) (i := s0.toNatClampNeg) (v := cz)
    have m18 : ∀ v, (k_ui (k_ui mj (8, 18, 0) s0.toNatClampNeg v) (8, 21, 0) s0.toNatClampNeg cz) (8, 18, 0) s0.toNatClampNeg = v := fun v => by rw [k_uk (by decide), k_uis]
    have m20 : ∀ v, (k_ui (k_ui mj (8, 18, 0) s0.toNatClampNeg v) (8, 21, 0) s0.toNatClampNeg cz) (8, 20, 0) s0.toNatClampNeg = nI len := fun v => by rw [k_uk (by decide), k_uk (by decide)]; exact l2
    have m21 : ∀ v, (k_ui (k_ui mj (8, 18, 0) s0.toNatClampNeg v) (8, 21, 0) s0.toNatClampNeg cz) (8, 21, 0) s0.toNatClampNeg = cz := fun v => by rw [k_uis]
    by_cases e : cz = -1
    · rw [if_pos e, if_pos e]
      exact Q_mk rfl (R_shelf h hb h1 (h2 0) ⟨⟨len, l1, m20 0⟩, Or.inr (Or.inl ⟨t1, t3.trans e, t2, m18 0⟩)⟩ h.2.2.2.2.2.2.2.2.1)
    · rw [if_neg e, if_neg e]
      have h6 := h.1.1.1
      by_cases w2 : vp_in cz nC
      · have hc := k_clamp w2
        rw [cA_eq h.1 w2, if_pos (show cz.toNatClampNeg < 6 by omega), if_neg (fun z => (isC_iff h.1 cz).mp z w2)]
        exact Q_mk rfl (R_shelf h hb h1 (h2 2) ⟨⟨len, l1, m20 2⟩, Or.inr (Or.inr ⟨t1, t2, t3.trans (m21 2).symm, by rw [m21]; exact w2, m18 2⟩)⟩ h.2.2.2.2.2.2.2.2.1)
      · rw [cA_no h.1 w2, if_neg (Nat.lt_irrefl 6), if_pos ((isC_iff h.1 cz).mpr w2)]
        exact Q_no h 1 (by decide) (by decide)
  · rw [shA_no w, if_neg (Nat.lt_irrefl 8), if_pos ((isS_iff s0).mpr w)]
    exact Q_no h 1 (by decide) (by decide)
