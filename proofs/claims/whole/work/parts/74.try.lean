/-! level 2: what a city would answer -/
/-- the model's city, up to one entry -/
def k_sxm (n c : Nat) (mj N : MemI) : Prop := (∀ n' j, 6 ≤ n' → n' ≤ 17 → j < 6 → ¬ (n' = n ∧ j = c) → N (8, n', 0) j = mj (8, n', 0) j) ∧ ∀ q, q ≤ 3 → N (7, 0, 0) q = mj (7, 0, 0) q
theorem sxm_rf {n c : Nat} {mj : MemI} : k_sxm n c mj mj := ⟨fun _ _ _ _ _ _ => rfl, fun _ _ => rfl⟩
theorem k_keyne {n n' : Nat} (h : n' ≠ n) : ((8, n', 0) : Ky) ≠ (8, n, 0) := fun z => h (by injection z with _ z; injection z)
theorem sxm_put {n c : Nat} {mj N : MemI} {v : Int32} (h : k_sxm n c mj N) : k_sxm n c mj (k_ui N (8, n, 0) c v) := by
  refine ⟨fun n' j a b d e => ?_, fun q hq => (k_uk (by simp)).trans (h.2 q hq)⟩
  by_cases w : n' = n
  · subst w
    rw [k_uj (fun z => e ⟨rfl, z⟩)]; exact h.1 _ _ a b d e
  · rw [k_uk (k_keyne w)]; exact h.1 _ _ a b d e
theorem sxm_goes {n c nC nB : Nat} {mj N : MemI} (h : k_sxm n c mj N) : k_sxm n c mj (f_X7_goes N nC nB) :=
  ⟨fun n' j a b d e => (sM_goes.1 n' j a b).trans (h.1 _ _ a b d e), fun q hq => (sM_goes.2 q hq).trans (h.2 q hq)⟩
theorem sxm_back {n c : Nat} {mj N : MemI} (h : k_sxm n c mj N) : k_s6 mj (k_ui N (8, n, 0) c (mj (8, n, 0) c)) := by
  refine ⟨fun n' j a b d => ?_, fun q hq => (k_uk (by simp)).trans (h.2 q hq)⟩
  by_cases w : n' = n
  · subst w
    by_cases e : j = c
    · subst e; rw [k_uis]
    · rw [k_uj e]; exact h.1 _ _ a b d (fun z => e z.2)
  · rw [k_uk (k_keyne w)]; exact h.1 _ _ a b d (fun z => w z.1)
theorem fgX6_rulesL {mi : MemI} {bg cz : Int32} {kk : Ky} {qq : Nat} (hk : k_gr 1 kk = false) : ∀ j, (f_X6_rulesL mi bg cz j).2 kk qq = mi kk qq := by
  intro j
  induction j with
  | zero => rfl
  | succ j ih =>
    rw [f_X6_rulesL]
    split
    · exact (fg_X2_pickByRule hk).trans ih
    · exact (fg_X2_pickByRule hk).trans ih
theorem fgX6_bestL {mi : MemI} {kk : Ky} {qq : Nat} (hk : k_gr 1 kk = false) : ∀ j, (f_X6_bestL mi j).2.2 kk qq = mi kk qq := by
  intro j
  induction j with
  | zero => rfl
  | succ j ih =>
    rw [f_X6_bestL]
    split
    · exact ih
    · split
      · exact (k_frG hk rfl).trans ((fg_X2_hungryMorning hk).trans ((k_frG hk rfl).trans ih))
      · split
        · exact (k_frG hk rfl).trans ((fg_X2_hungryMorning hk).trans ((k_frG hk rfl).trans ih))
        · exact (k_frG hk rfl).trans ((fg_X2_hungryMorning hk).trans ((k_frG hk rfl).trans ih))
theorem fgX6_shR {cz w : Int32} {kk : Ky} {qq : Nat} (hk : k_gr 1 kk = false) : ∀ u j m, (f_X6_shR cz w u j m).2 kk qq = m kk qq := by
  intro u
  induction u with
  | zero => intro j m; rfl
  | succ u ih =>
    intro j m
    rw [f_X6_shR]
    have e := fun h => fg_X2_isPickedWithHeart (mi := m) (cz := cz) (h := h) (qq := qq) hk
    split
    · split
      · split
        · exact e _
        · exact (ih _ _).trans (e _)
      · split
        · exact e _
        · exact (ih _ _).trans (e _)
    · split
      · split
        · exact e _
        · exact (ih _ _).trans (e _)
      · split
        · exact e _
        · exact (ih _ _).trans (e _)
theorem q_lose {nC nB : Nat} {mi mj : MemI} {ml mlj : MemL} (h : k_R nC nB mi ml mj mlj) (cz : Int32) : k_Q nC nB (f_X6_lose mi cz) ml (f_X7_lose mj cz nC nB) mlj := by
  unfold f_X6_lose f_X7_lose
  by_cases w : vp_in cz nC
  · have hb := k_clamp w
    have h6 := h.1.1.1
    obtain ⟨⟨-, e2, -⟩, e3, -⟩ := h.1.2.2.2.2.1 _ hb
    rw [cA_eq h.1 w, if_pos (show cz.toNatClampNeg < 6 by omega), if_neg (fun z => (isC_iff h.1 cz).mp z w), e2]
    have t0 := R_trial h
    obtain ⟨g1, g2, -⟩ := go_res t0
    rcases bt_01 e3 with q | q
    · have t1 := CR_c2 (v := 1) g1.1 hb ⟨1, by decide, rfl⟩
      obtain ⟨u1, u2, -⟩ := go_res t1
      have hS := sxm_back (sxm_goes (nC := nC) (nB := nB) (sxm_put (v := 1) (sxm_goes (nC := nC) (nB := nB) (sxm_rf (n := 12) (c := cz.toNatClampNeg) (mj := mj)))))
      rw [q] at hS
      rw [if_pos q, if_neg (show ¬ mj (8, 12, 0) cz.toNatClampNeg = 1 by rw [q]; decide)]
      unfold f_X2_hungryMorning
      dsimp only
      rw [cA_eq g1.1 w, if_pos (show cz.toNatClampNeg < 6 by omega), ← u2, ← g2]
      exact Q_mk rfl (R_ext h (kp_g1 (fun kk qq hk => (fg_X2_goBy hk).trans ((k_frG hk rfl).trans ((fg_X2_goBy hk).trans (fg_X2_become hk)))) (fun kk qq hk => (fn_X2_goBy hk).trans ((k_frN hk rfl).trans ((fn_X2_goBy hk).trans (fn_X2_become hk))))) (fun kk qq hk => (k_frW hk rfl).trans ((fw_X7_goes hk).trans ((k_frW hk rfl).trans (fw_X7_goes hk)))) hS)
    · rw [if_neg (show ¬ mj (8, 12, 0) cz.toNatClampNeg = 0 by rw [q]; decide), if_pos q]
      exact Q_noH h 6 (by decide) (by decide)
  · rw [cA_no h.1 w, if_neg (Nat.lt_irrefl 6), if_pos ((isC_iff h.1 cz).mpr w)]
    exact Q_noH h 1 (by decide) (by decide)
theorem rules_eq {nC nB : Nat} {T mj : MemI} {bg cz : Int32} (t0 : k_CR 1 nC nB T mj) (w : vp_in bg nB) : ∀ j, j ≤ 5 → k_CR 1 nC nB (f_X6_rulesL T bg cz j).2 (f_X7_ruL mj bg cz nC nB j).2 ∧ k_sxm 14 bg.toNatClampNeg mj (f_X7_ruL mj bg cz nC nB j).2 ∧ ∃ x, x < 2 ^ j ∧ (f_X6_rulesL T bg cz j).1 = nI x ∧ (f_X7_ruL mj bg cz nC nB j).1 = nI x := by
  have hb := k_clamp w
  have h6 := t0.1.2
  intro j
  induction j with
  | zero => intro _; exact ⟨t0, sxm_rf, 0, by decide, rfl, rfl⟩
  | succ j ih =>
    intro hj
    obtain ⟨a1, a2, x, x0, x1, x2⟩ := ih (by omega)
    obtain ⟨u1, -⟩ := go_res (CR_b4 (v := nI j) a1 hb ⟨j, by omega, rfl⟩)
    have hk := (u1.2.2.1 _ hb).1
    obtain ⟨b1, b2⟩ := k_bits j (by omega) x x0
    have hlt1 : x + 2 ^ j < 2 ^ (j + 1) := by rw [Nat.pow_succ]; omega
    have hlt2 : x < 2 ^ (j + 1) := by rw [Nat.pow_succ]; omega
    have s2 := sxm_goes (nC := nC) (nB := nB) (sxm_put (v := nI j) a2)
    have hp : f_X2_pickByRule (f_X6_rulesL T bg cz j).2 1 bg (nI j) = ((f_X2_goBy (k_ui (f_X6_rulesL T bg cz j).2 (0, 1, bg.toNatClampNeg) 4 (nI j)) 1) (0, 1, bg.toNatClampNeg) 7, f_X2_goBy (k_ui (f_X6_rulesL T bg cz j).2 (0, 1, bg.toNatClampNeg) 4 (nI j)) 1) := by
      unfold f_X2_pickByRule
      rw [bA_eq a1 w, if_pos (show bg.toNatClampNeg < 6 by omega)]
    rw [f_X6_rulesL, f_X7_ruL, hp, hk, x1, x2]
    by_cases c : (f_X7_goes (k_ui (f_X7_ruL mj bg cz nC nB j).2 (8, 14, 0) bg.toNatClampNeg (nI j)) nC nB) (8, 37, 0) bg.toNatClampNeg = cz
    · rw [if_pos c, if_pos c]
      dsimp only
      rw [b1, b2]
      exact ⟨u1.1, s2, _, hlt1, rfl, rfl⟩
    · rw [if_neg c, if_neg c]
      dsimp only
      exact ⟨u1.1, s2, x, hlt2, rfl, rfl⟩
theorem q_rules {nC nB : Nat} {mi mj : MemI} {ml mlj : MemL} (h : k_R nC nB mi ml mj mlj) (bg cz : Int32) : k_Q nC nB (f_X6_rules mi bg cz) ml (f_X7_rules mj bg cz nC nB) mlj := by
  unfold f_X6_rules f_X7_rules
  by_cases w : vp_in bg nB
  · have hb := k_clamp w
    have h6 := h.1.1.2
    obtain ⟨⟨-, e2, -⟩, e3, -⟩ := h.1.2.2.2.2.2.2.1 _ hb
    rw [bA_eq h.1 w, if_pos (show bg.toNatClampNeg < 6 by omega), if_neg (fun z => (isB_iff h.1 bg).mp z w), e2]
    by_cases w2 : vp_in cz nC
    · have hc := k_clamp w2
      have hC6 := h.1.1.1
      rw [cA_eq h.1 w2, if_pos (show cz.toNatClampNeg < 6 by omega), if_neg (fun z => (isC_iff h.1 cz).mp z w2)]
      obtain ⟨-, s, x, -, x1, x2⟩ := rules_eq (cz := cz) (R_trial h) w 5 (Nat.le_refl _)
      rcases bt_01 e3 with q | q
      · rw [if_pos q, if_neg (show ¬ mj (8, 17, 0) bg.toNatClampNeg = 1 by rw [q]; decide)]
        exact Q_mk (x1.trans x2.symm) (R_ext h (kp_g1 (fun kk qq hk => (fgX6_rulesL hk _).trans (fg_X2_become hk)) (fun kk qq hk => (fn_X6_rulesL hk).trans (fn_X2_become hk))) (fun kk qq hk => (k_frW hk rfl).trans (fw_X7_ruL hk)) (sxm_back s))
      · rw [if_neg (show ¬ mj (8, 17, 0) bg.toNatClampNeg = 0 by rw [q]; decide), if_pos q]
        exact Q_no h 6 (by decide) (by decide)
    · rw [cA_no h.1 w2, if_neg (Nat.lt_irrefl 6), if_pos ((isC_iff h.1 cz).mpr w2)]
      exact Q_no h 1 (by decide) (by decide)
  · rw [bA_no h.1 w, if_neg (Nat.lt_irrefl 6), if_pos ((isB_iff h.1 bg).mpr w)]
    exact Q_no h 1 (by decide) (by decide)
