/-! level 2: copy -/
theorem hs_iff {mi : MemI} {s len : Nat} {x n : Int32} (e : mi (5, 0, s) 2 = nI len) (l : len ≤ 160) (n0 : 0 ≤ n) : f_X5_hasStretch mi s x n = 0 ↔ x < 0 ∨ nI len - n < x := by
  unfold f_X5_hasStretch
  rw [e]
  by_cases a : x < 0
  · rw [if_pos a]; exact ⟨fun _ => Or.inl a, fun _ => rfl⟩
  rw [if_neg a, if_neg (Int32.not_lt.mpr n0)]
  have z0 : (0 : Int32).toInt = 0 := rfl
  have xa := Int32.le_iff_toInt_le.mp (Int32.not_lt.mp a)
  have na := Int32.le_iff_toInt_le.mp n0
  have xh := x.toInt_lt
  have nh := n.toInt_lt
  have el : (nI len).toInt = len := nI_toInt (by omega)
  have e1 : (nI len - x).toInt = len - x.toInt := by
    rw [Int32.toInt_sub, el]; exact Int.bmod_eq_of_le (by omega) (by omega)
  have e2 : (nI len - n).toInt = len - n.toInt := by
    rw [Int32.toInt_sub, el]; exact Int.bmod_eq_of_le (by omega) (by omega)
  by_cases b : nI len - x < n
  · rw [if_pos b]
    refine ⟨fun _ => Or.inr (Int32.lt_iff_toInt_lt.mpr ?_), fun _ => rfl⟩
    have := Int32.lt_iff_toInt_lt.mp b
    omega
  · rw [if_neg b]
    refine ⟨fun z => absurd z (by decide), fun z => ?_⟩
    rcases z with z | z
    · exact absurd z a
    · exact absurd (Int32.lt_iff_toInt_lt.mpr (by have := Int32.lt_iff_toInt_lt.mp z; omega)) b
theorem hs_fit {x n : Int32} {len : Nat} (l : len ≤ 160) (n0 : 0 ≤ n) (a : ¬ x < 0) (b : ¬ nI len - n < x) : x.toNatClampNeg + n.toNatClampNeg ≤ len := by
  have z0 : (0 : Int32).toInt = 0 := rfl
  have xa := Int32.le_iff_toInt_le.mp (Int32.not_lt.mp a)
  have na := Int32.le_iff_toInt_le.mp n0
  have xh := x.toInt_lt
  have nh := n.toInt_lt
  have el : (nI len).toInt = len := nI_toInt (by omega)
  have e2 : (nI len - n).toInt = len - n.toInt := by
    rw [Int32.toInt_sub, el]; exact Int.bmod_eq_of_le (by omega) (by omega)
  have := Int32.le_iff_toInt_le.mp (Int32.not_lt.mp b)
  show x.toInt.toNat + n.toInt.toNat ≤ len
  omega
theorem cp1_at {ml : MemL} {p0 x : Int32} (w : vp_in p0 8) (x0 : ¬ x < 0) : ∀ j, x.toNatClampNeg + j ≤ 160 → (∀ i, i < j → f_X7_cp1 ml p0 x j (9, 2, 0) i = ml (9, 1, 0) (160 * p0.toNatClampNeg + x.toNatClampNeg + i)) ∧ ∀ p, f_X7_cp1 ml p0 x j (9, 1, 0) p = ml (9, 1, 0) p := by
  intro j
  induction j with
  | zero => intro _; exact ⟨fun i h => absurd h (Nat.not_lt_zero i), fun p => rfl⟩
  | succ j ih =>
    intro hj
    obtain ⟨a, b⟩ := ih (by omega)
    have e := (k_cellin3 (j := j) w x0 (by omega)).2
    rw [f_X7_cp1, e, b]
    refine ⟨fun i hi => ?_, fun p => ?_⟩
    · rw [ul_at]
      by_cases c : i = j
      · rw [if_pos ⟨rfl, c⟩, c]
      · rw [if_neg (fun z => c z.2)]; exact a i (by omega)
    · rw [ul_at, if_neg (fun z => absurd z.1 (by decide))]; exact b p
theorem cp2_at {ml : MemL} {q0 y : Int32} (w : vp_in q0 8) (y0 : ¬ y < 0) : ∀ j, y.toNatClampNeg + j ≤ 160 → (∀ i, f_X7_cp2 ml q0 y j (9, 2, 0) i = ml (9, 2, 0) i) ∧ ∀ p, f_X7_cp2 ml q0 y j (9, 1, 0) p = if 160 * q0.toNatClampNeg + y.toNatClampNeg ≤ p ∧ p < 160 * q0.toNatClampNeg + y.toNatClampNeg + j then ml (9, 2, 0) (p - (160 * q0.toNatClampNeg + y.toNatClampNeg)) else ml (9, 1, 0) p := by
  intro j
  induction j with
  | zero => intro _; exact ⟨fun i => rfl, fun p => by rw [if_neg (by omega)]; rfl⟩
  | succ j ih =>
    intro hj
    obtain ⟨a, b⟩ := ih (by omega)
    have e := (k_cellin3 (j := j) w y0 (by omega)).2
    rw [f_X7_cp2, e, a]
    refine ⟨fun i => ?_, fun p => ?_⟩
    · rw [ul_at, if_neg (fun z => absurd z.1 (by decide))]; exact a i
    · rw [ul_at]
      by_cases c : p = 160 * q0.toNatClampNeg + y.toNatClampNeg + j
      · rw [if_pos ⟨rfl, c⟩, if_pos (by omega)]
        congr 1; omega
      · rw [if_neg (fun z => c z.2), b]
        by_cases d : 160 * q0.toNatClampNeg + y.toNatClampNeg ≤ p ∧ p < 160 * q0.toNatClampNeg + y.toNatClampNeg + j
        · rw [if_pos d, if_pos (by omega)]
        · rw [if_neg d, if_neg (by omega)]
/-- the cells after a copy -/
theorem cp_eq {ml mlj : MemL} {p0 q0 x y n : Int32} (h : ∀ s, s < 8 → ∀ i, i < 160 → ml (9, 0, s) i = mlj (9, 1, 0) (160 * s + i)) (wp : vp_in p0 8) (wq : vp_in q0 8) (x0 : ¬ x < 0) (y0 : ¬ y < 0) (hx : x.toNatClampNeg + n.toNatClampNeg ≤ 160) (hy : y.toNatClampNeg + n.toNatClampNeg ≤ 160) : ∀ s, s < 8 → ∀ i, i < 160 → (fun (kx : Ky) (jx : Nat) => if kx = (9, 0, q0.toNatClampNeg) then va_cpy (ml (9, 0, p0.toNatClampNeg)) (ml (9, 0, q0.toNatClampNeg)) x.toNatClampNeg y.toNatClampNeg n.toNatClampNeg jx else ml kx jx) (9, 0, s) i = f_X7_cp2 (f_X7_cp1 mlj p0 x n.toNatClampNeg) q0 y n.toNatClampNeg (9, 1, 0) (160 * s + i) := by
  intro s hs i hi
  have hp := k_clamp wp
  obtain ⟨a1, a2⟩ := cp1_at (ml := mlj) wp x0 n.toNatClampNeg hx
  rw [(cp2_at wq y0 n.toNatClampNeg hy).2, a2]
  dsimp only
  by_cases e : s = q0.toNatClampNeg
  · subst e
    rw [if_pos rfl]
    unfold va_cpy
    by_cases c : y.toNatClampNeg ≤ i ∧ i < y.toNatClampNeg + n.toNatClampNeg
    · rw [if_pos c, if_pos (by omega), a1 _ (by omega), h _ hp _ (by omega)]
      congr 1; omega
    · rw [if_neg c, if_neg (by omega)]; exact h _ hs _ hi
  · rw [if_neg (fun z => e (by have := z; simp at this; exact this)), if_neg (by omega)]; exact h _ hs _ hi
theorem q_copy {nC nB : Nat} {mi mj : MemI} {ml mlj : MemL} (h : k_R nC nB mi ml mj mlj) (p0 q0 x y n : Int32) : k_Q3 nC nB (f_X6_copy mi ml p0 q0 x y n) (f_X7_copy mj mlj p0 q0 x y n) := by
  unfold f_X6_copy f_X7_copy
  have h6 := h.1.1.1
  by_cases wp : vp_in p0 8
  · have hp := k_clamp wp
    rw [shA_eq wp, if_pos hp, if_neg (fun z => (isS_iff p0).mp z wp)]
    by_cases wq : vp_in q0 8
    · have hq := k_clamp wq
      rw [shA_eq wq, if_pos hq, if_neg (fun z => (isS_iff q0).mp z wq)]
      obtain ⟨⟨lp, lp1, lp2⟩, sp⟩ := h.2.2.2.2.2.2.2.1 _ hp
      obtain ⟨⟨lq, lq1, lq2⟩, sq⟩ := h.2.2.2.2.2.2.2.1 _ hq
      have r2 := Q3_of (ml := ml) (mlj := mlj) (Q_no h 2 (by decide) (by decide))
      have r3 := Q3_of (ml := ml) (mlj := mlj) (Q_no h 3 (by decide) (by decide))
      have r4 := Q3_of (ml := ml) (mlj := mlj) (Q_no h 4 (by decide) (by decide))
      have r5 := Q3_of (ml := ml) (mlj := mlj) (Q_no h 5 (by decide) (by decide))
      have vne : ∀ v : Int32, vp_in v nC → ¬ v = -1 := fun v z => by
        obtain ⟨j, hj, e⟩ := vp_in_of z (by omega)
        rw [e]; exact k_nIne (by omega)
      have n10 : ¬ (1 : Int32) = 0 := by decide
      have n12 : ¬ (1 : Int32) = 2 := by decide
      have n02 : ¬ (0 : Int32) = 2 := by decide
      have n01 : ¬ (0 : Int32) = 1 := by decide
      unfold f_X5_hasCitizen f_X5_differsInSort f_X5_hasRow
      rcases sp with ⟨a1, a2, a3, a4, a5⟩ | ⟨a1, a2, a3, a4⟩ | ⟨a1, a2, a3, a4, a5⟩
      · rcases sq with ⟨b1, b2, b3, b4, b5⟩ | ⟨b1, b2, b3, b4⟩ | ⟨b1, b2, b3, b4, b5⟩
        · simp only [a3, b3, a5, b5, a1, b1, if_true, if_neg (bt3_ne a2), if_neg (bt3_ne b2), if_neg n10, if_neg n12]
          by_cases so : mj (8, 19, 0) p0.toNatClampNeg = mj (8, 19, 0) q0.toNatClampNeg
          · simp only [if_pos so, if_true]
            by_cases n0 : 0 ≤ n
            · rw [if_pos n0, if_pos n0, lp2, lq2]
              have ip := hs_iff (x := x) (a4.trans lp2) lp1 n0
              have iq := hs_iff (x := y) (b4.trans lq2) lq1 n0
              by_cases x0 : x < 0
              · rw [if_pos (ip.mpr (Or.inl x0)), if_pos x0]; exact r5
              rw [if_neg x0]
              by_cases y0 : y < 0
              · rw [if_pos y0, if_pos (iq.mpr (Or.inl y0))]
                split
                · exact r5
                · exact r5
              rw [if_neg y0]
              by_cases xl : nI lp - n < x
              · rw [if_pos (ip.mpr (Or.inr xl)), if_pos xl]; exact r5
              have ip0 : ¬ f_X5_hasStretch mi p0.toNatClampNeg x n = 0 := fun z => (ip.mp z).elim x0 xl
              rw [if_neg ip0, if_neg xl]
              by_cases yl : nI lq - n < y
              · rw [if_pos (iq.mpr (Or.inr yl)), if_neg (Int32.not_le.mpr yl)]; exact r5
              have iq0 : ¬ f_X5_hasStretch mi q0.toNatClampNeg y n = 0 := fun z => (iq.mp z).elim y0 yl
              rw [if_neg iq0, if_pos (Int32.not_lt.mp yl)]
              have fx := hs_fit lp1 n0 x0 xl
              have fy := hs_fit lq1 n0 y0 yl
              unfold f_X5_takeElements
              rw [if_neg ip0, if_neg iq0]
              exact Q3_mk rfl (R_ml h (cp_eq h.2.2.2.2.2.2.2.2.1 wp wq x0 y0 (by omega) (by omega)))
            · rw [if_neg n0, if_neg n0]; exact r4
          · simp only [if_neg so, if_neg n10]; exact r2
        · simp only [a3, b2, a5, b4, a1, b1, if_true, if_neg (bt3_ne a2), if_neg n10, if_neg n12, if_neg n02, if_neg n01]; exact r3
        · simp only [a3, b3, a5, b5, if_true, if_neg (vne _ b4), if_neg n10, if_neg n12]; exact r2
      · rcases sq with ⟨b1, b2, b3, b4, b5⟩ | ⟨b1, b2, b3, b4⟩ | ⟨b1, b2, b3, b4, b5⟩
        · simp only [a2, b3, a4, b5, a1, if_true, if_neg n10, if_neg n12, if_neg n02, if_neg n01]; exact r3
        · simp only [a2, b2, a4, b4, a1, if_true, if_neg n02, if_neg n01]; exact r3
        · simp only [a2, b3, a4, b5, if_true, if_neg (vne _ b4), if_neg n10, if_neg n02]; exact r2
      · simp only [a3, a5, if_true, if_neg (vne _ a4), if_neg n10]; exact r2
    · rw [shA_no wq, if_neg (Nat.lt_irrefl 8), if_pos ((isS_iff q0).mpr wq)]
      exact Q3_of (Q_no h 1 (by decide) (by decide))
  · rw [shA_no wp, if_neg (Nat.lt_irrefl 8), if_pos ((isS_iff p0).mpr wp)]
    have r1 := Q3_of (ml := ml) (mlj := mlj) (Q_no h 1 (by decide) (by decide))
    split
    · exact r1
    · exact r1
