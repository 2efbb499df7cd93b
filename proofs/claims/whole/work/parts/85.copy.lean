/-! level 2: copy -/
theorem hs_iff {mi : MemI} {s len : Nat} {x n : Int32} (e : mi (5, 0, s) 2 = nI len) (l : len ≤ 160) (n0 : 0 ≤ n) : f_X5_hasStretch mi s x n = 0 ↔ x < 0 ∨ nI len - n < x := by
  unfold f_X5_hasStretch
  rw [e]
  by_cases a : x < 0
  · rw [if_pos a]; exact ⟨fun _ => Or.inl a, fun _ => rfl⟩
  rw [if_neg a, if_neg (Int32.not_lt.mpr n0)]
  have z0 : (0 : Int32).toInt = 0 := rfl
  have xa := Int32.le_iff_toInt_le.mp (Int32.not_lt.mp a)
  have na := Int32.le_iff_toInt_le.mp n0
  have xh := x.toInt_lt
  have nh := n.toInt_lt
  have el : (nI len).toInt = len := nI_toInt (by omega)
  have e1 : (nI len - x).toInt = len - x.toInt := by
    rw [Int32.toInt_sub, el]; exact Int.bmod_eq_of_le (by omega) (by omega)
  have e2 : (nI len - n).toInt = len - n.toInt := by
    rw [Int32.toInt_sub, el]; exact Int.bmod_eq_of_le (by omega) (by omega)
  by_cases b : nI len - x < n
  · rw [if_pos b]
    refine ⟨fun _ => Or.inr (Int32.lt_iff_toInt_lt.mpr ?_), fun _ => rfl⟩
    have := Int32.lt_iff_toInt_lt.mp b
    omega
  · rw [if_neg b]
    refine ⟨fun z => absurd z (by decide), fun z => ?_⟩
    rcases z with z | z
    · exact absurd z a
    · exact absurd (Int32.lt_iff_toInt_lt.mpr (by have := Int32.lt_iff_toInt_lt.mp z; omega)) b
theorem hs_fit {x n : Int32} {len : Nat} (l : len ≤ 160) (n0 : 0 ≤ n) (a : ¬ x < 0) (b : ¬ nI len - n < x) : x.toNatClampNeg + n.toNatClampNeg ≤ len := by
  have z0 : (0 : Int32).toInt = 0 := rfl
  have xa := Int32.le_iff_toInt_le.mp (Int32.not_lt.mp a)
  have na := Int32.le_iff_toInt_le.mp n0
  have xh := x.toInt_lt
  have nh := n.toInt_lt
  have el : (nI len).toInt = len := nI_toInt (by omega)
  have e2 : (nI len - n).toInt = len - n.toInt := by
    rw [Int32.toInt_sub, el]; exact Int.bmod_eq_of_le (by omega) (by omega)
  have := Int32.le_iff_toInt_le.mp (Int32.not_lt.mp b)
  show x.toInt.toNat + n.toInt.toNat ≤ len
  omega
theorem cp1_at {ml : MemL} {p0 x : Int32} (w : vp_in p0 8) (x0 : ¬ x < 0) : ∀ j, x.toNatClampNeg + j ≤ 160 → (∀ i, i < j → f_X7_cp1 ml p0 x j (9, 2, 0) i = ml (9, 1, 0) (160 * p0.toNatClampNeg + x.toNatClampNeg + i)) ∧ ∀ p, f_X7_cp1 ml p0 x j (9, 1, 0) p = ml (9, 1, 0) p := by
  intro j
  induction j with
  | zero => intro _; exact ⟨fun i h => absurd h (Nat.not_lt_zero i), fun p => rfl⟩
  | succ j ih =>
    intro hj
    obtain ⟨a, b⟩ := ih (by omega)
    have e := (k_cellin3 (j := j) w x0 (by omega)).2
    rw [f_X7_cp1, e, b]
    refine ⟨fun i hi => ?_, fun p => ?_⟩
    · rw [ul_at]
      by_cases c : i = j
      · rw [if_pos ⟨rfl, c⟩, c]
      · rw [if_neg (fun z => c z.2)]; exact a i (by omega)
    · rw [ul_at, if_neg (fun z => absurd z.1 (by decide))]; exact b p
theorem cp2_at {ml : MemL} {q0 y : Int32} (w : vp_in q0 8) (y0 : ¬ y < 0) : ∀ j, y.toNatClampNeg + j ≤ 160 → (∀ i, f_X7_cp2 ml q0 y j (9, 2, 0) i = ml (9, 2, 0) i) ∧ ∀ p, f_X7_cp2 ml q0 y j (9, 1, 0) p = if 160 * q0.toNatClampNeg + y.toNatClampNeg ≤ p ∧ p < 160 * q0.toNatClampNeg + y.toNatClampNeg + j then ml (9, 2, 0) (p - (160 * q0.toNatClampNeg + y.toNatClampNeg)) else ml (9, 1, 0) p := by
  intro j
  induction j with
  | zero => intro _; exact ⟨fun i => rfl, fun p => by rw [if_neg (by omega)]; rfl⟩
  | succ j ih =>
    intro hj
    obtain ⟨a, b⟩ := ih (by omega)
    have e := (k_cellin3 (j := j) w y0 (by omega)).2
    rw [f_X7_cp2, e, a]
    refine ⟨fun i => ?_, fun p => ?_⟩
    · rw [ul_at, if_neg (fun z => absurd z.1 (by decide))]; exact a i
    · rw [ul_at]
      by_cases c : p = 160 * q0.toNatClampNeg + y.toNatClampNeg + j
      · rw [if_pos ⟨rfl, c⟩, if_pos (by omega)]
        congr 1; omega
      · rw [if_neg (fun z => c z.2), b]
        by_cases d : 160 * q0.toNatClampNeg + y.toNatClampNeg ≤ p ∧ p < 160 * q0.toNatClampNeg + y.toNatClampNeg + j
        · rw [if_pos d, if_pos (by omega)]
        · rw [if_neg d, if_neg (by omega)]
/-- the cells after a copy -/
theorem cp_eq {ml mlj : MemL} {p0 q0 x y n : Int32} (h : ∀ s, s < 8 → ∀ i, i < 160 → ml (9, 0, s) i = mlj (9, 1, 0) (160 * s + i)) (wp : vp_in p0 8) (wq : vp_in q0 8) (x0 : ¬ x < 0) (y0 : ¬ y < 0) (hx : x.toNatClampNeg + n.toNatClampNeg ≤ 160) (hy : y.toNatClampNeg + n.toNatClampNeg ≤ 160) : ∀ s, s < 8 → ∀ i, i < 160 → (fun (kx : Ky) (jx : Nat) => if kx = (9, 0, q0.toNatClampNeg) then va_cpy (ml (9, 0, p0.toNatClampNeg)) (ml (9, 0, q0.toNatClampNeg)) x.toNatClampNeg y.toNatClampNeg n.toNatClampNeg jx else ml kx jx) (9, 0, s) i = f_X7_cp2 (f_X7_cp1 mlj p0 x n.toNatClampNeg) q0 y n.toNatClampNeg (9, 1, 0) (160 * s + i) := by
  intro s hs i hi
  have hp := k_clamp wp
  obtain ⟨a1, a2⟩ := cp1_at (ml := mlj) wp x0 n.toNatClampNeg hx
  rw [(cp2_at wq y0 n.toNatClampNeg hy).2, a2]
  dsimp only
  by_cases e : s = q0.toNatClampNeg
  · subst e
    rw [if_pos rfl]
    unfold va_cpy
    by_cases c : y.toNatClampNeg ≤ i ∧ i < y.toNatClampNeg + n.toNatClampNeg
    · rw [if_pos c, if_pos (by omega), a1 _ (by omega), h _ hp _ (by omega)]
      congr 1; omega
    · rw [if_neg c, if_neg (by omega)]; exact h _ hs _ hi
  · rw [if_neg (fun z => e (by have := z; simp at this; exact this)), if_neg (by omega)]; exact h _ hs _ hi
