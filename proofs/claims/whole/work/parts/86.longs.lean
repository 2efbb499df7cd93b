/-! the longs that a call leaves as they were -/
theorem fl_zr {ml : MemL} {i n q : Nat} {kk : Ky} (h : kk.2.1 ≠ 0) : k_zr ml (9, 0, i) n kk q = ml kk q := by
  unfold k_zr
  rw [if_neg (fun z => h (by rw [z.1]))]
theorem fl_ul {ml : MemL} {a i j q : Nat} {v : Int64} {kk : Ky} (h : kk.2.1 ≠ a) : k_ul ml (9, a, i) j v kk q = ml kk q := by
  rw [ul_at, if_neg (fun z => h (by rw [z.1]))]
theorem fl_X6_row {mi : MemI} {ml : MemL} {s0 so n : Int32} {kk : Ky} {q : Nat} (h : kk.2.1 ≠ 0) : (f_X6_row mi ml s0 so n).2.2 kk q = ml kk q := by
  unfold f_X6_row f_X5_takeRow
  split
  · split
    · split
      · rfl
      · split
        · split
          · exact fl_zr h
          · rfl
        · rfl
    · rfl
  · rfl
theorem fl_X6_set {mi : MemI} {ml : MemL} {s0 x : Int32} {v : Int64} {kk : Ky} {q : Nat} (h : kk.2.1 ≠ 0) : (f_X6_set mi ml s0 x v).2.2 kk q = ml kk q := by
  unfold f_X6_set
  split
  · split
    · split
      · rfl
      · dsimp only
        unfold f_X5_put
        split
        · rfl
        · split
          · exact fl_ul h
          · split
            · exact fl_ul h
            · split
              · exact fl_ul h
              · split
                · exact fl_ul h
                · rfl
    · rfl
  · rfl
theorem fl_rwL {ml : MemL} {s0 : Int32} {kk : Ky} {q : Nat} (h : kk.2.1 ≠ 1) : ∀ n, f_X7_rwL ml s0 n kk q = ml kk q := by
  intro n
  induction n with
  | zero => rfl
  | succ n ih => rw [f_X7_rwL, fl_ul h]; exact ih
theorem fl_cp1 {ml : MemL} {p0 x : Int32} {kk : Ky} {q : Nat} (h : kk.2.1 ≠ 2) : ∀ n, f_X7_cp1 ml p0 x n kk q = ml kk q := by
  intro n
  induction n with
  | zero => rfl
  | succ n ih => rw [f_X7_cp1, fl_ul h]; exact ih
theorem fl_cp2 {ml : MemL} {p0 x : Int32} {kk : Ky} {q : Nat} (h : kk.2.1 ≠ 1) : ∀ n, f_X7_cp2 ml p0 x n kk q = ml kk q := by
  intro n
  induction n with
  | zero => rfl
  | succ n ih => rw [f_X7_cp2, fl_ul h]; exact ih
theorem fl_X6_copy {mi : MemI} {ml : MemL} {p0 q0 x y n : Int32} {kk : Ky} {q : Nat} (h : kk.2.1 ≠ 0) : (f_X6_copy mi ml p0 q0 x y n).2.2 kk q = ml kk q := by
  have ht : ∀ i i2, f_X5_takeElements mi ml i i2 x y n kk q = ml kk q := fun i i2 => by
    unfold f_X5_takeElements
    split
    · rfl
    · split
      · rfl
      · exact if_neg (fun z => h (by rw [z]))
  unfold f_X6_copy
  repeat' split
  all_goals first | rfl | exact ht _ _
theorem fl_X7_row {mi : MemI} {ml : MemL} {s0 so n : Int32} {kk : Ky} {q : Nat} (h : kk.2.1 ≠ 1) : (f_X7_row mi ml s0 so n).2.2 kk q = ml kk q := by
  unfold f_X7_row
  repeat' split
  all_goals first | exact fl_rwL h _ | rfl
theorem fl_X7_set {mi : MemI} {ml : MemL} {s0 x : Int32} {v : Int64} {kk : Ky} {q : Nat} (h : kk.2.1 ≠ 1) : (f_X7_set mi ml s0 x v).2.2 kk q = ml kk q := by
  unfold f_X7_set
  repeat' split
  all_goals first | exact fl_ul h | rfl
theorem fl_ite {c : Prop} [Decidable c] {X Y : Int32 × MemI × MemL} {kk : Ky} {q : Nat} {v : Int64} (hX : X.2.2 kk q = v) (hY : Y.2.2 kk q = v) : (if c then X else Y).2.2 kk q = v := by
  by_cases h : c
  · rw [if_pos h]; exact hX
  · rw [if_neg h]; exact hY
theorem fl_X7_copy {mi : MemI} {ml : MemL} {p0 q0 x y n : Int32} {kk : Ky} {q : Nat} (h1 : kk.2.1 ≠ 1) (h2 : kk.2.1 ≠ 2) : (f_X7_copy mi ml p0 q0 x y n).2.2 kk q = ml kk q := by
  have leaf := (fl_cp2 (ml := f_X7_cp1 ml p0 x n.toNatClampNeg) (p0 := q0) (x := y) (q := q) h1 n.toNatClampNeg).trans (fl_cp1 (ml := ml) (p0 := p0) (x := x) (q := q) h2 n.toNatClampNeg)
  unfold f_X7_copy
  repeat' refine fl_ite ?_ ?_
  all_goals dsimp only
  all_goals exact leaf
