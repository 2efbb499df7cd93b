/-! level 2: the relation of a city of the class and the model's; faces; who is picked -/
def k_bt (n : Nat) (x : Int32) : Prop := ∃ m : Nat, m ≤ n ∧ x = nI m
theorem bt_01 {x : Int32} (h : k_bt 1 x) : x = 0 ∨ x = 1 := by
  obtain ⟨m, h1, rfl⟩ := h
  rcases (show m = 0 ∨ m = 1 by omega) with rfl | rfl
  · exact Or.inl rfl
  · exact Or.inr rfl
/-- one citizen, one beggar -/
def k_cz (g i : Nat) (mi mj : MemI) : Prop := mi (1, g, i) 1 = 1 ∧ mi (1, g, i) 2 = mj (8, 12, 0) i ∧ mi (1, g, i) 3 = mj (8, 6, 0) i ∧ mi (1, g, i) 4 = mj (8, 7, 0) i ∧ mi (1, g, i) 5 = mj (8, 8, 0) i ∧ mi (1, g, i) 6 = mj (8, 9, 0) i ∧ mi (1, g, i) 7 = mj (8, 10, 0) i ∧ mi (1, g, i) 8 = mj (8, 11, 0) i
def k_cr (mj : MemI) (i : Nat) : Prop := k_bt 1 (mj (8, 12, 0) i) ∧ k_bt 6 (mj (8, 6, 0) i) ∧ k_bt 9 (mj (8, 7, 0) i) ∧ k_bt 99 (mj (8, 8, 0) i) ∧ k_bt 20 (mj (8, 9, 0) i) ∧ k_bt 99 (mj (8, 10, 0) i) ∧ k_bt 9 (mj (8, 11, 0) i)
def k_bz (g b : Nat) (mi mj : MemI) : Prop := mi (0, g, b) 1 = 1 ∧ mi (0, g, b) 2 = mj (8, 17, 0) b ∧ mi (0, g, b) 3 = mj (8, 13, 0) b ∧ mi (0, g, b) 4 = mj (8, 14, 0) b ∧ mi (0, g, b) 5 = mj (8, 15, 0) b ∧ mi (0, g, b) 6 = mj (8, 16, 0) b
def k_br (nC : Nat) (mj : MemI) (b : Nat) : Prop := k_bt 1 (mj (8, 17, 0) b) ∧ (∃ m : Nat, 1 ≤ m ∧ m ≤ 9 ∧ mj (8, 13, 0) b = nI m) ∧ k_bt 4 (mj (8, 14, 0) b) ∧ (mj (8, 15, 0) b = -1 ∨ vp_in (mj (8, 15, 0) b) nC) ∧ k_bt 99 (mj (8, 16, 0) b)
/-- the class's city g is the model's -/
def k_CR (g nC nB : Nat) (mi mj : MemI) : Prop :=
  (nC ≤ 6 ∧ nB ≤ 6) ∧ (mi (2, g, 0) 2 = nI nC ∧ mi (2, g, 0) 3 = nI nB ∧ mj (7, 0, 0) 0 = nI nC ∧ mj (7, 0, 0) 1 = nI nB) ∧
  (mi (2, g, 0) 4 = mj (7, 0, 0) 2 ∧ mi (2, g, 0) 5 = mj (7, 0, 0) 3) ∧ (∀ i, i < 6 → mi (1, g, i) 0 = nI i ∧ mi (0, g, i) 0 = nI i) ∧
  (∀ i, i < nC → k_cz g i mi mj ∧ k_cr mj i) ∧ (∀ i, nC ≤ i → i < 6 → mi (1, g, i) 1 = 0) ∧
  (∀ b, b < nB → k_bz g b mi mj ∧ k_br nC mj b) ∧ (∀ b, nB ≤ b → b < 6 → mi (0, g, b) 1 = 0) ∧
  (∀ i, i < 6 → (mi (1, g, i) 2 = 0 ∨ mi (1, g, i) 2 = 1) ∧ (mi (0, g, i) 2 = 0 ∨ mi (0, g, i) 2 = 1))
/-- the cores are the same -/
def k_sC (g : Nat) (mi m : MemI) : Prop := (∀ i q, q ≤ 8 → m (1, g, i) q = mi (1, g, i) q) ∧ (∀ i q, q ≤ 6 → m (0, g, i) q = mi (0, g, i) q) ∧ ∀ q, q ≤ 5 → m (2, g, 0) q = mi (2, g, 0) q
def k_sM (mj m : MemI) : Prop := (∀ n j, 6 ≤ n → n ≤ 17 → m (8, n, 0) j = mj (8, n, 0) j) ∧ ∀ q, q ≤ 3 → m (7, 0, 0) q = mj (7, 0, 0) q
theorem sC_rf {g : Nat} {mi : MemI} : k_sC g mi mi := ⟨fun _ _ _ => rfl, fun _ _ _ => rfl, fun _ _ => rfl⟩
theorem sM_rf {mj : MemI} : k_sM mj mj := ⟨fun _ _ _ _ => rfl, fun _ _ => rfl⟩
theorem sC_tr {g : Nat} {a b c : MemI} (h1 : k_sC g a b) (h2 : k_sC g b c) : k_sC g a c :=
  ⟨fun i q h => (h2.1 i q h).trans (h1.1 i q h), fun i q h => (h2.2.1 i q h).trans (h1.2.1 i q h), fun q h => (h2.2.2 q h).trans (h1.2.2 q h)⟩
theorem sM_tr {a b c : MemI} (h1 : k_sM a b) (h2 : k_sM b c) : k_sM a c :=
  ⟨fun n j x y => (h2.1 n j x y).trans (h1.1 n j x y), fun q h => (h2.2 q h).trans (h1.2 q h)⟩
theorem sC_ofT {g : Nat} {mi m : MemI} (h : ∀ kk qq, k_tr kk qq = false → m kk qq = mi kk qq) : k_sC g mi m :=
  ⟨fun i q hq => h _ _ (by simp [k_tr]; omega), fun i q hq => h _ _ (by simp [k_tr]; omega), fun q hq => h _ _ (by simp [k_tr]; omega)⟩
theorem sM_ofZ {mj m : MemI} (h : ∀ kk qq, k_sc kk qq = false → m kk qq = mj kk qq) : k_sM mj m :=
  ⟨fun n j h1 h2 => h _ _ (by simp [k_sc]; omega), fun q hq => h _ _ (by simp [k_sc]; omega)⟩
theorem CR_ext {g nC nB : Nat} {mi mj m m' : MemI} (h : k_CR g nC nB mi mj) (h1 : k_sC g mi m) (h2 : k_sM mj m') : k_CR g nC nB m m' := by
  obtain ⟨⟨a1, a2⟩, ⟨b1, b2, b3, b4⟩, ⟨c1, c2⟩, d, e, f, p, r, z⟩ := h
  obtain ⟨x1, x0, x2⟩ := h1
  obtain ⟨y1, y2⟩ := h2
  refine ⟨⟨a1, a2⟩, ⟨?_, ?_, ?_, ?_⟩, ⟨?_, ?_⟩, fun i hi => ?_, fun i hi => ?_, fun i hi hi6 => ?_, fun i hi => ?_, fun i hi hi6 => ?_, fun i hi => ?_⟩
  · rw [x2 2 (by decide)]; exact b1
  · rw [x2 3 (by decide)]; exact b2
  · rw [y2 0 (by decide)]; exact b3
  · rw [y2 1 (by decide)]; exact b4
  · rw [x2 4 (by decide), y2 2 (by decide)]; exact c1
  · rw [x2 5 (by decide), y2 3 (by decide)]; exact c2
  · rw [x1 i 0 (by decide), x0 i 0 (by decide)]; exact d i hi
  · have he := e i hi
    unfold k_cz k_cr at he ⊢
    rw [x1 i 1 (by decide), x1 i 2 (by decide), x1 i 3 (by decide), x1 i 4 (by decide), x1 i 5 (by decide), x1 i 6 (by decide), x1 i 7 (by decide), x1 i 8 (by decide), y1 6 i (by decide) (by decide), y1 7 i (by decide) (by decide), y1 8 i (by decide) (by decide), y1 9 i (by decide) (by decide), y1 10 i (by decide) (by decide), y1 11 i (by decide) (by decide), y1 12 i (by decide) (by decide)]
    exact he
  · rw [x1 i 1 (by decide)]; exact f i hi hi6
  · have hp := p i hi
    unfold k_bz k_br at hp ⊢
    rw [x0 i 1 (by decide), x0 i 2 (by decide), x0 i 3 (by decide), x0 i 4 (by decide), x0 i 5 (by decide), x0 i 6 (by decide), y1 13 i (by decide) (by decide), y1 14 i (by decide) (by decide), y1 15 i (by decide) (by decide), y1 16 i (by decide) (by decide), y1 17 i (by decide) (by decide)]
    exact hp
  · rw [x0 i 1 (by decide)]; exact r i hi hi6
  · rw [x1 i 2 (by decide), x0 i 2 (by decide)]; exact z i hi
theorem CR_mo {g nC nB : Nat} {mi mj : MemI} (h : k_CR g nC nB mi mj) : k_mo nC nB mj :=
  ⟨h.2.1.2.2.1, h.1.1, h.2.1.2.2.2, h.1.2, fun b hb => (h.2.2.2.2.2.2.1 b hb).2.2.2.2.1⟩
/-- who is open, who comes -/
theorem CR_open {g nC nB : Nat} {mi mj : MemI} (h : k_CR g nC nB mi mj) {i : Nat} (hi : i < nC) : f_X1_isOpen mi g i = 0 ↔ mj (8, 12, 0) i = 1 := by
  obtain ⟨⟨e1, e2, -⟩, e3, -⟩ := h.2.2.2.2.1 i hi
  unfold f_X1_isOpen
  rw [e1, e2]
  rcases bt_01 e3 with q | q <;> rw [q] <;> decide
theorem CR_shut {g nC nB : Nat} {mi mj : MemI} (h : k_CR g nC nB mi mj) {i : Nat} (hi : nC ≤ i) (h6 : i < 6) : f_X1_isOpen mi g i = 0 := by
  unfold f_X1_isOpen
  rw [if_pos (h.2.2.2.2.2.1 i hi h6)]
theorem CR_comes {g nC nB : Nat} {mi mj : MemI} (h : k_CR g nC nB mi mj) {b : Nat} (hb : b < nB) : f_X0_comes mi g b = 0 ↔ mj (8, 17, 0) b = 1 := by
  obtain ⟨⟨e1, e2, -⟩, e3, -⟩ := h.2.2.2.2.2.2.1 b hb
  unfold f_X0_comes
  rw [e1, e2]
  rcases bt_01 e3 with q | q <;> rw [q] <;> decide
theorem CR_away {g nC nB : Nat} {mi mj : MemI} (h : k_CR g nC nB mi mj) {b : Nat} (hb : nB ≤ b) (h6 : b < 6) : f_X0_comes mi g b = 0 := by
  unfold f_X0_comes
  rw [if_pos (h.2.2.2.2.2.2.2.1 b hb h6)]
theorem k_n0_1 {x : Int32} (h : k_bt 1 x) : ¬ x = 1 ↔ x = 0 := by
  rcases bt_01 h with q | q <;> rw [q] <;> decide
/-! faces -/
theorem k_mxmn (x : Int32) : k_mx 0 (k_mn 30 x) = if 0 ≤ x then (if x ≤ 30 then x else 30) else 0 := by
  unfold k_mx k_mn
  by_cases h : x < 30
  · rw [if_pos h]
    by_cases h2 : 0 < x
    · rw [if_pos h2, if_pos (Int32.le_of_lt h2), if_pos (Int32.le_of_lt h)]
    · rw [if_neg h2]
      by_cases h3 : 0 ≤ x
      · rw [if_pos h3, if_pos (Int32.le_of_lt h)]
        exact (Int32.le_antisymm (Int32.not_lt.mp h2) h3).symm
      · rw [if_neg h3]
  · rw [if_neg h, if_pos (by decide)]
    have h4 : 30 ≤ x := Int32.not_lt.mp h
    rw [if_pos (Int32.le_trans (by decide) h4)]
    by_cases h5 : x ≤ 30
    · rw [if_pos h5]; exact Int32.le_antisymm h4 h5
    · rw [if_neg h5]
theorem k_face {g i : Nat} {mi mj : MemI} (h : k_cz g i mi mj) (hi : i < 6) : f_X1_faceNow mi g i = f_X7_face mj (nI i) := by
  obtain ⟨-, -, e3, e4, e5, e6, e7, e8⟩ := h
  unfold f_X1_faceNow f_X7_face f_X1_unboundedFace
  rw [nI_clamp (show i < 2 ^ 31 by omega), k_mxmn, e3, e4, e5, e6, e7, e8]
  by_cases h1 : mj (8, 6, 0) i = 1
  · simp only [if_pos h1]
  · simp only [if_neg h1]
    by_cases h2 : mj (8, 6, 0) i = 2
    · simp only [if_pos h2]
    · simp only [if_neg h2]
      by_cases h3 : mj (8, 6, 0) i = 3
      · simp only [if_pos h3]
      · simp only [if_neg h3]
        by_cases h4 : mj (8, 6, 0) i = 4
        · simp only [if_pos h4]
        · simp only [if_neg h4]
          by_cases h5 : mj (8, 6, 0) i = 5
          · simp only [if_pos h5]
            by_cases h7 : mj (8, 8, 0) i = 0
            · simp only [if_pos h7]
            · simp only [if_neg h7, Int32.add_zero]
          · simp only [if_neg h5]
            by_cases h6 : mj (8, 6, 0) i = 6
            · simp only [if_pos h6]
            · simp only [if_neg h6]
/-! a morning that is looked at: what stands of the citizens and of the first j beggars -/
def k_MR (g nC : Nat) (mi mj : MemI) : Prop := ∀ c, c < nC → mi (1, g, c) 9 = mj (8, 36, 0) c ∧ mi (1, g, c) 11 = mj (8, 38, 0) c ∧ mi (1, g, c) 12 = mj (8, 39, 0) c ∧ mi (1, g, c) 13 = mj (8, 40, 0) c
theorem gF_eq {g nC nB : Nat} {mi mj : MemI} (h : k_CR g nC nB mi mj) (hm : k_MR g nC mi mj) : ∀ j, j ≤ nC → f_X2_greatestFace mi g j = f_X7_bfL mj 0 0 j := by
  intro j
  induction j with
  | zero => intro _; rfl
  | succ j ih =>
    intro hj
    rw [f_X2_greatestFace_s, f_X7_bfL_s, ih (by omega)]
    have ho := CR_open h (show j < nC by omega)
    have hl := bfL_lt (mi := mj) (few := 0) (lst := 0) j
    by_cases q : f_X7_bfL mj 0 0 j < 6
    · have q2 : f_X7_bfL mj 0 0 j < nC := by omega
      simp only [if_pos q, ho, (hm j (by omega)).1, (hm _ q2).1, if_true]
    · simp only [if_neg q, ho]
theorem lF_eq {g nC nB : Nat} {mi mj : MemI} (h : k_CR g nC nB mi mj) (hm : k_MR g nC mi mj) : ∀ j, j ≤ nC → f_X2_leastFace mi g j = f_X7_bfL mj 0 1 j := by
  intro j
  induction j with
  | zero => intro _; rfl
  | succ j ih =>
    intro hj
    rw [f_X2_leastFace_s, f_X7_bfL_s, ih (by omega)]
    have ho := CR_open h (show j < nC by omega)
    have hl := bfL_lt (mi := mj) (few := 0) (lst := 1) j
    by_cases q : f_X7_bfL mj 0 1 j < 6
    · have q2 : f_X7_bfL mj 0 1 j < nC := by omega
      simp only [if_pos q, ho, (hm j (by omega)).1, (hm _ q2).1, if_true, show ¬ (1 : Int32) = 0 by decide, if_false]
    · simp only [if_neg q, ho]
theorem fP_eq {g nC nB : Nat} {mi mj : MemI} (h : k_CR g nC nB mi mj) (hm : k_MR g nC mi mj) : ∀ j, j ≤ nC → f_X2_fewestPicked mi g j = f_X7_bfL mj 1 0 j := by
  intro j
  induction j with
  | zero => intro _; rfl
  | succ j ih =>
    intro hj
    rw [f_X2_fewestPicked_s, f_X7_bfL_s, ih (by omega)]
    have ho := CR_open h (show j < nC by omega)
    have hl := bfL_lt (mi := mj) (few := 1) (lst := 0) j
    by_cases q : f_X7_bfL mj 1 0 j < 6
    · have q2 : f_X7_bfL mj 1 0 j < nC := by omega
      simp only [if_pos q, ho, (hm j (by omega)).1, (hm _ q2).1, (hm j (by omega)).2.1, (hm _ q2).2.1, if_true, show ¬ (1 : Int32) = 0 by decide, if_false]
      by_cases q3 : mj (8, 12, 0) j = 1
      · simp only [if_pos q3]
      · simp only [if_neg q3]
        by_cases q4 : mj (8, 38, 0) j < mj (8, 38, 0) (f_X7_bfL mj 1 0 j)
        · simp only [if_pos q4, if_neg (Int32.not_le.mpr q4)]
        · simp only [if_neg q4, if_pos (Int32.not_lt.mp q4)]
    · simp only [if_neg q, ho]
/-- behind the last citizen nothing changes -/
theorem k_tail {α : Type} {f : Nat → α} {n : Nat} (h : ∀ j, n ≤ j → j < 6 → f (j + 1) = f j) : ∀ d, n + d ≤ 6 → f (n + d) = f n := by
  intro d
  induction d with
  | zero => intro _; rfl
  | succ d ih => intro hd; rw [show n + (d + 1) = (n + d) + 1 from rfl, h (n + d) (by omega) (by omega), ih (by omega)]
theorem k_tail6 {α : Type} {f : Nat → α} {n : Nat} (hn : n ≤ 6) (h : ∀ j, n ≤ j → j < 6 → f (j + 1) = f j) : f 6 = f n := by
  have := k_tail h (6 - n) (by omega)
  rw [show n + (6 - n) = 6 by omega] at this
  exact this
theorem greatestFace_le (mi : MemI) (g : Nat) : ∀ j, j ≤ 6 → f_X2_greatestFace mi g j ≤ 6 := by
  intro j
  induction j with
  | zero => intro _; exact Nat.le_refl 6
  | succ j ih =>
    intro hj
    have := ih (by omega)
    rw [f_X2_greatestFace_s]
    repeat' split
    all_goals omega
theorem leastFace_le (mi : MemI) (g : Nat) : ∀ j, j ≤ 6 → f_X2_leastFace mi g j ≤ 6 := by
  intro j
  induction j with
  | zero => intro _; exact Nat.le_refl 6
  | succ j ih =>
    intro hj
    have := ih (by omega)
    rw [f_X2_leastFace_s]
    repeat' split
    all_goals omega
theorem fewestPicked_le (mi : MemI) (g : Nat) : ∀ j, j ≤ 6 → f_X2_fewestPicked mi g j ≤ 6 := by
  intro j
  induction j with
  | zero => intro _; exact Nat.le_refl 6
  | succ j ih =>
    intro hj
    have := ih (by omega)
    rw [f_X2_fewestPicked_s]
    repeat' split
    all_goals omega
theorem gF_6 {g nC nB : Nat} {mi mj : MemI} (h : k_CR g nC nB mi mj) (hm : k_MR g nC mi mj) : f_X2_greatestFace mi g 6 = f_X7_bfL mj 0 0 nC := by
  rw [← gF_eq h hm nC (Nat.le_refl _)]
  refine k_tail6 h.1.1 (fun j h1 h2 => ?_)
  have h3 := greatestFace_le mi g j (by omega)
  rw [f_X2_greatestFace_s]
  simp only [if_pos (CR_shut h h1 h2)]
  split
  · rfl
  · omega
theorem lF_6 {g nC nB : Nat} {mi mj : MemI} (h : k_CR g nC nB mi mj) (hm : k_MR g nC mi mj) : f_X2_leastFace mi g 6 = f_X7_bfL mj 0 1 nC := by
  rw [← lF_eq h hm nC (Nat.le_refl _)]
  refine k_tail6 h.1.1 (fun j h1 h2 => ?_)
  have h3 := leastFace_le mi g j (by omega)
  rw [f_X2_leastFace_s]
  simp only [if_pos (CR_shut h h1 h2)]
  split
  · rfl
  · omega
theorem fP_6 {g nC nB : Nat} {mi mj : MemI} (h : k_CR g nC nB mi mj) (hm : k_MR g nC mi mj) : f_X2_fewestPicked mi g 6 = f_X7_bfL mj 1 0 nC := by
  rw [← fP_eq h hm nC (Nat.le_refl _)]
  refine k_tail6 h.1.1 (fun j h1 h2 => ?_)
  have h3 := fewestPicked_le mi g j (by omega)
  rw [f_X2_fewestPicked_s]
  simp only [if_pos (CR_shut h h1 h2)]
  split
  · rfl
  · omega
theorem cO_eq {g nC nB : Nat} {mi mj : MemI} (h : k_CR g nC nB mi mj) : ∀ j, j ≤ nC → nI (f_X2_countOpen mi g j) = f_X7_bl1 mj j := by
  intro j
  induction j with
  | zero => intro _; rfl
  | succ j ih =>
    intro hj
    rw [f_X2_countOpen_s, f_X7_bl1_s, ← ih (by omega)]
    have ho := CR_open h (show j < nC by omega)
    have hz := bt_01 (h.2.2.2.2.1 j (by omega)).2.1
    by_cases q : mj (8, 12, 0) j = 1
    · rw [if_pos (ho.mpr q), q, show (1 : Int32) - 1 = 0 by decide, Int32.add_zero]
    · rw [if_neg (fun z => q (ho.mp z)), hz.resolve_right q, nI_succ]; rfl
theorem cO_6 {g nC nB : Nat} {mi mj : MemI} (h : k_CR g nC nB mi mj) : nI (f_X2_countOpen mi g 6) = f_X7_bl1 mj nC := by
  rw [← cO_eq h nC (Nat.le_refl _)]
  congr 1
  exact k_tail6 h.1.1 (fun j h1 h2 => by rw [f_X2_countOpen_s, if_pos (CR_shut h h1 h2)])
theorem cO_le (mi : MemI) (g : Nat) : ∀ j, f_X2_countOpen mi g j ≤ j := by
  intro j
  induction j with
  | zero => exact Nat.le_refl _
  | succ j ih => rw [f_X2_countOpen_s]; split <;> omega
theorem oA_sh {g nC nB : Nat} {mi mj : MemI} (h : k_CR g nC nB mi mj) : ∀ u j x, nC ≤ j → j + u ≤ 6 → f_X2_openAtR mi g u j x = 6 := by
  intro u
  induction u with
  | zero => intro j x _ _; rfl
  | succ u ih =>
    intro j x h1 h2
    rw [f_X2_openAtR_s, if_pos (CR_shut h h1 (by omega))]
    exact ih (j + 1) x (by omega) (by omega)
theorem oA_eq {g nC nB : Nat} {mi mj : MemI} (h : k_CR g nC nB mi mj) : ∀ u j x, j + u = nC → f_X2_openAtR mi g (u + (6 - nC)) j x = f_X7_blR mj u j x := by
  intro u
  induction u with
  | zero =>
    intro j x hj
    have h1 := h.1.1
    rw [oA_sh h (0 + (6 - nC)) j x (by omega) (by omega)]
    rfl
  | succ u ih =>
    intro j x hj
    have ho := CR_open h (show j < nC by omega)
    rw [show u + 1 + (6 - nC) = (u + (6 - nC)) + 1 by omega, f_X2_openAtR_s, f_X7_blR_s, ih (j + 1) x (by omega), ih (j + 1) (x + (-1)) (by omega)]
    simp only [ho]
theorem oA_6 {g nC nB : Nat} {mi mj : MemI} (h : k_CR g nC nB mi mj) (x : Int32) : f_X2_openAt mi g x = f_X7_blR mj nC 0 x := by
  have h1 := h.1.1
  have h2 := oA_eq h nC 0 x (by omega)
  rw [show nC + (6 - nC) = 6 by omega] at h2
  exact h2
theorem cA_eq {g nC nB : Nat} {mi mj : MemI} (h : k_CR g nC nB mi mj) {x : Int32} (hx : vp_in x nC) : f_X2_citizenAt mi g x = x.toNatClampNeg := by
  have h1 := h.1.1
  obtain ⟨j, hj, rfl⟩ := vp_in_of hx (by omega)
  unfold f_X2_citizenAt
  rw [if_neg (nI_pos (by omega)), if_neg (show ¬ (6 : Int32) ≤ nI j from nI_ge (b := 6) (by omega) (by decide)), h.2.1.1, if_neg (nI_ge hj (by omega))]
theorem cA_no {g nC nB : Nat} {mi mj : MemI} (h : k_CR g nC nB mi mj) {x : Int32} (hx : ¬ vp_in x nC) : f_X2_citizenAt mi g x = 6 := by
  have h1 := h.1.1
  unfold f_X2_citizenAt
  split
  · rfl
  · rename_i q
    split
    · rfl
    · split
      · rfl
      · rename_i q2 q3
        rw [h.2.1.1] at q3
        exact absurd (k_vin q q3 (nI_toInt (by omega))) hx
theorem bA_eq {g nC nB : Nat} {mi mj : MemI} (h : k_CR g nC nB mi mj) {x : Int32} (hx : vp_in x nB) : f_X2_beggarAt mi g x = x.toNatClampNeg := by
  have h1 := h.1.2
  obtain ⟨j, hj, rfl⟩ := vp_in_of hx (by omega)
  unfold f_X2_beggarAt
  rw [if_neg (nI_pos (by omega)), if_neg (show ¬ (6 : Int32) ≤ nI j from nI_ge (b := 6) (by omega) (by decide)), h.2.1.2.1, if_neg (nI_ge hj (by omega))]
theorem bA_no {g nC nB : Nat} {mi mj : MemI} (h : k_CR g nC nB mi mj) {x : Int32} (hx : ¬ vp_in x nB) : f_X2_beggarAt mi g x = 6 := by
  have h1 := h.1.2
  unfold f_X2_beggarAt
  split
  · rfl
  · rename_i q
    split
    · rfl
    · split
      · rfl
      · rename_i q2 q3
        rw [h.2.1.2.1] at q3
        exact absurd (k_vin q q3 (nI_toInt (by omega))) hx
/-- with a rule from 0 to 4: his choice by cases, BY_FACES last -/
theorem cB_eq {mi : MemI} {g b : Nat} (h : k_bt 4 (mi (0, g, b) 4)) : f_X2_chosenBy mi g b =
  if (mi (0, g, b) 4) = 1 then if f_X2_leastFace mi g 6 < 6 then (f_X2_leastFace mi g 6)
    else 6
  else if (mi (0, g, b) 4) = 2 then if f_X2_fewestPicked mi g 6 < 6 then (f_X2_fewestPicked mi g 6)
      else 6
    else if (mi (0, g, b) 4) = 3 then if f_X2_openAt mi g (f_X2_blindPlace mi g b (nI <| f_X2_countOpen mi g 6)) < 6 then (f_X2_openAt mi g (f_X2_blindPlace mi g b (nI <| f_X2_countOpen mi g 6)))
        else 6
      else if (mi (0, g, b) 4) = 4 then if (f_X2_canStay mi g b) = 0 then if f_X2_greatestFace mi g 6 < 6 then (f_X2_greatestFace mi g 6)
            else 6
          else if f_X2_citizenAt mi g (mi (0, g, b) 5) < 6 then (f_X2_citizenAt mi g (mi (0, g, b) 5))
            else 6
        else if f_X2_greatestFace mi g 6 < 6 then (f_X2_greatestFace mi g 6)
          else 6 := by
  obtain ⟨m, hm, e⟩ := h
  unfold f_X2_chosenBy
  rw [e]
  rcases (show m = 0 ∨ m = 1 ∨ m = 2 ∨ m = 3 ∨ m = 4 by omega) with rfl | rfl | rfl | rfl | rfl
  · simp only [if_pos (show nI 0 = 0 by decide), if_neg (show ¬ nI 0 = 1 by decide), if_neg (show ¬ nI 0 = 2 by decide), if_neg (show ¬ nI 0 = 3 by decide), if_neg (show ¬ nI 0 = 4 by decide)]
  · simp only [if_pos (show nI 1 = 1 by decide), if_neg (show ¬ nI 1 = 0 by decide), if_neg (show ¬ nI 1 = 2 by decide), if_neg (show ¬ nI 1 = 3 by decide), if_neg (show ¬ nI 1 = 4 by decide)]
  · simp only [if_pos (show nI 2 = 2 by decide), if_neg (show ¬ nI 2 = 0 by decide), if_neg (show ¬ nI 2 = 1 by decide), if_neg (show ¬ nI 2 = 3 by decide), if_neg (show ¬ nI 2 = 4 by decide)]
  · simp only [if_pos (show nI 3 = 3 by decide), if_neg (show ¬ nI 3 = 0 by decide), if_neg (show ¬ nI 3 = 1 by decide), if_neg (show ¬ nI 3 = 2 by decide), if_neg (show ¬ nI 3 = 4 by decide)]
  · simp only [if_pos (show nI 4 = 4 by decide), if_neg (show ¬ nI 4 = 0 by decide), if_neg (show ¬ nI 4 = 1 by decide), if_neg (show ¬ nI 4 = 2 by decide), if_neg (show ¬ nI 4 = 3 by decide)]
/-- whom a beggar picks -/
theorem pick_eq {g nC nB : Nat} {mi mj : MemI} (h : k_CR g nC nB mi mj) (hm : k_MR g nC mi mj) {b : Nat} (hb : b < nB) : f_X2_chosenBy mi g b = f_X7_picksBy mj b (mj (8, 14, 0) b) nC ∨ (¬ f_X2_chosenBy mi g b < 6 ∧ ¬ f_X7_picksBy mj b (mj (8, 14, 0) b) nC < 6) := by
  have hbb := h.2.2.2.2.2.2.1 b hb
  obtain ⟨⟨e1, e2, e3, e4, e5, e6⟩, -, -, hr4, hl, -⟩ := hbb
  have hb6 := h.1.2
  have hc6 := h.1.1
  rw [cB_eq (by rw [e4]; exact hr4)]
  unfold f_X7_picksBy f_X7_blindly f_X2_blindPlace f_X2_canStay
  rw [e4, e5, gF_6 h hm, lF_6 h hm, fP_6 h hm, oA_6 h, cO_6 h, (h.2.2.2.1 b (by omega)).2, h.2.2.1.1]
  by_cases r1 : mj (8, 14, 0) b = 1
  · left; simp only [if_pos r1]
  · simp only [if_neg r1]
    by_cases r2 : mj (8, 14, 0) b = 2
    · left; simp only [if_pos r2]
    · simp only [if_neg r2]
      by_cases r3 : mj (8, 14, 0) b = 3
      · simp only [if_pos r3]
        have hco := cO_6 h
        have hle := cO_le mi g 6
        by_cases z : f_X7_bl1 mj nC = 0
        · right
          rw [if_pos z]
          have h0 : f_X2_countOpen mi g 6 = 0 := nI_inj6 (by omega) (by decide) (hco.trans z)
          have hall : ∀ u j x, j + u = nC → f_X7_blR mj u j x = 6 := by
            have hc : ∀ n, n ≤ nC → f_X2_countOpen mi g n = 0 := by
              have hmono : ∀ d n, f_X2_countOpen mi g n ≤ f_X2_countOpen mi g (n + d) := by
                intro d n
                induction d with
                | zero => exact Nat.le_refl _
                | succ d ihd => rw [show n + (d + 1) = (n + d) + 1 from rfl, f_X2_countOpen_s]; split <;> omega
              intro n hn
              have := hmono (6 - n) n
              rw [show n + (6 - n) = 6 by omega] at this
              omega
            intro u
            induction u with
            | zero => intro j x _; rfl
            | succ u ihu =>
              intro j x hj
              have ho := CR_open h (show j < nC by omega)
              have h1 := hc (j + 1) (by omega)
              rw [f_X2_countOpen_s] at h1
              have hop : f_X1_isOpen mi g j = 0 := by
                by_cases q : f_X1_isOpen mi g j = 0
                · exact q
                · rw [if_neg q] at h1; omega
              rw [f_X7_blR_s, if_pos (ho.mp hop)]
              exact ihu (j + 1) x (by omega)
          rw [hall nC 0 _ (by omega)]
          exact ⟨by decide, by decide⟩
        · have hpos : ¬ f_X7_bl1 mj nC ≤ 0 := fun q => z (by
            rw [← hco] at q ⊢
            have := Int32.le_iff_toInt_le.mp q
            rw [nI_toInt (by omega)] at this
            have e0 : (0 : Int32).toInt = 0 := rfl
            rw [show f_X2_countOpen mi g 6 = 0 by omega]; rfl)
          left
          rw [if_neg hpos, if_neg z]
      · simp only [if_neg r3]
        by_cases r4 : mj (8, 14, 0) b = 4
        · simp only [if_pos r4]
          rcases hl with q | q
          · left
            have hcs := cA_no h (x := -1) (by intro w; exact w (Or.inl (by decide)))
            simp only [q, hcs, Nat.lt_irrefl, if_false, if_true]
          · have q1 : ¬ mj (8, 15, 0) b = -1 := fun w => by rw [w] at q; exact q (Or.inl (by decide))
            have q2 := k_clamp q
            have q3 : (mj (8, 15, 0) b).toNatClampNeg < 6 := by omega
            simp only [if_neg q1, cA_eq h q, if_pos q3]
            have ho := CR_open h q2
            have hz := bt_01 (h.2.2.2.2.1 _ q2).2.1
            left
            by_cases w : mj (8, 12, 0) (mj (8, 15, 0) b).toNatClampNeg = 1
            · have w2 : ¬ mj (8, 12, 0) (mj (8, 15, 0) b).toNatClampNeg = 0 := by rw [w]; decide
              simp only [if_pos (ho.mpr w), if_true, if_neg w2]
            · have w2 : ¬ f_X1_isOpen mi g (mj (8, 15, 0) b).toNatClampNeg = 0 := fun z => w (ho.mp z)
              simp only [if_neg w2, show ¬ (1 : Int32) = 0 by decide, if_false, if_pos (hz.resolve_right w)]
        · left; simp only [if_neg r4]
