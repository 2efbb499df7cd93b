/-! level 2: rests -/
theorem fc_lt {F : MemI} {b b' : Nat} (h : F (8, 17, 0) b = 0) (hb : b < b') : f_X7_fc F b < f_X7_fc F b' := by
  have m := fc_mono (mi := F) (show b + 1 ≤ b' by omega)
  rw [f_X7_fc_s, if_pos h] at m
  omega
theorem share_eq {nC nB c b : Nat} {m m' : MemI} {n : Int32} (h : k_CR 0 nC nB m m') (hc : c < nC) (hb : b < nB) (hn : ¬ n ≤ 0) : f_X1_share m 0 c n (m (0, 0, b) 3) = f_X7_shareAt m' c n (nI b) := by
  have h6 := h.1.2
  obtain ⟨-, -, -, -, e, -, p, -, -⟩ := h
  obtain ⟨⟨-, -, -, -, y5, -⟩, -⟩ := e c hc
  obtain ⟨⟨-, -, z3, -⟩, -⟩ := p b hb
  unfold f_X1_share f_X7_shareAt k_mn
  rw [if_neg hn, y5, z3, nI_clamp (by omega)]
  by_cases w : m' (8, 8, 0) c / n < m' (8, 13, 0) b
  · rw [if_pos w, if_pos (Int32.le_of_lt w)]
  · rw [if_neg w]
    by_cases v : m' (8, 8, 0) c / n ≤ m' (8, 13, 0) b
    · rw [if_pos v]; exact Int32.le_antisymm (Int32.not_lt.mp w) v
    · rw [if_neg v]
theorem open_iff {g nC nB : Nat} {m m' : MemI} (h : k_CR g nC nB m m') : (∀ j, j < nC → (f_X1_isOpen m g j = 0 ↔ m' (8, 12, 0) j = 1)) ∧ (∀ j, j < nC → (f_X1_isOpen m g j = 0 ↔ ¬ m' (8, 12, 0) j = 0)) ∧ ∀ j, nC ≤ j → j < 6 → f_X1_isOpen m g j = 0 := by
  obtain ⟨-, -, -, -, e, f, -, -, -⟩ := h
  unfold f_X1_isOpen
  refine ⟨fun j hj => ?_, fun j hj => ?_, fun j h1 h2 => by rw [f j h1 h2, if_pos rfl]⟩
  · obtain ⟨⟨y1, y2, -⟩, ⟨y3, -⟩⟩ := e j hj
    rw [y1, y2, if_neg (by decide)]
    rcases bt_01 y3 with z | z
    · rw [z]; decide
    · rw [z]; decide
  · obtain ⟨⟨y1, y2, -⟩, ⟨y3, -⟩⟩ := e j hj
    rw [y1, y2, if_neg (by decide)]
    rcases bt_01 y3 with z | z
    · rw [z]; decide
    · rw [z]; decide
/-- class and model while all move -/
def k_rr (nC nB : Nat) (F m m' : MemI) : Prop := k_CR 0 nC nB m m' ∧ k_rs nC (f_X7_fc F nB) m' ∧ (∀ b, b < nB → F (8, 17, 0) b = 0 → m (0, 0, b) 11 = m' (8, 45, 0) (f_X7_fc F b)) ∧ (∀ c, c < nC → m (1, 0, c) 14 = m' (8, 47, 0) c) ∧ (∀ b, m' (8, 17, 0) b = F (8, 17, 0) b) ∧ ∀ b, b < nB → F (8, 17, 0) b = 0 → m' (8, 44, 0) (f_X7_fc F b) = nI b
theorem mv_dr {nC nB b : Nat} {F m m' : MemI} (h : k_rr nC nB F m m') (hb : b < nB) (hc : F (8, 17, 0) b = 0) : f_X2_citizenAt m 0 (m (0, 0, b) 11) = (m' (8, 45, 0) (f_X7_fc F b)).toNatClampNeg ∧ ∀ j, j ≤ 6 → f_X2_mvB m 0 b j = f_X7_dr1 m' (f_X7_fc F b) (min j nC) := by
  obtain ⟨R, S, ha, hl, -, hf⟩ := h
  have hi := fc_lt hc hb
  have vat := S.2.1 _ hi
  have hat := k_clamp vat
  have hC6 := R.1.1
  have cA : f_X2_citizenAt m 0 (m (0, 0, b) 11) = (m' (8, 45, 0) (f_X7_fc F b)).toNatClampNeg := by rw [ha b hb hc]; exact cA_eq R vat
  have hcnt : ∀ c, c < 6 → ∃ k : Nat, k ≤ 6 ∧ m' (8, 47, 0) c = nI k := fun c h6 => ⟨_, Nat.le_trans (k_cnt_le m' c _) S.1.2.2.2.1, S.2.2 c h6⟩
  refine ⟨cA, fun j => ?_⟩
  induction j with
  | zero =>
    intro _
    rw [Nat.zero_min]
    show (f_X2_citizenAt m 0 (m (0, 0, b) 11), f_X1_share m 0 (f_X2_citizenAt m 0 (m (0, 0, b) 11)) (m (1, 0, f_X2_citizenAt m 0 (m (0, 0, b) 11)) 14) (m (0, 0, b) 3)) = ((m' (8, 45, 0) (f_X7_fc F b)).toNatClampNeg, f_X7_shareAt m' (m' (8, 45, 0) (f_X7_fc F b)).toNatClampNeg (m' (8, 47, 0) (m' (8, 45, 0) (f_X7_fc F b)).toNatClampNeg) (m' (8, 44, 0) (f_X7_fc F b)))
    have ne0 := rs_ne0 S hi
    rw [cA, hf b hb hc, hl _ hat]
    obtain ⟨k, k6, ek⟩ := hcnt (m' (8, 45, 0) (f_X7_fc F b)).toNatClampNeg (by omega)
    have kp : 0 < k := by
      rcases Nat.eq_zero_or_pos k with q | q
      · rw [q] at ek; exact absurd (ek.trans nI_0) ne0
      · exact q
    rw [share_eq R hat hb (by rw [ek]; exact nI_nle kp (by omega))]
  | succ j ih =>
    intro hj
    have ih1 := ih (by omega)
    rw [f_X2_mvB_s, ih1]
    by_cases c : j < nC
    · rw [show min j nC = j by omega, show min (j + 1) nC = j + 1 by omega, f_X7_dr1_s]
      by_cases o : m' (8, 12, 0) j = 1
      · rw [if_pos (((open_iff R).1 j c).mpr o), if_pos o]
      · rw [if_neg (fun z => o (((open_iff R).1 j c).mp z)), if_neg o, cA]
        by_cases e : j = (m' (8, 45, 0) (f_X7_fc F b)).toNatClampNeg
        · rw [if_pos e, if_pos (congrArg nI e)]
        · rw [if_neg e, if_neg (fun z => e ((nI_eq (by omega) (by omega)).mp z)), hl j c, hf b hb hc]
          obtain ⟨k, k6, ek⟩ := hcnt j (by omega)
          rw [share_eq R c hb (by rw [ek, nI_1]; exact nI_nle (by omega) (by omega))]
          by_cases q : (f_X7_dr1 m' (f_X7_fc F b) j).2 < f_X7_shareAt m' j (m' (8, 47, 0) j + 1) (nI b)
          · rw [if_pos q, if_neg (Int32.not_le.mpr q)]
          · rw [if_neg q, if_pos (Int32.not_lt.mp q)]
    · rw [if_pos ((open_iff R).2.2 j (by omega) (by omega)), show min j nC = nC by omega, show min (j + 1) nC = nC by omega]
def k_mvM (m' : MemI) (i t : Nat) : MemI := k_ui (k_ui (k_ui m' (8, 47, 0) (m' (8, 45, 0) i).toNatClampNeg (m' (8, 47, 0) (m' (8, 45, 0) i).toNatClampNeg - 1)) (8, 47, 0) t (k_ui m' (8, 47, 0) (m' (8, 45, 0) i).toNatClampNeg (m' (8, 47, 0) (m' (8, 45, 0) i).toNatClampNeg - 1) (8, 47, 0) t + 1)) (8, 45, 0) i (nI t)
def k_mvC (m : MemI) (a t b : Nat) : MemI := k_ui (k_ui (k_ui m (1, 0, a) 14 (m (1, 0, a) 14 - 1)) (1, 0, t) 14 (k_ui m (1, 0, a) 14 (m (1, 0, a) 14 - 1) (1, 0, t) 14 + 1)) (0, 0, b) 11 (k_ui (k_ui m (1, 0, a) 14 (m (1, 0, a) 14 - 1)) (1, 0, t) 14 (k_ui m (1, 0, a) 14 (m (1, 0, a) 14 - 1) (1, 0, t) 14 + 1) (1, 0, t) 0)
theorem rr_mv {nC nB b t : Nat} {F m m' : MemI} (h : k_rr nC nB F m m') (hb : b < nB) (hc : F (8, 17, 0) b = 0) (ht : t < nC) (hne : ¬ t = (m' (8, 45, 0) (f_X7_fc F b)).toNatClampNeg) : k_rr nC nB F (k_mvC m (m' (8, 45, 0) (f_X7_fc F b)).toNatClampNeg t b) (k_mvM m' (f_X7_fc F b) t) := by
  obtain ⟨R, S, ha, hl, hp, hf⟩ := h
  have hi := fc_lt hc hb
  have hat := k_clamp (S.2.1 _ hi)
  have hC6 := R.1.1
  have hM : ∀ n j, n ≠ 45 → n ≠ 47 → k_mvM m' (f_X7_fc F b) t (8, n, 0) j = m' (8, n, 0) j := fun n j h1 h2 => by
    unfold k_mvM; rw [k_uk (k_keyne h1), k_uk (k_keyne h2), k_uk (k_keyne h2)]
  have hM7 : ∀ q, k_mvM m' (f_X7_fc F b) t (7, 0, 0) q = m' (7, 0, 0) q := fun q => by
    unfold k_mvM; rw [k_uk (by decide), k_uk (by decide), k_uk (by decide)]
  have cN := (R.2.2.2.1 t (by omega)).1
  refine ⟨CR_ext R ⟨fun i q hq => ?_, fun i q hq => ?_, fun q hq => ?_⟩ ⟨fun n j x y => hM n j (by omega) (by omega), fun q _ => hM7 q⟩, rs_mv S hi ht hne, fun b' hb' hc' => ?_, fun c hcc => ?_, fun b' => (hM 17 b' (by decide) (by decide)).trans (hp b'), fun b' hb' hc' => (hM 44 _ (by decide) (by decide)).trans (hf b' hb' hc')⟩
  · unfold k_mvC; rw [k_uk (by simp), k_ufr (fun z => by have := z.2; omega), k_ufr (fun z => by have := z.2; omega)]
  · unfold k_mvC; rw [k_ufr (fun z => by have := z.2; omega), k_uk (by simp), k_uk (by simp)]
  · unfold k_mvC; rw [k_uk (by simp), k_uk (by simp), k_uk (by simp)]
  · unfold k_mvC k_mvM
    by_cases e : b' = b
    · subst e
      rw [k_uis, k_uis, k_uj (by decide), k_ufr (fun z => absurd z.2 (by decide))]
      exact cN
    · have ne : f_X7_fc F b' ≠ f_X7_fc F b := by
        rcases Nat.lt_or_ge b' b with q | q
        · have := fc_lt hc' q; omega
        · have := fc_lt hc (show b < b' by omega); omega
      rw [k_uk (by simp [e]), k_uk (by simp), k_uk (by simp), k_uj ne, k_uk (by decide), k_uk (by decide)]
      exact ha b' hb' hc'
  · unfold k_mvC k_mvM
    refine Eq.trans (k_uk (show ((1, 0, c) : Ky) ≠ (0, 0, b) by simp)) (Eq.trans ?_ (k_uk (show ((8, 47, 0) : Ky) ≠ (8, 45, 0) by decide)).symm)
    by_cases e1 : c = t
    · subst e1
      rw [k_uis, k_uis, k_uk (show ((1, 0, c) : Ky) ≠ (1, 0, (m' (8, 45, 0) (f_X7_fc F b)).toNatClampNeg) by simp [hne]), k_uj hne, hl _ hcc]
    · rw [k_uk (show ((1, 0, c) : Ky) ≠ (1, 0, t) by simp [e1]), k_uj e1]
      by_cases e2 : c = (m' (8, 45, 0) (f_X7_fc F b)).toNatClampNeg
      · rw [← e2, k_uis, k_uis, hl c hcc]
      · rw [k_uk (show ((1, 0, c) : Ky) ≠ (1, 0, (m' (8, 45, 0) (f_X7_fc F b)).toNatClampNeg) by simp [e2]), k_uj e2]; exact hl c hcc
theorem mv_one {nC nB b : Nat} {F m m' : MemI} (h : k_rr nC nB F m m') (hb : b < nB) (hc : F (8, 17, 0) b = 0) : ((f_X7_dr1 m' (f_X7_fc F b) nC).1 = (m' (8, 45, 0) (f_X7_fc F b)).toNatClampNeg ∧ f_X2_moveOne m 0 b = (0, m)) ∨ (¬ (f_X7_dr1 m' (f_X7_fc F b) nC).1 = (m' (8, 45, 0) (f_X7_fc F b)).toNatClampNeg ∧ (f_X7_dr1 m' (f_X7_fc F b) nC).1 < nC ∧ f_X2_moveOne m 0 b = (1, k_mvC m (m' (8, 45, 0) (f_X7_fc F b)).toNatClampNeg (f_X7_dr1 m' (f_X7_fc F b) nC).1 b)) := by
  obtain ⟨cA, e6⟩ := mv_dr h hb hc
  obtain ⟨R, S, ha, hl, hp, hf⟩ := h
  have hi := fc_lt hc hb
  have hat := k_clamp (S.2.1 _ hi)
  have hC6 := R.1.1
  have e := e6 6 (Nat.le_refl _)
  rw [show min 6 nC = nC by omega] at e
  have dl := dr1_lt (mi := m') (j := f_X7_fc F b) hat nC (Nat.le_refl _)
  unfold f_X2_moveOne
  rw [cA, e, if_pos (show (m' (8, 45, 0) (f_X7_fc F b)).toNatClampNeg < 6 by omega)]
  by_cases q : (f_X7_dr1 m' (f_X7_fc F b) nC).1 = (m' (8, 45, 0) (f_X7_fc F b)).toNatClampNeg
  · rw [if_pos q]; exact Or.inl ⟨q, rfl⟩
  · rw [if_neg q]; exact Or.inr ⟨q, dl, rfl⟩
/-- one round -/
theorem mv_all {nC nB : Nat} {F m m' : MemI} (h : k_rr nC nB F m m') : ∀ j, j ≤ 6 → (f_X2_mvA m 0 j).1 = (f_X7_drL m' nC (f_X7_fc F (min j nB))).1 ∧ k_rr nC nB F (f_X2_mvA m 0 j).2 (f_X7_drL m' nC (f_X7_fc F (min j nB))).2 := by
  intro j
  induction j with
  | zero => intro _; rw [Nat.zero_min]; exact ⟨rfl, h⟩
  | succ j ih =>
    intro hj
    obtain ⟨i1, i2⟩ := ih (by omega)
    rw [f_X2_mvA_s]
    have cm := comes_iff i2.1
    by_cases c : j < nB
    · rw [show min j nB = j by omega] at i1 i2 cm
      rw [show min (j + 1) nB = j + 1 by omega, f_X7_fc_s]
      by_cases z : F (8, 17, 0) j = 0
      · rw [if_pos z, if_neg (fun w => ((cm.1 j c).mp w) ((i2.2.2.2.2.1 j).trans z)), f_X7_drL_s]
        rcases mv_one i2 c z with ⟨q1, q2⟩ | ⟨q1, q2, q3⟩
        · rw [q2, if_pos rfl, if_pos (congrArg nI q1)]
          exact ⟨i1, i2⟩
        · have h6 := i2.1.1.1
          have hat := k_clamp (i2.2.1.2.1 _ (fc_lt z c))
          rw [q3, if_neg (show ¬ (1 : Int32) = 0 by decide), if_neg (fun w => q1 ((nI_eq (by omega) (by omega)).mp w))]
          exact ⟨rfl, rr_mv i2 c z q2 q1⟩
      · rw [if_neg z, if_pos ((cm.1 j c).mpr (fun w => z ((i2.2.2.2.2.1 j).symm.trans w)))]
        exact ⟨i1, i2⟩
    · rw [if_pos (cm.2 j (by omega) (by omega)), show min (j + 1) nB = nB by omega]
      rw [show min j nB = nB by omega] at i1 i2
      exact ⟨i1, i2⟩
theorem mv_rounds {nC nB : Nat} {F : MemI} : ∀ u j m m', k_rr nC nB F m m' → (f_X2_crR 0 u j m).1 = (f_X7_raR nC (f_X7_fc F nB) u j m').1 ∧ k_rr nC nB F (f_X2_crR 0 u j m).2 (f_X7_raR nC (f_X7_fc F nB) u j m').2 := by
  intro u
  induction u with
  | zero => intro j m m' h; exact ⟨rfl, h⟩
  | succ u ih =>
    intro j m m' h
    have hB := h.1.1.2
    obtain ⟨a, b⟩ := mv_all h 6 (Nat.le_refl _)
    rw [show min 6 nB = nB by omega] at a b
    rw [f_X2_crR_s, f_X7_raR_s]
    unfold f_X2_moveAll f_X7_doesRound
    generalize f_X2_mvA m 0 6 = A at a b ⊢
    generalize f_X7_drL m' nC (f_X7_fc F nB) = B at a b ⊢
    dsimp only
    rw [a]
    by_cases z : B.1 = 0
    · rw [if_pos z, if_pos z]; exact ⟨rfl, b⟩
    · rw [if_neg z, if_neg z]; exact ih _ _ _ b
/-- where all begin -/
theorem ra1_no {F : MemI} : ∀ n fs, (∀ c, c < n → ¬ F (8, 12, 0) c = 0) → f_X7_ra1 F n fs = fs := by
  intro n
  induction n with
  | zero => intro fs _; rfl
  | succ n ih => intro fs h; rw [f_X7_ra1_s, if_neg (h n (by omega))]; exact ih fs (fun c hc => h c (by omega))
theorem ra1_at {F : MemI} {k : Nat} (hk : F (8, 12, 0) k = 0) (hb : ∀ c, c < k → ¬ F (8, 12, 0) c = 0) : ∀ n fs, k < n → f_X7_ra1 F n fs = k := by
  intro n
  induction n with
  | zero => intro fs h; omega
  | succ n ih =>
    intro fs h
    rw [f_X7_ra1_s]
    by_cases e : k = n
    · subst e; rw [if_pos hk]; exact ra1_no _ _ hb
    · split
      · exact ih _ (by omega)
      · exact ih _ (by omega)
theorem oA_or {m F : MemI} {nC : Nat} (ho : ∀ j, j < nC → (f_X1_isOpen m 0 j = 0 ↔ ¬ F (8, 12, 0) j = 0)) (hn : ∀ j, nC ≤ j → j < 6 → f_X1_isOpen m 0 j = 0) : ∀ u j, j + u = 6 → (f_X2_openAtR m 0 u j 0 = 6 ∧ ∀ c, j ≤ c → c < nC → c < 6 → ¬ F (8, 12, 0) c = 0) ∨ (j ≤ f_X2_openAtR m 0 u j 0 ∧ f_X2_openAtR m 0 u j 0 < nC ∧ f_X2_openAtR m 0 u j 0 < 6 ∧ F (8, 12, 0) (f_X2_openAtR m 0 u j 0) = 0 ∧ ∀ c, j ≤ c → c < f_X2_openAtR m 0 u j 0 → ¬ F (8, 12, 0) c = 0) := by
  intro u
  induction u with
  | zero => intro j hj; exact Or.inl ⟨rfl, fun c h1 h2 h3 => by omega⟩
  | succ u ih =>
    intro j hj
    rw [f_X2_openAtR_s]
    have i1 := ih (j + 1) (by omega)
    by_cases o : f_X1_isOpen m 0 j = 0
    · rw [if_pos o]
      have hj0 : j < nC → ¬ F (8, 12, 0) j = 0 := fun h => (ho j h).mp o
      rcases i1 with ⟨a, b⟩ | ⟨a, b, c6, c, d⟩
      · refine Or.inl ⟨a, fun c h1 h2 h3 => ?_⟩
        by_cases e : c = j
        · subst e; exact hj0 h2
        · exact b c (by omega) h2 h3
      · refine Or.inr ⟨by omega, b, c6, c, fun c h1 h2 => ?_⟩
        by_cases e : c = j
        · subst e; exact hj0 (by omega)
        · exact d c (by omega) h2
    · rw [if_neg o, if_pos rfl]
      have hc : j < nC := by
        rcases Nat.lt_or_ge j nC with q | q
        · exact q
        · exact absurd (hn j q (by omega)) o
      refine Or.inr ⟨Nat.le_refl _, hc, by omega, ?_, fun c h1 h2 => by omega⟩
      by_cases z : F (8, 12, 0) j = 0
      · exact z
      · exact absurd ((ho j hc).mpr z) o
