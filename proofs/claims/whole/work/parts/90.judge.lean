/-! level 2: judge -/
theorem fi_at {mi : MemI} {b : Nat} (hb : mi (8, 17, 0) b = 0) : ∀ j, b < j → f_X7_fi mi j (8, 44, 0) (f_X7_fc mi b) = nI b := by
  intro j
  induction j with
  | zero => intro hj; omega
  | succ j ih =>
    intro hj
    rw [f_X7_fi_s]
    by_cases e : b = j
    · subst e
      rw [if_pos hb]; exact k_uis
    · have i2 := ih (by omega)
      have lt : f_X7_fc mi b < f_X7_fc mi j := by
        have mono : ∀ k, f_X7_fc mi (b + 1) ≤ f_X7_fc mi (b + 1 + k) := by
          intro k
          induction k with
          | zero => exact Nat.le_refl _
          | succ k ih =>
            refine Nat.le_trans ih ?_
            rw [show b + 1 + (k + 1) = (b + 1 + k) + 1 by omega, f_X7_fc_s]
            split <;> omega
        have m := mono (j - (b + 1))
        rw [show b + 1 + (j - (b + 1)) = j by omega, f_X7_fc_s, if_pos hb] at m
        omega
      split
      · rw [k_uj (by omega), k_uk (by decide)]; exact i2
      · exact i2
theorem files_at {mi : MemI} {nB b : Nat} (hb : b < nB) (h : mi (8, 17, 0) b = 0) : f_X7_files mi nB (8, 44, 0) (f_X7_fc mi b) = nI b := by
  have e : f_X7_fc (k_ui mi (7, 0, 0) 48 0) b = f_X7_fc mi b := fc_eq (fun b => k_uk (by decide)) b
  have := fi_at (mi := k_ui mi (7, 0, 0) 48 0) (b := b) (by rw [k_uk (by decide)]; exact h) nB hb
  rw [e] at this
  exact this
theorem fc_mn (mi : MemI) (b : Nat) : ∀ k, f_X7_fc mi b ≤ f_X7_fc mi (b + k) := by
  intro k
  induction k with
  | zero => exact Nat.le_refl _
  | succ k ih => rw [show b + (k + 1) = (b + k) + 1 by omega, f_X7_fc_s]; split <;> omega
theorem fc_mono {mi : MemI} {a b : Nat} (h : a ≤ b) : f_X7_fc mi a ≤ f_X7_fc mi b := by
  have := fc_mn mi a (b - a)
  rw [show a + (b - a) = b by omega] at this
  exact this
/-- the class's way through the beggars is the model's through its file -/
theorem judge_w {G M : MemI} {ml mlj : MemL} {s N nB : Nat} {s0 : Int32} (hB : nB ≤ 6) (hN : N ≤ 40)
    (hc : ∀ j, j < nB → (f_X0_comes G 0 j = 0 ↔ ¬ M (8, 17, 0) j = 0)) (hn : ∀ j, nB ≤ j → j < 6 → f_X0_comes G 0 j = 0)
    (hp : ∀ j, j < nB → G (0, 0, j) 7 = f_X7_files M nB (8, 37, 0) j) (hg : ∀ c, c < N → f_X5_getInt G ml s (nI c) = f_X7_intAt (f_X7_files M nB) mlj s0 (nI c)) :
    ∀ u j, j + u = 6 → f_X7_fc M (min j nB) ≤ N → f_X2_fwR G ml 0 s (nI N) u j (nI (f_X7_fc M (min j nB))) = f_X7_juR (f_X7_files M nB) mlj s0 (nI N) (f_X7_fc M nB) (N - f_X7_fc M (min j nB)) (f_X7_fc M (min j nB)) := by
  have hcm : f_X7_fc M nB ≤ 6 := Nat.le_trans (fc_le M nB) hB
  intro u
  induction u with
  | zero =>
    intro j hj hN2
    obtain rfl : j = 6 := by omega
    rw [show min 6 nB = nB by omega] at hN2 ⊢
    show (if nI N ≤ nI (f_X7_fc M nB) then (-1 : Int32) else nI (f_X7_fc M nB)) = _
    by_cases e : N = f_X7_fc M nB
    · rw [← e, Nat.sub_self]
      show _ = (if nI N ≤ nI N then (-1 : Int32) else nI N)
      rfl
    · obtain ⟨u, hu⟩ : ∃ u, N - f_X7_fc M nB = u + 1 := ⟨N - f_X7_fc M nB - 1, by omega⟩
      rw [hu, f_X7_juR_s, if_pos rfl, if_neg (fun z => absurd ((nI_leI (by omega) (by omega)).mp z) (by omega))]
  | succ u ih =>
    intro j hj hN2
    rw [f_X2_fwR_s]
    by_cases c : j < nB
    · rw [show min j nB = j by omega] at hN2 ⊢
      have ih1 := ih (j + 1) (by omega)
      rw [show min (j + 1) nB = j + 1 by omega, f_X7_fc_s] at ih1
      by_cases z : M (8, 17, 0) j = 0
      · rw [if_neg (fun w => (hc j c).mp w z)]
        rw [if_pos z] at ih1
        have lt : f_X7_fc M (j + 1) ≤ f_X7_fc M nB := fc_mono (by omega)
        rw [f_X7_fc_s, if_pos z] at lt
        by_cases e : N = f_X7_fc M j
        · rw [← e, Nat.sub_self, if_pos ((nI_leI (by omega) (by omega)).mpr (Nat.le_refl _))]
          show _ = (if nI (f_X7_fc M nB) ≤ nI N then (-1 : Int32) else nI N)
          rw [if_neg (fun w => absurd ((nI_leI (by omega) (by omega)).mp w) (by omega))]
        · obtain ⟨v, hv⟩ : ∃ v, N - f_X7_fc M j = v + 1 := ⟨N - f_X7_fc M j - 1, by omega⟩
          rw [hv, f_X7_juR_s, if_neg (fun w => absurd ((nI_leI (by omega) (by omega)).mp w) (by omega)), if_neg (fun w => absurd ((nI_eq (by omega) (by omega)).mp w) (by omega)), hg _ (by omega), files_at c z, nI_clamp (by omega), ← hp j c, nI_1, ih1 (by omega), show N - (f_X7_fc M j + 1) = v by omega]
      · rw [if_pos ((hc j c).mpr z)]
        rw [if_neg z] at ih1
        exact ih1 hN2
    · rw [if_pos (hn j (by omega) (by omega))]
      have ih1 := ih (j + 1) (by omega)
      rw [show min (j + 1) nB = nB by omega] at ih1
      rw [show min j nB = nB by omega] at hN2 ⊢
      exact ih1 hN2
/-- who comes -/
theorem comes_iff {g nC nB : Nat} {mi mj : MemI} (h : k_CR g nC nB mi mj) : (∀ j, j < nB → (f_X0_comes mi g j = 0 ↔ ¬ mj (8, 17, 0) j = 0)) ∧ ∀ j, nB ≤ j → j < 6 → f_X0_comes mi g j = 0 := by
  obtain ⟨a, b, c, d, e, f, p, r, z⟩ := h
  unfold f_X0_comes
  refine ⟨fun j hj => ?_, fun j h1 h2 => ?_⟩
  · obtain ⟨y1, y2, -⟩ := (p j hj).1
    rw [y1, y2, if_neg (by decide)]
    by_cases w : mj (8, 17, 0) j = 0
    · rw [if_pos w]; exact ⟨fun q => absurd q (by decide), fun q => absurd w q⟩
    · rw [if_neg w]; exact ⟨fun _ => w, fun _ => rfl⟩
  · rw [r j h1 h2, if_pos rfl]
theorem q_judge {nC nB : Nat} {mi mj : MemI} {ml mlj : MemL} (h : k_R nC nB mi ml mj mlj) (s0 n : Int32) : k_Q nC nB (f_X6_judge mi ml s0 n) ml (f_X7_judge mj mlj s0 n nC nB) mlj := by
  unfold f_X6_judge f_X7_judge f_X6_noRow f_X7_wanted
  by_cases w : vp_in s0 8
  · have hb := k_clamp w
    have h6 := h.1.1.1
    rw [shA_eq w, if_pos hb, if_neg (fun z => (isS_iff s0).mp z w)]
    obtain ⟨⟨len, l1, l2⟩, a⟩ := h.2.2.2.2.2.2.2.1 _ hb
    unfold f_X5_hasCitizen f_X5_hasRow
    rcases a with ⟨a1, a2, a3, a4, a5⟩ | ⟨a1, a2, a3, a4⟩ | ⟨a1, a2, a3, a4, a5⟩
    · rw [a3, if_pos rfl, if_pos rfl, a1, if_neg (bt3_ne a2), if_neg (show ¬ (1 : Int32) = 0 by decide), if_pos rfl, if_pos hb, a4, a5, if_neg (show ¬ (1 : Int32) = 2 by decide), if_neg (show ¬ (1 : Int32) = 0 by decide), if_pos rfl, l2]
      by_cases n0 : 0 ≤ n
      · rw [if_pos n0, if_pos n0]
        by_cases n1 : n ≤ nI len
        · rw [if_pos n1, if_pos n1]
          by_cases n4 : n ≤ 40
          · rw [if_pos n4, if_pos n4]
            have hn0 : ¬ n < 0 := Int32.not_lt.mpr n0
            obtain ⟨N, hN, rfl⟩ := bt_of hn0 n4 (n := 40) rfl (by decide)
            have hNl : N ≤ len := (nI_leI (by omega) (by omega)).mp n1
            have R := R_look h
            have cm := comes_iff R.1
            have GR := (go_res h.1).1
            have hB := h.1.1.2
            have e0 := judge_w (G := f_X2_goBy mi 0) (M := f_X7_goes mj nC nB) (ml := ml) (mlj := mlj) (s := s0.toNatClampNeg) (N := N) (nB := nB) (s0 := s0) hB hN cm.1 cm.2 (fun j hj => ((GR.2.2.1 j hj).1).trans (files_fr (by decide) (by simp)).symm) (fun c hc => ?_) 6 0 rfl (by rw [Nat.zero_min]; exact Nat.zero_le _)
            · rw [Nat.zero_min] at e0
              refine Q_mk ?_ (R_ext R (fun _ _ _ => rfl) (fun kk qq hk => fw_X7_files hk) ⟨fun m j x y _ => files_fr (k_keyne (by omega)) (by simp), fun q hq => files_fr (by decide) (fun z => by have := z.2; omega)⟩)
              rw [nI_clamp (by omega)]
              exact e0
            · unfold f_X5_getInt f_X5_get f_X5_hasElement f_X7_intAt
              rw [show f_X2_goBy mi 0 (5, 0, s0.toNatClampNeg) 2 = nI len from (ft_X2_goBy (by rfl)).trans (a4.trans l2), if_neg (nI_pos (by omega)), if_neg (fun z => absurd ((nI_leI (by omega) (by omega)).mp z) (by omega)), if_neg (show ¬ (160 : Int32) ≤ nI c from nI_ge (b := 160) (by omega) (by decide)), if_neg (by decide), (k_cellin w (x160 (n := c) (by omega))).2]
              exact congrArg Int64.toInt32 (h.2.2.2.2.2.2.2.2.1 _ hb _ (by rw [nI_clamp (by omega)]; omega))
          · rw [if_neg n4, if_neg n4]; exact Q_noT h 6 (by decide) (by decide)
        · rw [if_neg n1, if_neg n1]; exact Q_noT h 5 (by decide) (by decide)
      · rw [if_neg n0, if_neg n0]; exact Q_noT h 4 (by decide) (by decide)
    · rw [a2, if_pos rfl, if_pos rfl, a1, if_pos rfl, if_pos rfl, if_neg (show ¬ (3 : Int32) = 0 by decide), a4, if_neg (show ¬ (0 : Int32) = 2 by decide), if_pos rfl, if_neg (show ¬ (-3 : Int32) = 0 by decide)]
      exact Q_noT h 3 (by decide) (by decide)
    · have hn : ¬ mj (8, 21, 0) s0.toNatClampNeg = -1 := by
        obtain ⟨j, hj, e⟩ := vp_in_of a4 (by omega)
        rw [e]; exact k_nIne (by omega)
      rw [a3, if_neg hn, if_neg (show ¬ (1 : Int32) = 0 by decide), if_neg (show ¬ (2 : Int32) = 0 by decide), a5, if_pos rfl, if_neg (show ¬ (-2 : Int32) = 0 by decide)]
      exact Q_noT h 2 (by decide) (by decide)
  · rw [shA_no w, if_neg (Nat.lt_irrefl 8), if_pos ((isS_iff s0).mpr w), if_neg (show ¬ (1 : Int32) = 0 by decide), if_neg (show ¬ (-1 : Int32) = 0 by decide)]
    exact Q_noT h 1 (by decide) (by decide)
