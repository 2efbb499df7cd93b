/-! rests: the beginning and the answer -/
theorem cr1_at {m : MemI} {c : Nat} : ∀ j, c < j → f_X2_cr1 m 0 j (1, 0, c) 14 = 0 := by
  intro j
  induction j with
  | zero => intro h; omega
  | succ j ih =>
    intro h
    show k_ui (f_X2_cr1 m 0 j) (1, 0, j) 14 0 (1, 0, c) 14 = 0
    by_cases e : c = j
    · subst e; exact k_uis
    · rw [k_uk (show ((1, 0, c) : Ky) ≠ (1, 0, j) by simp [e])]; exact ih (by omega)
theorem cr2_at {nC nB w : Nat} {m F : MemI} (h : k_CR 0 nC nB m F) (hw : w < nC) (h0 : ∀ c, c < 6 → m (1, 0, c) 14 = 0) : ∀ j, j ≤ 6 → (∀ b, b < j → b < nB → F (8, 17, 0) b = 0 → f_X2_cr2 m 0 w j (0, 0, b) 11 = nI w) ∧ ∀ c, c < 6 → f_X2_cr2 m 0 w j (1, 0, c) 14 = if c = w then nI (f_X7_fc F (min j nB)) else 0 := by
  intro j
  induction j with
  | zero =>
    intro _
    refine ⟨fun b hb => by omega, fun c hc => ?_⟩
    rw [Nat.zero_min]
    show m (1, 0, c) 14 = if c = w then nI 0 else 0
    rw [h0 c hc, nI_0]
    split <;> rfl
  | succ j ih =>
    intro hj
    obtain ⟨i1, i2⟩ := ih (by omega)
    have hC := h.1.1
    have R : k_CR 0 nC nB (f_X2_cr2 m 0 w j) F := CR_ext h ⟨fun i q hq => ft_X2_cr2 (by simp [k_tr]; omega), fun i q hq => ft_X2_cr2 (by simp [k_tr]; omega), fun q hq => ft_X2_cr2 (by simp [k_tr]; omega)⟩ ⟨fun _ _ _ _ => rfl, fun _ _ => rfl⟩
    have cm := comes_iff R
    have wN := (R.2.2.2.1 w (by omega)).1
    rw [f_X2_cr2_s]
    by_cases c : j < nB
    · rw [show min j nB = j by omega] at i2
      rw [show min (j + 1) nB = j + 1 by omega, f_X7_fc_s]
      by_cases z : F (8, 17, 0) j = 0
      · rw [if_pos z, if_neg (fun y => (cm.1 j c).mp y z)]
        refine ⟨fun b h1 h2 h3 => ?_, fun c hc => ?_⟩
        · refine (k_uk (show ((0, 0, b) : Ky) ≠ (1, 0, w) by simp)).trans ?_
          by_cases e : b = j
          · subst e; rw [k_uis]; exact wN
          · rw [k_uk (show ((0, 0, b) : Ky) ≠ (0, 0, j) by simp [e])]; exact i1 b (by omega) h2 h3
        · by_cases e : c = w
          · subst e
            rw [k_uis, k_uk (show ((1, 0, c) : Ky) ≠ (0, 0, j) by simp), i2 c hc, if_pos rfl, if_pos rfl, nI_1]
          · rw [k_uk (show ((1, 0, c) : Ky) ≠ (1, 0, w) by simp [e]), k_uk (show ((1, 0, c) : Ky) ≠ (0, 0, j) by simp), i2 c hc, if_neg e, if_neg e]
      · rw [if_neg z, if_pos ((cm.1 j c).mpr z)]
        refine ⟨fun b h1 h2 h3 => i1 b ?_ h2 h3, i2⟩
        by_cases e : b = j
        · subst e; exact absurd h3 z
        · omega
    · rw [if_pos (cm.2 j (by omega) (by omega)), show min (j + 1) nB = nB by omega]
      rw [show min j nB = nB by omega] at i2
      exact ⟨fun b h1 h2 h3 => i1 b (by omega) h2 h3, i2⟩
theorem rr_init {nC nB w : Nat} {mi mj : MemI} (h : k_CR 0 nC nB mi mj) (hw : w < nC) : k_rr nC nB (f_X7_files mj nB) (f_X2_cr2 (f_X2_cr1 mi 0 6) 0 w 6) (f_X7_ra3 (f_X7_ra2 (f_X7_files mj nB) w 6) w (f_X7_fc (f_X7_files mj nB) nB)) := by
  have hC := h.1.1
  have hB := h.1.2
  have fr : ∀ n j, n ≠ 44 → f_X7_files mj nB (8, n, 0) j = mj (8, n, 0) j := fun n j hn => files_fr (k_keyne hn) (by simp)
  have fe : ∀ j, f_X7_fc (f_X7_files mj nB) j = f_X7_fc mj j := fc_eq (fun b => fr 17 b (by decide))
  have R1 : k_CR 0 nC nB (f_X2_cr1 mi 0 6) (f_X7_files mj nB) := CR_ext h ⟨fun i q hq => ft_X2_cr1 (by simp [k_tr]; omega), fun i q hq => ft_X2_cr1 (by simp [k_tr]; omega), fun q hq => ft_X2_cr1 (by simp [k_tr]; omega)⟩ ⟨fun n j x y => fr n j (by omega), fun q hq => files_fr (by decide) (fun z => by have := z.2; omega)⟩
  obtain ⟨a1, a2⟩ := cr2_at R1 hw (fun c hc => cr1_at 6 hc) 6 (Nat.le_refl _)
  rw [show min 6 nB = nB by omega] at a2
  have pt := pt_files (CR_mo h)
  rw [← fe nB] at pt
  refine ⟨CR_ext R1 ⟨fun i q hq => ft_X2_cr2 (by simp [k_tr]; omega), fun i q hq => ft_X2_cr2 (by simp [k_tr]; omega), fun q hq => ft_X2_cr2 (by simp [k_tr]; omega)⟩ ⟨fun n j x y => ?_, fun q hq => ?_⟩, rs_init pt hw, fun b hb hc => ?_, fun c hc => ?_, fun b => ?_, fun b hb hc => ?_⟩
  · rw [ra3_fr (k_keyne (by omega)), ra2_fr (k_keyne (by omega))]
  · rw [ra3_fr (by decide), ra2_fr (by decide)]
  · rw [ra3_at _ (fc_lt hc hb)]; exact a1 b (by omega) hb hc
  · rw [ra3_fr (by decide), ra2_at 6 (by omega), a2 c (by omega), files_c, fe]
    by_cases e : c = w
    · rw [if_pos e, if_pos (congrArg nI e)]
    · rw [if_neg e, if_neg (fun z => e ((nI_eq (by omega) (by omega)).mp z))]
  · rw [ra3_fr (by decide), ra2_fr (by decide)]
  · rw [ra3_fr (by decide), ra2_fr (by decide), fe]
    exact files_at hb ((fr 17 b (by decide)).symm.trans hc)
theorem fc_sur {F : MemI} {i : Nat} : ∀ n, i < f_X7_fc F n → ∃ b, b < n ∧ F (8, 17, 0) b = 0 ∧ f_X7_fc F b = i := by
  intro n
  induction n with
  | zero => intro h; exact absurd h (Nat.not_lt_zero _)
  | succ n ih =>
    intro h
    rw [f_X7_fc_s] at h
    by_cases z : F (8, 17, 0) n = 0
    · rw [if_pos z] at h
      by_cases e : i = f_X7_fc F n
      · exact ⟨n, by omega, z, e.symm⟩
      · obtain ⟨b, x, y⟩ := ih (by omega); exact ⟨b, by omega, y⟩
    · rw [if_neg z] at h
      obtain ⟨b, x, y⟩ := ih h; exact ⟨b, by omega, y⟩
theorem seR_at {nB b : Nat} {F m' : MemI} (hB : nB ≤ 6) (hb : b < nB) (hc : F (8, 17, 0) b = 0) (hf : ∀ b, b < nB → F (8, 17, 0) b = 0 → m' (8, 44, 0) (f_X7_fc F b) = nI b) : ∀ u j, j + u = f_X7_fc F nB → j ≤ f_X7_fc F b → f_X7_seR m' (nI b) u j = f_X7_fc F b := by
  intro u
  induction u with
  | zero => intro j hj hl; have := fc_lt hc hb; omega
  | succ u ih =>
    intro j hj hl
    show (if m' (8, 44, 0) j = nI b then j else f_X7_seR m' (nI b) u (j + 1)) = _
    obtain ⟨b', x, y, z⟩ := fc_sur (F := F) (i := j) nB (by omega)
    have e := hf b' x y
    rw [z] at e
    rw [e]
    by_cases q : b' = b
    · subst q; rw [if_pos rfl]; exact z.symm
    · rw [if_neg (fun w => q ((nI_eq (by omega) (by omega)).mp w))]
      refine ih (j + 1) (by omega) ?_
      by_cases e2 : j = f_X7_fc F b
      · have : f_X7_fc F b' = f_X7_fc F b := z.trans e2
        rcases Nat.lt_or_ge b' b with p | p
        · have := fc_lt y p; omega
        · have := fc_lt hc (show b < b' by omega); omega
      · omega
/-- both come to rest alike -/
theorem rests_eq {nC nB : Nat} {mi mj : MemI} (h : k_CR 0 nC nB mi mj) : (f_X2_comeToRest mi 0).1 = (f_X7_restsAfter (f_X7_files mj nB) nC (f_X7_fc mj nB)).1 ∧ ((f_X7_restsAfter (f_X7_files mj nB) nC (f_X7_fc mj nB)).1 = -1 ∨ k_rr nC nB (f_X7_files mj nB) (f_X2_comeToRest mi 0).2 (f_X7_restsAfter (f_X7_files mj nB) nC (f_X7_fc mj nB)).2) := by
  have hC := h.1.1
  have fr : ∀ n j, n ≠ 44 → f_X7_files mj nB (8, n, 0) j = mj (8, n, 0) j := fun n j hn => files_fr (k_keyne hn) (by simp)
  have fe : ∀ j, f_X7_fc (f_X7_files mj nB) j = f_X7_fc mj j := fc_eq (fun b => fr 17 b (by decide))
  have op := open_iff h
  have hor := oA_or (m := mi) (F := f_X7_files mj nB) (nC := nC) (fun j hj => by rw [fr 12 j (by decide)]; exact op.2.1 j hj) op.2.2 6 0 rfl
  unfold f_X2_comeToRest f_X7_restsAfter f_X2_openAt
  rcases hor with ⟨a, b⟩ | ⟨-, a, a6, b, c⟩
  · rw [a, if_neg (Nat.lt_irrefl 6), ra1_no nC 6 (fun c hc => b c (Nat.zero_le _) hc (by omega)), if_neg (Nat.lt_irrefl 6)]
    exact ⟨rfl, Or.inl rfl⟩
  · rw [if_pos a6, ra1_at b (fun c' h' => c c' (Nat.zero_le _) h') nC 6 a, if_pos a6]
    have r0 := rr_init h a
    rw [← fe nB]
    generalize f_X2_openAtR mi 0 6 0 0 = w at r0 ⊢
    generalize f_X2_cr2 (f_X2_cr1 mi 0 6) 0 w 6 = m1 at r0 ⊢
    generalize f_X7_ra3 (f_X7_ra2 (f_X7_files mj nB) w 6) w (f_X7_fc (f_X7_files mj nB) nB) = m2 at r0 ⊢
    have pq := mv_rounds 21 0 m1 m2 r0
    generalize f_X2_crR 0 21 0 m1 = P at pq ⊢
    generalize f_X7_raR nC (f_X7_fc (f_X7_files mj nB) nB) 21 0 m2 = Q at pq ⊢
    exact ⟨pq.1, Or.inr pq.2⟩
theorem R_rests {nC nB : Nat} {mi mj : MemI} {ml mlj : MemL} (h : k_R nC nB mi ml mj mlj) : k_R nC nB (f_X2_comeToRest mi 0).2 ml (f_X7_restsAfter (f_X7_files mj nB) nC (f_X7_fc mj nB)).2 mlj :=
  R_ext h (kp_tr (fun kk qq hk => ft_X2_comeToRest hk)) (mw_sc (fun kk qq hk => (fz_X7_restsAfter hk).trans (fz_X7_files hk))) (s6_of (sM_ofZ (fun kk qq hk => (fz_X7_restsAfter hk).trans (fz_X7_files hk))))
theorem q_rests {nC nB : Nat} {mi mj : MemI} {ml mlj : MemL} (h : k_R nC nB mi ml mj mlj) (bg : Int32) : k_Q nC nB (f_X6_rests mi bg) ml (f_X7_rests mj bg nC nB) mlj := by
  have hB := h.1.1.2
  have hR := R_rests h
  obtain ⟨e1, e2⟩ := rests_eq h.1
  have fr : ∀ n j, n ≠ 44 → f_X7_files mj nB (8, n, 0) j = mj (8, n, 0) j := fun n j hn => files_fr (k_keyne hn) (by simp)
  have fe : ∀ j, f_X7_fc (f_X7_files mj nB) j = f_X7_fc mj j := fc_eq (fun b => fr 17 b (by decide))
  unfold f_X6_rests f_X7_rests
  generalize f_X2_comeToRest mi 0 = A at e1 e2 hR ⊢
  generalize f_X7_restsAfter (f_X7_files mj nB) nC (f_X7_fc mj nB) = B at e1 e2 hR ⊢
  by_cases n1 : bg = -1
  · subst n1
    have nv : ¬ vp_in (-1) nB := fun w => w (Or.inl (by decide))
    rw [bA_no h.1 nv, if_neg (Nat.lt_irrefl 6), if_pos rfl, if_pos rfl]
    exact Q_mk e1 hR
  · by_cases w : vp_in bg nB
    · have hb := k_clamp w
      obtain ⟨⟨-, y2, -⟩, ⟨y3, -⟩⟩ := h.1.2.2.2.2.2.2.1 _ hb
      rw [bA_eq h.1 w, if_pos (show bg.toNatClampNeg < 6 by omega), if_neg n1, if_neg n1, if_neg (fun z => (isB_iff h.1 bg).mp z w), y2]
      rcases bt_01 y3 with z | z
      · rw [z, if_pos rfl, if_neg (show ¬ (0 : Int32) = 1 by decide), e1]
        by_cases q : B.1 = -1
        · rw [if_pos q, if_pos q]; exact Q_mk rfl hR
        · rw [if_neg q, if_neg q]
          refine Q_mk ?_ hR
          rcases e2 with e2 | rr
          · exact absurd e2 q
          · have z' : f_X7_files mj nB (8, 17, 0) bg.toNatClampNeg = 0 := (fr 17 _ (by decide)).trans z
            have e3 := rr.2.2.1 _ hb z'
            have e4 := seR_at hB hb z' rr.2.2.2.2.2 (f_X7_fc (f_X7_files mj nB) nB) 0 (Nat.zero_add _) (Nat.zero_le _)
            rw [fe nB, ← k_nat w] at e4
            rw [e4]
            exact e3
      · rw [z, if_neg (show ¬ (1 : Int32) = 0 by decide), if_pos rfl]
        exact Q_noT h 1 (by decide) (by decide)
    · rw [bA_no h.1 w, if_neg (Nat.lt_irrefl 6), if_neg n1, if_neg n1, if_pos ((isB_iff h.1 bg).mpr w)]
      exact Q_noT h 1 (by decide) (by decide)
