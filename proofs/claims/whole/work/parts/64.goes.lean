/-! level 2: a morning that is looked at -/
theorem k_bits : ∀ j, j < 6 → ∀ x, x < 2 ^ j → nI x ||| (1 <<< (nI j &&& 31)) = nI (x + 2 ^ j) ∧ nI x + (1 <<< (nI j &&& 31)) = nI (x + 2 ^ j) := by decide +kernel
theorem cU_ext {g : Nat} {m mi : MemI} : ∀ j, (∀ b, b < j → m (0, g, b) 1 = mi (0, g, b) 1 ∧ m (0, g, b) 2 = mi (0, g, b) 2 ∧ m (0, g, b) 8 = mi (0, g, b) 8) → f_X2_countUnkept m g j = f_X2_countUnkept mi g j := by
  intro j
  induction j with
  | zero => intro _; rfl
  | succ j ih =>
    intro h
    obtain ⟨h1, h2, h3⟩ := h j (by omega)
    rw [f_X2_countUnkept_s, f_X2_countUnkept_s, ih (fun b hb => h b (by omega))]
    unfold f_X0_comes
    rw [h1, h2, h3]
theorem kB_ext {g : Nat} {m mi : MemI} : ∀ j, (∀ b, b < j → m (0, g, b) 0 = mi (0, g, b) 0 ∧ m (0, g, b) 8 = mi (0, g, b) 8) → f_X2_keptBits m g j = f_X2_keptBits mi g j := by
  intro j
  induction j with
  | zero => intro _; rfl
  | succ j ih =>
    intro h
    obtain ⟨h1, h2⟩ := h j (by omega)
    rw [f_X2_keptBits_s, f_X2_keptBits_s, ih (fun b hb => h b (by omega)), h1, h2]
theorem pb_ext {m mj : MemI} {c : Int32} : ∀ j, (∀ b, b < j → m (8, 37, 0) b = mj (8, 37, 0) b) → f_X7_pbL m c j = f_X7_pbL mj c j := by
  intro j
  induction j with
  | zero => intro _; rfl
  | succ j ih =>
    intro h
    rw [f_X7_pbL_s, f_X7_pbL_s, ih (fun b hb => h b (by omega)), h j (by omega)]
/-- what stands behind the first j beggars -/
def k_GR (g nC nB j : Nat) (A F : MemI) : Prop :=
  k_CR g nC nB A F ∧ k_MR g nC A F ∧ (∀ b, b < j → A (0, g, b) 7 = F (8, 37, 0) b ∧ A (0, g, b) 8 = F (8, 41, 0) b ∧ k_bt 1 (F (8, 41, 0) b) ∧ (F (8, 37, 0) b = -1 ∨ vp_in (F (8, 37, 0) b) nC)) ∧
  F (7, 0, 0) 42 = nI (f_X2_countUnkept A g j) ∧ (∃ x, x < 2 ^ j ∧ F (7, 0, 0) 43 = nI x ∧ f_X2_keptBits A g j = nI x) ∧
  ∀ c, c < nC → ∃ x, x < 2 ^ j ∧ A (1, g, c) 10 = nI x ∧ f_X7_pbL F (nI c) j = nI x ∧ (x = 0 ↔ A (1, g, c) 11 = 0) ∧ k_bt j (A (1, g, c) 11)
theorem GR_step {g nC nB j : Nat} {A F A' F' : MemI} {p kb : Int32} (h : k_GR g nC nB j A F) (hj : j < nB)
    (hC : k_sC g A A') (hM : k_sM F F') (hMR : k_MR g nC A' F')
    (hA7 : A' (0, g, j) 7 = p) (hF7 : F' (8, 37, 0) j = p) (hA8 : A' (0, g, j) 8 = kb) (hF8 : F' (8, 41, 0) j = kb) (hkb : kb = 0 ∨ kb = 1) (hp : p = -1 ∨ vp_in p nC)
    (hAo : ∀ b, b < j → A' (0, g, b) 7 = A (0, g, b) 7 ∧ A' (0, g, b) 8 = A (0, g, b) 8) (hFo : ∀ b, b < j → F' (8, 37, 0) b = F (8, 37, 0) b ∧ F' (8, 41, 0) b = F (8, 41, 0) b)
    (h42 : F' (7, 0, 0) 42 = if F (8, 17, 0) j = 1 then F (7, 0, 0) 42 else F (7, 0, 0) 42 + (1 - kb)) (hnp : F (8, 17, 0) j = 1 → kb = 0)
    (h43 : F' (7, 0, 0) 43 = if kb = 0 then F (7, 0, 0) 43 else F (7, 0, 0) 43 + (1 <<< (nI j &&& 31)))
    (h10 : ∀ c, c < nC → A' (1, g, c) 10 = (if p = nI c then A (1, g, c) 10 ||| (1 <<< (nI j &&& 31)) else A (1, g, c) 10) ∧ A' (1, g, c) 11 = (if p = nI c then A (1, g, c) 11 + 1 else A (1, g, c) 11)) :
    k_GR g nC nB (j + 1) A' F' := by
  obtain ⟨c1, c2, c3, c4, ⟨x, hx, c5, c6⟩, c7⟩ := h
  have hB6 := c1.1.2
  have hcr := CR_ext c1 hC hM
  refine ⟨hcr, hMR, fun b hb => ?_, ?_, ?_, fun c hc => ?_⟩
  · by_cases e : b = j
    · subst e
      rw [hA7, hF7, hA8, hF8]
      exact ⟨rfl, rfl, hkb.elim (fun q => ⟨0, by decide, q⟩) (fun q => ⟨1, by decide, q⟩), hp⟩
    · obtain ⟨a1, a2⟩ := hAo b (by omega)
      obtain ⟨f1, f2⟩ := hFo b (by omega)
      rw [a1, a2, f1, f2]
      exact c3 b (by omega)
  · have ho := CR_comes hcr hj
    rw [hM.1 17 j (by decide) (by decide)] at ho
    have he : f_X2_countUnkept A' g j = f_X2_countUnkept A g j := cU_ext j (fun b hb => ⟨hC.2.1 b 1 (by decide), hC.2.1 b 2 (by decide), (hAo b hb).2⟩)
    rw [f_X2_countUnkept_s, h42, he, hA8]
    by_cases q : F (8, 17, 0) j = 1
    · rw [if_pos q, if_pos (ho.mpr q)]; exact c4
    · rw [if_neg q, if_neg (fun z => q (ho.mp z)), c4]
      rcases hkb with r | r
      · rw [r, if_pos rfl, nI_succ]; rfl
      · rw [r, if_neg (by decide), show (1 : Int32) - 1 = 0 by decide, Int32.add_zero]
  · have he : f_X2_keptBits A' g j = f_X2_keptBits A g j := kB_ext j (fun b hb => ⟨hC.2.1 b 0 (by decide), (hAo b hb).2⟩)
    obtain ⟨b1, b2⟩ := k_bits j (by omega) x hx
    have hn : A' (0, g, j) 0 = nI j := (hcr.2.2.2.1 j (by omega)).2
    rw [f_X2_keptBits_s, he, hA8, hn, h43, c5, c6]
    rcases hkb with r | r
    · exact ⟨x, by rw [Nat.pow_succ]; omega, by rw [r, if_pos rfl], by rw [r, if_pos rfl]⟩
    · exact ⟨x + 2 ^ j, by rw [Nat.pow_succ]; omega, by rw [r, if_neg (by decide), b2], by rw [r, if_neg (by decide), b1]⟩
  · obtain ⟨y, hy, d1, d2, d3, d4⟩ := c7 c hc
    obtain ⟨b1, b2⟩ := k_bits j (by omega) y hy
    obtain ⟨t1, t2⟩ := h10 c hc
    have he : f_X7_pbL F' (nI c) j = f_X7_pbL F (nI c) j := pb_ext j (fun b hb => (hFo b hb).1)
    have hc6 := c1.1.1
    obtain ⟨w, hw, ew⟩ := d4
    rw [f_X7_pbL_s, hF7, he, t1, t2, d1, d2]
    by_cases q : p = nI c
    · rw [if_pos q, if_pos q, if_pos q, b1, b2, ew, ← nI_succ]
      have h2 : 0 < 2 ^ j := Nat.pow_pos (by decide)
      refine ⟨y + 2 ^ j, by rw [Nat.pow_succ]; omega, rfl, rfl, ⟨fun z => by omega, fun z => ?_⟩, ⟨w + 1, by omega, rfl⟩⟩
      have := nI_inj6 (a := w + 1) (b := 0) (by omega) (by decide) z
      omega
    · rw [if_neg q, if_neg q, if_neg q]
      exact ⟨y, by rw [Nat.pow_succ]; omega, rfl, rfl, d3, ⟨w, by omega, ew⟩⟩
/-- receive, told plainly -/
def k_rB (mi : MemI) (g c b : Nat) : MemI := k_ui (k_ui (k_ui mi (0, g, b) 7 (mi (1, g, c) 0)) (1, g, c) 10 (mi (1, g, c) 10 ||| (1 <<< (mi (0, g, b) 0 &&& 31)))) (1, g, c) 11 (mi (1, g, c) 11 + 1)
def k_rX0 (mi : MemI) (g c b : Nat) : MemI := k_ui (k_rB mi g c b) (0, g, b) 8 0
def k_rX1 (mi : MemI) (g c b : Nat) : MemI := k_ui (k_ui (k_rB mi g c b) (1, g, c) 13 (mi (1, g, c) 13 + mi (0, g, b) 3)) (0, g, b) 8 1
def k_rX2 (mi : MemI) (g c b : Nat) : MemI := k_ui (k_ui (k_ui (k_rB mi g c b) (1, g, c) 12 (mi (1, g, c) 12 + mi (0, g, b) 3)) (1, g, c) 13 (mi (1, g, c) 13 + mi (0, g, b) 3)) (0, g, b) 8 1
theorem rcv_eq (mi : MemI) (g c b : Nat) : f_X1_receive mi g c g b =
    if mi (1, g, c) 3 = 5 then (if mi (1, g, c) 4 < mi (0, g, b) 3 then (if mi (1, g, c) 12 + mi (0, g, b) 3 ≤ mi (1, g, c) 5 then k_rX2 mi g c b else k_rX0 mi g c b) else k_rX1 mi g c b)
    else (if mi (1, g, c) 12 + mi (0, g, b) 3 ≤ mi (1, g, c) 5 then k_rX2 mi g c b else k_rX0 mi g c b) := by
  have n1 : ((1, g, c) : Ky) ≠ (0, g, b) := by simp
  have n2 : ((0, g, b) : Ky) ≠ (1, g, c) := by simp
  unfold f_X1_receive f_X1_keeps k_rX0 k_rX1 k_rX2 k_rB
  simp only [k_uk n1, k_uk n2, k_uj (show (0 : Nat) ≠ 7 by decide), k_uj (show (3 : Nat) ≠ 7 by decide), k_uj (show (11 : Nat) ≠ 10 by decide), k_uj (show (3 : Nat) ≠ 10 by decide), k_uj (show (3 : Nat) ≠ 11 by decide), k_uj (show (4 : Nat) ≠ 10 by decide), k_uj (show (4 : Nat) ≠ 11 by decide), k_uj (show (5 : Nat) ≠ 10 by decide), k_uj (show (5 : Nat) ≠ 11 by decide), k_uj (show (12 : Nat) ≠ 10 by decide), k_uj (show (12 : Nat) ≠ 11 by decide), k_uj (show (13 : Nat) ≠ 10 by decide), k_uj (show (13 : Nat) ≠ 11 by decide), k_uj (show (13 : Nat) ≠ 12 by decide)]
  repeat' split
  all_goals rfl
theorem gb1_at (mi : MemI) (g : Nat) : ∀ j, ∀ c, c < j → (f_X2_goBy1 mi g j) (1, g, c) 9 = f_X1_faceNow mi g c ∧ (f_X2_goBy1 mi g j) (1, g, c) 10 = 0 ∧ (f_X2_goBy1 mi g j) (1, g, c) 11 = 0 ∧ (f_X2_goBy1 mi g j) (1, g, c) 12 = 0 ∧ (f_X2_goBy1 mi g j) (1, g, c) 13 = 0 := by
  intro j
  induction j with
  | zero => intro c hc; omega
  | succ j ih =>
    intro c hc
    rw [f_X2_goBy1_s]
    unfold f_X1_beginMorning
    by_cases e : c = j
    · subst e
      have hs : k_sC g mi (f_X2_goBy1 mi g c) := sC_ofT (fun kk qq hk => ft_X2_goBy1 hk)
      refine ⟨?_, ?_, ?_, ?_, ?_⟩
      · rw [k_uj (by decide), k_uj (by decide), k_uj (by decide), k_uj (by decide), k_uis]
        unfold f_X1_faceNow f_X1_unboundedFace
        rw [hs.1 c 3 (by decide), hs.1 c 4 (by decide), hs.1 c 5 (by decide), hs.1 c 6 (by decide), hs.1 c 7 (by decide), hs.1 c 8 (by decide)]
      · rw [k_uj (by decide), k_uj (by decide), k_uj (by decide), k_uis]
      · rw [k_uj (by decide), k_uj (by decide), k_uis]
      · rw [k_uj (by decide), k_uis]
      · rw [k_uis]
    · have hne : ((1, g, c) : Ky) ≠ (1, g, j) := by simp [e]
      rw [k_uk hne, k_uk hne, k_uk hne, k_uk hne, k_uk hne, k_uk hne, k_uk hne, k_uk hne, k_uk hne, k_uk hne, k_uk hne, k_uk hne, k_uk hne, k_uk hne, k_uk hne, k_uk hne, k_uk hne, k_uk hne, k_uk hne, k_uk hne, k_uk hne, k_uk hne, k_uk hne, k_uk hne, k_uk hne]
      exact ih c (by omega)
theorem face_ext {mj m : MemI} (h : k_sM mj m) (x : Int32) : f_X7_face m x = f_X7_face mj x := by
  unfold f_X7_face
  rw [h.1 6 _ (by decide) (by decide), h.1 7 _ (by decide) (by decide), h.1 8 _ (by decide) (by decide), h.1 9 _ (by decide) (by decide), h.1 10 _ (by decide) (by decide), h.1 11 _ (by decide) (by decide)]
theorem go1_at (mj : MemI) : ∀ j, ∀ c, c < j → (f_X7_go1 mj j) (8, 36, 0) c = f_X7_face mj (nI c) ∧ (f_X7_go1 mj j) (8, 38, 0) c = 0 ∧ (f_X7_go1 mj j) (8, 39, 0) c = 0 ∧ (f_X7_go1 mj j) (8, 40, 0) c = 0 := by
  intro j
  induction j with
  | zero => intro c hc; omega
  | succ j ih =>
    intro c hc
    rw [f_X7_go1_s]
    by_cases e : c = j
    · subst e
      refine ⟨?_, ?_, ?_, ?_⟩
      · rw [k_uk (by decide), k_uk (by decide), k_uk (by decide), k_uis]
        exact face_ext (sM_ofZ (fun kk qq hk => fz_X7_go1 hk)) _
      · rw [k_uk (by decide), k_uk (by decide), k_uis]
      · rw [k_uk (by decide), k_uis]
      · rw [k_uis]
    · obtain ⟨a1, a2, a3, a4⟩ := ih c (by omega)
      refine ⟨?_, ?_, ?_, ?_⟩
      · rw [k_uk (by decide), k_uk (by decide), k_uk (by decide), k_uj e]; exact a1
      · rw [k_uk (by decide), k_uk (by decide), k_uj e]; exact a2
      · rw [k_uk (by decide), k_uj e]; exact a3
      · rw [k_uj e]; exact a4
theorem go1_fr7 (mj : MemI) (j q : Nat) : f_X7_go1 mj j (7, 0, 0) q = mj (7, 0, 0) q := by
  induction j with
  | zero => rfl
  | succ j ih => rw [f_X7_go1_s, k_uk (by decide), k_uk (by decide), k_uk (by decide), k_uk (by decide)]; exact ih
theorem GR_0 {g nC nB : Nat} {mi mj : MemI} (h : k_CR g nC nB mi mj) : k_GR g nC nB 0 (f_X2_goBy1 mi g 6) (f_X7_go1 (k_ui (k_ui mj (7, 0, 0) 42 0) (7, 0, 0) 43 0) nC) := by
  have h6 := h.1.1
  have hM0 : k_sM mj (k_ui (k_ui mj (7, 0, 0) 42 0) (7, 0, 0) 43 0) := sM_ofZ (fun kk qq hk => (k_frZ hk rfl).trans (k_frZ hk rfl))
  have hcr : k_CR g nC nB (f_X2_goBy1 mi g 6) (f_X7_go1 (k_ui (k_ui mj (7, 0, 0) 42 0) (7, 0, 0) 43 0) nC) := CR_ext h (sC_ofT (fun kk qq hk => ft_X2_goBy1 hk)) (sM_tr hM0 (sM_ofZ (fun kk qq hk => fz_X7_go1 hk)))
  refine ⟨hcr, fun c hc => ?_, fun b hb => absurd hb (Nat.not_lt_zero b), ?_, ⟨0, by decide, ?_, rfl⟩, fun c hc => ⟨0, by decide, ?_, rfl, ?_, ?_⟩⟩
  · obtain ⟨a1, -, a2, a3, a4⟩ := gb1_at mi g 6 c (by omega)
    obtain ⟨b1, b2, b3, b4⟩ := go1_at (k_ui (k_ui mj (7, 0, 0) 42 0) (7, 0, 0) 43 0) nC c hc
    rw [a1, a2, a3, a4, b1, b2, b3, b4, k_face (h.2.2.2.2.1 c hc).1 (by omega), face_ext hM0]
    exact ⟨rfl, rfl, rfl, rfl⟩
  · have := go1_fr7 (k_ui (k_ui mj (7, 0, 0) 42 0) (7, 0, 0) 43 0) nC 42
    rw [this, k_uj (by decide), k_uis]; rfl
  · have := go1_fr7 (k_ui (k_ui mj (7, 0, 0) 42 0) (7, 0, 0) 43 0) nC 43
    rw [this, k_uis]; rfl
  · rw [(gb1_at mi g 6 c (by omega)).2.1]; rfl
  · rw [(gb1_at mi g 6 c (by omega)).2.2.1]; exact ⟨fun _ => rfl, fun _ => rfl⟩
  · rw [(gb1_at mi g 6 c (by omega)).2.2.1]; exact ⟨0, by decide, rfl⟩
theorem k_ne10 {g c g' b : Nat} : ((1, g, c) : Ky) ≠ (0, g', b) := by simp
theorem k_ne01 {g c g' b : Nat} : ((0, g, c) : Ky) ≠ (1, g', b) := by simp
theorem sC_rB {A : MemI} {g c b : Nat} {kk : Ky} {qq : Nat} (hk : k_tr kk qq = false) : k_rB A g c b kk qq = A kk qq := (k_frT hk rfl).trans ((k_frT hk rfl).trans (k_frT hk rfl))
theorem sC_rX0 {A : MemI} {g c b : Nat} : k_sC g A (k_rX0 A g c b) := sC_ofT (fun kk qq hk => (k_frT hk rfl).trans (sC_rB hk))
theorem sC_rX1 {A : MemI} {g c b : Nat} : k_sC g A (k_rX1 A g c b) := sC_ofT (fun kk qq hk => (k_frT hk rfl).trans ((k_frT hk rfl).trans (sC_rB hk)))
theorem sC_rX2 {A : MemI} {g c b : Nat} : k_sC g A (k_rX2 A g c b) := sC_ofT (fun kk qq hk => (k_frT hk rfl).trans ((k_frT hk rfl).trans ((k_frT hk rfl).trans (sC_rB hk))))
theorem GR_go {g nC nB : Nat} {mi mj : MemI} (h : k_CR g nC nB mi mj) : ∀ j, j ≤ nB → k_GR g nC nB j (f_X2_goBy2 (f_X2_goBy1 mi g 6) g j) (f_X7_go2 (f_X7_go1 (k_ui (k_ui mj (7, 0, 0) 42 0) (7, 0, 0) 43 0) nC) nC j) := by
  intro j
  induction j with
  | zero => intro _; exact GR_0 h
  | succ j ih =>
    intro hj1
    have hj : j < nB := hj1
    have ih := ih (by omega)
    rw [f_X2_goBy2_s, f_X7_go2_s]
    generalize f_X2_goBy2 (f_X2_goBy1 mi g 6) g j = A at ih ⊢
    generalize f_X7_go2 (f_X7_go1 (k_ui (k_ui mj (7, 0, 0) 42 0) (7, 0, 0) 43 0) nC) nC j = F at ih ⊢
    have hB6 := ih.1.1.2
    have hC6 := ih.1.1.1
    have hC0 : k_sC g A (k_ui (k_ui A (0, g, j) 7 (-1)) (0, g, j) 8 0) := sC_ofT (fun kk qq hk => (k_frT hk rfl).trans (k_frT hk rfl))
    have hM0 : k_sM F (k_ui (k_ui F (8, 37, 0) j (-1)) (8, 41, 0) j 0) := sM_ofZ (fun kk qq hk => (k_frZ hk rfl).trans (k_frZ hk rfl))
    have hcr0 := CR_ext ih.1 hC0 hM0
    have hAq : ∀ c q, (k_ui (k_ui A (0, g, j) 7 (-1)) (0, g, j) 8 0) (1, g, c) q = A (1, g, c) q := fun c q => (k_uk (by simp)).trans (k_uk (by simp))
    have hMR0 : k_MR g nC (k_ui (k_ui A (0, g, j) 7 (-1)) (0, g, j) 8 0) (k_ui (k_ui F (8, 37, 0) j (-1)) (8, 41, 0) j 0) := fun c hc => by
      rw [hAq, hAq, hAq, hAq, k_uk (by decide), k_uk (by decide), k_uk (by decide), k_uk (by decide), k_uk (by decide), k_uk (by decide), k_uk (by decide), k_uk (by decide)]
      exact ih.2.1 c hc
    have hcm := CR_comes hcr0 hj
    rw [hM0.1 17 j (by decide) (by decide)] at hcm
    have hpk := pick_eq hcr0 hMR0 hj
    rw [hM0.1 14 j (by decide) (by decide)] at hpk
    have hlt := picksBy_lt (r := F (8, 14, 0) j) (CR_mo hcr0) hj
    have hA07 : (k_ui (k_ui A (0, g, j) 7 (-1)) (0, g, j) 8 0) (0, g, j) 7 = -1 := (k_uj (by decide)).trans k_uis
    have hA08 : (k_ui (k_ui A (0, g, j) 7 (-1)) (0, g, j) 8 0) (0, g, j) 8 = 0 := k_uis
    have hAb : ∀ b q, b < j → (k_ui (k_ui A (0, g, j) 7 (-1)) (0, g, j) 8 0) (0, g, b) q = A (0, g, b) q := fun b q hb => (k_uk (by simp; omega)).trans (k_uk (by simp; omega))
    have hn3 : (k_ui (k_ui A (0, g, j) 7 (-1)) (0, g, j) 8 0) (0, g, j) 3 = F (8, 13, 0) j := ((k_uj (by decide)).trans (k_uj (by decide))).trans (ih.1.2.2.2.2.2.2.1 j hj).1.2.2.1
    have hn0 : (k_ui (k_ui A (0, g, j) 7 (-1)) (0, g, j) 8 0) (0, g, j) 0 = nI j := ((k_uj (by decide)).trans (k_uj (by decide))).trans (ih.1.2.2.2.1 j (by omega)).2
    generalize (k_ui (k_ui A (0, g, j) 7 (-1)) (0, g, j) 8 0) = A0 at *
    by_cases q : F (8, 17, 0) j = 1
    · rw [if_pos (hcm.mpr q), if_pos q]
      refine GR_step (p := -1) (kb := 0) ih hj hC0 hM0 hMR0 hA07 ((k_uk (by decide)).trans k_uis) hA08 k_uis (Or.inl rfl) (Or.inl rfl) (fun b hb => ⟨hAb b 7 hb, hAb b 8 hb⟩) (fun b hb => ⟨(k_uk (by decide)).trans (k_uj (by omega)), (k_uj (by omega)).trans (k_uk (by decide))⟩) ?_ (fun _ => rfl) ?_ (fun c hc => ?_)
      · rw [if_pos q]; exact (k_uk (by decide)).trans (k_uk (by decide))
      · rw [if_pos rfl]; exact (k_uk (by decide)).trans (k_uk (by decide))
      · rw [if_neg (fun z => k_nIne (t := c) (by omega) z.symm), if_neg (fun z => k_nIne (t := c) (by omega) z.symm)]; exact ⟨hAq c 10, hAq c 11⟩
    · rw [if_neg (fun z => q (hcm.mp z)), if_neg q]
      by_cases w : f_X7_picksBy (k_ui (k_ui F (8, 37, 0) j (-1)) (8, 41, 0) j 0) j (F (8, 14, 0) j) nC < 6
      · have hcC := hlt.resolve_right (fun z => z w)
        have hce := hpk.resolve_right (fun z => z.2 w)
        rw [hce, if_pos w, if_pos w, rcv_eq]
        generalize f_X7_picksBy (k_ui (k_ui F (8, 37, 0) j (-1)) (8, 41, 0) j 0) j (F (8, 14, 0) j) nC = c at *
        obtain ⟨⟨y1, y2, y3, y4, y5, -⟩, -⟩ := ih.1.2.2.2.2.1 c hcC
        have hy := ih.2.1 c hcC
        have hn10 : ∀ c, c < 6 → A0 (1, g, c) 0 = nI c := fun c h6 => (hAq c 0).trans (ih.1.2.2.2.1 c h6).1
        simp only [hAq c 3, hAq c 4, hAq c 5, hAq c 12, hn3, y3, y4, y5, hy.2.2.1]
        have hX0 : k_GR g nC nB (j + 1) (k_rX0 A0 g c j) (k_ui (k_ui (k_ui (k_ui (k_ui F (8, 37, 0) j (-1)) (8, 41, 0) j 0) (8, 37, 0) j (nI c)) (8, 38, 0) c ((F (8, 38, 0) c) + 1)) (7, 0, 0) 42 ((F (7, 0, 0) 42) + (1 - 0))) := by
          refine GR_step (p := nI c) (kb := 0) ih hj (sC_tr hC0 sC_rX0) (sM_ofZ (fun kk qq hk => (k_frZ hk rfl).trans ((k_frZ hk rfl).trans ((k_frZ hk rfl).trans ((k_frZ hk rfl).trans (k_frZ hk rfl)))))) (fun c' hc' => ?_) ?_ ?_ ?_ ?_ (by decide) (Or.inr (vp_in_nI hcC (by omega))) (fun b hb => ⟨?_, ?_⟩) (fun b hb => ⟨?_, ?_⟩) ?_ (fun z => absurd z q) ?_ (fun c' hc' => ?_)
          · obtain ⟨m1, m2, m3, m4⟩ := hMR0 c' hc'
            have hF9 := ih.2.1 c' hc'
            unfold k_rX0 k_rB
            by_cases e : c' = c
            · subst e
              refine ⟨?_, ?_, ?_, ?_⟩
              · repeat first | rw [k_uk k_ne10] | rw [k_uk k_ne01] | rw [k_uj (by decide)]
                rw [hAq]; repeat first | rw [k_uk (by decide)] | rw [k_uj (by omega)] | rw [k_uis]
                exact hF9.1
              · repeat first | rw [k_uk k_ne10] | rw [k_uk k_ne01] | rw [k_uj (by decide)] | rw [k_uis]
                rw [hAq]; repeat first | rw [k_uk (by decide)] | rw [k_uj (by omega)] | rw [k_uis]
                rw [hF9.2.1]
              · repeat first | rw [k_uk k_ne10] | rw [k_uk k_ne01] | rw [k_uj (by decide)] | rw [k_uis]
                rw [hAq]; repeat first | rw [k_uk (by decide)] | rw [k_uj (by omega)] | rw [k_uis]
                exact hF9.2.2.1
              · repeat first | rw [k_uk k_ne10] | rw [k_uk k_ne01] | rw [k_uj (by decide)] | rw [k_uis]
                rw [hAq]; repeat first | rw [k_uk (by decide)] | rw [k_uj (by omega)] | rw [k_uis]
                exact hF9.2.2.2
            · have hne : ((1, g, c') : Ky) ≠ (1, g, c) := by simp [e]
              refine ⟨?_, ?_, ?_, ?_⟩
              all_goals repeat first | rw [k_uk hne] | rw [k_uk k_ne10] | rw [k_uk k_ne01]
              all_goals rw [hAq]
              all_goals repeat first | rw [k_uk (by decide)] | rw [k_uj (by omega)] | rw [k_uis]
              · exact hF9.1
              · exact hF9.2.1
              · exact hF9.2.2.1
              · exact hF9.2.2.2
          · unfold k_rX0 k_rB
            repeat first | rw [k_uk k_ne10] | rw [k_uk k_ne01] | rw [k_uj (by decide)] | rw [k_uis]
            exact hn10 c (by omega)
          · repeat first | rw [k_uk (by decide)] | rw [k_uj (by omega)] | rw [k_uis]
          · exact k_uis
          · repeat first | rw [k_uk (by decide)] | rw [k_uj (by omega)] | rw [k_uis]
          · unfold k_rX0 k_rB
            have hne : ((0, g, b) : Ky) ≠ (0, g, j) := by simp; omega
            repeat first | rw [k_uk hne] | rw [k_uk k_ne10] | rw [k_uk k_ne01]
            exact hAb b 7 hb
          · unfold k_rX0 k_rB
            have hne : ((0, g, b) : Ky) ≠ (0, g, j) := by simp; omega
            repeat first | rw [k_uk hne] | rw [k_uk k_ne10] | rw [k_uk k_ne01]
            exact hAb b 8 hb
          · repeat first | rw [k_uk (by decide)] | rw [k_uj (by omega)] | rw [k_uis]
          · repeat first | rw [k_uk (by decide)] | rw [k_uj (by omega)] | rw [k_uis]
          · rw [if_neg q]; repeat first | rw [k_uk (by decide)] | rw [k_uj (by omega)] | rw [k_uis]
            try rfl
          · rw [if_pos rfl]; repeat first | rw [k_uk (by decide)] | rw [k_uj (by omega)] | rw [k_uis]
          · unfold k_rX0 k_rB
            by_cases e : c' = c
            · subst e
              rw [if_pos rfl, if_pos rfl]
              refine ⟨?_, ?_⟩
              · repeat first | rw [k_uk k_ne10] | rw [k_uk k_ne01] | rw [k_uj (by decide)] | rw [k_uis]
                rw [hAq, hn0]
              · repeat first | rw [k_uk k_ne10] | rw [k_uk k_ne01] | rw [k_uj (by decide)] | rw [k_uis]
                rw [hAq]
            · have hne : ((1, g, c') : Ky) ≠ (1, g, c) := by simp [e]
              have hnI : ¬ nI c = nI c' := fun z => e (nI_inj6 (by omega) (by omega) z).symm
              rw [if_neg hnI, if_neg hnI]
              refine ⟨?_, ?_⟩
              all_goals repeat first | rw [k_uk hne] | rw [k_uk k_ne10] | rw [k_uk k_ne01]
              all_goals rw [hAq]
        have hX1 : k_GR g nC nB (j + 1) (k_rX1 A0 g c j) (k_ui (k_ui (k_ui (k_ui (k_ui (k_ui (k_ui (k_ui F (8, 37, 0) j (-1)) (8, 41, 0) j 0) (8, 37, 0) j (nI c)) (8, 38, 0) c ((F (8, 38, 0) c) + 1)) (8, 41, 0) j 1) (7, 0, 0) 43 ((F (7, 0, 0) 43) + (1 <<< ((nI j) &&& 31)))) (8, 40, 0) c ((F (8, 40, 0) c) + (F (8, 13, 0) j))) (7, 0, 0) 42 ((F (7, 0, 0) 42) + (1 - 1))) := by
          refine GR_step (p := nI c) (kb := 1) ih hj (sC_tr hC0 sC_rX1) (sM_ofZ (fun kk qq hk => (k_frZ hk rfl).trans ((k_frZ hk rfl).trans ((k_frZ hk rfl).trans ((k_frZ hk rfl).trans ((k_frZ hk rfl).trans ((k_frZ hk rfl).trans ((k_frZ hk rfl).trans (k_frZ hk rfl))))))))) (fun c' hc' => ?_) ?_ ?_ ?_ ?_ (by decide) (Or.inr (vp_in_nI hcC (by omega))) (fun b hb => ⟨?_, ?_⟩) (fun b hb => ⟨?_, ?_⟩) ?_ (fun z => absurd z q) ?_ (fun c' hc' => ?_)
          · obtain ⟨m1, m2, m3, m4⟩ := hMR0 c' hc'
            have hF9 := ih.2.1 c' hc'
            unfold k_rX1 k_rB
            by_cases e : c' = c
            · subst e
              refine ⟨?_, ?_, ?_, ?_⟩
              · repeat first | rw [k_uk k_ne10] | rw [k_uk k_ne01] | rw [k_uj (by decide)]
                rw [hAq]; repeat first | rw [k_uk (by decide)] | rw [k_uj (by omega)] | rw [k_uis]
                exact hF9.1
              · repeat first | rw [k_uk k_ne10] | rw [k_uk k_ne01] | rw [k_uj (by decide)] | rw [k_uis]
                rw [hAq]; repeat first | rw [k_uk (by decide)] | rw [k_uj (by omega)] | rw [k_uis]
                rw [hF9.2.1]
              · repeat first | rw [k_uk k_ne10] | rw [k_uk k_ne01] | rw [k_uj (by decide)] | rw [k_uis]
                rw [hAq]; repeat first | rw [k_uk (by decide)] | rw [k_uj (by omega)] | rw [k_uis]
                exact hF9.2.2.1
              · repeat first | rw [k_uk k_ne10] | rw [k_uk k_ne01] | rw [k_uj (by decide)] | rw [k_uis]
                rw [hAq]; repeat first | rw [k_uk (by decide)] | rw [k_uj (by omega)] | rw [k_uis]
                rw [hF9.2.2.2, hn3]
            · have hne : ((1, g, c') : Ky) ≠ (1, g, c) := by simp [e]
              refine ⟨?_, ?_, ?_, ?_⟩
              all_goals repeat first | rw [k_uk hne] | rw [k_uk k_ne10] | rw [k_uk k_ne01]
              all_goals rw [hAq]
              all_goals repeat first | rw [k_uk (by decide)] | rw [k_uj (by omega)] | rw [k_uis]
              · exact hF9.1
              · exact hF9.2.1
              · exact hF9.2.2.1
              · exact hF9.2.2.2
          · unfold k_rX1 k_rB
            repeat first | rw [k_uk k_ne10] | rw [k_uk k_ne01] | rw [k_uj (by decide)] | rw [k_uis]
            exact hn10 c (by omega)
          · repeat first | rw [k_uk (by decide)] | rw [k_uj (by omega)] | rw [k_uis]
          · exact k_uis
          · repeat first | rw [k_uk (by decide)] | rw [k_uj (by omega)] | rw [k_uis]
          · unfold k_rX1 k_rB
            have hne : ((0, g, b) : Ky) ≠ (0, g, j) := by simp; omega
            repeat first | rw [k_uk hne] | rw [k_uk k_ne10] | rw [k_uk k_ne01]
            exact hAb b 7 hb
          · unfold k_rX1 k_rB
            have hne : ((0, g, b) : Ky) ≠ (0, g, j) := by simp; omega
            repeat first | rw [k_uk hne] | rw [k_uk k_ne10] | rw [k_uk k_ne01]
            exact hAb b 8 hb
          · repeat first | rw [k_uk (by decide)] | rw [k_uj (by omega)] | rw [k_uis]
          · repeat first | rw [k_uk (by decide)] | rw [k_uj (by omega)] | rw [k_uis]
          · rw [if_neg q]; repeat first | rw [k_uk (by decide)] | rw [k_uj (by omega)] | rw [k_uis]
            try rfl
          · rw [if_neg (by decide)]; repeat first | rw [k_uk (by decide)] | rw [k_uj (by omega)] | rw [k_uis]
          · unfold k_rX1 k_rB
            by_cases e : c' = c
            · subst e
              rw [if_pos rfl, if_pos rfl]
              refine ⟨?_, ?_⟩
              · repeat first | rw [k_uk k_ne10] | rw [k_uk k_ne01] | rw [k_uj (by decide)] | rw [k_uis]
                rw [hAq, hn0]
              · repeat first | rw [k_uk k_ne10] | rw [k_uk k_ne01] | rw [k_uj (by decide)] | rw [k_uis]
                rw [hAq]
            · have hne : ((1, g, c') : Ky) ≠ (1, g, c) := by simp [e]
              have hnI : ¬ nI c = nI c' := fun z => e (nI_inj6 (by omega) (by omega) z).symm
              rw [if_neg hnI, if_neg hnI]
              refine ⟨?_, ?_⟩
              all_goals repeat first | rw [k_uk hne] | rw [k_uk k_ne10] | rw [k_uk k_ne01]
              all_goals rw [hAq]
        have hX2 : k_GR g nC nB (j + 1) (k_rX2 A0 g c j) (k_ui (k_ui (k_ui (k_ui (k_ui (k_ui (k_ui (k_ui (k_ui F (8, 37, 0) j (-1)) (8, 41, 0) j 0) (8, 37, 0) j (nI c)) (8, 38, 0) c ((F (8, 38, 0) c) + 1)) (8, 41, 0) j 1) (7, 0, 0) 43 ((F (7, 0, 0) 43) + (1 <<< ((nI j) &&& 31)))) (8, 40, 0) c ((F (8, 40, 0) c) + (F (8, 13, 0) j))) (8, 39, 0) c ((F (8, 39, 0) c) + (F (8, 13, 0) j))) (7, 0, 0) 42 ((F (7, 0, 0) 42) + (1 - 1))) := by
          refine GR_step (p := nI c) (kb := 1) ih hj (sC_tr hC0 sC_rX2) (sM_ofZ (fun kk qq hk => (k_frZ hk rfl).trans ((k_frZ hk rfl).trans ((k_frZ hk rfl).trans ((k_frZ hk rfl).trans ((k_frZ hk rfl).trans ((k_frZ hk rfl).trans ((k_frZ hk rfl).trans ((k_frZ hk rfl).trans (k_frZ hk rfl)))))))))) (fun c' hc' => ?_) ?_ ?_ ?_ ?_ (by decide) (Or.inr (vp_in_nI hcC (by omega))) (fun b hb => ⟨?_, ?_⟩) (fun b hb => ⟨?_, ?_⟩) ?_ (fun z => absurd z q) ?_ (fun c' hc' => ?_)
          · obtain ⟨m1, m2, m3, m4⟩ := hMR0 c' hc'
            have hF9 := ih.2.1 c' hc'
            unfold k_rX2 k_rB
            by_cases e : c' = c
            · subst e
              refine ⟨?_, ?_, ?_, ?_⟩
              · repeat first | rw [k_uk k_ne10] | rw [k_uk k_ne01] | rw [k_uj (by decide)]
                rw [hAq]; repeat first | rw [k_uk (by decide)] | rw [k_uj (by omega)] | rw [k_uis]
                exact hF9.1
              · repeat first | rw [k_uk k_ne10] | rw [k_uk k_ne01] | rw [k_uj (by decide)] | rw [k_uis]
                rw [hAq]; repeat first | rw [k_uk (by decide)] | rw [k_uj (by omega)] | rw [k_uis]
                rw [hF9.2.1]
              · repeat first | rw [k_uk k_ne10] | rw [k_uk k_ne01] | rw [k_uj (by decide)] | rw [k_uis]
                rw [hAq]; repeat first | rw [k_uk (by decide)] | rw [k_uj (by omega)] | rw [k_uis]
                rw [hF9.2.2.1, hn3]
              · repeat first | rw [k_uk k_ne10] | rw [k_uk k_ne01] | rw [k_uj (by decide)] | rw [k_uis]
                rw [hAq]; repeat first | rw [k_uk (by decide)] | rw [k_uj (by omega)] | rw [k_uis]
                rw [hF9.2.2.2, hn3]
            · have hne : ((1, g, c') : Ky) ≠ (1, g, c) := by simp [e]
              refine ⟨?_, ?_, ?_, ?_⟩
              all_goals repeat first | rw [k_uk hne] | rw [k_uk k_ne10] | rw [k_uk k_ne01]
              all_goals rw [hAq]
              all_goals repeat first | rw [k_uk (by decide)] | rw [k_uj (by omega)] | rw [k_uis]
              · exact hF9.1
              · exact hF9.2.1
              · exact hF9.2.2.1
              · exact hF9.2.2.2
          · unfold k_rX2 k_rB
            repeat first | rw [k_uk k_ne10] | rw [k_uk k_ne01] | rw [k_uj (by decide)] | rw [k_uis]
            exact hn10 c (by omega)
          · repeat first | rw [k_uk (by decide)] | rw [k_uj (by omega)] | rw [k_uis]
          · exact k_uis
          · repeat first | rw [k_uk (by decide)] | rw [k_uj (by omega)] | rw [k_uis]
          · unfold k_rX2 k_rB
            have hne : ((0, g, b) : Ky) ≠ (0, g, j) := by simp; omega
            repeat first | rw [k_uk hne] | rw [k_uk k_ne10] | rw [k_uk k_ne01]
            exact hAb b 7 hb
          · unfold k_rX2 k_rB
            have hne : ((0, g, b) : Ky) ≠ (0, g, j) := by simp; omega
            repeat first | rw [k_uk hne] | rw [k_uk k_ne10] | rw [k_uk k_ne01]
            exact hAb b 8 hb
          · repeat first | rw [k_uk (by decide)] | rw [k_uj (by omega)] | rw [k_uis]
          · repeat first | rw [k_uk (by decide)] | rw [k_uj (by omega)] | rw [k_uis]
          · rw [if_neg q]; repeat first | rw [k_uk (by decide)] | rw [k_uj (by omega)] | rw [k_uis]
            try rfl
          · rw [if_neg (by decide)]; repeat first | rw [k_uk (by decide)] | rw [k_uj (by omega)] | rw [k_uis]
          · unfold k_rX2 k_rB
            by_cases e : c' = c
            · subst e
              rw [if_pos rfl, if_pos rfl]
              refine ⟨?_, ?_⟩
              · repeat first | rw [k_uk k_ne10] | rw [k_uk k_ne01] | rw [k_uj (by decide)] | rw [k_uis]
                rw [hAq, hn0]
              · repeat first | rw [k_uk k_ne10] | rw [k_uk k_ne01] | rw [k_uj (by decide)] | rw [k_uis]
                rw [hAq]
            · have hne : ((1, g, c') : Ky) ≠ (1, g, c) := by simp [e]
              have hnI : ¬ nI c = nI c' := fun z => e (nI_inj6 (by omega) (by omega) z).symm
              rw [if_neg hnI, if_neg hnI]
              refine ⟨?_, ?_⟩
              all_goals repeat first | rw [k_uk hne] | rw [k_uk k_ne10] | rw [k_uk k_ne01]
              all_goals rw [hAq]
        by_cases z5 : F (8, 6, 0) c = 5
        · simp only [if_pos z5]
          by_cases z4 : F (8, 7, 0) c < F (8, 13, 0) j
          · simp only [if_pos z4]
            by_cases zf : F (8, 8, 0) c < F (8, 39, 0) c + F (8, 13, 0) j
            · simp only [if_pos zf, if_neg (Int32.not_le.mpr zf)]; exact hX0
            · simp only [if_neg zf, if_pos (Int32.not_lt.mp zf)]; exact hX2
          · simp only [if_neg z4]; exact hX1
        · simp only [if_neg z5]
          by_cases zf : F (8, 8, 0) c < F (8, 39, 0) c + F (8, 13, 0) j
          · simp only [if_pos zf, if_neg (Int32.not_le.mpr zf)]; exact hX0
          · simp only [if_neg zf, if_pos (Int32.not_lt.mp zf)]; exact hX2
      · have hcn : ¬ f_X2_chosenBy A0 g j < 6 := by
          rcases hpk with z | z
          · rw [z]; exact w
          · exact z.1
        rw [if_neg hcn, if_neg w]
        refine GR_step (p := -1) (kb := 0) ih hj hC0 (sM_ofZ (fun kk qq hk => (k_frZ hk rfl).trans ((k_frZ hk rfl).trans ((k_frZ hk rfl).trans (k_frZ hk rfl))))) (fun c hc => ?_) hA07 ?_ hA08 ?_ (Or.inl rfl) (Or.inl rfl) (fun b hb => ⟨hAb b 7 hb, hAb b 8 hb⟩) (fun b hb => ⟨?_, ?_⟩) ?_ (fun _ => rfl) ?_ (fun c hc => ?_)
        · rw [hAq, hAq, hAq, hAq]
          repeat first | rw [k_uk (by decide)] | rw [k_uj (by omega)] | rw [k_uis]
          exact ih.2.1 c hc
        · repeat first | rw [k_uk (by decide)] | rw [k_uj (by omega)] | rw [k_uis]
        · repeat first | rw [k_uk (by decide)] | rw [k_uj (by omega)] | rw [k_uis]
        · repeat first | rw [k_uk (by decide)] | rw [k_uj (by omega)] | rw [k_uis]
        · repeat first | rw [k_uk (by decide)] | rw [k_uj (by omega)] | rw [k_uis]
        · rw [if_neg q]; repeat first | rw [k_uk (by decide)] | rw [k_uj (by omega)] | rw [k_uis]
          try rfl
        · rw [if_pos rfl]; repeat first | rw [k_uk (by decide)] | rw [k_uj (by omega)] | rw [k_uis]
        · rw [if_neg (fun z => k_nIne (t := c) (by omega) z.symm), if_neg (fun z => k_nIne (t := c) (by omega) z.symm)]; exact ⟨hAq c 10, hAq c 11⟩
