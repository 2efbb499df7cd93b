/-! level 2: what comes of a morning; a morning in truth -/
theorem bt_w {a b : Nat} {x : Int32} (h : k_bt a x) (hab : a ≤ b) : k_bt b x := by
  obtain ⟨m, h1, h2⟩ := h
  exact ⟨m, by omega, h2⟩
theorem GR_ext {g nC nB j : Nat} {A A' F : MemI} (h : k_GR g nC nB j A F) (h1 : ∀ c q, A' (1, g, c) q = A (1, g, c) q) (h2 : ∀ b q, b < j → A' (0, g, b) q = A (0, g, b) q) (hC : k_sC g A A') : k_GR g nC nB j A' F := by
  obtain ⟨c1, c2, c3, c4, c5, c6⟩ := h
  refine ⟨CR_ext c1 hC sM_rf, fun c hc => ?_, fun b hb => ?_, ?_, ?_, fun c hc => ?_⟩
  · rw [h1, h1, h1, h1]; exact c2 c hc
  · rw [h2 b _ hb, h2 b _ hb]; exact c3 b hb
  · rw [cU_ext j (fun b hb => ⟨h2 b 1 hb, h2 b 2 hb, h2 b 8 hb⟩)]; exact c4
  · rw [kB_ext j (fun b hb => ⟨h2 b 0 hb, h2 b 8 hb⟩)]; exact c5
  · rw [h1, h1]; exact c6 c hc
theorem GR_tail {g nC nB : Nat} {A F : MemI} (h : k_GR g nC nB nB (f_X2_goBy2 A g nB) F) : ∀ d, nB + d ≤ 6 → k_GR g nC nB nB (f_X2_goBy2 A g (nB + d)) F ∧ ∀ b, nB ≤ b → b < nB + d → (f_X2_goBy2 A g (nB + d)) (0, g, b) 8 = 0 := by
  intro d
  induction d with
  | zero => intro _; exact ⟨h, fun b h1 h2 => by omega⟩
  | succ d ih =>
    intro hd
    obtain ⟨i1, i2⟩ := ih (by omega)
    have hC0 : k_sC g (f_X2_goBy2 A g (nB + d)) (k_ui (k_ui (f_X2_goBy2 A g (nB + d)) (0, g, nB + d) 7 (-1)) (0, g, nB + d) 8 0) := sC_ofT (fun kk qq hk => (k_frT hk rfl).trans (k_frT hk rfl))
    have hcm := CR_away (CR_ext i1.1 hC0 sM_rf) (show nB ≤ nB + d by omega) (by omega)
    rw [show nB + (d + 1) = (nB + d) + 1 from rfl, f_X2_goBy2_s, if_pos hcm]
    refine ⟨GR_ext i1 (fun c q => (k_uk k_ne10).trans (k_uk k_ne10)) (fun b q hb => (k_uk (by simp; omega)).trans (k_uk (by simp; omega))) hC0, fun b h1 h2 => ?_⟩
    by_cases e : b = nB + d
    · subst e; exact k_uis
    · have hne : ((0, g, b) : Ky) ≠ (0, g, nB + d) := by simp [e]
      rw [k_uk hne, k_uk hne]; exact i2 b h1 (by omega)
/-- the morning that is looked at: class and model say the same of it -/
theorem go_res {g nC nB : Nat} {mi mj : MemI} (h : k_CR g nC nB mi mj) : k_GR g nC nB nB (f_X2_goBy mi g) (f_X7_goes mj nC nB) ∧ nI (f_X2_countUnkept (f_X2_goBy mi g) g 6) = (f_X7_goes mj nC nB) (7, 0, 0) 42 ∧ f_X2_keptBits (f_X2_goBy mi g) g 6 = (f_X7_goes mj nC nB) (7, 0, 0) 43 := by
  have hB6 := h.1.2
  obtain ⟨t1, t2⟩ := GR_tail (GR_go h nB (Nat.le_refl _)) (6 - nB) (by omega)
  rw [show nB + (6 - nB) = 6 by omega] at t1 t2
  have t1 : k_GR g nC nB nB (f_X2_goBy mi g) (f_X7_goes mj nC nB) := t1
  have t2 : ∀ b, nB ≤ b → b < 6 → (f_X2_goBy mi g) (0, g, b) 8 = 0 := t2
  have e1 : f_X2_countUnkept (f_X2_goBy mi g) g 6 = f_X2_countUnkept (f_X2_goBy mi g) g nB := k_tail6 hB6 (fun j h1 h2 => by rw [f_X2_countUnkept_s, if_pos (CR_away t1.1 h1 h2)])
  have e2 : f_X2_keptBits (f_X2_goBy mi g) g 6 = f_X2_keptBits (f_X2_goBy mi g) g nB := k_tail6 hB6 (fun j h1 h2 => by rw [f_X2_keptBits_s, if_pos (t2 j h1 h2)])
  refine ⟨t1, ?_, ?_⟩
  · rw [e1]; exact t1.2.2.2.1.symm
  · obtain ⟨x, -, x1, x2⟩ := t1.2.2.2.2.1
    rw [e2]; exact x2.trans x1.symm
theorem sC_goBy {g : Nat} {mi : MemI} : k_sC g mi (f_X2_goBy mi g) := sC_ofT (fun kk qq hk => ft_X2_goBy hk)
theorem sM_goes {nC nB : Nat} {mj : MemI} : k_sM mj (f_X7_goes mj nC nB) := sM_ofZ (fun kk qq hk => fz_X7_goes hk)
/-- the burdens are small -/
theorem go2_bu {nC nB : Nat} {F : MemI} (hn : ∀ b, b < nB → k_bt 9 (F (8, 13, 0) b)) (h0 : ∀ c, c < nC → F (8, 40, 0) c = 0) : ∀ j, j ≤ nB → ∀ c, c < nC → k_bt (9 * j) ((f_X7_go2 F nC j) (8, 40, 0) c) := by
  intro j
  induction j with
  | zero => intro _ c hc; exact ⟨0, by omega, h0 c hc⟩
  | succ j ih =>
    intro hj c hc
    obtain ⟨y, hy, ey⟩ := ih (by omega) c hc
    have e13 : (f_X7_go2 F nC j) (8, 13, 0) j = F (8, 13, 0) j := fz_X7_go2 rfl
    obtain ⟨w, hw, ew⟩ := hn j (by omega)
    rw [f_X7_go2_s]
    generalize f_X7_picksBy (k_ui (k_ui (f_X7_go2 F nC j) (8, 37, 0) j (-1)) (8, 41, 0) j 0) j (f_X7_go2 F nC j (8, 14, 0) j) nC = p
    have hs : ∀ (a b d e : MemI) (v : Int32), True := fun _ _ _ _ _ => trivial
    by_cases e : c = p
    · subst e
      repeat' split
      all_goals repeat first | rw [k_uk (by decide)] | rw [k_uis]
      all_goals first
        | exact ⟨y, by omega, ey⟩
        | exact ⟨y + w, by omega, by rw [ey, e13, ew, nI_add]⟩
    · repeat' split
      all_goals repeat first | rw [k_uk (by decide)] | rw [k_uj e]
      all_goals exact ⟨y, by omega, ey⟩
theorem go_bu {g nC nB : Nat} {mi mj : MemI} (h : k_CR g nC nB mi mj) {c : Nat} (hc : c < nC) : k_bt 54 ((f_X7_goes mj nC nB) (8, 40, 0) c) := by
  have hB6 := h.1.2
  refine bt_w (go2_bu (nB := nB) (fun b hb => ?_) (fun c hc => (go1_at _ nC c hc).2.2.2) nB (Nat.le_refl _) c hc) (by omega)
  obtain ⟨m, -, h2, h3⟩ := (h.2.2.2.2.2.2.1 b hb).2.2.1
  refine ⟨m, h2, ?_⟩
  rw [fz_X7_go1 (kk := (8, 13, 0)) rfl, k_uk (by decide), k_uk (by decide)]
  exact h3
/-! a morning in truth -/
theorem k_wdn : ∀ w, w ≤ 99 → k_mx 0 (nI w - 2) = nI (w - 2) ∧ (2 ≤ nI w → nI w - 2 = nI (w - 2)) ∧ (¬ 2 ≤ nI w → (0 : Int32) = nI (w - 2)) := by decide +kernel
theorem k_wup : ∀ z, z ≤ 160 → k_mn 99 (nI z) = nI (min 99 z) ∧ (nI z ≤ 99 → nI z = nI (min 99 z)) ∧ (¬ nI z ≤ 99 → (99 : Int32) = nI (min 99 z)) := by decide +kernel
theorem k_pup : ∀ p, p ≤ 9 → k_mn 9 (nI p + 1) = nI (min 9 (p + 1)) ∧ (9 ≤ nI p → nI p + 0 = nI (min 9 (p + 1))) ∧ (¬ 9 ≤ nI p → nI p + 1 = nI (min 9 (p + 1))) := by decide +kernel
theorem k_hup : ∀ h, h ≤ 99 → k_mn 99 (nI h + 1) = nI (min 99 (h + 1)) ∧ (99 ≤ nI h → (99 : Int32) = nI (min 99 (h + 1))) ∧ (¬ 99 ≤ nI h → nI h + 1 = nI (min 99 (h + 1))) := by decide +kernel
theorem GR_pick {g nC nB : Nat} {A F : MemI} (h : k_GR g nC nB nB A F) {c : Nat} (hc : c < nC) : A (1, g, c) 10 = 0 ↔ F (8, 38, 0) c = 0 := by
  obtain ⟨x, hx, x1, -, x3, -⟩ := h.2.2.2.2.2 c hc
  have hB := h.1.1.2
  rw [x1, ← (h.2.1 c hc).2.1, ← x3]
  have h64 : x < 64 := Nat.lt_of_lt_of_le hx (Nat.pow_le_pow_right (by decide) hB)
  exact ⟨fun q => nI_inj6 (b := 0) (by omega) (by decide) q, fun q => by rw [q]; rfl⟩
theorem eM_eq {mi : MemI} {g i : Nat} (h1 : ¬ mi (1, g, i) 1 = 0) : f_X1_endMorning mi g i = if mi (1, g, i) 10 = 0 then k_ui (k_ui mi (1, g, i) 7 (k_mx 0 (mi (1, g, i) 7 - 2))) (1, g, i) 8 (k_mn 9 (mi (1, g, i) 8 + 1)) else k_ui (k_ui mi (1, g, i) 7 (k_mn 99 (mi (1, g, i) 7 + mi (1, g, i) 13))) (1, g, i) 8 0 := by
  unfold f_X1_endMorning
  rw [if_neg h1, k_uj (show (8 : Nat) ≠ 7 by decide)]
theorem p1_rel {g nC nB : Nat} {A F : MemI} (h : k_GR g nC nB nB A F) (hbu : ∀ c, c < nC → k_bt 54 (F (8, 40, 0) c)) : ∀ j, j ≤ nC →
    (∀ c, c < j → (f_X2_pass1 A g j) (1, g, c) 7 = (f_X7_ps1 F j) (8, 10, 0) c ∧ (f_X2_pass1 A g j) (1, g, c) 8 = (f_X7_ps1 F j) (8, 11, 0) c ∧ k_bt 99 ((f_X7_ps1 F j) (8, 10, 0) c) ∧ k_bt 9 ((f_X7_ps1 F j) (8, 11, 0) c)) ∧
    (∀ c, j ≤ c → ∀ q, (f_X2_pass1 A g j) (1, g, c) q = A (1, g, c) q) ∧ (∀ c, j ≤ c → (f_X7_ps1 F j) (8, 10, 0) c = F (8, 10, 0) c ∧ (f_X7_ps1 F j) (8, 11, 0) c = F (8, 11, 0) c) := by
  intro j
  induction j with
  | zero => intro _; exact ⟨fun c hc => absurd hc (Nat.not_lt_zero c), fun _ _ _ => rfl, fun _ _ => ⟨rfl, rfl⟩⟩
  | succ j ih =>
    intro hj
    obtain ⟨i1, i2, i3⟩ := ih (by omega)
    have hpk := GR_pick h (show j < nC by omega)
    obtain ⟨⟨e1, -, -, -, -, -, e7, e8⟩, -, -, -, -, -, ⟨w, hw, ew⟩, ⟨p, hp, ep⟩⟩ := h.1.2.2.2.2.1 j (by omega)
    have hh : ¬ (f_X2_pass1 A g j) (1, g, j) 1 = 0 := by rw [i2 j (Nat.le_refl _) 1, e1]; decide
    obtain ⟨y, hy, ey⟩ := hbu j (by omega)
    have hm := h.2.1 j (by omega)
    have a10 := i2 j (Nat.le_refl _) 10
    have a7 := (i2 j (Nat.le_refl _) 7).trans (e7.trans ew)
    have a8 := (i2 j (Nat.le_refl _) 8).trans (e8.trans ep)
    have a13 := (i2 j (Nat.le_refl _) 13).trans (hm.2.2.2.trans ey)
    obtain ⟨f10, f11⟩ := i3 j (Nat.le_refl _)
    have f38 : (f_X7_ps1 F j) (8, 38, 0) j = F (8, 38, 0) j := ps1_fr (by decide) (by decide) j j
    have f40 : (f_X7_ps1 F j) (8, 40, 0) j = F (8, 40, 0) j := ps1_fr (by decide) (by decide) j j
    rw [ew] at f10
    rw [ep] at f11
    rw [ey] at f40
    rw [f_X2_pass1_s, f_X7_ps1_s, eM_eq hh, a10, a7, a8, a13, f38, f10, f11, f40]
    generalize f_X2_pass1 A g j = A1 at *
    generalize f_X7_ps1 F j = F1 at *
    obtain ⟨w1, w2, w3⟩ := k_wdn w hw
    obtain ⟨p1, p2, p3⟩ := k_pup p hp
    rw [nI_add]
    obtain ⟨u1, u2, u3⟩ := k_wup (w + y) (by omega)
    rw [w1, p1, u1]
    have hne : ∀ c, c ≠ j → ((1, g, c) : Ky) ≠ (1, g, j) := fun c hc => by simp [hc]
    have fin : ∀ (a b : Nat) (v v' : Int32), a ≤ 99 → b ≤ 9 → v = nI a → v' = nI b →
        (∀ c, c < j + 1 → (k_ui (k_ui A1 (1, g, j) 7 (nI a)) (1, g, j) 8 (nI b)) (1, g, c) 7 = (k_ui (k_ui F1 (8, 10, 0) j v) (8, 11, 0) j v') (8, 10, 0) c ∧ (k_ui (k_ui A1 (1, g, j) 7 (nI a)) (1, g, j) 8 (nI b)) (1, g, c) 8 = (k_ui (k_ui F1 (8, 10, 0) j v) (8, 11, 0) j v') (8, 11, 0) c ∧ k_bt 99 ((k_ui (k_ui F1 (8, 10, 0) j v) (8, 11, 0) j v') (8, 10, 0) c) ∧ k_bt 9 ((k_ui (k_ui F1 (8, 10, 0) j v) (8, 11, 0) j v') (8, 11, 0) c)) ∧
        (∀ c, j + 1 ≤ c → ∀ q, (k_ui (k_ui A1 (1, g, j) 7 (nI a)) (1, g, j) 8 (nI b)) (1, g, c) q = A (1, g, c) q) ∧ (∀ c, j + 1 ≤ c → (k_ui (k_ui F1 (8, 10, 0) j v) (8, 11, 0) j v') (8, 10, 0) c = F (8, 10, 0) c ∧ (k_ui (k_ui F1 (8, 10, 0) j v) (8, 11, 0) j v') (8, 11, 0) c = F (8, 11, 0) c) := by
      intro a b v v' ha hb hv hv'
      subst hv; subst hv'
      refine ⟨fun c hc => ?_, fun c hc q => ?_, fun c hc => ?_⟩
      · by_cases e : c = j
        · subst e
          rw [k_uj (show (7 : Nat) ≠ 8 by decide), k_uis, k_uis, k_uk (show ((8, 10, 0) : Ky) ≠ (8, 11, 0) by decide), k_uis, k_uis]
          exact ⟨rfl, rfl, ⟨a, ha, rfl⟩, ⟨b, hb, rfl⟩⟩
        · rw [k_uk (hne c e), k_uk (hne c e), k_uk (hne c e), k_uk (hne c e), k_uk (show ((8, 10, 0) : Ky) ≠ (8, 11, 0) by decide), k_uj e, k_uj e, k_uk (show ((8, 11, 0) : Ky) ≠ (8, 10, 0) by decide)]
          exact i1 c (by omega)
      · rw [k_uk (hne c (by omega)), k_uk (hne c (by omega))]; exact i2 c (by omega) q
      · rw [k_uk (show ((8, 10, 0) : Ky) ≠ (8, 11, 0) by decide), k_uj (by omega), k_uj (by omega), k_uk (show ((8, 11, 0) : Ky) ≠ (8, 10, 0) by decide)]
        exact i3 c (by omega)
    by_cases z : F (8, 38, 0) j = 0
    · rw [if_pos (hpk.mpr z), if_pos z]
      repeat' split
      · exact fin _ _ _ _ (by omega) (by omega) (w2 (by assumption)) (p2 (by assumption))
      · exact fin _ _ _ _ (by omega) (by omega) (w2 (by assumption)) (p3 (by assumption))
      · exact fin _ _ _ _ (by omega) (by omega) (w3 (by assumption)) (p2 (by assumption))
      · exact fin _ _ _ _ (by omega) (by omega) (w3 (by assumption)) (p3 (by assumption))
    · rw [if_neg (fun q => z (hpk.mp q)), if_neg z]
      split
      · exact fin _ 0 _ 0 (by omega) (by omega) (u2 (by assumption)) rfl
      · exact fin _ 0 _ 0 (by omega) (by omega) (u3 (by assumption)) rfl
theorem p1_q {A : MemI} {g : Nat} {kk : Ky} {q : Nat} (h : kk.1 ≠ 1 ∨ (q ≠ 7 ∧ q ≠ 8)) : ∀ j, f_X2_pass1 A g j kk q = A kk q := by
  intro j
  induction j with
  | zero => rfl
  | succ j ih =>
    have e1 : ∀ (m : MemI) (v : Int32), k_ui m (1, g, j) 7 v kk q = m kk q := fun m v => if_neg (fun z => h.elim (fun w => w (by rw [z.1])) (fun w => w.1 z.2))
    have e2 : ∀ (m : MemI) (v : Int32), k_ui m (1, g, j) 8 v kk q = m kk q := fun m v => if_neg (fun z => h.elim (fun w => w (by rw [z.1])) (fun w => w.2 z.2))
    rw [f_X2_pass1_s]
    unfold f_X1_endMorning
    split
    · exact ih
    · split <;> (rw [e2, e1]; exact ih)
theorem eB_eq (mi : MemI) (g i : Nat) : f_X0_endMorning mi g i = if f_X0_comes mi g i = 0 then mi else if mi (0, g, i) 7 = -1 then (if mi (0, g, i) 8 = 0 then k_ui mi (0, g, i) 6 (k_mn 99 (mi (0, g, i) 6 + 1)) else k_ui mi (0, g, i) 6 0) else (if mi (0, g, i) 8 = 0 then k_ui (k_ui mi (0, g, i) 5 (mi (0, g, i) 7)) (0, g, i) 6 (k_mn 99 (mi (0, g, i) 6 + 1)) else k_ui (k_ui mi (0, g, i) 5 (mi (0, g, i) 7)) (0, g, i) 6 0) := by
  unfold f_X0_endMorning
  rw [k_uj (show (8 : Nat) ≠ 5 by decide), k_uj (show (6 : Nat) ≠ 5 by decide)]
theorem p2_q {A : MemI} {g : Nat} {kk : Ky} {q : Nat} (h : kk.1 ≠ 0 ∨ (q ≠ 5 ∧ q ≠ 6)) : ∀ j, f_X2_pass2 A g j kk q = A kk q := by
  intro j
  induction j with
  | zero => rfl
  | succ j ih =>
    have e1 : ∀ (m : MemI) (v : Int32), k_ui m (0, g, j) 5 v kk q = m kk q := fun m v => if_neg (fun z => h.elim (fun w => w (by rw [z.1])) (fun w => w.1 z.2))
    have e2 : ∀ (m : MemI) (v : Int32), k_ui m (0, g, j) 6 v kk q = m kk q := fun m v => if_neg (fun z => h.elim (fun w => w (by rw [z.1])) (fun w => w.2 z.2))
    rw [f_X2_pass2_s, eB_eq]
    repeat' split
    all_goals first | exact ih | (rw [e2]; exact ih) | (rw [e2, e1]; exact ih)
theorem p2_rel {g nC nB : Nat} {A F : MemI} (h : k_CR g nC nB A F) (hp : ∀ b, b < nB → A (0, g, b) 7 = F (8, 37, 0) b ∧ A (0, g, b) 8 = F (8, 41, 0) b ∧ k_bt 1 (F (8, 41, 0) b) ∧ (F (8, 37, 0) b = -1 ∨ vp_in (F (8, 37, 0) b) nC)) : ∀ j, j ≤ nB →
    (∀ b, b < j → (f_X2_pass2 A g j) (0, g, b) 5 = (f_X7_ps2 F j) (8, 15, 0) b ∧ (f_X2_pass2 A g j) (0, g, b) 6 = (f_X7_ps2 F j) (8, 16, 0) b ∧ ((f_X7_ps2 F j) (8, 15, 0) b = -1 ∨ vp_in ((f_X7_ps2 F j) (8, 15, 0) b) nC) ∧ k_bt 99 ((f_X7_ps2 F j) (8, 16, 0) b)) ∧
    (∀ b, j ≤ b → ∀ q, (f_X2_pass2 A g j) (0, g, b) q = A (0, g, b) q) ∧ (∀ b, j ≤ b → (f_X7_ps2 F j) (8, 15, 0) b = F (8, 15, 0) b ∧ (f_X7_ps2 F j) (8, 16, 0) b = F (8, 16, 0) b) := by
  intro j
  induction j with
  | zero => intro _; exact ⟨fun c hc => absurd hc (Nat.not_lt_zero c), fun _ _ _ => rfl, fun _ _ => ⟨rfl, rfl⟩⟩
  | succ j ih =>
    intro hj
    obtain ⟨i1, i2, i3⟩ := ih (by omega)
    have hcm := CR_comes h (show j < nB by omega)
    obtain ⟨⟨-, -, -, -, e5, e6⟩, -, -, -, el, ⟨hu, hhu, ehu⟩⟩ := h.2.2.2.2.2.2.1 j (by omega)
    obtain ⟨p7, p8, pk, pl⟩ := hp j (by omega)
    have a7 := (i2 j (Nat.le_refl _) 7).trans p7
    have a8 := (i2 j (Nat.le_refl _) 8).trans p8
    have a5 := (i2 j (Nat.le_refl _) 5).trans e5
    have a6 := (i2 j (Nat.le_refl _) 6).trans (e6.trans ehu)
    have ac : f_X0_comes (f_X2_pass2 A g j) g j = f_X0_comes A g j := by
      unfold f_X0_comes
      rw [i2 j (Nat.le_refl _) 1, i2 j (Nat.le_refl _) 2]
    obtain ⟨f15, f16⟩ := i3 j (Nat.le_refl _)
    rw [ehu] at f16
    have f17 : (f_X7_ps2 F j) (8, 17, 0) j = F (8, 17, 0) j := ps2_fr (by decide) (by decide) j j
    have f37 : (f_X7_ps2 F j) (8, 37, 0) j = F (8, 37, 0) j := ps2_fr (by decide) (by decide) j j
    have f41 : (f_X7_ps2 F j) (8, 41, 0) j = F (8, 41, 0) j := ps2_fr (by decide) (by decide) j j
    rw [f_X2_pass2_s, f_X7_ps2_s, eB_eq, ac, a6, a7, a8, f16, f17, f37, f41]
    generalize f_X2_pass2 A g j = A1 at *
    generalize f_X7_ps2 F j = F1 at *
    obtain ⟨h1, h2, h3⟩ := k_hup hu hhu
    rw [h1]
    have hne : ∀ c, c ≠ j → ((0, g, c) : Ky) ≠ (0, g, j) := fun c hc => by simp [hc]
    -- the last stays
    have finA : ∀ (a : Nat) (v : Int32), a ≤ 99 → v = nI a →
        (∀ b, b < j + 1 → (k_ui A1 (0, g, j) 6 (nI a)) (0, g, b) 5 = (k_ui F1 (8, 16, 0) j v) (8, 15, 0) b ∧ (k_ui A1 (0, g, j) 6 (nI a)) (0, g, b) 6 = (k_ui F1 (8, 16, 0) j v) (8, 16, 0) b ∧ ((k_ui F1 (8, 16, 0) j v) (8, 15, 0) b = -1 ∨ vp_in ((k_ui F1 (8, 16, 0) j v) (8, 15, 0) b) nC) ∧ k_bt 99 ((k_ui F1 (8, 16, 0) j v) (8, 16, 0) b)) ∧
        (∀ b, j + 1 ≤ b → ∀ q, (k_ui A1 (0, g, j) 6 (nI a)) (0, g, b) q = A (0, g, b) q) ∧ (∀ b, j + 1 ≤ b → (k_ui F1 (8, 16, 0) j v) (8, 15, 0) b = F (8, 15, 0) b ∧ (k_ui F1 (8, 16, 0) j v) (8, 16, 0) b = F (8, 16, 0) b) := by
      intro a v ha hv
      subst hv
      refine ⟨fun c hc => ?_, fun c hc q => ?_, fun c hc => ?_⟩
      · by_cases e : c = j
        · subst e
          rw [k_uj (show (5 : Nat) ≠ 6 by decide), k_uis, k_uis, k_uk (show ((8, 15, 0) : Ky) ≠ (8, 16, 0) by decide), a5, f15]
          exact ⟨rfl, rfl, el, ⟨a, ha, rfl⟩⟩
        · rw [k_uk (hne c e), k_uk (hne c e), k_uk (show ((8, 15, 0) : Ky) ≠ (8, 16, 0) by decide), k_uj e]
          exact i1 c (by omega)
      · rw [k_uk (hne c (by omega))]; exact i2 c (by omega) q
      · rw [k_uk (show ((8, 15, 0) : Ky) ≠ (8, 16, 0) by decide), k_uj (by omega)]
        exact i3 c (by omega)
    have finB : ¬ F (8, 37, 0) j = -1 → ∀ (a : Nat) (v : Int32), a ≤ 99 → v = nI a →
        (∀ b, b < j + 1 → (k_ui (k_ui A1 (0, g, j) 5 (F (8, 37, 0) j)) (0, g, j) 6 (nI a)) (0, g, b) 5 = (k_ui (k_ui F1 (8, 15, 0) j (F (8, 37, 0) j)) (8, 16, 0) j v) (8, 15, 0) b ∧ (k_ui (k_ui A1 (0, g, j) 5 (F (8, 37, 0) j)) (0, g, j) 6 (nI a)) (0, g, b) 6 = (k_ui (k_ui F1 (8, 15, 0) j (F (8, 37, 0) j)) (8, 16, 0) j v) (8, 16, 0) b ∧ ((k_ui (k_ui F1 (8, 15, 0) j (F (8, 37, 0) j)) (8, 16, 0) j v) (8, 15, 0) b = -1 ∨ vp_in ((k_ui (k_ui F1 (8, 15, 0) j (F (8, 37, 0) j)) (8, 16, 0) j v) (8, 15, 0) b) nC) ∧ k_bt 99 ((k_ui (k_ui F1 (8, 15, 0) j (F (8, 37, 0) j)) (8, 16, 0) j v) (8, 16, 0) b)) ∧
        (∀ b, j + 1 ≤ b → ∀ q, (k_ui (k_ui A1 (0, g, j) 5 (F (8, 37, 0) j)) (0, g, j) 6 (nI a)) (0, g, b) q = A (0, g, b) q) ∧ (∀ b, j + 1 ≤ b → (k_ui (k_ui F1 (8, 15, 0) j (F (8, 37, 0) j)) (8, 16, 0) j v) (8, 15, 0) b = F (8, 15, 0) b ∧ (k_ui (k_ui F1 (8, 15, 0) j (F (8, 37, 0) j)) (8, 16, 0) j v) (8, 16, 0) b = F (8, 16, 0) b) := by
      intro hn a v ha hv
      subst hv
      refine ⟨fun c hc => ?_, fun c hc q => ?_, fun c hc => ?_⟩
      · by_cases e : c = j
        · subst e
          rw [k_uj (show (5 : Nat) ≠ 6 by decide), k_uis, k_uis, k_uk (show ((8, 15, 0) : Ky) ≠ (8, 16, 0) by decide), k_uis, k_uis]
          exact ⟨rfl, rfl, pl, ⟨a, ha, rfl⟩⟩
        · rw [k_uk (hne c e), k_uk (hne c e), k_uk (hne c e), k_uk (hne c e), k_uk (show ((8, 15, 0) : Ky) ≠ (8, 16, 0) by decide), k_uj e, k_uj e, k_uk (show ((8, 16, 0) : Ky) ≠ (8, 15, 0) by decide)]
          exact i1 c (by omega)
      · rw [k_uk (hne c (by omega)), k_uk (hne c (by omega))]; exact i2 c (by omega) q
      · rw [k_uk (show ((8, 15, 0) : Ky) ≠ (8, 16, 0) by decide), k_uj (by omega), k_uj (by omega), k_uk (show ((8, 16, 0) : Ky) ≠ (8, 15, 0) by decide)]
        exact i3 c (by omega)
    have h01 := bt_01 pk
    by_cases z : F (8, 17, 0) j = 1
    · rw [if_pos (hcm.mpr z), if_pos z]
      refine ⟨fun c hc => ?_, fun c hc q => i2 c (by omega) q, fun c hc => i3 c (by omega)⟩
      by_cases e : c = j
      · subst e
        rw [a5, f15, a6, f16]
        exact ⟨rfl, rfl, el, ⟨hu, hhu, rfl⟩⟩
      · exact i1 c (by omega)
    · rw [if_neg (fun q => z (hcm.mp q)), if_neg z]
      by_cases z7 : F (8, 37, 0) j = -1
      · rw [if_pos z7, if_pos z7]
        rcases h01 with z8 | z8
        · rw [z8, if_pos rfl, if_neg (by decide)]
          split
          · exact finA _ _ (by omega) (h2 (by assumption))
          · exact finA _ _ (by omega) (h3 (by assumption))
        · rw [z8, if_neg (by decide), if_pos rfl]; exact finA 0 0 (by omega) rfl
      · rw [if_neg z7, if_neg z7]
        rcases h01 with z8 | z8
        · rw [z8, if_pos rfl, if_neg (by decide)]
          split
          · exact finB z7 _ _ (by omega) (h2 (by assumption))
          · exact finB z7 _ _ (by omega) (h3 (by assumption))
        · rw [z8, if_neg (by decide), if_pos rfl]; exact finB z7 0 0 (by omega) rfl
theorem p1_CR {g nC nB : Nat} {A F : MemI} (h : k_GR g nC nB nB A F) (hbu : ∀ c, c < nC → k_bt 54 (F (8, 40, 0) c)) : k_CR g nC nB (f_X2_pass1 A g 6) (f_X7_ps1 F nC) := by
  obtain ⟨i1, i2, i3⟩ := p1_rel h hbu nC (Nat.le_refl _)
  have h6 := h.1.1.1
  have ht : ∀ d, nC + d ≤ 6 → ∀ c, c < nC → ∀ q, (f_X2_pass1 A g (nC + d)) (1, g, c) q = (f_X2_pass1 A g nC) (1, g, c) q := by
    intro d
    induction d with
    | zero => intro _ c _ q; rfl
    | succ d ih =>
      intro hd c hc q
      have hne : ((1, g, c) : Ky) ≠ (1, g, nC + d) := by simp; omega
      rw [show nC + (d + 1) = (nC + d) + 1 from rfl, f_X2_pass1_s]
      unfold f_X1_endMorning
      split
      · exact ih (by omega) c hc q
      · split <;> (rw [k_uk hne, k_uk hne]; exact ih (by omega) c hc q)
  have ht6 : ∀ c, c < nC → ∀ q, (f_X2_pass1 A g 6) (1, g, c) q = (f_X2_pass1 A g nC) (1, g, c) q := by
    have := ht (6 - nC) (by omega)
    rw [show nC + (6 - nC) = 6 by omega] at this
    exact this
  obtain ⟨a0, ⟨b1, b2, b3, b4⟩, ⟨c1, c2⟩, d, e, f, p, r, z⟩ := h.1
  have k0 : ∀ b q, (f_X2_pass1 A g 6) (0, g, b) q = A (0, g, b) q := fun b q => p1_q (Or.inl (show (0 : Nat) ≠ 1 by decide)) 6
  have k2 : ∀ q, (f_X2_pass1 A g 6) (2, g, 0) q = A (2, g, 0) q := fun q => p1_q (Or.inl (show (2 : Nat) ≠ 1 by decide)) 6
  have k1 : ∀ c q, q ≠ 7 → q ≠ 8 → (f_X2_pass1 A g 6) (1, g, c) q = A (1, g, c) q := fun c q h7 h8 => p1_q (Or.inr ⟨h7, h8⟩) 6
  have m7 : ∀ q, (f_X7_ps1 F nC) (7, 0, 0) q = F (7, 0, 0) q := fun q => ps1_fr (by decide) (by decide) nC q
  have mo : ∀ n j, n ≠ 10 → n ≠ 11 → (f_X7_ps1 F nC) (8, n, 0) j = F (8, n, 0) j := fun n j h1 h2 => ps1_fr (by simpa using h1) (by simpa using h2) nC j
  refine ⟨a0, ⟨?_, ?_, ?_, ?_⟩, ⟨?_, ?_⟩, fun i hi => ?_, fun i hi => ?_, fun i hi hi6 => ?_, fun i hi => ?_, fun i hi hi6 => ?_, fun i hi => ?_⟩
  · rw [k2]; exact b1
  · rw [k2]; exact b2
  · rw [m7]; exact b3
  · rw [m7]; exact b4
  · rw [k2, m7]; exact c1
  · rw [k2, m7]; exact c2
  · rw [k1 i 0 (by decide) (by decide), k0]; exact d i hi
  · obtain ⟨x7, x8, y7, y8⟩ := i1 i hi
    obtain ⟨u1, u2⟩ := e i hi
    unfold k_cz at u1 ⊢
    unfold k_cr at u2 ⊢
    rw [ht6 i hi 7, ht6 i hi 8, x7, x8]
    rw [k1 i 1 (by decide) (by decide), k1 i 2 (by decide) (by decide), k1 i 3 (by decide) (by decide), k1 i 4 (by decide) (by decide), k1 i 5 (by decide) (by decide), k1 i 6 (by decide) (by decide), mo 12 i (by decide) (by decide), mo 6 i (by decide) (by decide), mo 7 i (by decide) (by decide), mo 8 i (by decide) (by decide), mo 9 i (by decide) (by decide)]
    exact ⟨⟨u1.1, u1.2.1, u1.2.2.1, u1.2.2.2.1, u1.2.2.2.2.1, u1.2.2.2.2.2.1, rfl, rfl⟩, ⟨u2.1, u2.2.1, u2.2.2.1, u2.2.2.2.1, u2.2.2.2.2.1, y7, y8⟩⟩
  · rw [k1 i 1 (by decide) (by decide)]; exact f i hi hi6
  · have hpp := p i hi
    unfold k_bz k_br at hpp ⊢
    rw [k0, k0, k0, k0, k0, k0, mo 17 i (by decide) (by decide), mo 13 i (by decide) (by decide), mo 14 i (by decide) (by decide), mo 15 i (by decide) (by decide), mo 16 i (by decide) (by decide)]
    exact hpp
  · rw [k0]; exact r i hi hi6
  · rw [k1 i 2 (by decide) (by decide), k0]; exact z i hi
theorem p2_CR {g nC nB : Nat} {A F : MemI} (h : k_CR g nC nB A F) (hp : ∀ b, b < nB → A (0, g, b) 7 = F (8, 37, 0) b ∧ A (0, g, b) 8 = F (8, 41, 0) b ∧ k_bt 1 (F (8, 41, 0) b) ∧ (F (8, 37, 0) b = -1 ∨ vp_in (F (8, 37, 0) b) nC)) : k_CR g nC nB (f_X2_pass2 A g 6) (f_X7_ps2 F nB) := by
  obtain ⟨i1, i2, i3⟩ := p2_rel h hp nB (Nat.le_refl _)
  have h6 := h.1.2
  have ht : ∀ d, nB + d ≤ 6 → (∀ b q, (f_X2_pass2 A g (nB + d)) (0, g, b) q = (f_X2_pass2 A g nB) (0, g, b) q) := by
    intro d
    induction d with
    | zero => intro _ b q; rfl
    | succ d ih =>
      intro hd b q
      have hc : f_X0_comes (f_X2_pass2 A g (nB + d)) g (nB + d) = 0 := by
        unfold f_X0_comes
        rw [ih (by omega), i2 (nB + d) (by omega) 1, if_pos (h.2.2.2.2.2.2.2.1 (nB + d) (by omega) (by omega))]
      rw [show nB + (d + 1) = (nB + d) + 1 from rfl, f_X2_pass2_s, eB_eq, if_pos hc]
      exact ih (by omega) b q
  have ht6 : ∀ b q, (f_X2_pass2 A g 6) (0, g, b) q = (f_X2_pass2 A g nB) (0, g, b) q := by
    have := ht (6 - nB) (by omega)
    rw [show nB + (6 - nB) = 6 by omega] at this
    exact this
  obtain ⟨a0, ⟨b1, b2, b3, b4⟩, ⟨c1, c2⟩, d, e, f, p, r, z⟩ := h
  have k1 : ∀ b q, (f_X2_pass2 A g 6) (1, g, b) q = A (1, g, b) q := fun b q => p2_q (Or.inl (show (1 : Nat) ≠ 0 by decide)) 6
  have k2 : ∀ q, (f_X2_pass2 A g 6) (2, g, 0) q = A (2, g, 0) q := fun q => p2_q (Or.inl (show (2 : Nat) ≠ 0 by decide)) 6
  have k0 : ∀ c q, q ≠ 5 → q ≠ 6 → (f_X2_pass2 A g 6) (0, g, c) q = A (0, g, c) q := fun c q h7 h8 => p2_q (Or.inr ⟨h7, h8⟩) 6
  have m7 : ∀ q, (f_X7_ps2 F nB) (7, 0, 0) q = F (7, 0, 0) q := fun q => ps2_fr (by decide) (by decide) nB q
  have mo : ∀ n j, n ≠ 15 → n ≠ 16 → (f_X7_ps2 F nB) (8, n, 0) j = F (8, n, 0) j := fun n j h1 h2 => ps2_fr (by simpa using h1) (by simpa using h2) nB j
  refine ⟨a0, ⟨?_, ?_, ?_, ?_⟩, ⟨?_, ?_⟩, fun i hi => ?_, fun i hi => ?_, fun i hi hi6 => ?_, fun i hi => ?_, fun i hi hi6 => ?_, fun i hi => ?_⟩
  · rw [k2]; exact b1
  · rw [k2]; exact b2
  · rw [m7]; exact b3
  · rw [m7]; exact b4
  · rw [k2, m7]; exact c1
  · rw [k2, m7]; exact c2
  · rw [k0 i 0 (by decide) (by decide), k1]; exact d i hi
  · have he := e i hi
    unfold k_cz k_cr at he ⊢
    rw [k1, k1, k1, k1, k1, k1, k1, k1, mo 6 i (by decide) (by decide), mo 7 i (by decide) (by decide), mo 8 i (by decide) (by decide), mo 9 i (by decide) (by decide), mo 10 i (by decide) (by decide), mo 11 i (by decide) (by decide), mo 12 i (by decide) (by decide)]
    exact he
  · rw [k1]; exact f i hi hi6
  · obtain ⟨x5, x6, y5, y6⟩ := i1 i hi
    obtain ⟨u1, u2⟩ := p i hi
    unfold k_bz at u1 ⊢
    unfold k_br at u2 ⊢
    rw [ht6 i 5, ht6 i 6, x5, x6]
    rw [k0 i 1 (by decide) (by decide), k0 i 2 (by decide) (by decide), k0 i 3 (by decide) (by decide), k0 i 4 (by decide) (by decide), mo 17 i (by decide) (by decide), mo 13 i (by decide) (by decide), mo 14 i (by decide) (by decide)]
    exact ⟨⟨u1.1, u1.2.1, u1.2.2.1, u1.2.2.2.1, rfl, rfl⟩, ⟨u2.1, u2.2.1, u2.2.2.1, y5, y6⟩⟩
  · rw [k0 i 1 (by decide) (by decide)]; exact r i hi hi6
  · rw [k0 i 2 (by decide) (by decide), k1]; exact z i hi
/-- a morning in truth: the same count, the same city behind it -/
theorem pass_CR {g nC nB : Nat} {mi mj : MemI} (h : k_CR g nC nB mi mj) : (f_X2_passMorning mi g).1 = (f_X7_passes mj nC nB) (7, 0, 0) 42 ∧ k_CR g nC nB (f_X2_passMorning mi g).2 (f_X7_passes mj nC nB) := by
  obtain ⟨g1, g2, g3⟩ := go_res h
  have p1 := p1_CR g1 (fun c hc => go_bu h hc)
  have p2 := p2_CR p1 (fun b hb => by
    have q0 : ∀ q, (f_X2_pass1 (f_X2_goBy mi g) g 6) (0, g, b) q = (f_X2_goBy mi g) (0, g, b) q := fun q => p1_q (Or.inl (show (0 : Nat) ≠ 1 by decide)) 6
    rw [q0, q0, ps1_fr (by decide) (by decide), ps1_fr (by decide) (by decide)]
    exact g1.2.2.1 b hb)
  refine ⟨?_, ?_⟩
  · unfold f_X2_passMorning f_X7_passes
    rw [k_uj (by decide), ps2_fr (by decide) (by decide), ps1_fr (by decide) (by decide)]
    exact g2
  · unfold f_X2_passMorning f_X7_passes
    obtain ⟨a0, ⟨b1, b2, b3, b4⟩, ⟨c1, c2⟩, d, e, f, p, r, z⟩ := p2
    dsimp only
    generalize f_X2_pass2 (f_X2_pass1 (f_X2_goBy mi g) g 6) g 6 = A at *
    generalize f_X7_ps2 (f_X7_ps1 (f_X7_goes mj nC nB) nC) nB = F at *
    have n1 : ∀ i, ((1, g, i) : Ky) ≠ (2, g, 0) := fun i => by simp
    have n0 : ∀ i, ((0, g, i) : Ky) ≠ (2, g, 0) := fun i => by simp
    refine ⟨a0, ⟨?_, ?_, ?_, ?_⟩, ⟨?_, ?_⟩, fun i hi => ?_, fun i hi => ?_, fun i hi hi6 => ?_, fun i hi => ?_, fun i hi hi6 => ?_, fun i hi => ?_⟩
    · rw [k_uj (by decide)]; exact b1
    · rw [k_uj (by decide)]; exact b2
    · rw [k_uj (by decide)]; exact b3
    · rw [k_uj (by decide)]; exact b4
    · rw [k_uis, k_uis, c1]
    · rw [k_uj (by decide), k_uj (by decide)]; exact c2
    · rw [k_uk (n1 i), k_uk (n0 i)]; exact d i hi
    · have he := e i hi
      unfold k_cz k_cr at he ⊢
      rw [k_uk (n1 i), k_uk (n1 i), k_uk (n1 i), k_uk (n1 i), k_uk (n1 i), k_uk (n1 i), k_uk (n1 i), k_uk (n1 i)]
      simp only [k_uk (show ((8, 6, 0) : Ky) ≠ (7, 0, 0) by decide), k_uk (show ((8, 7, 0) : Ky) ≠ (7, 0, 0) by decide), k_uk (show ((8, 8, 0) : Ky) ≠ (7, 0, 0) by decide), k_uk (show ((8, 9, 0) : Ky) ≠ (7, 0, 0) by decide), k_uk (show ((8, 10, 0) : Ky) ≠ (7, 0, 0) by decide), k_uk (show ((8, 11, 0) : Ky) ≠ (7, 0, 0) by decide), k_uk (show ((8, 12, 0) : Ky) ≠ (7, 0, 0) by decide)]
      exact he
    · rw [k_uk (n1 i)]; exact f i hi hi6
    · have he := p i hi
      unfold k_bz k_br at he ⊢
      rw [k_uk (n0 i), k_uk (n0 i), k_uk (n0 i), k_uk (n0 i), k_uk (n0 i), k_uk (n0 i)]
      simp only [k_uk (show ((8, 13, 0) : Ky) ≠ (7, 0, 0) by decide), k_uk (show ((8, 14, 0) : Ky) ≠ (7, 0, 0) by decide), k_uk (show ((8, 15, 0) : Ky) ≠ (7, 0, 0) by decide), k_uk (show ((8, 16, 0) : Ky) ≠ (7, 0, 0) by decide), k_uk (show ((8, 17, 0) : Ky) ≠ (7, 0, 0) by decide)]
      exact he
    · rw [k_uk (n0 i)]; exact r i hi hi6
    · rw [k_uk (n1 i), k_uk (n0 i)]; exact z i hi
