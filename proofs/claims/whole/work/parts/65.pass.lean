/-! level 2: what comes of a morning; a morning in truth -/
theorem bt_w {a b : Nat} {x : Int32} (h : k_bt a x) (hab : a ≤ b) : k_bt b x := by
  obtain ⟨m, h1, h2⟩ := h
  exact ⟨m, by omega, h2⟩
theorem GR_ext {g nC nB j : Nat} {A A' F : MemI} (h : k_GR g nC nB j A F) (h1 : ∀ c q, A' (1, g, c) q = A (1, g, c) q) (h2 : ∀ b q, b < j → A' (0, g, b) q = A (0, g, b) q) (hC : k_sC g A A') : k_GR g nC nB j A' F := by
  obtain ⟨c1, c2, c3, c4, c5, c6⟩ := h
  refine ⟨CR_ext c1 hC sM_rf, fun c hc => ?_, fun b hb => ?_, ?_, ?_, fun c hc => ?_⟩
  · rw [h1, h1, h1, h1]; exact c2 c hc
  · rw [h2 b _ hb, h2 b _ hb]; exact c3 b hb
  · rw [cU_ext j (fun b hb => ⟨h2 b 1 hb, h2 b 2 hb, h2 b 8 hb⟩)]; exact c4
  · rw [kB_ext j (fun b hb => ⟨h2 b 0 hb, h2 b 8 hb⟩)]; exact c5
  · rw [h1, h1]; exact c6 c hc
theorem GR_tail {g nC nB : Nat} {A F : MemI} (h : k_GR g nC nB nB (f_X2_goBy2 A g nB) F) : ∀ d, nB + d ≤ 6 → k_GR g nC nB nB (f_X2_goBy2 A g (nB + d)) F ∧ ∀ b, nB ≤ b → b < nB + d → (f_X2_goBy2 A g (nB + d)) (0, g, b) 8 = 0 := by
  intro d
  induction d with
  | zero => intro _; exact ⟨h, fun b h1 h2 => by omega⟩
  | succ d ih =>
    intro hd
    obtain ⟨i1, i2⟩ := ih (by omega)
    have hC0 : k_sC g (f_X2_goBy2 A g (nB + d)) (k_ui (k_ui (f_X2_goBy2 A g (nB + d)) (0, g, nB + d) 7 (-1)) (0, g, nB + d) 8 0) := sC_ofT (fun kk qq hk => (k_frT hk rfl).trans (k_frT hk rfl))
    have hcm := CR_away (CR_ext i1.1 hC0 sM_rf) (show nB ≤ nB + d by omega) (by omega)
    rw [show nB + (d + 1) = (nB + d) + 1 from rfl, f_X2_goBy2_s, if_pos hcm]
    refine ⟨GR_ext i1 (fun c q => (k_uk k_ne10).trans (k_uk k_ne10)) (fun b q hb => (k_uk (by simp; omega)).trans (k_uk (by simp; omega))) hC0, fun b h1 h2 => ?_⟩
    by_cases e : b = nB + d
    · subst e; exact k_uis
    · have hne : ((0, g, b) : Ky) ≠ (0, g, nB + d) := by simp [e]
      rw [k_uk hne, k_uk hne]; exact i2 b h1 (by omega)
/-- the morning that is looked at: class and model say the same of it -/
theorem go_res {g nC nB : Nat} {mi mj : MemI} (h : k_CR g nC nB mi mj) : k_GR g nC nB nB (f_X2_goBy mi g) (f_X7_goes mj nC nB) ∧ nI (f_X2_countUnkept (f_X2_goBy mi g) g 6) = (f_X7_goes mj nC nB) (7, 0, 0) 42 ∧ f_X2_keptBits (f_X2_goBy mi g) g 6 = (f_X7_goes mj nC nB) (7, 0, 0) 43 := by
  have hB6 := h.1.2
  obtain ⟨t1, t2⟩ := GR_tail (GR_go h nB (Nat.le_refl _)) (6 - nB) (by omega)
  rw [show nB + (6 - nB) = 6 by omega] at t1 t2
  have t1 : k_GR g nC nB nB (f_X2_goBy mi g) (f_X7_goes mj nC nB) := t1
  have t2 : ∀ b, nB ≤ b → b < 6 → (f_X2_goBy mi g) (0, g, b) 8 = 0 := t2
  have e1 : f_X2_countUnkept (f_X2_goBy mi g) g 6 = f_X2_countUnkept (f_X2_goBy mi g) g nB := k_tail6 hB6 (fun j h1 h2 => by rw [f_X2_countUnkept_s, if_pos (CR_away t1.1 h1 h2)])
  have e2 : f_X2_keptBits (f_X2_goBy mi g) g 6 = f_X2_keptBits (f_X2_goBy mi g) g nB := k_tail6 hB6 (fun j h1 h2 => by rw [f_X2_keptBits_s, if_pos (t2 j h1 h2)])
  refine ⟨t1, ?_, ?_⟩
  · rw [e1]; exact t1.2.2.2.1.symm
  · obtain ⟨x, -, x1, x2⟩ := t1.2.2.2.2.1
    rw [e2]; exact x2.trans x1.symm
theorem sC_goBy {g : Nat} {mi : MemI} : k_sC g mi (f_X2_goBy mi g) := sC_ofT (fun kk qq hk => ft_X2_goBy hk)
theorem sM_goes {nC nB : Nat} {mj : MemI} : k_sM mj (f_X7_goes mj nC nB) := sM_ofZ (fun kk qq hk => fz_X7_goes hk)
/-- the burdens are small -/
theorem go2_bu {nC nB : Nat} {F : MemI} (hn : ∀ b, b < nB → k_bt 9 (F (8, 13, 0) b)) (h0 : ∀ c, c < nC → F (8, 40, 0) c = 0) : ∀ j, j ≤ nB → ∀ c, c < nC → k_bt (9 * j) ((f_X7_go2 F nC j) (8, 40, 0) c) := by
  intro j
  induction j with
  | zero => intro _ c hc; exact ⟨0, by omega, h0 c hc⟩
  | succ j ih =>
    intro hj c hc
    obtain ⟨y, hy, ey⟩ := ih (by omega) c hc
    have e13 : (f_X7_go2 F nC j) (8, 13, 0) j = F (8, 13, 0) j := fz_X7_go2 rfl
    obtain ⟨w, hw, ew⟩ := hn j (by omega)
    rw [f_X7_go2_s]
    generalize f_X7_picksBy (k_ui (k_ui (f_X7_go2 F nC j) (8, 37, 0) j (-1)) (8, 41, 0) j 0) j (f_X7_go2 F nC j (8, 14, 0) j) nC = p
    have hs : ∀ (a b d e : MemI) (v : Int32), True := fun _ _ _ _ _ => trivial
    by_cases e : c = p
    · subst e
      repeat' split
      all_goals repeat first | rw [k_uk (by decide)] | rw [k_uis]
      all_goals first
        | exact ⟨y, by omega, ey⟩
        | exact ⟨y + w, by omega, by rw [ey, e13, ew, nI_add]⟩
    · repeat' split
      all_goals repeat first | rw [k_uk (by decide)] | rw [k_uj e]
      all_goals exact ⟨y, by omega, ey⟩
theorem go_bu {g nC nB : Nat} {mi mj : MemI} (h : k_CR g nC nB mi mj) {c : Nat} (hc : c < nC) : k_bt 54 ((f_X7_goes mj nC nB) (8, 40, 0) c) := by
  have hB6 := h.1.2
  refine bt_w (go2_bu (nB := nB) (fun b hb => ?_) (fun c hc => (go1_at _ nC c hc).2.2.2) nB (Nat.le_refl _) c hc) (by omega)
  obtain ⟨m, -, h2, h3⟩ := (h.2.2.2.2.2.2.1 b hb).2.2.1
  refine ⟨m, h2, ?_⟩
  rw [fz_X7_go1 (kk := (8, 13, 0)) rfl, k_uk (by decide), k_uk (by decide)]
  exact h3
/-! a morning in truth -/
theorem k_wdn : ∀ w, w ≤ 99 → k_mx 0 (nI w - 2) = nI (w - 2) ∧ (2 ≤ nI w → nI w - 2 = nI (w - 2)) ∧ (¬ 2 ≤ nI w → (0 : Int32) = nI (w - 2)) := by decide +kernel
theorem k_wup : ∀ z, z ≤ 160 → k_mn 99 (nI z) = nI (min 99 z) ∧ (nI z ≤ 99 → nI z = nI (min 99 z)) ∧ (¬ nI z ≤ 99 → (99 : Int32) = nI (min 99 z)) := by decide +kernel
theorem k_pup : ∀ p, p ≤ 9 → k_mn 9 (nI p + 1) = nI (min 9 (p + 1)) ∧ (9 ≤ nI p → nI p + 0 = nI (min 9 (p + 1))) ∧ (¬ 9 ≤ nI p → nI p + 1 = nI (min 9 (p + 1))) := by decide +kernel
theorem k_hup : ∀ h, h ≤ 99 → k_mn 99 (nI h + 1) = nI (min 99 (h + 1)) ∧ (99 ≤ nI h → (99 : Int32) = nI (min 99 (h + 1))) ∧ (¬ 99 ≤ nI h → nI h + 1 = nI (min 99 (h + 1))) := by decide +kernel
theorem GR_pick {g nC nB : Nat} {A F : MemI} (h : k_GR g nC nB nB A F) {c : Nat} (hc : c < nC) : A (1, g, c) 10 = 0 ↔ F (8, 38, 0) c = 0 := by
  obtain ⟨x, hx, x1, -, x3, -⟩ := h.2.2.2.2.2 c hc
  have hB := h.1.1.2
  rw [x1, ← (h.2.1 c hc).2.1, ← x3]
  have h64 : x < 64 := Nat.lt_of_lt_of_le hx (Nat.pow_le_pow_right (by decide) hB)
  exact ⟨fun q => nI_inj6 (b := 0) (by omega) (by decide) q, fun q => by rw [q]; rfl⟩
theorem eM_eq (mi : MemI) (g i : Nat) : f_X1_endMorning mi g i = if mi (1, g, i) 10 = 0 then k_ui (k_ui mi (1, g, i) 7 (k_mx 0 (mi (1, g, i) 7 - 2))) (1, g, i) 8 (k_mn 9 (mi (1, g, i) 8 + 1)) else k_ui (k_ui mi (1, g, i) 7 (k_mn 99 (mi (1, g, i) 7 + mi (1, g, i) 13))) (1, g, i) 8 0 := by
  unfold f_X1_endMorning
  rw [k_uj (show (8 : Nat) ≠ 7 by decide)]
theorem p1_rel {g nC nB : Nat} {A F : MemI} (h : k_GR g nC nB nB A F) (hbu : ∀ c, c < nC → k_bt 54 (F (8, 40, 0) c)) : ∀ j, j ≤ nC →
    (∀ c, c < j → (f_X2_pass1 A g j) (1, g, c) 7 = (f_X7_ps1 F j) (8, 10, 0) c ∧ (f_X2_pass1 A g j) (1, g, c) 8 = (f_X7_ps1 F j) (8, 11, 0) c ∧ k_bt 99 ((f_X7_ps1 F j) (8, 10, 0) c) ∧ k_bt 9 ((f_X7_ps1 F j) (8, 11, 0) c)) ∧
    (∀ c, j ≤ c → ∀ q, (f_X2_pass1 A g j) (1, g, c) q = A (1, g, c) q) ∧ (∀ c, j ≤ c → (f_X7_ps1 F j) (8, 10, 0) c = F (8, 10, 0) c ∧ (f_X7_ps1 F j) (8, 11, 0) c = F (8, 11, 0) c) := by
  intro j
  induction j with
  | zero => intro _; exact ⟨fun c hc => absurd hc (Nat.not_lt_zero c), fun _ _ _ => rfl, fun _ _ => ⟨rfl, rfl⟩⟩
  | succ j ih =>
    intro hj
    obtain ⟨i1, i2, i3⟩ := ih (by omega)
    have hpk := GR_pick h (show j < nC by omega)
    obtain ⟨⟨-, -, -, -, -, -, e7, e8⟩, -, -, -, -, -, ⟨w, hw, ew⟩, ⟨p, hp, ep⟩⟩ := h.1.2.2.2.2.1 j (by omega)
    obtain ⟨y, hy, ey⟩ := hbu j (by omega)
    have hm := h.2.1 j (by omega)
    have a10 := i2 j (Nat.le_refl _) 10
    have a7 := (i2 j (Nat.le_refl _) 7).trans (e7.trans ew)
    have a8 := (i2 j (Nat.le_refl _) 8).trans (e8.trans ep)
    have a13 := (i2 j (Nat.le_refl _) 13).trans (hm.2.2.2.trans ey)
    obtain ⟨f10, f11⟩ := i3 j (Nat.le_refl _)
    have f38 : (f_X7_ps1 F j) (8, 38, 0) j = F (8, 38, 0) j := ps1_fr (by decide) (by decide) j j
    have f40 : (f_X7_ps1 F j) (8, 40, 0) j = F (8, 40, 0) j := ps1_fr (by decide) (by decide) j j
    rw [ew] at f10
    rw [ep] at f11
    rw [ey] at f40
    rw [f_X2_pass1_s, f_X7_ps1_s, eM_eq, a10, a7, a8, a13, f38, f10, f11, f40]
    generalize f_X2_pass1 A g j = A1 at *
    generalize f_X7_ps1 F j = F1 at *
    obtain ⟨w1, w2, w3⟩ := k_wdn w hw
    obtain ⟨p1, p2, p3⟩ := k_pup p hp
    rw [nI_add]
    obtain ⟨u1, u2, u3⟩ := k_wup (w + y) (by omega)
    rw [w1, p1, u1]
    have hne : ∀ c, c ≠ j → ((1, g, c) : Ky) ≠ (1, g, j) := fun c hc => by simp [hc]
    have fin : ∀ (a b : Nat) (v v' : Int32), a ≤ 99 → b ≤ 9 → v = nI a → v' = nI b →
        (∀ c, c < j + 1 → (k_ui (k_ui A1 (1, g, j) 7 (nI a)) (1, g, j) 8 (nI b)) (1, g, c) 7 = (k_ui (k_ui F1 (8, 10, 0) j v) (8, 11, 0) j v') (8, 10, 0) c ∧ (k_ui (k_ui A1 (1, g, j) 7 (nI a)) (1, g, j) 8 (nI b)) (1, g, c) 8 = (k_ui (k_ui F1 (8, 10, 0) j v) (8, 11, 0) j v') (8, 11, 0) c ∧ k_bt 99 ((k_ui (k_ui F1 (8, 10, 0) j v) (8, 11, 0) j v') (8, 10, 0) c) ∧ k_bt 9 ((k_ui (k_ui F1 (8, 10, 0) j v) (8, 11, 0) j v') (8, 11, 0) c)) ∧
        (∀ c, j + 1 ≤ c → ∀ q, (k_ui (k_ui A1 (1, g, j) 7 (nI a)) (1, g, j) 8 (nI b)) (1, g, c) q = A (1, g, c) q) ∧ (∀ c, j + 1 ≤ c → (k_ui (k_ui F1 (8, 10, 0) j v) (8, 11, 0) j v') (8, 10, 0) c = F (8, 10, 0) c ∧ (k_ui (k_ui F1 (8, 10, 0) j v) (8, 11, 0) j v') (8, 11, 0) c = F (8, 11, 0) c) := by
      intro a b v v' ha hb hv hv'
      subst hv; subst hv'
      refine ⟨fun c hc => ?_, fun c hc q => ?_, fun c hc => ?_⟩
      · by_cases e : c = j
        · subst e
          rw [k_uj (show (7 : Nat) ≠ 8 by decide), k_uis, k_uis, k_uk (show ((8, 10, 0) : Ky) ≠ (8, 11, 0) by decide), k_uis, k_uis]
          exact ⟨rfl, rfl, ⟨a, ha, rfl⟩, ⟨b, hb, rfl⟩⟩
        · rw [k_uk (hne c e), k_uk (hne c e), k_uk (hne c e), k_uk (hne c e), k_uk (show ((8, 10, 0) : Ky) ≠ (8, 11, 0) by decide), k_uj e, k_uj e, k_uk (show ((8, 11, 0) : Ky) ≠ (8, 10, 0) by decide)]
          exact i1 c (by omega)
      · rw [k_uk (hne c (by omega)), k_uk (hne c (by omega))]; exact i2 c (by omega) q
      · rw [k_uk (show ((8, 10, 0) : Ky) ≠ (8, 11, 0) by decide), k_uj (by omega), k_uj (by omega), k_uk (show ((8, 11, 0) : Ky) ≠ (8, 10, 0) by decide)]
        exact i3 c (by omega)
    by_cases z : F (8, 38, 0) j = 0
    · rw [if_pos (hpk.mpr z), if_pos z]
      repeat' split
      · exact fin _ _ _ _ (by omega) (by omega) (w2 (by assumption)) (p2 (by assumption))
      · exact fin _ _ _ _ (by omega) (by omega) (w2 (by assumption)) (p3 (by assumption))
      · exact fin _ _ _ _ (by omega) (by omega) (w3 (by assumption)) (p2 (by assumption))
      · exact fin _ _ _ _ (by omega) (by omega) (w3 (by assumption)) (p3 (by assumption))
    · rw [if_neg (fun q => z (hpk.mp q)), if_neg z]
      split
      · exact fin _ 0 _ 0 (by omega) (by omega) (u2 (by assumption)) rfl
      · exact fin _ 0 _ 0 (by omega) (by omega) (u3 (by assumption)) rfl
