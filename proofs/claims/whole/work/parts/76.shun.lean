/-! level 2: the heart to shun -/
theorem sxm_s6 {n c : Nat} {mj F : MemI} {v : Int32} (h : k_sxm n c mj F) : k_s6 (k_ui mj (8, n, 0) c v) (k_ui F (8, n, 0) c v) := by
  refine ⟨fun n' j a b d => ?_, fun q hq => (k_uk (by simp)).trans ((h.2 q hq).trans (k_uk (by simp)).symm)⟩
  by_cases w : n' = n
  · subst w
    by_cases e : j = c
    · subst e; rw [k_uis, k_uis]
    · rw [k_uj e, k_uj e]; exact h.1 _ _ a b d (fun z => e z.2)
  · rw [k_uk (k_keyne w), k_uk (k_keyne w)]; exact h.1 _ _ a b d (fun z => w z.1)
/-- is not picked with heart h -/
def k_np (c nC nB : Nat) (mj : MemI) (hh : Nat) : Prop := (f_X7_goes (k_ui mj (8, 9, 0) c (nI hh)) nC nB) (8, 38, 0) c = 0
def k_lst (P : Nat → Prop) (n : Nat) (r : Int32) : Prop := (r = -1 ∧ ∀ i, i < n → ¬ P i) ∨ ∃ i, i < n ∧ r = nI i ∧ P i ∧ ∀ k, i < k → k < n → ¬ P k
def k_fst (P : Nat → Prop) (j n : Nat) (r : Int32) : Prop := (r = -1 ∧ ∀ i, j ≤ i → i < n → P i) ∨ ∃ i, j ≤ i ∧ i < n ∧ r = nI i ∧ ¬ P i ∧ ∀ k, j ≤ k → k < i → P k
theorem lst_un {P : Nat → Prop} {n : Nat} {r s : Int32} (h1 : k_lst P n r) (h2 : k_lst P n s) : r = s := by
  rcases h1 with ⟨a1, a2⟩ | ⟨i, a1, a2, a3, a4⟩ <;> rcases h2 with ⟨b1, b2⟩ | ⟨k, b1, b2, b3, b4⟩
  · rw [a1, b1]
  · exact absurd b3 (a2 k b1)
  · exact absurd a3 (b2 i a1)
  · rcases Nat.lt_trichotomy i k with q | q | q
    · exact absurd b3 (a4 k q b1)
    · rw [a2, b2, q]
    · exact absurd a3 (b4 i q a1)
theorem fst_un {P : Nat → Prop} {j n : Nat} {r s : Int32} (h1 : k_fst P j n r) (h2 : k_fst P j n s) : r = s := by
  rcases h1 with ⟨a1, a2⟩ | ⟨i, a0, a1, a2, a3, a4⟩ <;> rcases h2 with ⟨b1, b2⟩ | ⟨k, b0, b1, b2, b3, b4⟩
  · rw [a1, b1]
  · exact absurd (a2 k b0 b1) b3
  · exact absurd (b2 i a0 a1) a3
  · rcases Nat.lt_trichotomy i k with q | q | q
    · exact absurd (b4 i a0 q) a3
    · rw [a2, b2, q]
    · exact absurd (a4 k b0 q) b3
/-- the class: with a heart -/
theorem heart_C {c nC nB hh : Nat} {m mj : MemI} {cz v : Int32} (w : vp_in cz nC) (hc : c = cz.toNatClampNeg) (h20 : hh ≤ 20) (h : k_CR 1 nC nB m (k_ui mj (8, 9, 0) c v)) : (((f_X2_isPickedWithHeart m 1 cz (nI hh)).1 = 0 ∧ k_np c nC nB mj hh) ∨ ((f_X2_isPickedWithHeart m 1 cz (nI hh)).1 = 1 ∧ ¬ k_np c nC nB mj hh)) ∧ k_CR 1 nC nB (f_X2_isPickedWithHeart m 1 cz (nI hh)).2 (k_ui mj (8, 9, 0) c (nI hh)) := by
  have hb := k_clamp w
  rw [← hc] at hb
  have h6 := h.1.1
  have hB := h.1.2
  have c1 := CR_c6 (v := nI hh) h hb ⟨hh, h20, rfl⟩
  have c2 : k_CR 1 nC nB (k_ui m (1, 1, c) 6 (nI hh)) (k_ui mj (8, 9, 0) c (nI hh)) := by
    refine CR_ext6 c1 sC_rf ⟨fun n' j a b d => ?_, fun q hq => (k_uk (by simp)).trans ((k_uk (by simp)).trans (k_uk (by simp))).symm⟩
    by_cases w : n' = 9
    · subst w
      by_cases e : j = c
      · subst e; rw [k_uis, k_uis]
      · rw [k_uj e, k_uj e, k_uj e]
    · rw [k_uk (k_keyne w), k_uk (k_keyne w), k_uk (k_keyne w)]
  obtain ⟨g1, -⟩ := go_res c2
  have e11 := (g1.2.1 _ hb).2.1
  obtain ⟨x, x0, x1, -, x2, -⟩ := g1.2.2.2.2.2 _ hb
  have x64 : x < 64 := Nat.lt_of_lt_of_le x0 (Nat.pow_le_pow_right (by decide) (hB : nB ≤ 6))
  unfold f_X2_isPickedWithHeart
  rw [cA_eq h w, ← hc, if_pos (show c < 6 by omega)]
  have c3 := CR_ext c2 (sC_goBy (g := 1)) sM_rf
  by_cases z : (f_X2_goBy (k_ui m (1, 1, c) 6 (nI hh)) 1) (1, 1, c) 10 = 0
  · rw [if_pos z]
    dsimp only
    refine ⟨Or.inl ⟨rfl, ?_⟩, c3⟩
    unfold k_np
    rw [← e11]
    exact x2.mp (nI_inj6 (by omega) (b := 0) (by decide) (x1.symm.trans z))
  · rw [if_neg z]
    dsimp only
    refine ⟨Or.inr ⟨rfl, ?_⟩, c3⟩
    unfold k_np
    rw [← e11]
    intro y
    exact z (by rw [x1, x2.mpr y]; rfl)
theorem k_20m : ∀ j, j < 21 → (20 : Int32) - nI j = nI (20 - j) := by decide +kernel
theorem shun_0 {c nC nB : Nat} {mj : MemI} {cz : Int32} (w : vp_in cz nC) (hc : c = cz.toNatClampNeg) : ∀ u j m v, u + j = 21 → k_CR 1 nC nB m (k_ui mj (8, 9, 0) c v) → k_lst (k_np c nC nB mj) u (f_X6_shR cz 0 u j m).1 := by
  intro u
  induction u with
  | zero => intro j m v _ _; exact Or.inl ⟨rfl, fun i hi => absurd hi (Nat.not_lt_zero i)⟩
  | succ u ih =>
    intro j m v e h
    rw [f_X6_shR, if_pos rfl, if_neg (show ¬ (0 : Int32) = 1 by decide), k_20m j (by omega), show 20 - j = u by omega]
    obtain ⟨p, p2⟩ := heart_C (hh := u) w hc (by omega) h
    rcases p with ⟨p0, p1⟩ | ⟨p0, p1⟩
    · rw [if_pos p0]
      exact Or.inr ⟨u, Nat.lt_succ_self u, rfl, p1, fun k k1 k2 => by omega⟩
    · rw [if_neg (show ¬ (f_X2_isPickedWithHeart m 1 cz (nI u)).1 = 0 by rw [p0]; decide)]
      rcases ih (j + 1) _ _ (by omega) p2 with ⟨r1, r2⟩ | ⟨i, r0, r1, r2, r3⟩
      · refine Or.inl ⟨r1, fun i hi => ?_⟩
        rcases Nat.lt_or_ge i u with q | q
        · exact r2 i q
        · rw [show i = u by omega]; exact p1
      · refine Or.inr ⟨i, by omega, r1, r2, fun k k1 k2 => ?_⟩
        rcases Nat.lt_or_ge k u with q | q
        · exact r3 k k1 q
        · rw [show k = u by omega]; exact p1
theorem shun_1 {c nC nB : Nat} {mj : MemI} {cz : Int32} (w : vp_in cz nC) (hc : c = cz.toNatClampNeg) : ∀ u j m v, u + j = 21 → k_CR 1 nC nB m (k_ui mj (8, 9, 0) c v) → k_fst (k_np c nC nB mj) j 21 (f_X6_shR cz 1 u j m).1 := by
  intro u
  induction u with
  | zero => intro j m v e _; exact Or.inl ⟨rfl, fun i h1 h2 => by omega⟩
  | succ u ih =>
    intro j m v e h
    rw [f_X6_shR, if_neg (show ¬ (1 : Int32) = 0 by decide), if_pos rfl]
    obtain ⟨p, p2⟩ := heart_C (hh := j) w hc (by omega) h
    rcases p with ⟨p0, p1⟩ | ⟨p0, p1⟩
    · rw [if_neg (show ¬ (f_X2_isPickedWithHeart m 1 cz (nI j)).1 = 1 by rw [p0]; decide)]
      rcases ih (j + 1) _ _ (by omega) p2 with ⟨r1, r2⟩ | ⟨i, r00, r0, r1, r2, r3⟩
      · refine Or.inl ⟨r1, fun i h1 h2 => ?_⟩
        rcases Nat.lt_or_ge j i with q | q
        · exact r2 i q h2
        · rw [show i = j by omega]; exact p1
      · refine Or.inr ⟨i, by omega, r0, r1, r2, fun k k1 k2 => ?_⟩
        rcases Nat.lt_or_ge j k with q | q
        · exact r3 k q k2
        · rw [show k = j by omega]; exact p1
    · rw [if_pos p0]
      exact Or.inr ⟨j, Nat.le_refl _, by omega, rfl, p1, fun k k1 k2 => by omega⟩
theorem shun_M {c nC nB : Nat} {T mj : MemI} {cz : Int32} (w : vp_in cz nC) (hc : c = cz.toNatClampNeg) (t0 : k_CR 1 nC nB T mj) : ∀ n, n ≤ 21 → k_sxm 9 c mj (f_X7_shL mj cz nC nB n).2.2 ∧ k_lst (k_np c nC nB mj) n (f_X7_shL mj cz nC nB n).1 ∧ k_fst (k_np c nC nB mj) 0 n (f_X7_shL mj cz nC nB n).2.1 := by
  have hb := k_clamp w
  rw [← hc] at hb
  intro n
  induction n with
  | zero => intro _; exact ⟨sxm_rf, Or.inl ⟨rfl, fun i hi => absurd hi (Nat.not_lt_zero i)⟩, Or.inl ⟨rfl, fun i _ hi => absurd hi (Nat.not_lt_zero i)⟩⟩
  | succ n ih =>
    intro hn
    obtain ⟨a1, a2, a3⟩ := ih (by omega)
    rw [f_X7_shL, ← hc]
    generalize f_X7_shL mj cz nC nB n = X at *
    obtain ⟨x, y, F⟩ := X
    dsimp only at a1 a2 a3 ⊢
    have c1 := CR_c6 (v := nI n) t0 hb ⟨n, by omega, rfl⟩
    have c2 := CR_ext6 c1 (sC_rf (g := 1)) (sxm_s6 (v := nI n) a1)
    have e : (f_X7_goes (k_ui F (8, 9, 0) c (nI n)) nC nB) (8, 38, 0) c = (f_X7_goes (k_ui mj (8, 9, 0) c (nI n)) nC nB) (8, 38, 0) c :=
      ((go_res c2).1.2.1 _ hb).2.1.symm.trans ((go_res c1).1.2.1 _ hb).2.1
    have s2 := sxm_goes (nC := nC) (nB := nB) (sxm_put (v := nI n) a1)
    rw [e]
    by_cases z : (f_X7_goes (k_ui mj (8, 9, 0) c (nI n)) nC nB) (8, 38, 0) c = 0
    · rw [if_pos z]
      refine ⟨s2, Or.inr ⟨n, Nat.lt_succ_self n, rfl, z, fun k k1 k2 => by omega⟩, ?_⟩
      rcases a3 with ⟨r1, r2⟩ | ⟨i, r00, r0, r1, r2, r3⟩
      · refine Or.inl ⟨r1, fun i h1 h2 => ?_⟩
        rcases Nat.lt_or_ge i n with q | q
        · exact r2 i h1 q
        · rw [show i = n by omega]; exact z
      · exact Or.inr ⟨i, r00, by omega, r1, r2, r3⟩
    · have hl : k_lst (k_np c nC nB mj) (n + 1) x := by
        rcases a2 with ⟨r1, r2⟩ | ⟨i, r0, r1, r2, r3⟩
        · refine Or.inl ⟨r1, fun i hi => ?_⟩
          rcases Nat.lt_or_ge i n with q | q
          · exact r2 i q
          · rw [show i = n by omega]; exact z
        · refine Or.inr ⟨i, by omega, r1, r2, fun k k1 k2 => ?_⟩
          rcases Nat.lt_or_ge k n with q | q
          · exact r3 k k1 q
          · rw [show k = n by omega]; exact z
      rw [if_neg z]
      rcases a3 with ⟨r1, r2⟩ | ⟨i, r00, r0, r1, r2, r3⟩
      · rw [if_pos r1]
        exact ⟨s2, hl, Or.inr ⟨n, Nat.zero_le n, Nat.lt_succ_self n, rfl, z, fun k k1 k2 => r2 k k1 k2⟩⟩
      · rw [if_neg (show ¬ y = -1 by rw [r1]; exact k_nIne (by omega))]
        exact ⟨s2, hl, Or.inr ⟨i, r00, by omega, r1, r2, r3⟩⟩
theorem q_shun {nC nB : Nat} {mi mj : MemI} {ml mlj : MemL} (h : k_R nC nB mi ml mj mlj) (cz w : Int32) : k_Q nC nB (f_X6_shun mi cz w) ml (f_X7_shun mj cz w nC nB) mlj := by
  unfold f_X6_shun f_X7_shun
  by_cases wc : vp_in cz nC
  · have hb := k_clamp wc
    have h6 := h.1.1.1
    obtain ⟨⟨-, e2, -⟩, e3, -⟩ := h.1.2.2.2.2.1 _ hb
    rw [cA_eq h.1 wc, if_pos (show cz.toNatClampNeg < 6 by omega), if_neg (fun z => (isC_iff h.1 cz).mp z wc), e2]
    rcases bt_01 e3 with q | q
    · rw [if_pos q, if_neg (show ¬ mj (8, 12, 0) cz.toNatClampNeg = 1 by rw [q]; decide)]
      have t0 := R_trial h
      obtain ⟨s, s1, s2⟩ := shun_M (mj := mj) wc rfl t0 21 (Nat.le_refl _)
      have t1 : k_CR 1 nC nB (f_X2_become mi 1 0) (k_ui mj (8, 9, 0) cz.toNatClampNeg (mj (8, 9, 0) cz.toNatClampNeg)) := CR_ext6 t0 sC_rf (sxm_back sxm_rf)
      have hR : ∀ ww, k_R nC nB (f_X6_shR cz ww 21 0 (f_X2_become mi 1 0)).2 ml (k_ui (f_X7_shL mj cz nC nB 21).2.2 (8, 9, 0) cz.toNatClampNeg (mj (8, 9, 0) cz.toNatClampNeg)) mlj := fun ww =>
        R_ext h (kp_g1 (fun kk qq hk => (fgX6_shR hk _ _ _).trans (fg_X2_become hk)) (fun kk qq hk => (fn_X6_shR hk).trans (fn_X2_become hk))) (fun kk qq hk => (k_frW hk rfl).trans (fw_X7_shL hk)) (sxm_back s)
      by_cases o : f_X6_isOutside w 0 1 = 0
      · obtain ⟨o1, o2⟩ := (k_iO2 w 1).mp o
        rw [if_pos o, if_neg o1, if_pos o2]
        rcases bt_01 (bt_of o1 o2 (n := 1) rfl (by decide)) with r | r
        · subst r
          rw [if_pos rfl]
          exact ⟨lst_un (shun_0 wc rfl 21 0 _ _ rfl t1) s1, hR 0⟩
        · subst r
          rw [if_neg (by decide)]
          exact ⟨fst_un (shun_1 wc rfl 21 0 _ _ rfl t1) s2, hR 1⟩
      · rw [if_neg o]
        by_cases a : w < 0
        · rw [if_pos a]; exact Q_noT h 5 (by decide) (by decide)
        · rw [if_neg a, if_neg (fun b => o ((k_iO2 w 1).mpr ⟨a, b⟩))]; exact Q_noT h 5 (by decide) (by decide)
    · rw [if_neg (show ¬ mj (8, 12, 0) cz.toNatClampNeg = 0 by rw [q]; decide), if_pos q]
      exact Q_noT h 1 (by decide) (by decide)
  · rw [cA_no h.1 wc, if_neg (Nat.lt_irrefl 6), if_pos ((isC_iff h.1 cz).mpr wc)]
    exact Q_noT h 1 (by decide) (by decide)
