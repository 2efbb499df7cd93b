/-! the reader's words and the model's -/
theorem rx_rws {nC nB N P : Nat} {s0 : Int32} {sg : Nat → Int32} {m m' : MemI} (h : k_rx nC nB N P s0 sg m m') {u j f : Nat} (hj : j < 6) (hf : f ≤ 1000) : f_X4_rwR m (u + 1) j (nI f) = if rx_c N P sg j = k_len.getD j 0 then (nI j, k_ui m (4, 0, 0) 2 (nI (P + k_len.getD j 0))) else f_X4_rwR m u (j + 1) (nI (max f (rx_c N P sg j))) := by
  have hl := (rx_tab j hj).2.1
  have hc := rx_cle (N := N) (P := P) (w := j) (sg := sg)
  rw [f_X4_rwR_s, rx_ccl h hj, h.2.1.2.1, nI_add, k_mxI (by omega) (by omega)]
  show (if nI (rx_c N P sg j) = nI (k_len.getD j 0) then _ else _) = _
  by_cases c : rx_c N P sg j = k_len.getD j 0
  · rw [if_pos c, c, if_pos rfl]
  · rw [if_neg c, if_neg (fun z => c ((nI_eq (by omega) (by omega)).mp z))]
theorem rx_rwat {nC nB N P w : Nat} {s0 : Int32} {sg : Nat → Int32} {m m' : MemI} (h : k_rx nC nB N P s0 sg m m') (hw : w < 6) (hc : rx_c N P sg w = k_len.getD w 0) : ∀ u j f, j + u = 6 → f ≤ 1000 → j ≤ w → (∀ v, j ≤ v → v < w → rx_c N P sg v ≠ k_len.getD v 0) → f_X4_rwR m u j (nI f) = (nI w, k_ui m (4, 0, 0) 2 (nI (P + k_len.getD w 0))) := by
  intro u
  induction u with
  | zero => intro j f a b c d; omega
  | succ u ih =>
    intro j f a b c d
    have hl := (rx_tab j (by omega)).2.1
    have hc2 := rx_cle (N := N) (P := P) (w := j) (sg := sg)
    rw [rx_rws h (by omega) b]
    by_cases e : j = w
    · subst e; rw [if_pos hc]
    · rw [if_neg (d j (Nat.le_refl _) (by omega))]
      exact ih (j + 1) _ (by omega) (by omega) (by omega) (fun v x y => d v (by omega) y)
def rx_mf (N P : Nat) (sg : Nat → Int32) : Nat → Nat → Nat → Nat
  | 0, _, f => f
  | u + 1, j, f => rx_mf N P sg u (j + 1) (max f (rx_c N P sg j))
theorem rx_rwno {nC nB N P : Nat} {s0 : Int32} {sg : Nat → Int32} {m m' : MemI} (h : k_rx nC nB N P s0 sg m m') : ∀ u j f, j + u = 6 → f ≤ 1000 → (∀ v, j ≤ v → v < 6 → rx_c N P sg v ≠ k_len.getD v 0) → f_X4_rwR m u j (nI f) = (-1, k_ui m (4, 0, 0) 3 (nI (P + rx_mf N P sg u j f))) := by
  intro u
  induction u with
  | zero =>
    intro j f a b d
    show ((-1 : Int32), (f_X4_failAt m (m (4, 0, 0) 2 + nI f)).2) = _
    rw [h.2.1.2.1, nI_add]
    rfl
  | succ u ih =>
    intro j f a b d
    have hl := (rx_tab j (by omega)).2.1
    have hc2 := rx_cle (N := N) (P := P) (w := j) (sg := sg)
    rw [rx_rws h (by omega) b, if_neg (d j (Nat.le_refl _) (by omega))]
    exact ih (j + 1) _ (by omega) (by omega) (fun v x y => d v (by omega) y)
/-- the model's matches -/
def rx_m (N P : Nat) (sg : Nat → Int32) (w : Nat) : Nat := if rx_c N P sg w = k_len.getD w 0 then (if rx_ss N sg (P + k_len.getD w 0) = 32 then k_len.getD w 0 + 1 else k_len.getD w 0) else rx_c N P sg w
theorem rx_word {nC nB N P : Nat} {s0 : Int32} {sg : Nat → Int32} {m m' : MemI} {mlj : MemL} (h : k_rx nC nB N P s0 sg m m') (v : vp_in s0 8) (hs : ∀ i, i < 160 → sg i = (mlj (9, 1, 0) (160 * s0.toNatClampNeg + i)).toInt32) :
    f_X7_word m' mlj = if rx_m N P sg 0 = 8 then (0, k_ui m' (7, 0, 0) 29 (nI (P + 8))) else if rx_m N P sg 1 = 7 then (1, k_ui m' (7, 0, 0) 29 (nI (P + 7))) else if rx_m N P sg 2 = 5 then (2, k_ui m' (7, 0, 0) 29 (nI (P + 5))) else if rx_m N P sg 3 = 6 then (3, k_ui m' (7, 0, 0) 29 (nI (P + 6))) else if rx_m N P sg 4 = 6 then (4, k_ui m' (7, 0, 0) 29 (nI (P + 6))) else if rx_m N P sg 5 = 5 then (5, k_ui m' (7, 0, 0) 29 (nI (P + 5))) else (-1, k_ui m' (7, 0, 0) 32 (nI (max (max (max (max (max (max P (P + rx_m N P sg 0)) (P + rx_m N P sg 1)) (P + rx_m N P sg 2)) (P + rx_m N P sg 3)) (P + rx_m N P sg 4)) (P + rx_m N P sg 5)))) := by
  have e0 : f_X7_wm m' mlj 0 8 0 = rx_m N P sg 0 := (rx_mst h v hs (w := 0) (by decide)).2
  have e1 : f_X7_wm m' mlj 9 7 0 = rx_m N P sg 1 := (rx_mst h v hs (w := 1) (by decide)).2
  have e2 : f_X7_wm m' mlj 17 5 0 = rx_m N P sg 2 := (rx_mst h v hs (w := 2) (by decide)).2
  have e3 : f_X7_wm m' mlj 23 6 0 = rx_m N P sg 3 := (rx_mst h v hs (w := 3) (by decide)).2
  have e4 : f_X7_wm m' mlj 30 6 0 = rx_m N P sg 4 := (rx_mst h v hs (w := 4) (by decide)).2
  have e5 : f_X7_wm m' mlj 37 5 0 = rx_m N P sg 5 := (rx_mst h v hs (w := 5) (by decide)).2
  have l0 := wm_le m' mlj 0 8 0
  have l1 := wm_le m' mlj 9 7 0
  have l2 := wm_le m' mlj 17 5 0
  have l3 := wm_le m' mlj 23 6 0
  have l4 := wm_le m' mlj 30 6 0
  have l5 := wm_le m' mlj 37 5 0
  rw [e0] at l0; rw [e1] at l1; rw [e2] at l2; rw [e3] at l3; rw [e4] at l4; rw [e5] at l5
  have hP := h.2.2.2.2
  unfold f_X7_word
  rw [e0, e1, e2, e3, e4, e5, h.2.2.1.2.1]
  generalize rx_m N P sg 0 = x0 at l0 ⊢
  generalize rx_m N P sg 1 = x1 at l1 ⊢
  generalize rx_m N P sg 2 = x2 at l2 ⊢
  generalize rx_m N P sg 3 = x3 at l3 ⊢
  generalize rx_m N P sg 4 = x4 at l4 ⊢
  generalize rx_m N P sg 5 = x5 at l5 ⊢
  simp only [nI_add]
  rw [k_mxI (by omega) (by omega), k_mxI (by omega) (by omega), k_mxI (by omega) (by omega), k_mxI (by omega) (by omega), k_mxI (by omega) (by omega), k_mxI (by omega) (by omega)]
theorem rx_full {nC nB N P : Nat} {s0 : Int32} {sg : Nat → Int32} {m m' : MemI} {mlj : MemL} (h : k_rx nC nB N P s0 sg m m') (v : vp_in s0 8) (hs : ∀ i, i < 160 → sg i = (mlj (9, 1, 0) (160 * s0.toNatClampNeg + i)).toInt32) :
    f_X7_full m' mlj = 0 ↔ ¬ (rx_c N P sg 0 = 7 ∧ nC = 6) ∧ ¬ (rx_c N P sg 1 = 6 ∧ nB = 6) := by
  have e0 : f_X7_wm m' mlj 0 7 0 = rx_c N P sg 0 := (rx_mst h v hs (w := 0) (by decide)).1
  have e1 : f_X7_wm m' mlj 9 6 0 = rx_c N P sg 1 := (rx_mst h v hs (w := 1) (by decide)).1
  have hC := h.1.1
  have c0 : m' (7, 0, 0) 0 = 6 ↔ nC = 6 := by rw [h.1.2.1.2.2.1]; exact nI_eq (b := 6) (by omega) (by decide)
  have c1 : m' (7, 0, 0) 1 = 6 ↔ nB = 6 := by rw [h.1.2.1.2.2.2]; exact nI_eq (b := 6) (by omega) (by decide)
  unfold f_X7_full f_X7_stands0 f_X7_stands1
  rw [e0, e1]
  by_cases a : rx_c N P sg 0 = 7
  · by_cases b : nC = 6
    · rw [if_pos a, if_neg (by decide), if_pos (c0.mpr b)]
      exact ⟨fun z => absurd z (by decide), fun z => absurd ⟨a, b⟩ z.1⟩
    · rw [if_pos a, if_neg (by decide), if_neg (fun z => b (c0.mp z))]
      by_cases c : rx_c N P sg 1 = 6
      · rw [if_pos c, if_neg (by decide)]
        by_cases d : nB = 6
        · rw [if_pos (c1.mpr d)]; exact ⟨fun z => absurd z (by decide), fun z => absurd ⟨c, d⟩ z.2⟩
        · rw [if_neg (fun z => d (c1.mp z))]; exact ⟨fun _ => ⟨fun z => b z.2, fun z => d z.2⟩, fun _ => rfl⟩
      · rw [if_neg c, if_pos rfl]; exact ⟨fun _ => ⟨fun z => b z.2, fun z => c z.1⟩, fun _ => rfl⟩
  · rw [if_neg a, if_pos rfl]
    by_cases c : rx_c N P sg 1 = 6
    · rw [if_pos c, if_neg (by decide)]
      by_cases d : nB = 6
      · rw [if_pos (c1.mpr d)]; exact ⟨fun z => absurd z (by decide), fun z => absurd ⟨c, d⟩ z.2⟩
      · rw [if_neg (fun z => d (c1.mp z))]; exact ⟨fun _ => ⟨fun z => a z.1, fun z => d z.2⟩, fun _ => rfl⟩
    · rw [if_neg c, if_pos rfl]; exact ⟨fun _ => ⟨fun z => a z.1, fun z => c z.1⟩, fun _ => rfl⟩
/-- what word stands here, for both -/
theorem rx_which {nC nB N P : Nat} {s0 : Int32} {sg : Nat → Int32} {m m' : MemI} {mlj : MemL} (h : k_rx nC nB N P s0 sg m m') (v : vp_in s0 8) (hs : ∀ i, i < 160 → sg i = (mlj (9, 1, 0) (160 * s0.toNatClampNeg + i)).toInt32) :
    (∃ Q, f_X4_readWord m = (-1, k_ui m (4, 0, 0) 3 (nI Q)) ∧ f_X7_word m' mlj = (-1, k_ui m' (7, 0, 0) 32 (nI Q)) ∧ f_X7_full m' mlj = 0) ∨
    ∃ w, w < 6 ∧ f_X4_readWord m = (nI w, k_ui m (4, 0, 0) 2 (nI (P + k_len.getD w 0))) ∧ P + k_len.getD w 0 ≤ N ∧ (f_X7_full m' mlj = 0 ↔ ¬ (w = 0 ∧ nC = 6) ∧ ¬ (w = 1 ∧ nB = 6)) ∧
      ((rx_ss N sg (P + k_len.getD w 0) = 32 ∧ f_X7_word m' mlj = (nI w, k_ui m' (7, 0, 0) 29 (nI (P + k_len.getD w 0 + 1)))) ∨ (rx_ss N sg (P + k_len.getD w 0) ≠ 32 ∧ f_X7_word m' mlj = (-1, k_ui m' (7, 0, 0) 32 (nI (P + k_len.getD w 0))))) := by
  have cl : ∀ w, rx_c N P sg w ≤ k_len.getD w 0 := fun w => rx_cle
  have f0 := rx_full h v hs
  have wd := rx_word h v hs
  have c0 : rx_c N P sg 0 ≤ 7 := cl 0
  have c1 : rx_c N P sg 1 ≤ 6 := cl 1
  have c2 : rx_c N P sg 2 ≤ 4 := cl 2
  have c3 : rx_c N P sg 3 ≤ 5 := cl 3
  have c4 : rx_c N P sg 4 ≤ 5 := cl 4
  have c5 : rx_c N P sg 5 ≤ 4 := cl 5
  by_cases all : ∀ w, w < 6 → rx_c N P sg w ≠ k_len.getD w 0
  · left
    have m0 : rx_m N P sg 0 = rx_c N P sg 0 := if_neg (all 0 (by decide))
    have m1 : rx_m N P sg 1 = rx_c N P sg 1 := if_neg (all 1 (by decide))
    have m2 : rx_m N P sg 2 = rx_c N P sg 2 := if_neg (all 2 (by decide))
    have m3 : rx_m N P sg 3 = rx_c N P sg 3 := if_neg (all 3 (by decide))
    have m4 : rx_m N P sg 4 = rx_c N P sg 4 := if_neg (all 4 (by decide))
    have m5 : rx_m N P sg 5 = rx_c N P sg 5 := if_neg (all 5 (by decide))
    have a0 : rx_c N P sg 0 ≠ 7 := all 0 (by decide)
    have a1 : rx_c N P sg 1 ≠ 6 := all 1 (by decide)
    rw [m0, m1, m2, m3, m4, m5, if_neg (by omega), if_neg (by omega), if_neg (by omega), if_neg (by omega), if_neg (by omega), if_neg (by omega)] at wd
    have rn := rx_rwno h 6 0 0 rfl (by decide) (fun w _ hw => all w hw)
    have mf : P + rx_mf N P sg 6 0 0 = max (max (max (max (max (max P (P + rx_c N P sg 0)) (P + rx_c N P sg 1)) (P + rx_c N P sg 2)) (P + rx_c N P sg 3)) (P + rx_c N P sg 4)) (P + rx_c N P sg 5) := by
      show P + max (max (max (max (max (max 0 (rx_c N P sg 0)) (rx_c N P sg 1)) (rx_c N P sg 2)) (rx_c N P sg 3)) (rx_c N P sg 4)) (rx_c N P sg 5) = _
      omega
    rw [mf] at rn
    exact ⟨_, rn, wd, f0.mpr ⟨fun z => a0 z.1, fun z => a1 z.1⟩⟩
  · right
    obtain ⟨w, hw, hc⟩ : ∃ w, w < 6 ∧ rx_c N P sg w = k_len.getD w 0 := by
      refine Classical.byContradiction (fun q => all (fun w hw hc => q ⟨w, hw, hc⟩))
    have lw := rx_tab w hw
    have one : ∀ u, u < 6 → w ≠ u → rx_c N P sg u ≤ 1 := fun u hu hne => rx_one hw hu hne (by omega)
    have mo : ∀ u, u < 6 → w ≠ u → rx_m N P sg u ≤ 1 := fun u hu hne => by
      have a := one u hu hne
      have b := (rx_tab u hu).1
      unfold rx_m
      rw [if_neg (by omega)]; exact a
    refine ⟨w, hw, rx_rwat h hw hc 6 0 0 rfl (by decide) (Nat.zero_le _) (fun u _ hu => ?_), ?_, ?_, ?_⟩
    · have a := one u (by omega) (by omega)
      have b := (rx_tab u (by omega)).1
      omega
    · have ht := rx_pc_hit (T := fun j => rx_ss N sg (P + j)) (ℓ := k_let w) (k_len.getD w 0) 0 (k_len.getD w 0 - 1) (Nat.zero_le _) (by unfold rx_c at hc; omega)
      have hl : k_let w (k_len.getD w 0 - 1) ≠ -1 := by
        have z := lw.2.2.2.1 (k_len.getD w 0 - 1) (by omega) (by omega)
        rw [← z]; exact lw.2.2.2.2 _ (by omega) (by omega)
      unfold rx_ss at ht
      by_cases q : P + (k_len.getD w 0 - 1) < N
      · omega
      · rw [if_neg q] at ht; exact absurd ht.symm hl
    · rw [f0]
      have x0 : rx_c N P sg 0 = 7 ↔ w = 0 := ⟨fun z => by
        by_cases e : w = 0
        · exact e
        · have := one 0 (by decide) e; omega, fun z => by rw [z] at hc; exact hc⟩
      have x1 : rx_c N P sg 1 = 6 ↔ w = 1 := ⟨fun z => by
        by_cases e : w = 1
        · exact e
        · have := one 1 (by decide) e; omega, fun z => by rw [z] at hc; exact hc⟩
      rw [x0, x1]
    · have mw : rx_m N P sg w = if rx_ss N sg (P + k_len.getD w 0) = 32 then k_len.getD w 0 + 1 else k_len.getD w 0 := if_pos hc
      by_cases b : rx_ss N sg (P + k_len.getD w 0) = 32
      · rw [if_pos b] at mw
        refine Or.inl ⟨b, ?_⟩
        rw [wd]
        have o0 := mo 0 (by decide); have o1 := mo 1 (by decide); have o2 := mo 2 (by decide); have o3 := mo 3 (by decide); have o4 := mo 4 (by decide); have o5 := mo 5 (by decide)
        clear lw one mo hc
        rcases (show w = 0 ∨ w = 1 ∨ w = 2 ∨ w = 3 ∨ w = 4 ∨ w = 5 by omega) with rfl | rfl | rfl | rfl | rfl | rfl
        · rw [if_pos (show rx_m N P sg 0 = 8 from mw)]; rfl
        · have z0 := o0 (by decide)
          rw [if_neg (by omega), if_pos (show rx_m N P sg 1 = 7 from mw)]; rfl
        · have z0 := o0 (by decide); have z1 := o1 (by decide)
          rw [if_neg (by omega), if_neg (by omega), if_pos (show rx_m N P sg 2 = 5 from mw)]; rfl
        · have z0 := o0 (by decide); have z1 := o1 (by decide); have z2 := o2 (by decide)
          rw [if_neg (by omega), if_neg (by omega), if_neg (by omega), if_pos (show rx_m N P sg 3 = 6 from mw)]; rfl
        · have z0 := o0 (by decide); have z1 := o1 (by decide); have z2 := o2 (by decide); have z3 := o3 (by decide)
          rw [if_neg (by omega), if_neg (by omega), if_neg (by omega), if_neg (by omega), if_pos (show rx_m N P sg 4 = 6 from mw)]; rfl
        · have z0 := o0 (by decide); have z1 := o1 (by decide); have z2 := o2 (by decide); have z3 := o3 (by decide); have z4 := o4 (by decide)
          rw [if_neg (by omega), if_neg (by omega), if_neg (by omega), if_neg (by omega), if_neg (by omega), if_pos (show rx_m N P sg 5 = 5 from mw)]; rfl
      · rw [if_neg b] at mw
        refine Or.inr ⟨b, ?_⟩
        rw [wd]
        have lo := lw.1
        have o0 := mo 0 (by decide); have o1 := mo 1 (by decide); have o2 := mo 2 (by decide); have o3 := mo 3 (by decide); have o4 := mo 4 (by decide); have o5 := mo 5 (by decide)
        have key : ∀ x0 x1 x2 x3 x4 x5 : Nat, x0 ≠ 8 → x1 ≠ 7 → x2 ≠ 5 → x3 ≠ 6 → x4 ≠ 6 → x5 ≠ 5 → max (max (max (max (max (max P (P + x0)) (P + x1)) (P + x2)) (P + x3)) (P + x4)) (P + x5) = P + k_len.getD w 0 → (if x0 = 8 then ((0 : Int32), k_ui m' (7, 0, 0) 29 (nI (P + 8))) else if x1 = 7 then (1, k_ui m' (7, 0, 0) 29 (nI (P + 7))) else if x2 = 5 then (2, k_ui m' (7, 0, 0) 29 (nI (P + 5))) else if x3 = 6 then (3, k_ui m' (7, 0, 0) 29 (nI (P + 6))) else if x4 = 6 then (4, k_ui m' (7, 0, 0) 29 (nI (P + 6))) else if x5 = 5 then (5, k_ui m' (7, 0, 0) 29 (nI (P + 5))) else (-1, k_ui m' (7, 0, 0) 32 (nI (max (max (max (max (max (max P (P + x0)) (P + x1)) (P + x2)) (P + x3)) (P + x4)) (P + x5))))) = (-1, k_ui m' (7, 0, 0) 32 (nI (P + k_len.getD w 0))) := by
          intro x0 x1 x2 x3 x4 x5 y0 y1 y2 y3 y4 y5 e
          rw [if_neg y0, if_neg y1, if_neg y2, if_neg y3, if_neg y4, if_neg y5, e]
        have hv : ∀ u, u < 6 → rx_m N P sg u ≤ 1 ∨ (u = w ∧ rx_m N P sg u = k_len.getD w 0) := fun u hu => by
          by_cases e : w = u
          · subst e; exact Or.inr ⟨rfl, mw⟩
          · exact Or.inl (mo u hu e)
        have l0 : k_len.getD 0 0 = 7 := rfl
        have l1 : k_len.getD 1 0 = 6 := rfl
        have l2 : k_len.getD 2 0 = 4 := rfl
        have l3 : k_len.getD 3 0 = 5 := rfl
        have l4 : k_len.getD 4 0 = 5 := rfl
        have l5 : k_len.getD 5 0 = 4 := rfl
        have hn : ∀ u, u < 6 → rx_m N P sg u ≠ k_len.getD u 0 + 1 := fun u hu => by
          have := (rx_tab u hu).1
          rcases hv u hu with q | ⟨q, r⟩
          · omega
          · subst q; omega
        refine key _ _ _ _ _ _ (hn 0 (by decide)) (hn 1 (by decide)) (hn 2 (by decide)) (hn 3 (by decide)) (hn 4 (by decide)) (hn 5 (by decide)) ?_
        have v0 := hv 0 (by decide); have v1 := hv 1 (by decide); have v2 := hv 2 (by decide); have v3 := hv 3 (by decide); have v4 := hv 4 (by decide); have v5 := hv 5 (by decide)
        rcases (show w = 0 ∨ w = 1 ∨ w = 2 ∨ w = 3 ∨ w = 4 ∨ w = 5 by omega) with e | e | e | e | e | e <;> rw [e] at mw lo ⊢ <;> omega
