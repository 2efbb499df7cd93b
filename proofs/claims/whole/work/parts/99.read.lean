/-! level 2: the reader and the model's text -/
def rx_ss (N : Nat) (sg : Nat → Int32) (k : Nat) : Int32 := if k < N then sg k else -1
def k_rx (nC nB N P : Nat) (s0 : Int32) (sg : Nat → Int32) (m m' : MemI) : Prop :=
  k_CR 1 nC nB m m' ∧ (m (4, 0, 0) 1 = nI N ∧ m (4, 0, 0) 2 = nI P ∧ ∀ i, i < N → m (8, 101, 0) i = sg i) ∧ (m' (7, 0, 0) 28 = 160 * s0 ∧ m' (7, 0, 0) 29 = nI P ∧ m' (7, 0, 0) 30 = nI N) ∧ k_tb m' ∧ P ≤ N ∧ N ≤ 160 ∧ m (4, 0, 0) 3 = -1 ∧ m' (7, 0, 0) 4 = -1
theorem rx_mv {nC nB N P P2 : Nat} {s0 : Int32} {sg : Nat → Int32} {m m' m2 m2' : MemI} (h : k_rx nC nB N P s0 sg m m') (c1 : ∀ kk qq, ¬ (kk = (4, 0, 0) ∧ (qq = 2 ∨ qq = 2)) → m2 kk qq = m kk qq) (c2 : m2 (4, 0, 0) 2 = nI P2)
    (d1 : ∀ kk qq, ¬ (kk = (7, 0, 0) ∧ (qq = 29 ∨ qq = 31 ∨ qq = 32)) → kk ≠ (8, 27, 0) → m2' kk qq = m' kk qq) (d2 : m2' (7, 0, 0) 29 = nI P2) (hP : P2 ≤ N) : k_rx nC nB N P2 s0 sg m2 m2' := by
  obtain ⟨R, ⟨a1, a2, a3⟩, ⟨b1, b2, b3⟩, t, p, n⟩ := h
  refine ⟨CR_ext R ⟨fun i q _ => c1 _ _ (by simp), fun i q _ => c1 _ _ (by simp), fun q _ => c1 _ _ (by simp)⟩ ⟨fun n j x y => d1 _ _ (by simp) (k_keyne (by omega)), fun q hq => d1 _ _ (by simp; omega) (by decide)⟩, ⟨(c1 _ _ (by simp)).trans a1, c2, fun i hi => (c1 _ _ (by simp)).trans (a3 i hi)⟩, ⟨(d1 _ _ (by simp) (by decide)).trans b1, d2, (d1 _ _ (by simp) (by decide)).trans b3⟩, tb_ext t (fun n j x y => d1 _ _ (by simp) (k_keyne (by omega))), hP, n.1, (c1 _ _ (by simp)).trans n.2.1, (d1 _ _ (by simp) (by decide)).trans n.2.2⟩
theorem rx_cs {nC nB N P k : Nat} {s0 : Int32} {sg : Nat → Int32} {m m' : MemI} (h : k_rx nC nB N P s0 sg m m') (hk : k < 2 ^ 31) : f_X4_signAt m (nI k) = rx_ss N sg k := by
  obtain ⟨R, ⟨a1, a2, a3⟩, b, t, p, n⟩ := h
  unfold f_X4_signAt rx_ss
  rw [if_neg (nI_pos hk), a1]
  by_cases c : k < N
  · rw [if_neg (fun z => absurd ((nI_leI (by omega) hk).mp z) (by omega)), if_neg (show ¬ (160 : Int32) ≤ nI k from nI_ge (b := 160) (by omega) (by decide)), if_pos c, nI_clamp hk, a3 k c]
  · rw [if_pos ((nI_leI (by omega) hk).mpr (by omega)), if_neg c]
/-- the model's sign -/
theorem rx_ms {nC nB N P k : Nat} {s0 : Int32} {sg : Nat → Int32} {m m' : MemI} {mlj : MemL} (h : k_rx nC nB N P s0 sg m m') (w : vp_in s0 8) (hs : ∀ i, i < 160 → sg i = (mlj (9, 1, 0) (160 * s0.toNatClampNeg + i)).toInt32) (hk : k < N) : (mlj (9, 1, 0) (m' (7, 0, 0) 28 + nI k).toNatClampNeg).toInt32 = sg k := by
  obtain ⟨R, a, ⟨b1, b2, b3⟩, t, p, n⟩ := h
  rw [b1, (k_cellin w (x160 (n := k) (by omega))).2, nI_clamp (by omega), hs k (by omega)]
theorem rx_me {nC nB N P : Nat} {s0 : Int32} {sg : Nat → Int32} {m m' : MemI} (h : k_rx nC nB N P s0 sg m m') : m' (7, 0, 0) 30 ≤ m' (7, 0, 0) 29 ↔ ¬ P < N := by
  obtain ⟨R, a, ⟨b1, b2, b3⟩, t, p, n⟩ := h
  rw [b2, b3, nI_leI (by omega) (by omega)]
  omega
/-- letters, told by signs alone -/
def rx_pc (T ℓ : Nat → Int32) : Nat → Nat → Nat
  | 0, j => j
  | u + 1, j => if T j = ℓ j then rx_pc T ℓ u (j + 1) else j
theorem rx_pc_ext {T ℓ ℓ' : Nat → Int32} : ∀ u j, (∀ k, j ≤ k → k < j + u → ℓ k = ℓ' k) → rx_pc T ℓ u j = rx_pc T ℓ' u j := by
  intro u
  induction u with
  | zero => intro j _; rfl
  | succ u ih =>
    intro j h
    show (if T j = ℓ j then rx_pc T ℓ u (j + 1) else j) = (if T j = ℓ' j then rx_pc T ℓ' u (j + 1) else j)
    rw [h j (Nat.le_refl _) (by omega), ih (j + 1) (fun k a b => h k (by omega) (by omega))]
theorem rx_pc_le {T ℓ : Nat → Int32} : ∀ u j, j ≤ rx_pc T ℓ u j ∧ rx_pc T ℓ u j ≤ j + u := by
  intro u
  induction u with
  | zero => intro j; exact ⟨Nat.le_refl _, Nat.le_refl _⟩
  | succ u ih =>
    intro j
    have := ih (j + 1)
    show j ≤ (if T j = ℓ j then rx_pc T ℓ u (j + 1) else j) ∧ (if T j = ℓ j then rx_pc T ℓ u (j + 1) else j) ≤ j + (u + 1)
    split <;> omega
theorem rx_pc_s {T ℓ : Nat → Int32} : ∀ u j, rx_pc T ℓ (u + 1) j = if rx_pc T ℓ u j = j + u then (if T (j + u) = ℓ (j + u) then j + u + 1 else j + u) else rx_pc T ℓ u j := by
  intro u
  induction u with
  | zero =>
    intro j
    show (if T j = ℓ j then j + 1 else j) = if j = j then (if T j = ℓ j then j + 1 else j) else j
    rw [if_pos (rfl : j = j)]
  | succ u ih =>
    intro j
    have hle := rx_pc_le (T := T) (ℓ := ℓ) u (j + 1)
    show (if T j = ℓ j then rx_pc T ℓ (u + 1) (j + 1) else j) = if (if T j = ℓ j then rx_pc T ℓ u (j + 1) else j) = j + (u + 1) then _ else (if T j = ℓ j then rx_pc T ℓ u (j + 1) else j)
    by_cases c : T j = ℓ j
    · rw [if_pos c, if_pos c, ih (j + 1), show j + 1 + u = j + (u + 1) by omega]
    · rw [if_neg c, if_neg c, if_neg (by omega)]
theorem rx_pc_hit {T ℓ : Nat → Int32} : ∀ u j k, j ≤ k → k < rx_pc T ℓ u j → T k = ℓ k := by
  intro u
  induction u with
  | zero => intro j k h1 h2; exact absurd h2 (by show ¬ k < j; omega)
  | succ u ih =>
    intro j k h1 h2
    by_cases c : T j = ℓ j
    · have h3 : k < rx_pc T ℓ u (j + 1) := by
        have : rx_pc T ℓ (u + 1) j = rx_pc T ℓ u (j + 1) := if_pos c
        rw [← this]; exact h2
      by_cases e : k = j
      · rw [e]; exact c
      · exact ih (j + 1) k (by omega) h3
    · have : rx_pc T ℓ (u + 1) j = j := if_neg c
      omega
theorem rx_cl {nC nB N P : Nat} {s0 : Int32} {sg : Nat → Int32} {m m' : MemI} (h : k_rx nC nB N P s0 sg m m') (w : Nat) : ∀ u j, j + u ≤ 1000 → f_X4_clR m w u j = rx_pc (fun j => rx_ss N sg (P + j)) (k_let w) u j := by
  intro u
  induction u with
  | zero => intro j _; rfl
  | succ u ih =>
    intro j hj
    have hP := h.2.2.2.2
    rw [f_X4_clR_s, h.2.1.2.1, nI_add, rx_cs h (by omega), ih (j + 1) (by omega)]
    rfl
theorem rx_wm {nC nB N P : Nat} {s0 : Int32} {sg : Nat → Int32} {m m' : MemI} {mlj : MemL} (h : k_rx nC nB N P s0 sg m m') (w : vp_in s0 8) (hs : ∀ i, i < 160 → sg i = (mlj (9, 1, 0) (160 * s0.toNatClampNeg + i)).toInt32) (p : Nat) : ∀ u j, (∀ k, k < j + u → k_wd (p + k) ≠ -1) → j + u ≤ 1000 → f_X7_wm m' mlj p u j = rx_pc (fun j => rx_ss N sg (P + j)) (fun j => k_wd (p + j)) u j := by
  intro u
  induction u with
  | zero => intro j _ _; rfl
  | succ u ih =>
    intro j hn hj
    have hP := h.2.2.2.2
    rw [f_X7_wm_s, h.2.2.1.2.1, h.2.2.1.2.2, nI_add]
    show _ = if rx_ss N sg (P + j) = k_wd (p + j) then _ else j
    by_cases c : P + j < N
    · rw [if_neg (fun z => absurd ((nI_leI (by omega) (by omega)).mp z) (by omega)), rx_ms h w hs c, ih (j + 1) (fun k hk => hn k (by omega)) (by omega)]
      unfold rx_ss
      rw [if_pos c]
    · rw [if_pos ((nI_leI (by omega) (by omega)).mpr (by omega))]
      unfold rx_ss
      rw [if_neg c, if_neg (fun z => hn j (by omega) z.symm)]
/-- the letters of word w that stand here -/
def rx_c (N P : Nat) (sg : Nat → Int32) (w : Nat) : Nat := rx_pc (fun j => rx_ss N sg (P + j)) (k_let w) (k_len.getD w 0) 0
def rx_p (w : Nat) : Nat := match w with | 0 => 0 | 1 => 9 | 2 => 17 | 3 => 23 | 4 => 30 | _ => 37
theorem rx_tab : ∀ w, w < 6 → 4 ≤ k_len.getD w 0 ∧ k_len.getD w 0 ≤ 7 ∧ k_wd (rx_p w + k_len.getD w 0) = 32 ∧ (∀ k, k < 9 → k < k_len.getD w 0 → k_wd (rx_p w + k) = k_let w k) ∧ ∀ k, k < 9 → k < k_len.getD w 0 + 1 → k_wd (rx_p w + k) ≠ -1 := by decide +kernel
theorem rx_two : ∀ w, w < 6 → ∀ v, v < 6 → w ≠ v → k_let w 0 ≠ k_let v 0 ∨ k_let w 1 ≠ k_let v 1 := by decide +kernel
theorem rx_cle {N P w : Nat} {sg : Nat → Int32} : rx_c N P sg w ≤ k_len.getD w 0 := by
  have := (rx_pc_le (T := fun j => rx_ss N sg (P + j)) (ℓ := k_let w) (k_len.getD w 0) 0).2
  unfold rx_c; omega
/-- two words don't both go on -/
theorem rx_one {N P w v : Nat} {sg : Nat → Int32} (hw : w < 6) (hv : v < 6) (hne : w ≠ v) (h : 2 ≤ rx_c N P sg w) : rx_c N P sg v ≤ 1 := by
  refine Nat.le_of_not_lt (fun q => ?_)
  have a0 := rx_pc_hit (T := fun j => rx_ss N sg (P + j)) (ℓ := k_let w) (k_len.getD w 0) 0 0 (Nat.le_refl _) (by unfold rx_c at h; omega)
  have a1 := rx_pc_hit (T := fun j => rx_ss N sg (P + j)) (ℓ := k_let w) (k_len.getD w 0) 0 1 (Nat.zero_le _) (by unfold rx_c at h; omega)
  have b0 := rx_pc_hit (T := fun j => rx_ss N sg (P + j)) (ℓ := k_let v) (k_len.getD v 0) 0 0 (Nat.le_refl _) (by unfold rx_c at q; omega)
  have b1 := rx_pc_hit (T := fun j => rx_ss N sg (P + j)) (ℓ := k_let v) (k_len.getD v 0) 0 1 (Nat.zero_le _) (by unfold rx_c at q; omega)
  rcases rx_two w hw v hv hne with z | z
  · exact z (a0.symm.trans b0)
  · exact z (a1.symm.trans b1)
theorem rx_ccl {nC nB N P w : Nat} {s0 : Int32} {sg : Nat → Int32} {m m' : MemI} (h : k_rx nC nB N P s0 sg m m') (hw : w < 6) : f_X4_countLetters m w = rx_c N P sg w := by
  have := rx_tab w hw
  exact rx_cl h w _ 0 (by omega)
theorem rx_mst {nC nB N P w : Nat} {s0 : Int32} {sg : Nat → Int32} {m m' : MemI} {mlj : MemL} (h : k_rx nC nB N P s0 sg m m') (v : vp_in s0 8) (hs : ∀ i, i < 160 → sg i = (mlj (9, 1, 0) (160 * s0.toNatClampNeg + i)).toInt32) (hw : w < 6) : f_X7_wm m' mlj (rx_p w) (k_len.getD w 0) 0 = rx_c N P sg w ∧ f_X7_wm m' mlj (rx_p w) (k_len.getD w 0 + 1) 0 = if rx_c N P sg w = k_len.getD w 0 then (if rx_ss N sg (P + k_len.getD w 0) = 32 then k_len.getD w 0 + 1 else k_len.getD w 0) else rx_c N P sg w := by
  obtain ⟨l1, l2, l3, l4, l5⟩ := rx_tab w hw
  have e1 := rx_wm h v hs (rx_p w) (k_len.getD w 0) 0 (fun k hk => l5 k (by omega) (by omega)) (by omega)
  have e2 := rx_wm h v hs (rx_p w) (k_len.getD w 0 + 1) 0 (fun k hk => l5 k (by omega) (by omega)) (by omega)
  have x1 : rx_pc (fun j => rx_ss N sg (P + j)) (fun j => k_wd (rx_p w + j)) (k_len.getD w 0) 0 = rx_c N P sg w := rx_pc_ext _ 0 (fun k a b => l4 k (by omega) (by omega))
  refine ⟨e1.trans x1, ?_⟩
  rw [e2, rx_pc_s, x1, Nat.zero_add, l3]
