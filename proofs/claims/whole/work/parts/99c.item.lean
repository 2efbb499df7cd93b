/-! an item: the reader's and the model's -/
theorem iso2 {v lo hi : Nat} (hv : v ≤ 99) (h1 : lo ≤ 99) (h2 : hi ≤ 99) : f_X6_isOutside (nI v) (nI lo) (nI hi) = 0 ↔ lo ≤ v ∧ v ≤ hi := by
  unfold f_X6_isOutside
  by_cases a : v < lo
  · rw [if_pos ((nI_ltI (by omega) (by omega)).mpr a)]
    exact ⟨fun z => absurd z (by decide), fun z => by omega⟩
  · rw [if_neg (fun z => a ((nI_ltI (by omega) (by omega)).mp z))]
    by_cases b : v ≤ hi
    · rw [if_pos ((nI_leI (by omega) (by omega)).mpr b)]; exact ⟨fun _ => ⟨by omega, b⟩, fun _ => rfl⟩
    · rw [if_neg (fun z => b ((nI_leI (by omega) (by omega)).mp z))]; exact ⟨fun z => absurd z (by decide), fun z => absurd z.2 b⟩
theorem iso3 {v n : Nat} (hv : v ≤ 99) (hn : n ≤ 6) : f_X6_isOutside (nI v) 0 (nI n - 1) = 0 ↔ v < n := by
  cases n with
  | zero =>
    refine ⟨fun z => ?_, fun z => absurd z (Nat.not_lt_zero _)⟩
    unfold f_X6_isOutside at z
    rw [if_neg (nI_pos (by omega)), if_neg (fun y => by
      have := Int32.le_iff_toInt_le.mp y
      rw [nI_toInt (by omega)] at this
      have e : (nI 0 - 1 : Int32).toInt = -1 := by decide +kernel
      omega)] at z
    exact absurd z (by decide)
  | succ n =>
    rw [nI_pred]
    have := iso2 (v := v) (lo := 0) (hi := n) hv (by decide) (by omega)
    refine Iff.trans this ?_
    omega
/-- the model's bounds -/
theorem so_w0 {nC nB N P x hi : Nat} {s0 : Int32} {sg : Nat → Int32} {m m' : MemI} (h : k_rx nC nB N P s0 sg m m') (hh : (x = 0 ∧ hi = 6) ∨ (x = 1 ∧ hi = 9) ∨ (x = 2 ∧ hi = 99) ∨ (x = 3 ∧ hi = 20)) : rx_so m' 0 x 0 (nI hi) := by
  intro v hv M' e fr
  obtain ⟨-, -, t0, t1, t2, t3⟩ := h.2.2.2.1
  have et : M' (8, 26, 0) (nI x).toNatClampNeg = nI hi := by
    rw [nI_clamp (by omega), fr _ _ (by simp)]
    rcases hh with ⟨rfl, rfl⟩ | ⟨rfl, rfl⟩ | ⟨rfl, rfl⟩ | ⟨rfl, rfl⟩
    · exact t0
    · exact t1
    · exact t2
    · exact t3
  have i2 := iso2 (v := v) (lo := 0) (hi := hi) hv (by decide) (by omega)
  unfold f_X7_isSo
  rw [if_pos rfl, et, e]
  refine Iff.trans ?_ (not_congr i2).symm
  by_cases c : hi < v
  · rw [if_pos ((nI_ltI (by omega) (by omega)).mpr c)]; exact ⟨fun _ z => by omega, fun _ => rfl⟩
  · rw [if_neg (fun z => c ((nI_ltI (by omega) (by omega)).mp z))]; exact ⟨fun z => absurd z (by decide), fun z => absurd ⟨Nat.zero_le _, by omega⟩ z⟩
theorem so_w1 {nC nB N P : Nat} {s0 : Int32} {sg : Nat → Int32} {m m' : MemI} (_h : k_rx nC nB N P s0 sg m m') : rx_so m' 1 0 1 9 ∧ rx_so m' 1 1 0 4 := by
  refine ⟨fun v hv M' e fr => ?_, fun v hv M' e fr => ?_⟩
  · have i2 := iso2 (v := v) (lo := 1) (hi := 9) hv (by decide) (by decide)
    unfold f_X7_isSo f_X7_isFrom
    rw [if_neg (by decide), if_pos rfl, if_pos (show nI 0 = 0 from rfl), e]
    refine Iff.trans ?_ (not_congr i2).symm
    by_cases a : v < 1
    · rw [if_pos (show nI v < (1 : Int32) from (nI_ltI (b := 1) (by omega) (by omega)).mpr a)]; exact ⟨fun _ z => by omega, fun _ => rfl⟩
    · rw [if_neg (show ¬ nI v < (1 : Int32) from fun z => a ((nI_ltI (b := 1) (by omega) (by omega)).mp z))]
      by_cases c : 9 < v
      · rw [if_pos (show (9 : Int32) < nI v from (nI_ltI (a := 9) (by omega) (by omega)).mpr c)]; exact ⟨fun _ z => by omega, fun _ => rfl⟩
      · rw [if_neg (show ¬ (9 : Int32) < nI v from fun z => c ((nI_ltI (a := 9) (by omega) (by omega)).mp z))]; exact ⟨fun z => absurd z (by decide), fun z => absurd ⟨by omega, by omega⟩ z⟩
  · have i2 := iso2 (v := v) (lo := 0) (hi := 4) hv (by decide) (by decide)
    unfold f_X7_isSo
    rw [if_neg (by decide), if_pos rfl, if_neg (show ¬ nI 1 = 0 by decide), e]
    refine Iff.trans ?_ (not_congr i2).symm
    by_cases c : 4 < v
    · rw [if_pos (show (4 : Int32) < nI v from (nI_ltI (a := 4) (by omega) (by omega)).mpr c)]; exact ⟨fun _ z => by omega, fun _ => rfl⟩
    · rw [if_neg (show ¬ (4 : Int32) < nI v from fun z => c ((nI_ltI (a := 4) (by omega) (by omega)).mp z))]; exact ⟨fun z => absurd z (by decide), fun z => absurd ⟨Nat.zero_le _, by omega⟩ z⟩
theorem so_w5 {nC nB N P : Nat} {s0 : Int32} {sg : Nat → Int32} {m m' : MemI} (h : k_rx nC nB N P s0 sg m m') : rx_so m' 5 0 0 (nI nB - 1) := by
  intro v hv M' e fr
  have hB := h.1.1.2
  unfold f_X7_isSo
  rw [if_neg (by decide), if_neg (by decide), if_pos rfl, fr (7, 0, 0) 1 (by simp), h.1.2.1.2.2.2, e]
  refine Iff.trans ?_ (not_congr (iso3 hv hB)).symm
  by_cases c : nB ≤ v
  · rw [if_pos ((nI_leI (by omega) (by omega)).mpr c)]; exact ⟨fun _ z => by omega, fun _ => rfl⟩
  · rw [if_neg (fun z => c ((nI_leI (by omega) (by omega)).mp z))]; exact ⟨fun z => absurd z (by decide), fun z => absurd (by omega) z⟩
theorem so_w2 {nC nB N P : Nat} {s0 w : Int32} {sg : Nat → Int32} {m m' : MemI} (h : k_rx nC nB N P s0 sg m m') (hw : w = 2 ∨ w = 3 ∨ w = 4) : rx_so m' w 0 0 (nI nC - 1) ∧ rx_so m' w 1 0 99 := by
  have h0 : ¬ w = 0 := by rcases hw with rfl | rfl | rfl <;> decide
  have h1 : ¬ w = 1 := by rcases hw with rfl | rfl | rfl <;> decide
  have h5 : ¬ w = 5 := by rcases hw with rfl | rfl | rfl <;> decide
  refine ⟨fun v hv M' e fr => ?_, fun v hv M' e fr => ?_⟩
  · have hC := h.1.1.1
    unfold f_X7_isSo
    rw [if_neg h0, if_neg h1, if_neg h5, if_neg (show ¬ nI 0 = 1 by decide), fr (7, 0, 0) 0 (by simp), h.1.2.1.2.2.1, e]
    refine Iff.trans ?_ (not_congr (iso3 hv hC)).symm
    by_cases c : nC ≤ v
    · rw [if_pos ((nI_leI (by omega) (by omega)).mpr c)]; exact ⟨fun _ z => by omega, fun _ => rfl⟩
    · rw [if_neg (fun z => c ((nI_leI (by omega) (by omega)).mp z))]; exact ⟨fun z => absurd z (by decide), fun z => absurd (by omega) z⟩
  · have i2 := iso2 (v := v) (lo := 0) (hi := 99) hv (by decide) (by decide)
    unfold f_X7_isSo
    rw [if_neg h0, if_neg h1, if_neg h5, if_pos (show nI 1 = 1 from rfl)]
    refine Iff.trans ?_ (not_congr i2).symm
    exact ⟨fun z => absurd z (by decide), fun z => absurd ⟨Nat.zero_le _, hv⟩ z⟩
/-- a blank -/
theorem rx_sg {nC nB N P : Nat} {s0 x : Int32} {sg : Nat → Int32} {m m' : MemI} (h : k_rx nC nB N P s0 sg m m') : f_X4_readSign m x = if rx_ss N sg P = x then (1, k_ui m (4, 0, 0) 2 (nI (P + 1))) else (0, k_ui m (4, 0, 0) 3 (nI P)) := by
  have hP := h.2.2.2.2
  unfold f_X4_readSign f_X4_failAt
  rw [h.2.1.2.1, rx_cs h (by omega), nI_1]
theorem rx_ms2 {nC nB N P : Nat} {s0 x : Int32} {sg : Nat → Int32} {m m' : MemI} {mlj : MemL} (h : k_rx nC nB N P s0 sg m m') (v : vp_in s0 8) (hs : ∀ i, i < 160 → sg i = (mlj (9, 1, 0) (160 * s0.toNatClampNeg + i)).toInt32) (hc : P < N) : (((mlj (9, 1, 0) (((m' (7, 0, 0) 28) + (m' (7, 0, 0) 29)).toNatClampNeg)).toInt32) = x) ↔ rx_ss N sg P = x := by
  rw [h.2.2.1.2.1, rx_ms h v hs hc, show rx_ss N sg P = sg P from if_pos hc]
theorem rx_up {nC nB N P : Nat} {s0 : Int32} {sg : Nat → Int32} {m m' : MemI} (h : k_rx nC nB N P s0 sg m m') {P2 : Nat} (hP : P2 ≤ N) : k_rx nC nB N P2 s0 sg (k_ui m (4, 0, 0) 2 (nI P2)) (k_ui m' (7, 0, 0) 29 (nI P2)) :=
  rx_mv h (fun kk qq z => k_ufr (fun y => z ⟨y.1, Or.inl y.2⟩)) k_uis (fun kk qq z _ => k_ufr (fun y => z ⟨y.1, Or.inl y.2⟩)) k_uis hP
theorem rx_bl {nC nB N P : Nat} {s0 : Int32} {sg : Nat → Int32} {m m' : MemI} {mlj : MemL} (h : k_rx nC nB N P s0 sg m m') (v : vp_in s0 8) (hs : ∀ i, i < 160 → sg i = (mlj (9, 1, 0) (160 * s0.toNatClampNeg + i)).toInt32) :
    (rx_ss N sg P ≠ 32 ∧ f_X4_readSign m 32 = (0, k_ui m (4, 0, 0) 3 (nI P)) ∧ f_X7_bl m' mlj = (0, k_ui m' (7, 0, 0) 32 (nI P))) ∨ (f_X4_readSign m 32 = (1, k_ui m (4, 0, 0) 2 (nI (P + 1))) ∧ f_X7_bl m' mlj = (1, k_ui m' (7, 0, 0) 29 (nI (P + 1))) ∧ k_rx nC nB N (P + 1) s0 sg (k_ui m (4, 0, 0) 2 (nI (P + 1))) (k_ui m' (7, 0, 0) 29 (nI (P + 1)))) := by
  rw [rx_sg h]
  unfold f_X7_bl f_X7_wrong
  by_cases c : P < N
  · rw [if_neg (fun z => (rx_me h).mp z c)]
    by_cases e : rx_ss N sg P = 32
    · rw [if_pos e, if_pos ((rx_ms2 h v hs c).mpr e), h.2.2.1.2.1, nI_1]
      exact Or.inr ⟨rfl, rfl, rx_up h c⟩
    · rw [if_neg e, if_neg (fun z => e ((rx_ms2 h v hs c).mp z)), h.2.2.1.2.1]
      exact Or.inl ⟨e, rfl, rfl⟩
  · have e : rx_ss N sg P ≠ 32 := by
      unfold rx_ss; rw [if_neg c]; decide
    rw [if_pos ((rx_me h).mpr c), if_neg e, h.2.2.1.2.1]
    exact Or.inl ⟨e, rfl, rfl⟩
/-- the next number, with its blank -/
theorem rx_nn {nC nB N P x : Nat} {s0 ww xi lo hi : Int32} {sg : Nat → Int32} {m m' : MemI} {mlj : MemL} (h : k_rx nC nB N P s0 sg m m') (w : vp_in s0 8) (hs : ∀ i, i < 160 → sg i = (mlj (9, 1, 0) (160 * s0.toNatClampNeg + i)).toInt32) (hx : x < 4) (hxi : xi = nI x) (so : ∀ P m m', k_rx nC nB N P s0 sg m m' → rx_so m' ww x lo hi) :
    ((f_X4_readNumber m lo hi).1 = -1 ∧ (((f_X7_bl m' mlj).1 = 0 ∧ (f_X4_readNumber m lo hi).2 (4, 0, 0) 3 = (f_X7_bl m' mlj).2 (7, 0, 0) 32) ∨ ((f_X7_bl m' mlj).1 = 1 ∧ (f_X7_rdn (f_X7_bl m' mlj).2 mlj ww xi).1 = 0 ∧ (f_X4_readNumber m lo hi).2 (4, 0, 0) 3 = (f_X7_rdn (f_X7_bl m' mlj).2 mlj ww xi).2 (7, 0, 0) 32))) ∨
    ∃ v P2, (v ≤ 99 ∧ P ≤ P2) ∧ (f_X4_readNumber m lo hi).1 = nI v ∧ f_X6_isOutside (nI v) lo hi = 0 ∧ (f_X7_bl m' mlj).1 = 1 ∧ (f_X7_rdn (f_X7_bl m' mlj).2 mlj ww xi).1 = 1 ∧ (f_X7_rdn (f_X7_bl m' mlj).2 mlj ww xi).2 (8, 27, 0) x = nI v ∧ k_rx nC nB N P2 s0 sg (f_X4_readNumber m lo hi).2 (f_X7_rdn (f_X7_bl m' mlj).2 mlj ww xi).2 := by
  subst hxi
  rw [rx_rn]
  rcases rx_bl h w hs with ⟨-, e1, e2⟩ | ⟨e1, e2, r⟩
  · rw [e1, e2, if_pos rfl]
    dsimp only
    exact Or.inl ⟨rfl, Or.inl ⟨rfl, k_uis.trans k_uis.symm⟩⟩
  · rw [e1, e2, if_neg (show ¬ (1 : Int32) = 0 by decide)]
    dsimp only
    rcases rx_num r w hs hx (so _ _ _ r) with ⟨a, b, c⟩ | ⟨v, P2, hv, a, o, b, c, r2⟩
    · exact Or.inl ⟨a, Or.inr ⟨rfl, b, c⟩⟩
    · exact Or.inr ⟨v, P2, ⟨hv.1, by omega⟩, a, o, rfl, b, c, r2⟩
/-- the first number, behind the word -/
theorem rx_first {nC nB N P L x : Nat} {s0 ww xi lo hi : Int32} {sg : Nat → Int32} {m m' : MemI} {mlj : MemL} (h : k_rx nC nB N P s0 sg m m') (w : vp_in s0 8) (hs : ∀ i, i < 160 → sg i = (mlj (9, 1, 0) (160 * s0.toNatClampNeg + i)).toInt32) (hL : P + L ≤ N) (hb : rx_ss N sg (P + L) = 32) (hx : x < 4) (hxi : xi = nI x) (so : ∀ P m m', k_rx nC nB N P s0 sg m m' → rx_so m' ww x lo hi) :
    ((f_X4_readNumber (k_ui m (4, 0, 0) 2 (nI (P + L))) lo hi).1 = -1 ∧ (f_X7_rdn (k_ui m' (7, 0, 0) 29 (nI (P + L + 1))) mlj ww xi).1 = 0 ∧ (f_X4_readNumber (k_ui m (4, 0, 0) 2 (nI (P + L))) lo hi).2 (4, 0, 0) 3 = (f_X7_rdn (k_ui m' (7, 0, 0) 29 (nI (P + L + 1))) mlj ww xi).2 (7, 0, 0) 32) ∨
    ∃ v P2, (v ≤ 99 ∧ P + L ≤ P2) ∧ (f_X4_readNumber (k_ui m (4, 0, 0) 2 (nI (P + L))) lo hi).1 = nI v ∧ f_X6_isOutside (nI v) lo hi = 0 ∧ (f_X7_rdn (k_ui m' (7, 0, 0) 29 (nI (P + L + 1))) mlj ww xi).1 = 1 ∧ (f_X7_rdn (k_ui m' (7, 0, 0) 29 (nI (P + L + 1))) mlj ww xi).2 (8, 27, 0) x = nI v ∧ k_rx nC nB N P2 s0 sg (f_X4_readNumber (k_ui m (4, 0, 0) 2 (nI (P + L))) lo hi).2 (f_X7_rdn (k_ui m' (7, 0, 0) 29 (nI (P + L + 1))) mlj ww xi).2 := by
  subst hxi
  have hP1 : P + L < N := by
    unfold rx_ss at hb
    by_cases c : P + L < N
    · exact c
    · rw [if_neg c] at hb; exact absurd hb (by decide)
  have r1 := rx_up h hL
  have r2 : k_rx nC nB N (P + L + 1) s0 sg (k_ui (k_ui m (4, 0, 0) 2 (nI (P + L))) (4, 0, 0) 2 (nI (P + L + 1))) (k_ui m' (7, 0, 0) 29 (nI (P + L + 1))) := rx_mv h (fun kk qq z => by rw [k_ufr (fun y => z ⟨y.1, Or.inl y.2⟩), k_ufr (fun y => z ⟨y.1, Or.inl y.2⟩)]) k_uis (fun kk qq z _ => k_ufr (fun y => z ⟨y.1, Or.inl y.2⟩)) k_uis hP1
  rw [rx_rn, rx_sg r1, if_pos hb, if_neg (show ¬ (1 : Int32) = 0 by decide)]
  rcases rx_num r2 w hs hx (so _ _ _ r2) with q | ⟨v, P2, hv, q⟩
  · exact Or.inl q
  · exact Or.inr ⟨v, P2, ⟨hv.1, by omega⟩, q⟩
theorem rx_nofirst {nC nB N P L : Nat} {s0 lo hi : Int32} {sg : Nat → Int32} {m m' : MemI} (h : k_rx nC nB N P s0 sg m m') (hL : P + L ≤ N) (hb : rx_ss N sg (P + L) ≠ 32) : f_X4_readNumber (k_ui m (4, 0, 0) 2 (nI (P + L))) lo hi = (-1, k_ui (k_ui m (4, 0, 0) 2 (nI (P + L))) (4, 0, 0) 3 (nI (P + L))) := by
  rw [rx_rn, rx_sg (rx_up h hL), if_neg hb, if_pos rfl]
