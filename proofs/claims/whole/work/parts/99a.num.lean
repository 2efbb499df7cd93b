/-! the reader's numbers and the model's -/
def rx_dg (x : Int32) : Prop := ∃ d : Nat, d ≤ 9 ∧ x = nI (48 + d)
theorem rx_dgI (x : Int32) : (if x < 48 then (0 : Int32) else if 57 < x then 0 else 1) = 0 ↔ ¬ rx_dg x := by
  constructor
  · rintro e ⟨d, hd, rfl⟩
    rw [if_neg (show ¬ nI (48 + d) < (48 : Int32) from fun z => absurd ((nI_ltI (b := 48) (by omega) (by omega)).mp z) (by omega)), if_neg (show ¬ (57 : Int32) < nI (48 + d) from fun z => absurd ((nI_ltI (a := 57) (by omega) (by omega)).mp z) (by omega))] at e
    exact absurd e (by decide)
  · intro h
    by_cases a : x < 48
    · rw [if_pos a]
    · rw [if_neg a]
      by_cases b : 57 < x
      · rw [if_pos b]
      · exfalso
        have n0 : ¬ x < 0 := fun z => a (Int32.lt_trans z (by decide))
        obtain ⟨j, hj, rfl⟩ := nI_of n0
        have j1 : ¬ j < 48 := fun z => a ((nI_ltI (b := 48) hj (by omega)).mpr z)
        have j2 : ¬ 57 < j := fun z => b ((nI_ltI (a := 57) (by omega) hj).mpr z)
        exact h ⟨j - 48, by omega, by rw [show 48 + (j - 48) = j by omega]⟩
theorem rx_dgN {N k : Nat} {sg : Nat → Int32} (h : rx_dg (rx_ss N sg k)) : k < N := by
  obtain ⟨d, hd, e⟩ := h
  unfold rx_ss at e
  by_cases c : k < N
  · exact c
  · rw [if_neg c] at e; exact absurd e.symm (k_nIne (by omega))
theorem rx_cD {nC nB N P k : Nat} {s0 : Int32} {sg : Nat → Int32} {m m' : MemI} (h : k_rx nC nB N P s0 sg m m') (hk : k < 2 ^ 31) : f_X4_isDigit m (nI k) = 0 ↔ ¬ rx_dg (rx_ss N sg k) := by
  unfold f_X4_isDigit
  rw [rx_cs h hk]
  exact rx_dgI _
theorem rx_mD {nC nB N P : Nat} {s0 : Int32} {sg : Nat → Int32} {m m' : MemI} {mlj : MemL} (h : k_rx nC nB N P s0 sg m m') (w : vp_in s0 8) (hs : ∀ i, i < 160 → sg i = (mlj (9, 1, 0) (160 * s0.toNatClampNeg + i)).toInt32) : f_X7_isDigit m' mlj = 0 ↔ ¬ rx_dg (rx_ss N sg P) := by
  unfold f_X7_isDigit
  by_cases c : P < N
  · rw [if_neg (fun z => (rx_me h).mp z c), h.2.2.1.2.1, rx_ms h w hs c, show sg P = rx_ss N sg P from (if_pos c).symm]
    exact rx_dgI _
  · rw [if_pos ((rx_me h).mpr c)]
    exact ⟨fun _ z => c (rx_dgN z), fun _ => rfl⟩
theorem rx_n1 : ∀ d, d < 10 → nI (48 + d) - 48 = nI d ∧ 0 + nI (48 + d) - 48 = nI d := by decide +kernel
theorem rx_n2 : ∀ d, d < 10 → ∀ e, e < 10 → nI d * 10 + nI (48 + e) - 48 = nI (10 * d + e) ∧ 10 * nI d + nI (48 + e) - 48 = nI (10 * d + e) := by decide +kernel
/-- the class's digits, behind the blank -/
def rx_cd (m : MemI) (lo hi : Int32) : Int32 × MemI :=
  if (f_X4_isDigit m (m (4, 0, 0) 2)) = 0 then ((-1), (f_X4_failAt m (m (4, 0, 0) 2)).2)
    else if (f_X4_isDigit (k_ui m (4, 0, 0) 2 ((m (4, 0, 0) 2) + 1)) ((k_ui m (4, 0, 0) 2 ((m (4, 0, 0) 2) + 1)) (4, 0, 0) 2)) = 0 then if (f_X6_isOutside ((f_X4_signAt m (m (4, 0, 0) 2)) - 48) lo hi) = 0 then ((f_X4_signAt m (m (4, 0, 0) 2)) - 48, k_ui m (4, 0, 0) 2 ((m (4, 0, 0) 2) + 1))
        else ((-1), (f_X4_failAt (k_ui m (4, 0, 0) 2 ((m (4, 0, 0) 2) + 1)) (m (4, 0, 0) 2)).2)
      else if (f_X6_isOutside (((((f_X4_signAt m (m (4, 0, 0) 2)) - 48) * 10) + (f_X4_signAt (k_ui m (4, 0, 0) 2 ((m (4, 0, 0) 2) + 1)) ((k_ui m (4, 0, 0) 2 ((m (4, 0, 0) 2) + 1)) (4, 0, 0) 2))) - 48) lo hi) = 0 then (((((f_X4_signAt m (m (4, 0, 0) 2)) - 48) * 10) + (f_X4_signAt (k_ui m (4, 0, 0) 2 ((m (4, 0, 0) 2) + 1)) ((k_ui m (4, 0, 0) 2 ((m (4, 0, 0) 2) + 1)) (4, 0, 0) 2))) - 48, k_ui (k_ui m (4, 0, 0) 2 ((m (4, 0, 0) 2) + 1)) (4, 0, 0) 2 (((k_ui m (4, 0, 0) 2 ((m (4, 0, 0) 2) + 1)) (4, 0, 0) 2) + 1))
        else ((-1), (f_X4_failAt (k_ui (k_ui m (4, 0, 0) 2 ((m (4, 0, 0) 2) + 1)) (4, 0, 0) 2 (((k_ui m (4, 0, 0) 2 ((m (4, 0, 0) 2) + 1)) (4, 0, 0) 2) + 1)) (m (4, 0, 0) 2)).2)
theorem rx_rn (m : MemI) (lo hi : Int32) : f_X4_readNumber m lo hi = if (f_X4_readSign m 32).1 = 0 then ((-1), (f_X4_readSign m 32).2) else rx_cd (f_X4_readSign m 32).2 lo hi := rfl
/-- digits read: where, how much -/
theorem rx_dig {nC nB N P : Nat} {s0 : Int32} {sg : Nat → Int32} {m m' : MemI} {mlj : MemL} (h : k_rx nC nB N P s0 sg m m') (w : vp_in s0 8) (hs : ∀ i, i < 160 → sg i = (mlj (9, 1, 0) (160 * s0.toNatClampNeg + i)).toInt32) (lo hi : Int32) :
    (rx_cd m lo hi = (-1, k_ui m (4, 0, 0) 3 (nI P)) ∧ ∃ M', f_X7_reads m' mlj = (0, M') ∧ M' (7, 0, 0) 32 = nI P) ∨
    ∃ v P2 M1 M1', (v ≤ 99 ∧ P ≤ P2) ∧ f_X7_reads m' mlj = (1, M1') ∧ rx_cd m lo hi = (if f_X6_isOutside (nI v) lo hi = 0 then (nI v, M1) else (-1, k_ui M1 (4, 0, 0) 3 (nI P))) ∧ k_rx nC nB N P2 s0 sg M1 M1' ∧ M1' (7, 0, 0) 31 = nI v ∧ ∀ kk qq, ¬ (kk = (7, 0, 0) ∧ (qq = 29 ∨ qq = 31 ∨ qq = 32)) → M1' kk qq = m' kk qq := by
  obtain ⟨R, ⟨a1, a2, a3⟩, ⟨b1, b2, b3⟩, t, p, n⟩ := id h
  have hA : k_rx nC nB N P s0 sg m (k_ui m' (7, 0, 0) 31 0) := rx_mv h (fun _ _ _ => rfl) a2 (fun kk qq z _ => k_ufr (fun y => z ⟨y.1, Or.inr (Or.inl y.2)⟩)) ((k_uj (by decide)).trans b2) p
  unfold rx_cd f_X7_reads
  rw [a2]
  by_cases g1 : rx_dg (rx_ss N sg P)
  · right
    have hP := rx_dgN g1
    obtain ⟨d, hd, ed⟩ := id g1
    obtain ⟨n1, n2⟩ := rx_n1 d (by omega)
    have sP : sg P = nI (48 + d) := by rw [← ed]; exact (if_pos hP).symm
    rw [if_neg (fun z => (rx_cD h (by omega)).mp z g1), if_neg (fun z => (rx_mD hA w hs).mp z g1), b2, rx_ms h w hs hP, sP, n2, nI_1, k_uis, rx_cs h (by omega), ed, n1]
    have hB : k_rx nC nB N (P + 1) s0 sg (k_ui m (4, 0, 0) 2 (nI (P + 1))) (k_ui (k_ui (k_ui m' (7, 0, 0) 31 0) (7, 0, 0) 31 (nI d)) (7, 0, 0) 29 (nI (P + 1))) := rx_mv h (fun kk qq z => k_ufr (fun y => z ⟨y.1, Or.inl y.2⟩)) k_uis (fun kk qq z _ => by rw [k_ufr (fun y => z ⟨y.1, Or.inl y.2⟩), k_ufr (fun y => z ⟨y.1, Or.inr (Or.inl y.2)⟩), k_ufr (fun y => z ⟨y.1, Or.inr (Or.inl y.2)⟩)]) k_uis (by omega)
    by_cases g2 : rx_dg (rx_ss N sg (P + 1))
    · have hP2 := rx_dgN g2
      obtain ⟨f, hf, ef⟩ := id g2
      obtain ⟨q1, q2⟩ := rx_n2 d (by omega) f (by omega)
      have sP2 : sg (P + 1) = nI (48 + f) := by rw [← ef]; exact (if_pos hP2).symm
      rw [if_neg (fun z => (rx_cD hB (by omega)).mp z g2), if_neg (fun z => (rx_mD hB w hs).mp z g2), rx_cs hB (by omega), ef, q1, rx_ms h w hs hP2, sP2, q2, nI_1]
      refine ⟨10 * d + f, P + 1 + 1, _, _, ⟨by omega, by omega⟩, rfl, rfl, rx_mv hB (fun kk qq z => k_ufr (fun y => z ⟨y.1, Or.inl y.2⟩)) k_uis (fun kk qq z _ => by rw [k_ufr (fun y => z ⟨y.1, Or.inl y.2⟩), k_ufr (fun y => z ⟨y.1, Or.inr (Or.inl y.2)⟩)]) k_uis (by omega), ?_, fun kk qq z => ?_⟩
      · rw [k_uj (by decide), k_uis]
      · rw [k_ufr (fun y => z ⟨y.1, Or.inl y.2⟩), k_ufr (fun y => z ⟨y.1, Or.inr (Or.inl y.2)⟩), k_ufr (fun y => z ⟨y.1, Or.inl y.2⟩), k_ufr (fun y => z ⟨y.1, Or.inr (Or.inl y.2)⟩), k_ufr (fun y => z ⟨y.1, Or.inr (Or.inl y.2)⟩)]
    · rw [if_pos ((rx_cD hB (by omega)).mpr g2), if_pos ((rx_mD hB w hs).mpr g2)]
      refine ⟨d, P + 1, _, _, ⟨by omega, by omega⟩, rfl, rfl, hB, ?_, fun kk qq z => ?_⟩
      · rw [k_uj (by decide), k_uis]
      · rw [k_ufr (fun y => z ⟨y.1, Or.inl y.2⟩), k_ufr (fun y => z ⟨y.1, Or.inr (Or.inl y.2)⟩), k_ufr (fun y => z ⟨y.1, Or.inr (Or.inl y.2)⟩)]
  · left
    rw [if_pos ((rx_cD h (by omega)).mpr g1), if_pos ((rx_mD hA w hs).mpr g1), b2]
    refine ⟨rfl, _, rfl, ?_⟩
    unfold f_X7_wrong
    dsimp only
    exact k_uis
/-- a number, behind its blank -/
def rx_so (m' : MemI) (ww : Int32) (x : Nat) (lo hi : Int32) : Prop := ∀ v : Nat, v ≤ 99 → ∀ M', M' (7, 0, 0) 31 = nI v → (∀ kk qq, ¬ (kk = (7, 0, 0) ∧ (qq = 29 ∨ qq = 31 ∨ qq = 32)) → M' kk qq = m' kk qq) → (f_X7_isSo M' ww (nI x) = 0 ↔ ¬ f_X6_isOutside (nI v) lo hi = 0)
theorem rx_num {nC nB N P x : Nat} {s0 ww lo hi : Int32} {sg : Nat → Int32} {m m' : MemI} {mlj : MemL} (h : k_rx nC nB N P s0 sg m m') (w : vp_in s0 8) (hs : ∀ i, i < 160 → sg i = (mlj (9, 1, 0) (160 * s0.toNatClampNeg + i)).toInt32) (hx : x < 4) (so : rx_so m' ww x lo hi) :
    ((rx_cd m lo hi).1 = -1 ∧ (f_X7_rdn m' mlj ww (nI x)).1 = 0 ∧ (rx_cd m lo hi).2 (4, 0, 0) 3 = (f_X7_rdn m' mlj ww (nI x)).2 (7, 0, 0) 32) ∨
    ∃ v P2, (v ≤ 99 ∧ P ≤ P2) ∧ (rx_cd m lo hi).1 = nI v ∧ f_X6_isOutside (nI v) lo hi = 0 ∧ (f_X7_rdn m' mlj ww (nI x)).1 = 1 ∧ (f_X7_rdn m' mlj ww (nI x)).2 (8, 27, 0) x = nI v ∧ k_rx nC nB N P2 s0 sg (rx_cd m lo hi).2 (f_X7_rdn m' mlj ww (nI x)).2 := by
  unfold f_X7_rdn
  rcases rx_dig h w hs lo hi with ⟨e1, M', e2, e3⟩ | ⟨v, P2, M1, M1', hv, e1, e2, e3, e4, e5⟩
  · rw [e1, e2, if_pos rfl]
    dsimp only
    exact Or.inl ⟨rfl, rfl, k_uis.trans e3.symm⟩
  · rw [e1, e2, if_neg (show ¬ (1 : Int32) = 0 by decide)]
    dsimp only
    by_cases o : f_X6_isOutside (nI v) lo hi = 0
    · rw [if_pos o, if_neg (fun z => (so v hv.1 M1' e4 e5).mp z o), nI_clamp (by omega)]
      refine Or.inr ⟨v, P2, hv, rfl, o, rfl, k_uis.trans e4, ?_⟩
      dsimp only
      exact rx_mv e3 (fun _ _ _ => rfl) e3.2.1.2.1 (fun kk qq _ z => k_uk z) ((k_uk (show ((7, 0, 0) : Ky) ≠ (8, 27, 0) by decide)).trans e3.2.2.1.2.1) e3.2.2.2.2.1
    · rw [if_neg o, if_pos ((so v hv.1 M1' e4 e5).mpr o)]
      refine Or.inl ⟨rfl, rfl, ?_⟩
      unfold f_X7_wrong
      dsimp only
      rw [k_uis, k_uis]
      exact h.2.2.1.2.1.symm
