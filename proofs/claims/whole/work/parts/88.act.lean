/-! level 2: act -/
def k_tcr (r : Nat) (mi mj : MemI) : Prop := mi (3, 0, 0) 1 = nI r ∧ mj (7, 0, 0) 51 = nI r ∧ ∀ i, i < 20 → i < r → mi (8, 102, 0) i = mj (8, 50, 0) i
theorem k_inc300 : ∀ a, a < 300 → nI a + 1 = nI (a + 1) := by decide +kernel
theorem beg_tc {r : Nat} {mi mj : MemI} {b : Int32} (hr : r < 300) (h : k_tcr r mi mj) : k_tcr (r + 1) (f_X3_begin mi b) (f_X7_body mj b) := by
  obtain ⟨h1, h2, h3⟩ := h
  unfold f_X3_begin f_X7_body
  rw [h1, h2, if_neg (nI_pos (by omega)), k_inc300 r hr]
  by_cases c : 20 ≤ r
  · have c2 : (20 : Int32) ≤ nI r := Int32.not_lt.mp (fun z => by
      have e := Int32.lt_iff_toInt_lt.mp z
      rw [nI_toInt (by omega)] at e
      have e20 : (20 : Int32).toInt = 20 := rfl
      omega)
    rw [if_pos c2, if_pos c2]
    exact ⟨k_uis, k_uis, fun i hi _ => (k_uk (by decide)).trans ((h3 i hi (by omega)).trans (k_uk (by decide)).symm)⟩
  · have c2 : ¬ (20 : Int32) ≤ nI r := nI_ge (b := 20) (by omega) (by decide)
    rw [if_neg c2, if_neg c2, k_uk (by decide), h1, k_uk (by decide), h2, k_inc300 r hr, nI_clamp (by omega)]
    refine ⟨k_uis, k_uis, fun i hi hlt => ?_⟩
    refine (k_uk (show ((8, 102, 0) : Ky) ≠ (3, 0, 0) by decide)).trans (Eq.trans ?_ (k_uk (show ((8, 50, 0) : Ky) ≠ (7, 0, 0) by decide)).symm)
    by_cases e : i = r
    · subst e; rw [k_uis, k_uis]
    · rw [k_uj e, k_uj e]; exact h3 i hi (by omega)
theorem R_trace {nC nB r : Nat} {mi mj m m' : MemI} {ml mlj : MemL} (h : k_R nC nB mi ml mj mlj) (h1 : ∀ kk qq, kk ≠ (3, 0, 0) → kk ≠ (8, 102, 0) → m kk qq = mi kk qq) (h2 : ∀ kk qq, ¬ (kk = (7, 0, 0) ∧ qq = 51) → kk ≠ (8, 50, 0) → m' kk qq = mj kk qq) (h3 : k_tcr r m m') (hr : r ≤ 300) : k_R nC nB m ml m' mlj := by
  obtain ⟨a1, a2, a2b, a3, a4, a5, a6, a7, a8, a9⟩ := h
  have c1 : ∀ g i q, m (1, g, i) q = mi (1, g, i) q := fun g i q => h1 _ _ (by simp) (by simp)
  have c0 : ∀ g i q, m (0, g, i) q = mi (0, g, i) q := fun g i q => h1 _ _ (by simp) (by simp)
  have c2 : ∀ g q, m (2, g, 0) q = mi (2, g, 0) q := fun g q => h1 _ _ (by simp) (by simp)
  have hsC : ∀ g, k_sC g mi m := fun g => ⟨fun i q _ => c1 g i q, fun i q _ => c0 g i q, fun q _ => c2 g q⟩
  have d8 : ∀ n j, n ≠ 50 → m' (8, n, 0) j = mj (8, n, 0) j := fun n j hn => h2 _ _ (fun z => absurd z.1 (by simp)) (k_keyne hn)
  have d7 : ∀ q, q ≠ 51 → m' (7, 0, 0) q = mj (7, 0, 0) q := fun q hq => h2 _ _ (fun z => hq z.2) (by decide)
  refine ⟨CR_ext a1 (hsC 0) ⟨fun n j x y => d8 n j (by omega), fun q hq => d7 q (by omega)⟩, nums_ext a2 (fun g i => c1 g i 0) (fun g i => c0 g i 0), fun i hi => ?_, im_ext a3 (h1 _ _ (by decide) (by decide)) (hsC 2) (d7 52 (by decide)) (fun p => d8 34 p (by decide)), fun j x y => ?_, ?_, ⟨r, hr, h3⟩, fun s hs => sh_ext (a7 s hs) (Nat.le_refl _) (fun q => h1 _ _ (by simp) (by simp)) (d8 18 s (by decide)) (d8 19 s (by decide)) (d8 20 s (by decide)) (d8 21 s (by decide)), a8, tb_ext a9 (fun n j x y => d8 n j (by omega))⟩
  · rw [c1, c1, c0, c0]; exact a2b i hi
  · rw [h1 _ _ (by decide) (by decide), d8 5 j (by decide)]; exact a4 j x y
  · rw [h1 _ _ (by decide) (by decide), d7 4 (by decide)]; exact a5
