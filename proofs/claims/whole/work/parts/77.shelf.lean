/-! level 2: shelves -/
theorem shA_eq {s0 : Int32} (h : vp_in s0 8) : f_X6_shelfAt s0 = s0.toNatClampNeg := by
  obtain ⟨j, hj, rfl⟩ := vp_in_of h (by decide)
  unfold f_X6_shelfAt
  rw [if_neg (nI_pos (by omega)), if_neg (show ¬ (8 : Int32) ≤ nI j from nI_ge (b := 8) hj (by decide))]
theorem shA_no {s0 : Int32} (h : ¬ vp_in s0 8) : f_X6_shelfAt s0 = 8 := by
  unfold f_X6_shelfAt
  by_cases a : s0 < 0
  · rw [if_pos a]
  · rw [if_neg a]
    by_cases b : 8 ≤ s0
    · rw [if_pos b]
    · exact absurd (k_vin a b rfl) h
theorem isS_iff (s0 : Int32) : f_X7_isShelf s0 = 0 ↔ ¬ vp_in s0 8 := by
  unfold f_X7_isShelf
  by_cases h : vp_in s0 8
  · obtain ⟨j, hj, rfl⟩ := vp_in_of h (by decide)
    rw [if_neg (nI_pos (by omega)), if_neg (show ¬ (8 : Int32) ≤ nI j from nI_ge (b := 8) hj (by decide))]
    exact ⟨fun z => absurd z (by decide), fun z => absurd h z⟩
  · refine ⟨fun _ => h, fun _ => ?_⟩
    by_cases a : s0 < 0
    · rw [if_pos a]
    · rw [if_neg a]
      by_cases b : 8 ≤ s0
      · rw [if_pos b]
      · exact absurd (k_vin a b rfl) h
theorem bt3_ne {v : Int32} (h : k_bt 3 v) : ¬ v = -1 := by
  obtain ⟨j, hj, rfl⟩ := h
  exact k_nIne (by omega)
theorem q_holds {nC nB : Nat} {mi mj : MemI} {ml mlj : MemL} (h : k_R nC nB mi ml mj mlj) (s0 : Int32) : f_X6_holds mi s0 = f_X7_holds mj s0 := by
  unfold f_X6_holds f_X7_holds
  by_cases w : vp_in s0 8
  · have hb := k_clamp w
    rw [shA_eq w, if_pos hb, if_neg (fun z => (isS_iff s0).mp z w)]
    obtain ⟨-, a⟩ := h.2.2.2.2.2.2.2.1 _ hb
    unfold f_X5_hasRow
    rcases a with ⟨a1, a2, a3, a4, a5⟩ | ⟨a1, a2, a3, a4⟩ | ⟨a1, a2, a3, a4, a5⟩
    · rw [a1, a5, if_neg (bt3_ne a2), if_neg (show ¬ (1 : Int32) = 0 by decide), if_neg (show ¬ (1 : Int32) = 0 by decide), if_pos rfl]
    · rw [a1, a2, a4, if_pos rfl, if_pos rfl, if_pos rfl]
    · rw [a1, a3, a5, if_pos rfl, if_pos rfl, if_neg (show ¬ (2 : Int32) = 0 by decide), if_neg (show ¬ (2 : Int32) = 1 by decide)]
  · rw [shA_no w, if_neg (Nat.lt_irrefl 8), if_pos ((isS_iff s0).mpr w)]
theorem q_fault {nC nB : Nat} {mi mj : MemI} {ml mlj : MemL} (h : k_R nC nB mi ml mj mlj) : f_X6_fault mi = f_X7_fault mj := h.2.2.2.2.2.1
theorem R_shelf {nC nB s : Nat} {mi mj m m' : MemI} {ml mlj ml' mlj' : MemL} (h : k_R nC nB mi ml mj mlj) (hs : s < 8) (h1 : ∀ kk qq, kk ≠ (5, 0, s) → m kk qq = mi kk qq) (h2 : ∀ kk qq, ¬ (kk.1 = 8 ∧ 18 ≤ kk.2.1 ∧ kk.2.1 ≤ 21 ∧ qq = s) → m' kk qq = mj kk qq) (h3 : k_sh nC s m m') (h4 : ∀ s, s < 8 → ∀ i, i < 160 → ml' (9, 0, s) i = mlj' (9, 1, 0) (160 * s + i)) : k_R nC nB m ml' m' mlj' := by
  obtain ⟨a1, a2, a2b, a3, a4, a5, a6, a7, a8, a9⟩ := h
  have c1 : ∀ g i q, m (1, g, i) q = mi (1, g, i) q := fun g i q => h1 _ _ (by simp)
  have c0 : ∀ g i q, m (0, g, i) q = mi (0, g, i) q := fun g i q => h1 _ _ (by simp)
  have c2 : ∀ g q, m (2, g, 0) q = mi (2, g, 0) q := fun g q => h1 _ _ (by simp)
  have hsC : ∀ g, k_sC g mi m := fun g => ⟨fun i q _ => c1 g i q, fun i q _ => c0 g i q, fun q _ => c2 g q⟩
  have d8 : ∀ n j, (n < 18 ∨ 21 < n) → m' (8, n, 0) j = mj (8, n, 0) j := fun n j hn => h2 _ _ (fun z => by have z1 : 18 ≤ n := z.2.1; have z2 : n ≤ 21 := z.2.2.1; omega)
  have d7 : ∀ q, m' (7, 0, 0) q = mj (7, 0, 0) q := fun q => h2 _ _ (fun z => absurd z.1 (by decide))
  have ds : ∀ n j, j ≠ s → m' (8, n, 0) j = mj (8, n, 0) j := fun n j hj => h2 _ _ (fun z => hj z.2.2.2)
  refine ⟨CR_ext a1 (hsC 0) ⟨fun n j x y => d8 n j (by omega), fun q _ => d7 q⟩, nums_ext a2 (fun g i => c1 g i 0) (fun g i => c0 g i 0), fun i hi => ?_, im_ext a3 (h1 _ _ (by simp)) (hsC 2) (d7 52) (fun p => d8 34 p (by decide)), fun j x y => ?_, ?_, tc_ext a6 (h1 _ _ (by simp)) (fun i => h1 _ _ (by simp)) (d7 51) (fun i => d8 50 i (by decide)), fun t ht => ?_, h4, tb_ext a9 (fun n j x y => d8 n j (by omega))⟩
  · rw [c1, c1, c0, c0]; exact a2b i hi
  · rw [h1 _ _ (by simp), d8 5 j (by decide)]; exact a4 j x y
  · rw [h1 _ _ (by simp), d7]; exact a5
  · by_cases e : t = s
    · subst e; exact h3
    · exact sh_ext (a7 t ht) (Nat.le_refl _) (fun q => h1 _ _ (by simp [e])) (ds 18 t e) (ds 19 t e) (ds 20 t e) (ds 21 t e)
