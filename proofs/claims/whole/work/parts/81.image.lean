/-! level 2: the image -/
theorem q_image {nC nB : Nat} {mi mj : MemI} {ml mlj : MemL} (h : k_R nC nB mi ml mj mlj) : k_Q nC nB (f_X6_image mi) ml (f_X7_image mj) mlj := by
  unfold f_X6_image f_X7_image
  have t0 : k_CR 2 nC nB (f_X2_become mi 2 0) mj := bec_CR (by decide) h.1 (fun i hi => h.2.1 2 (by decide) i hi)
  have c1 : ∀ kk qq, k_gr 2 kk = false → kk ≠ (6, 0, 0) → (k_ui (f_X2_become mi 2 0) (6, 0, 0) 3 1) kk qq = mi kk qq := fun kk qq hk e => (k_uk e).trans (fg_X2_become hk)
  have c2 : ∀ kk qq, k_nr kk qq = true → (k_ui (f_X2_become mi 2 0) (6, 0, 0) 3 1) kk qq = mi kk qq := fun kk qq hk => (k_frN hk rfl).trans (fn_X2_become hk)
  have d1 : ∀ kk qq, kk ≠ (8, 34, 0) → kk ≠ (7, 0, 0) → (f_X7_allO (k_ui mj (7, 0, 0) 52 1) 34) kk qq = mj kk qq := fun kk qq e1 e2 => (allO_fr e1 qq).trans (k_uk e2)
  have d2 : ∀ q, q ≠ 52 → (f_X7_allO (k_ui mj (7, 0, 0) 52 1) 34) (7, 0, 0) q = mj (7, 0, 0) q := fun q e => (allO_fr (by decide) q).trans (k_uj e)
  have d3 : (f_X7_allO (k_ui mj (7, 0, 0) 52 1) 34) (7, 0, 0) 52 = 1 := (allO_fr (by decide) 52).trans k_uis
  have d8 : ∀ n j, n ≠ 34 → (f_X7_allO (k_ui mj (7, 0, 0) 52 1) 34) (8, n, 0) j = mj (8, n, 0) j := fun n j e => d1 _ _ (k_keyne e) (by simp)
  have s2 : k_sC 2 (f_X2_become mi 2 0) (k_ui (f_X2_become mi 2 0) (6, 0, 0) 3 1) := ⟨fun i q _ => k_uk (by simp), fun i q _ => k_uk (by simp), fun q _ => k_uk (by decide)⟩
  have v := sv_all (mj := k_ui mj (7, 0, 0) 52 1) (t := 34) (by decide)
  have tm : k_CR 2 nC nB (k_ui (f_X2_become mi 2 0) (6, 0, 0) 3 1) (k_ui mj (7, 0, 0) 52 1) := CR_ext t0 s2 ⟨fun n j _ _ => k_uk (by simp), fun q hq => k_uj (by omega)⟩
  obtain ⟨a1, a2, a2b, a3, a4, a5, a6, a7, a8, a9⟩ := h
  refine Q_mk ?_ ⟨CR_ext a1 ⟨fun i q _ => c1 _ _ rfl (by simp), fun i q _ => c1 _ _ rfl (by simp), fun q _ => c1 _ _ rfl (by decide)⟩ ⟨fun n j x y => d8 n j (by omega), fun q hq => d2 q (by omega)⟩, nums_ext a2 (fun g i => c2 _ _ rfl) (fun g i => c2 _ _ rfl), fun i hi => ?_, Or.inr ⟨k_uis, d3, nC, nB, _, tm, v⟩, fun j x y => ?_, ?_, tc_ext a6 (c1 _ _ rfl (by decide)) (fun i => c1 _ _ rfl (by decide)) (d2 51 (by decide)) (fun i => d8 50 i (by decide)), fun s hs => sh_ext (a7 s hs) (Nat.le_refl _) (fun q => c1 _ _ rfl (by simp)) (d8 18 s (by decide)) (d8 19 s (by decide)) (d8 20 s (by decide)) (d8 21 s (by decide)), a8, tb_ext a9 (fun n j x y => d8 n j (by omega))⟩
  · rw [c1 _ _ rfl (by decide), d2 0 (by decide), a1.2.1.1, a1.2.1.2.2.1]
  · obtain ⟨-, -, -, -, e, f, p, r, z⟩ := tm
    refine ⟨(z i hi).1, ?_, ?_, (z i hi).2⟩
    · rcases Nat.lt_or_ge i nC with q | q
      · exact Or.inr (e i q).1.1
      · exact Or.inl (f i q hi)
    · rcases Nat.lt_or_ge i nB with q | q
      · exact Or.inr (p i q).1.1
      · exact Or.inl (r i q hi)
  · rw [c1 _ _ rfl (by decide), d8 5 j (by decide)]; exact a4 j x y
  · rw [c1 _ _ rfl (by decide), d2 4 (by decide)]; exact a5
