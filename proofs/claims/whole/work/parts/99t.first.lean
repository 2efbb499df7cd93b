/-! the first memory; the world as the contracts want it -/
theorem arrV_ext {cA : ClassId} {N : Nat} {f g : Nat → Value} (h : ∀ j, j < N → f j = g j) : arrV cA N f = arrV cA N g := by
  unfold arrV
  have : (fun j : Fin N => f j.val) = fun j : Fin N => g j.val := funext (fun j => h j.val j.isLt)
  rw [this]
theorem k_P_to {D : va_G} {cy : Nat → ClassId} {ad : Ky → Nat} {K1 K2 : List Ky} {mr mr2 : MemR} {mi : MemI} {ml : MemL} {H : Heap} (hP : va_P D vwCl (k_ws cy ad K1 mr mi ml) H) (hs : ∀ k ∈ K2, k ∈ K1) (h8 : ∀ k ∈ K2, k.1 < 8 → ∀ j, j < k_nF k.1 → k_rf k.1 j = true → mr k j = mr2 k j) (h10 : ∀ k ∈ K2, 10 ≤ k.1 → ∀ j, j < k_ln k → mr k j = mr2 k j) : va_P D vwCl (k_ws cy ad K2 mr2 mi ml) H := by
  intro n q hq
  unfold k_ws at hq
  rw [List.getElem?_map] at hq
  cases hk : K2[n]? with
  | none => rw [hk] at hq; cases hq
  | some k =>
    rw [hk] at hq
    cases hq
    have hm := List.mem_of_getElem? hk
    obtain ⟨n1, -, hw⟩ := k_at (cy := cy) (ad := ad) (mr := mr) (mi := mi) (ml := ml) (hs k hm)
    have h := hP n1 _ hw
    by_cases c8 : k.1 < 8
    · have e : k_cell cy ad mr mi ml k = k_cell cy ad mr2 mi ml k := by
        unfold k_cell
        rw [if_pos c8, if_pos c8]
        congr 2
        refine List.map_congr_left (fun j hj => ?_)
        by_cases r : k_rf k.1 j = true
        · rw [if_pos r, if_pos r, h8 k hm c8 j (List.mem_range.mp hj) r]
        · rw [if_neg r, if_neg r]
      rw [e] at h; exact h
    · by_cases e8 : k.1 = 8
      · have e : k_cell cy ad mr mi ml k = k_cell cy ad mr2 mi ml k := by
          unfold k_cell
          rw [if_neg c8, if_pos e8, if_neg c8, if_pos e8]
        rw [e] at h; exact h
      · by_cases e9 : k.1 = 9
        · have e : k_cell cy ad mr mi ml k = k_cell cy ad mr2 mi ml k := by
            unfold k_cell
            rw [if_neg c8, if_neg e8, if_pos e9, if_neg c8, if_neg e8, if_pos e9]
          rw [e] at h; exact h
        · have ec : ∀ mr : MemR, k_cell cy ad mr mi ml k = .inl (cy k.1, k_ln k, .inr (.inr (.inr (.inr (fun j => (mr k j).map ad))))) := fun mr => by
            unfold k_cell
            rw [if_neg c8, if_neg e8, if_neg e9]
          show va_at D vwCl (ad k, k_cell cy ad mr2 mi ml k) H
          rw [ec] at h ⊢
          show H[ad k]? = some (arrV (cy k.1) (k_ln k) (fun j => va_rf ((mr2 k j).map ad)))
          have h2 : H[ad k]? = some (arrV (cy k.1) (k_ln k) (fun j => va_rf ((mr k j).map ad))) := h
          rw [h2, arrV_ext (f := fun j => va_rf ((mr k j).map ad)) (g := fun j => va_rf ((mr2 k j).map ad)) (fun j hj => by rw [h10 k hm (by omega) j hj])]
theorem k_ok_to {bs : Nat} {ad : Ky → Nat} {K1 K2 : List Ky} (h : k_ok bs ad K1) (hs : ∀ k ∈ K2, k ∈ K1) (hn : K2.Nodup) : k_ok bs ad K2 := by
  refine ⟨fun i j k k' hi hj e => ?_, fun k hk => h.2 k (hs k hk)⟩
  obtain ⟨i1, h1⟩ := List.getElem?_of_mem (hs k (List.mem_of_getElem? hi))
  obtain ⟨j1, h2⟩ := List.getElem?_of_mem (hs k' (List.mem_of_getElem? hj))
  have e1 := h.1 i1 j1 k k' h1 h2 e
  subst e1
  have ek : k = k' := Option.some.inj (h1.symm.trans h2)
  subst ek
  obtain ⟨li, ei⟩ := List.getElem?_eq_some_iff.mp hi
  obtain ⟨lj, ej⟩ := List.getElem?_eq_some_iff.mp hj
  have pw := List.pairwise_iff_getElem.mp hn
  rcases Nat.lt_trichotomy i j with q | q | q
  · exact absurd (ei.trans ej.symm) (pw i j li lj q)
  · exact q
  · exact absurd (ej.trans ei.symm) (pw j i lj li q)
theorem kf_sub : ∀ k ∈ k_KS, k ∈ kS_106 := by decide +kernel
theorem kf_nd : k_KS.Nodup := by decide +kernel
theorem kf_8 : ∀ k ∈ k_KS, k.1 < 8 → ∀ j, j < k_nF k.1 → k_rf k.1 j = true → qR_X7 k j = k_R0 k j := by decide +kernel
theorem kf_10 : ∀ k ∈ k_KS, 10 ≤ k.1 → ∀ j, j < k_ln k → qR_X7 k j = k_R0 k j := by decide +kernel
theorem kf_J : k_J qM_X7 qL_z := by
  refine ⟨0, 0, ⟨⟨by decide, by decide⟩, ⟨by decide +kernel, by decide +kernel, by decide +kernel, by decide +kernel⟩, ⟨by decide +kernel, by decide +kernel⟩, by decide +kernel, fun i hi => absurd hi (Nat.not_lt_zero _), ?_, fun i hi => absurd hi (Nat.not_lt_zero _), ?_, by decide +kernel⟩, ?_, by decide +kernel, Or.inl ⟨by decide +kernel, by decide +kernel⟩, ?_, by decide +kernel, ⟨0, by decide, by decide +kernel, by decide +kernel, fun i _ hi => absurd hi (Nat.not_lt_zero _)⟩, fun s hs => ?_, fun _ _ _ _ => rfl, ?_⟩
  · have : ∀ i, i < 6 → qM_X7 (1, 0, i) 1 = 0 := by decide +kernel
    exact fun i _ h => this i h
  · have : ∀ i, i < 6 → qM_X7 (0, 0, i) 1 = 0 := by decide +kernel
    exact fun i _ h => this i h
  · have : ∀ g, g < 3 → ∀ i, i < 6 → qM_X7 (1, g, i) 0 = nI i ∧ qM_X7 (0, g, i) 0 = nI i := by decide +kernel
    exact this
  · have : ∀ j, j < 8 → qM_X7 (8, 100, 0) j = qM_X7 (8, 5, 0) j := by decide +kernel
    exact fun j _ h => this j h
  · have a : ∀ s, s < 8 → qM_X7 (8, 20, 0) s = nI 0 := by decide +kernel
    have b : ∀ s, s < 8 → qM_X7 (5, 0, s) 1 = -1 ∧ qM_X7 (5, 0, s) 3 = -1 ∧ qM_X7 (5, 0, s) 2 = 0 ∧ qM_X7 (8, 18, 0) s = 0 := by decide +kernel
    exact ⟨⟨0, Nat.zero_le _, a s hs⟩, Or.inr (Or.inl (b s hs))⟩
  · have a : ∀ j, j < 43 → qM_X7 (8, 24, 0) j = k_wd j := by decide +kernel
    have b : ∀ j, j < 6 → qM_X7 (8, 25, 0) j = k_nm j := by decide +kernel
    exact ⟨a, b, by decide +kernel, by decide +kernel, by decide +kernel, by decide +kernel⟩
