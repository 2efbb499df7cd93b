/-! what the contracts ask, from the relation -/
theorem hy_zo {g nC nB : Nat} {mi mj : MemI} (h : k_CR g nC nB mi mj) : k_zo g mi := fun i hi => by
  obtain ⟨-, -, -, -, e, f, p, r, z⟩ := h
  refine ⟨⟨?_, (z i hi).1⟩, ⟨?_, (z i hi).2⟩⟩
  · rcases Nat.lt_or_ge i nC with q | q
    · exact Or.inr (e i q).1.1
    · exact Or.inl (f i q hi)
  · rcases Nat.lt_or_ge i nB with q | q
    · exact Or.inr (p i q).1.1
    · exact Or.inl (r i q hi)
theorem hy_zo0 {nC nB : Nat} {mi mj : MemI} {ml mlj : MemL} (h : k_R nC nB mi ml mj mlj) : k_zo 0 mi := hy_zo h.1
theorem hy_zo2 {nC nB : Nat} {mi mj : MemI} {ml mlj : MemL} (h : k_R nC nB mi ml mj mlj) : k_zo 2 mi := fun i hi => by
  obtain ⟨a, b, c, d⟩ := h.2.2.1 i hi
  exact ⟨⟨b, a⟩, ⟨c, d⟩⟩
theorem hy_num {g nC nB : Nat} {mi mj : MemI} {ml mlj : MemL} (hg : g < 3) (h : k_R nC nB mi ml mj mlj) : k_num g mi := fun i hi => (h.2.1 g hg i hi).2
theorem hy_mo {nC nB : Nat} {mi mj : MemI} {ml mlj : MemL} (h : k_R nC nB mi ml mj mlj) : k_mo nC nB mj := CR_mo h.1
theorem hy_Sh {nC nB : Nat} {mi mj : MemI} {ml mlj : MemL} (h : k_R nC nB mi ml mj mlj) : ∀ i, i < 8 → ∃ len : Nat, len ≤ 160 ∧ mi (5, 0, i) 2 = nI len := fun i hi => by
  obtain ⟨⟨len, l1, l2⟩, sh⟩ := h.2.2.2.2.2.2.2.1 i hi
  rcases sh with ⟨-, -, -, a4, -⟩ | ⟨-, -, a3, -⟩ | ⟨-, a2, -⟩
  · exact ⟨len, l1, a4.trans l2⟩
  · exact ⟨0, by decide, a3⟩
  · exact ⟨0, by decide, a2⟩
theorem hy_sz {nC nB : Nat} {mi mj : MemI} {ml mlj : MemL} (h : k_R nC nB mi ml mj mlj) : k_sz mj := fun s hs => (h.2.2.2.2.2.2.2.1 s hs).1
theorem hy_sh {nC nB : Nat} {mi mj : MemI} {ml mlj : MemL} (h : k_R nC nB mi ml mj mlj) : ∀ s0, s0 < 8 → ¬ mj (8, 18, 0) s0 = 1 → ¬ mj (8, 18, 0) s0 = 0 → vp_in (mj (8, 21, 0) s0) 6 := fun s hs n1 n0 => by
  obtain ⟨-, sh⟩ := h.2.2.2.2.2.2.2.1 s hs
  rcases sh with ⟨-, -, -, -, a5⟩ | ⟨-, -, -, a4⟩ | ⟨-, -, -, a4, -⟩
  · exact absurd a5 n1
  · exact absurd a4 n0
  · exact vp_mono a4 h.1.1.1
theorem hy_pz {nC nB : Nat} {mi mj : MemI} {ml mlj : MemL} (h : k_R nC nB mi ml mj mlj) : ∀ b, b < nB → mj (8, 17, 0) b = 0 ∨ mj (8, 17, 0) b = 1 := fun b hb => bt_01 (h.1.2.2.2.2.2.2.1 b hb).2.1
theorem hy_wok {nC nB : Nat} {mi mj : MemI} {ml mlj : MemL} (h : k_R nC nB mi ml mj mlj) : k_wok mj := h.2.2.2.2.2.2.2.2.2.1
theorem hy_nok {nC nB : Nat} {mi mj : MemI} {ml mlj : MemL} (h : k_R nC nB mi ml mj mlj) : k_nok mj := h.2.2.2.2.2.2.2.2.2.2.1
