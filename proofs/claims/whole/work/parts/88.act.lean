/-! level 2: act -/
def k_tcr (r : Nat) (mi mj : MemI) : Prop := mi (3, 0, 0) 1 = nI r ∧ mj (7, 0, 0) 51 = nI r ∧ ∀ i, i < 20 → i < r → mi (8, 102, 0) i = mj (8, 50, 0) i
theorem k_inc300 : ∀ a, a < 300 → nI a + 1 = nI (a + 1) := by decide +kernel
theorem beg_tc {r : Nat} {mi mj : MemI} {b : Int32} (hr : r < 300) (h : k_tcr r mi mj) : k_tcr (r + 1) (f_X3_begin mi b) (f_X7_body mj b) := by
  obtain ⟨h1, h2, h3⟩ := h
  unfold f_X3_begin f_X7_body
  rw [h1, h2, if_neg (nI_pos (by omega)), k_inc300 r hr]
  by_cases c : 20 ≤ r
  · have c2 : (20 : Int32) ≤ nI r := Int32.not_lt.mp (fun z => by
      have e := Int32.lt_iff_toInt_lt.mp z
      rw [nI_toInt (by omega)] at e
      have e20 : (20 : Int32).toInt = 20 := rfl
      omega)
    rw [if_pos c2, if_pos c2]
    exact ⟨k_uis, k_uis, fun i hi _ => (k_uk (by decide)).trans ((h3 i hi (by omega)).trans (k_uk (by decide)).symm)⟩
  · have c2 : ¬ (20 : Int32) ≤ nI r := nI_ge (b := 20) (by omega) (by decide)
    rw [if_neg c2, if_neg c2, k_uk (by decide), h1, k_uk (by decide), h2, k_inc300 r hr, nI_clamp (by omega)]
    refine ⟨k_uis, k_uis, fun i hi hlt => ?_⟩
    refine (k_uk (show ((8, 102, 0) : Ky) ≠ (3, 0, 0) by decide)).trans (Eq.trans ?_ (k_uk (show ((8, 50, 0) : Ky) ≠ (7, 0, 0) by decide)).symm)
    by_cases e : i = r
    · subst e; rw [k_uis, k_uis]
    · rw [k_uj e, k_uj e]; exact h3 i hi (by omega)
