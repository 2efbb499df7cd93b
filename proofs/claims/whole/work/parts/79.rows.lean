/-! level 2: rows and elements -/
def k_Q3 (nC nB : Nat) (X : Int32 × MemI × MemL) (Y : Int32 × MemI × MemL) : Prop := X.1 = Y.1 ∧ k_R nC nB X.2.1 X.2.2 Y.2.1 Y.2.2
theorem Q3_of {nC nB : Nat} {X Y : Int32 × MemI} {ml mlj : MemL} (h : k_Q nC nB X ml Y mlj) : k_Q3 nC nB (X.1, X.2, ml) (Y.1, Y.2, mlj) := ⟨h.1, h.2⟩
theorem Q3_mk {nC nB : Nat} {x y : Int32} {m m' : MemI} {ml mlj : MemL} (e : x = y) (h : k_R nC nB m ml m' mlj) : k_Q3 nC nB (x, m, ml) (y, m', mlj) := ⟨e, h⟩
theorem ul_at {ml : MemL} {k kk : Ky} {j q : Nat} {v : Int64} : k_ul ml k j v kk q = if kk = k ∧ q = j then v else ml kk q := rfl
theorem x160 {n : Nat} (h : n < 160) : vp_in (nI n) 160 := k_vin (nI_pos (by omega)) (show ¬ (160 : Int32) ≤ nI n from nI_ge (b := 160) h (by decide)) rfl
theorem rwL_at {ml : MemL} {s0 : Int32} (w : vp_in s0 8) : ∀ n, n ≤ 160 → ∀ p, f_X7_rwL ml s0 n (9, 1, 0) p = if 160 * s0.toNatClampNeg ≤ p ∧ p < 160 * s0.toNatClampNeg + n then 0 else ml (9, 1, 0) p := by
  intro n
  induction n with
  | zero => intro _ p; rw [if_neg (by omega)]; rfl
  | succ n ih =>
    intro hn p
    have e := (k_cellin w (x160 (n := n) (by omega))).2
    rw [nI_clamp (by omega)] at e
    rw [f_X7_rwL, ul_at, e, ih (by omega)]
    by_cases a : p = 160 * s0.toNatClampNeg + n
    · rw [if_pos ⟨rfl, a⟩, if_pos (by omega)]
    · rw [if_neg (fun z => a z.2)]
      by_cases b : 160 * s0.toNatClampNeg ≤ p ∧ p < 160 * s0.toNatClampNeg + n
      · rw [if_pos b, if_pos (by omega)]
      · rw [if_neg b, if_neg (by omega)]
theorem q_row {nC nB : Nat} {mi mj : MemI} {ml mlj : MemL} (h : k_R nC nB mi ml mj mlj) (s0 so n : Int32) : k_Q3 nC nB (f_X6_row mi ml s0 so n) (f_X7_row mj mlj s0 so n) := by
  unfold f_X6_row f_X7_row
  by_cases w : vp_in s0 8
  · have hb := k_clamp w
    rw [shA_eq w, if_pos hb, if_neg (fun z => (isS_iff s0).mp z w)]
    by_cases n0 : 0 ≤ n
    · rw [if_pos n0, if_pos n0]
      by_cases o0 : so < 0
      · rw [if_pos o0, if_pos o0]; exact Q3_of (Q_no h 6 (by decide) (by decide))
      rw [if_neg o0, if_neg o0]
      by_cases o3 : so ≤ 3
      · have o4 : so < 4 := Int32.lt_of_le_of_lt o3 (by decide)
        have hso := bt_of o0 o3 (n := 3) rfl (by decide)
        rw [if_pos o4, if_pos o3]
        by_cases n1 : n ≤ 160
        · rw [if_pos n1, if_pos n1]
          have hn0 : ¬ n < 0 := Int32.not_lt.mpr n0
          obtain ⟨len, l1, l2⟩ := bt_of hn0 n1 (n := 160) rfl (by decide)
          have em : k_mx 0 (k_mn n 160) = n := by
            unfold k_mx k_mn
            rw [if_neg (Int32.not_lt.mpr n1)]
            by_cases z : (0 : Int32) < n
            · rw [if_pos z]
            · rw [if_neg z]; exact (Int32.le_antisymm (Int32.not_lt.mp z) n0).symm
          unfold f_X5_takeRow
          rw [em]
          refine Q3_mk rfl (R_shelf h hb (fun kk qq e => by dsimp only; rw [k_uk e, k_uk e, k_uk e]) (fun kk qq z => (k_ufr (fun y => z (sh_key (by decide) (by decide) y))).trans ((k_ufr (fun y => z (sh_key (by decide) (by decide) y))).trans (k_ufr (fun y => z (sh_key (by decide) (by decide) y))))) ⟨⟨len, l1, by rw [k_uis]; exact l2⟩, Or.inl ⟨?_, ?_, ?_, ?_, ?_⟩⟩ (fun t ht i hi => ?_))
          · dsimp only
            rw [k_uj (by decide), k_uj (by decide), k_uis, k_uk (by decide), k_uis]
          · rw [k_uk (by decide), k_uis]; exact hso
          · dsimp only
            rw [k_uis]
          · dsimp only
            rw [k_uj (by decide), k_uis, k_uis]
          · rw [k_uk (by decide), k_uk (by decide), k_uis]
          · dsimp only
            rw [rwL_at w 160 (Nat.le_refl _)]
            unfold k_zr
            have hr := h.2.2.2.2.2.2.2.2.1 t ht i hi
            by_cases e : t = s0.toNatClampNeg
            · rw [if_pos ⟨by rw [e], hi⟩, if_pos (by omega)]
            · rw [if_neg (fun z => e (by have := z.1; simp at this; exact this)), if_neg (by omega)]
              exact hr
        · rw [if_neg n1, if_neg n1]; exact Q3_of (Q_no h 7 (by decide) (by decide))
      · have o4 : ¬ so < 4 := fun z => o3 (by
          have h1 := Int32.lt_iff_toInt_lt.mp z
          have e4 : (4 : Int32).toInt = 4 := rfl
          have e3 : (3 : Int32).toInt = 3 := rfl
          exact Int32.le_iff_toInt_le.mpr (by omega))
        rw [if_neg o4, if_neg o3]; exact Q3_of (Q_no h 6 (by decide) (by decide))
    · rw [if_neg n0, if_neg n0]; exact Q3_of (Q_no h 4 (by decide) (by decide))
  · rw [shA_no w, if_neg (Nat.lt_irrefl 8), if_pos ((isS_iff s0).mpr w)]
    exact Q3_of (Q_no h 1 (by decide) (by decide))
