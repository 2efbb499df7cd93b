/-! Model: an item of a text -/
theorem word_fr {mi : MemI} {ml : MemL} {k : Ky} {q : Nat} (h : ¬ (k = (7, 0, 0) ∧ (q = 29 ∨ q = 32))) : (f_X7_word mi ml).2 k q = mi k q := by
  have h29 : ∀ (m : MemI) (v : Int32), k_ui m (7, 0, 0) 29 v k q = m k q := fun m v => if_neg (fun z => h ⟨z.1, Or.inl z.2⟩)
  have h32 : ∀ (m : MemI) (v : Int32), k_ui m (7, 0, 0) 32 v k q = m k q := fun m v => if_neg (fun z => h ⟨z.1, Or.inr z.2⟩)
  unfold f_X7_word
  repeat' split
  all_goals simp only [h29, h32]
theorem rd_word {mi : MemI} {ml : MemL} (h : k_rd mi) : k_rd (f_X7_word mi ml).2 := by
  unfold f_X7_word
  repeat' split
  all_goals first
    | exact rd_wm h (by assumption)
    | exact rd_ui h (by simp)
theorem word_rng (mi : MemI) (ml : MemL) : (f_X7_word mi ml).1 = -1 ∨ (f_X7_word mi ml).1 = 0 ∨ (f_X7_word mi ml).1 = 1 ∨ (f_X7_word mi ml).1 = 2 ∨ (f_X7_word mi ml).1 = 3 ∨ (f_X7_word mi ml).1 = 4 ∨ (f_X7_word mi ml).1 = 5 := by
  unfold f_X7_word
  repeat' split
  all_goals simp
theorem z_stands0 (mi : MemI) (ml : MemL) : f_X7_stands0 mi ml = 0 ∨ f_X7_stands0 mi ml = 1 := by
  unfold f_X7_stands0
  split
  · exact Or.inr rfl
  · exact Or.inl rfl
theorem z_stands1 (mi : MemI) (ml : MemL) : f_X7_stands1 mi ml = 0 ∨ f_X7_stands1 mi ml = 1 := by
  unfold f_X7_stands1
  split
  · exact Or.inr rfl
  · exact Or.inl rfl
/-- there is no room for what the word tells of -/
def f_X7_full (mi : MemI) (ml : MemL) : Int32 :=
  if f_X7_stands0 mi ml = 0 then (if f_X7_stands1 mi ml = 0 then 0 else if mi (7, 0, 0) 1 = 6 then 1 else 0)
  else if mi (7, 0, 0) 0 = 6 then 1 else (if f_X7_stands1 mi ml = 0 then 0 else if mi (7, 0, 0) 1 = 6 then 1 else 0)
theorem full_c {mi : MemI} {ml : MemL} (h : f_X7_full mi ml = 0) (hw : (f_X7_word mi ml).1 = 0) : ¬ mi (7, 0, 0) 0 = 6 := by
  intro q
  have h0 : f_X7_wm mi ml 0 8 0 = 8 := by
    unfold f_X7_word at hw
    split at hw
    · assumption
    · repeat' split at hw
      all_goals (dsimp only at hw; exact absurd hw (by decide))
  have h1 : f_X7_stands0 mi ml = 1 := by unfold f_X7_stands0; rw [if_pos (wm_all mi ml 0 7 0 h0)]
  unfold f_X7_full at h
  rw [if_neg (by rw [h1]; decide), if_pos q] at h
  exact absurd h (by decide)
theorem full_b {mi : MemI} {ml : MemL} (h : f_X7_full mi ml = 0) (hw : (f_X7_word mi ml).1 = 1) : ¬ mi (7, 0, 0) 1 = 6 := by
  intro q
  have h0 : f_X7_wm mi ml 9 7 0 = 7 := by
    unfold f_X7_word at hw
    split at hw
    · dsimp only at hw
      exact absurd hw (by decide)
    · split at hw
      · assumption
      · repeat' split at hw
        all_goals (dsimp only at hw; exact absurd hw (by decide))
  have h1 : f_X7_stands1 mi ml = 1 := by unfold f_X7_stands1; rw [if_pos (wm_all mi ml 9 6 0 h0)]
  simp [f_X7_full, h1, q] at h
def k_nm (j : Nat) : Int32 := match j with | 0 => 4 | 1 => 2 | 2 => 2 | _ => 1
def k_nok (mi : MemI) : Prop := ∀ j, j < 6 → mi (8, 25, 0) j = k_nm j
/-- a blank -/
def f_X7_bl (mi : MemI) (ml : MemL) : Int32 × MemI :=
  if (mi (7, 0, 0) 30) ≤ (mi (7, 0, 0) 29) then (0, (f_X7_wrong mi (mi (7, 0, 0) 29)).2)
  else if ((ml (9, 1, 0) (((mi (7, 0, 0) 28) + (mi (7, 0, 0) 29)).toNatClampNeg)).toInt32) = 32 then (1, k_ui mi (7, 0, 0) 29 ((mi (7, 0, 0) 29) + 1))
  else (0, (f_X7_wrong mi (mi (7, 0, 0) 29)).2)
/-- a number -/
def f_X7_rdn (mi : MemI) (ml : MemL) (w x : Int32) : Int32 × MemI :=
  if ((f_X7_reads mi ml).1) = 0 then (0, (f_X7_reads mi ml).2)
  else if (f_X7_isSo ((f_X7_reads mi ml).2) w x) = 0 then (0, (f_X7_wrong ((f_X7_reads mi ml).2) (mi (7, 0, 0) 29)).2)
  else (1, k_ui ((f_X7_reads mi ml).2) (8, 27, 0) x.toNatClampNeg (((f_X7_reads mi ml).2) (7, 0, 0) 31))
theorem bl_fr {mi : MemI} {ml : MemL} {k : Ky} {q : Nat} (h : ¬ (k = (7, 0, 0) ∧ (q = 29 ∨ q = 32))) : (f_X7_bl mi ml).2 k q = mi k q := by
  have h29 : ∀ (m : MemI) (v : Int32), k_ui m (7, 0, 0) 29 v k q = m k q := fun m v => if_neg (fun z => h ⟨z.1, Or.inl z.2⟩)
  have h32 : ∀ (m : MemI) (v : Int32), k_ui m (7, 0, 0) 32 v k q = m k q := fun m v => if_neg (fun z => h ⟨z.1, Or.inr z.2⟩)
  unfold f_X7_bl f_X7_wrong
  repeat' split
  all_goals simp only [h29, h32]
theorem rdn_fr {mi : MemI} {ml : MemL} {w x : Int32} {k : Ky} {q : Nat} (h : ¬ (k = (7, 0, 0) ∧ (q = 29 ∨ q = 31 ∨ q = 32))) (h2 : ¬ (k = (8, 27, 0) ∧ q = x.toNatClampNeg)) : (f_X7_rdn mi ml w x).2 k q = mi k q := by
  have h32 : ∀ (m : MemI) (v : Int32), k_ui m (7, 0, 0) 32 v k q = m k q := fun m v => if_neg (fun z => h ⟨z.1, Or.inr (Or.inr z.2)⟩)
  have h27 : ∀ (m : MemI) (v : Int32), k_ui m (8, 27, 0) x.toNatClampNeg v k q = m k q := fun m v => if_neg (fun z => h2 z)
  unfold f_X7_rdn f_X7_wrong
  repeat' split
  all_goals simp only [h32, h27, reads_fr h]
theorem rd_bl {mi : MemI} {ml : MemL} (h : k_rd mi) : k_rd (f_X7_bl mi ml).2 := by
  unfold f_X7_bl
  repeat' split
  · exact rd_ui h (by simp)
  · exact rd_inc h (by assumption)
  · exact rd_ui h (by simp)
theorem rd_rdn {mi : MemI} {ml : MemL} {w x : Int32} (h : k_rd mi) : k_rd (f_X7_rdn mi ml w x).2 := by
  unfold f_X7_rdn
  repeat' split
  · exact rd_reads h
  · exact rd_ui (rd_reads h) (by simp)
  · exact rd_ui (rd_reads h) (by simp)
theorem isDigit_nn {mi : MemI} {ml : MemL} {a b : Int32} (h : ¬ f_X7_isDigit mi ml = 0) (e28 : mi (7, 0, 0) 28 = a) (e29 : mi (7, 0, 0) 29 = b) : ∃ d : Nat, d ≤ 9 ∧ (ml (9, 1, 0) (a + b).toNatClampNeg).toInt32 = nI (48 + d) := by
  subst e28; subst e29
  unfold f_X7_isDigit at h
  split at h
  · exact absurd rfl h
  · split at h
    · exact absurd rfl h
    · split at h
      · exact absurd rfl h
      · rename_i h1 h2
        have a1 := (not_congr Int32.lt_iff_toInt_lt).mp h1
        have a2 := (not_congr Int32.lt_iff_toInt_lt).mp h2
        have e1 : (48 : Int32).toInt = 48 := rfl
        have e2 : (57 : Int32).toInt = 57 := rfl
        have h0 : ¬ (ml (9, 1, 0) (mi (7, 0, 0) 28 + mi (7, 0, 0) 29).toNatClampNeg).toInt32 < 0 := fun q => by
          have a3 := Int32.lt_iff_toInt_lt.mp q
          have e3 : (0 : Int32).toInt = 0 := rfl
          omega
        obtain ⟨y, hy, e⟩ := nI_of h0
        rw [e, nI_toInt hy] at a1 a2
        exact ⟨y - 48, by omega, by rw [e]; congr 1; omega⟩
theorem k_dig {d : Nat} : (0 : Int32) + nI (48 + d) - 48 = nI d := by
  rw [Int32.zero_add, show (48 : Int32) = nI 48 from rfl, pk_sub (by omega)]
  congr 1; omega
theorem k_dig2 {d e : Nat} : (10 : Int32) * nI d + nI (48 + e) - 48 = nI (10 * d + e) := by
  rw [show (10 : Int32) = nI 10 from rfl, show (48 : Int32) = nI 48 from rfl, pk_mul, nI_add, pk_sub (by omega)]
  congr 1; omega
/-- a number that is read has one or two digits -/
theorem reads_nn {mi : MemI} {ml : MemL} (h : ¬ (f_X7_reads mi ml).1 = 0) : ∃ d : Nat, d ≤ 99 ∧ (f_X7_reads mi ml).2 (7, 0, 0) 31 = nI d := by
  unfold f_X7_reads at h ⊢
  split at h
  · exact absurd rfl h
  · rename_i c1
    rw [if_neg c1]
    obtain ⟨d, hd, ed⟩ := isDigit_nn c1 (k_uj (by decide)) (k_uj (by decide))
    split at h
    · rename_i c2
      rw [if_pos c2]
      refine ⟨d, by omega, ?_⟩
      dsimp only
      rw [k_uj (by decide), k_uis, ed, k_dig]
    · rename_i c2
      rw [if_neg c2]
      obtain ⟨e, he, ee⟩ := isDigit_nn c2 ((k_uj (by decide)).trans ((k_uj (by decide)).trans (k_uj (by decide)))) k_uis
      refine ⟨10 * d + e, by omega, ?_⟩
      dsimp only
      rw [k_uj (by decide), k_uis, ed, ee, k_dig, k_dig2]
theorem k_ltin {n : Nat} {d : Nat} {m : Int32} (e : m = nI n) (h6 : n ≤ 6) (hd : d ≤ 99) (h : ¬ m ≤ nI d) : vp_in (nI d) n := by
  rw [e] at h
  rcases Nat.lt_or_ge d n with q | q
  · exact vp_in_nI q (by omega)
  · exact absurd (nI_le q (by omega)) h
theorem rdn_c {mi : MemI} {ml : MemL} {w : Int32} {nC : Nat} (h : ¬ (f_X7_rdn mi ml w 0).1 = 0) (hw : w = 2 ∨ w = 3 ∨ w = 4) (e : mi (7, 0, 0) 0 = nI nC) (h6 : nC ≤ 6) : vp_in ((f_X7_rdn mi ml w 0).2 (8, 27, 0) 0) nC := by
  unfold f_X7_rdn at h ⊢
  split at h
  · exact absurd rfl h
  · rename_i c1
    split at h
    · exact absurd rfl h
    · rename_i c2
      rw [if_neg c1, if_neg c2]
      obtain ⟨d, hd, ed⟩ := reads_nn c1
      show vp_in (k_ui (f_X7_reads mi ml).2 (8, 27, 0) 0 ((f_X7_reads mi ml).2 (7, 0, 0) 31) (8, 27, 0) 0) nC
      rw [k_uis, ed]
      have c3 : ¬ (f_X7_reads mi ml).2 (7, 0, 0) 0 ≤ (f_X7_reads mi ml).2 (7, 0, 0) 31 := fun q => c2 (by
        unfold f_X7_isSo
        rcases hw with rfl | rfl | rfl <;> rw [if_neg (by decide), if_neg (by decide), if_neg (by decide), if_neg (by decide), if_pos q])
      rw [ed] at c3
      exact k_ltin ((reads_fr (by simp)).trans e) h6 hd c3
theorem rdn_b {mi : MemI} {ml : MemL} {nB : Nat} (h : ¬ (f_X7_rdn mi ml 5 0).1 = 0) (e : mi (7, 0, 0) 1 = nI nB) (h6 : nB ≤ 6) : vp_in ((f_X7_rdn mi ml 5 0).2 (8, 27, 0) 0) nB := by
  unfold f_X7_rdn at h ⊢
  split at h
  · exact absurd rfl h
  · rename_i c1
    split at h
    · exact absurd rfl h
    · rename_i c2
      rw [if_neg c1, if_neg c2]
      obtain ⟨d, hd, ed⟩ := reads_nn c1
      show vp_in (k_ui (f_X7_reads mi ml).2 (8, 27, 0) 0 ((f_X7_reads mi ml).2 (7, 0, 0) 31) (8, 27, 0) 0) nB
      rw [k_uis, ed]
      have c3 : ¬ (f_X7_reads mi ml).2 (7, 0, 0) 1 ≤ (f_X7_reads mi ml).2 (7, 0, 0) 31 := fun q => c2 (by
        unfold f_X7_isSo
        rw [if_neg (by decide), if_neg (by decide), if_pos rfl, if_pos q])
      rw [ed] at c3
      exact k_ltin ((reads_fr (by simp)).trans e) h6 hd c3
def f_X7_item (mi : MemI) (ml : MemL) : Int32 × MemI :=
  if (f_X7_full mi ml) = 0 then if ((f_X7_word mi ml).1) = (-1) then (0, (f_X7_word mi ml).2)
    else if ((f_X7_word mi ml).1) = 0 then if ((f_X7_rdn ((f_X7_word mi ml).2) ml 0 0).1) = 0 then (0, (f_X7_rdn ((f_X7_word mi ml).2) ml 0 0).2)
        else if ((f_X7_bl ((f_X7_rdn ((f_X7_word mi ml).2) ml 0 0).2) ml).1) = 0 then (0, (f_X7_bl ((f_X7_rdn ((f_X7_word mi ml).2) ml 0 0).2) ml).2)
          else if ((f_X7_rdn ((f_X7_bl ((f_X7_rdn ((f_X7_word mi ml).2) ml 0 0).2) ml).2) ml 0 1).1) = 0 then (0, (f_X7_rdn ((f_X7_bl ((f_X7_rdn ((f_X7_word mi ml).2) ml 0 0).2) ml).2) ml 0 1).2)
            else if ((f_X7_bl ((f_X7_rdn ((f_X7_bl ((f_X7_rdn ((f_X7_word mi ml).2) ml 0 0).2) ml).2) ml 0 1).2) ml).1) = 0 then (0, (f_X7_bl ((f_X7_rdn ((f_X7_bl ((f_X7_rdn ((f_X7_word mi ml).2) ml 0 0).2) ml).2) ml 0 1).2) ml).2)
              else if ((f_X7_rdn ((f_X7_bl ((f_X7_rdn ((f_X7_bl ((f_X7_rdn ((f_X7_word mi ml).2) ml 0 0).2) ml).2) ml 0 1).2) ml).2) ml 0 2).1) = 0 then (0, (f_X7_rdn ((f_X7_bl ((f_X7_rdn ((f_X7_bl ((f_X7_rdn ((f_X7_word mi ml).2) ml 0 0).2) ml).2) ml 0 1).2) ml).2) ml 0 2).2)
                else if ((f_X7_bl ((f_X7_rdn ((f_X7_bl ((f_X7_rdn ((f_X7_bl ((f_X7_rdn ((f_X7_word mi ml).2) ml 0 0).2) ml).2) ml 0 1).2) ml).2) ml 0 2).2) ml).1) = 0 then (0, (f_X7_bl ((f_X7_rdn ((f_X7_bl ((f_X7_rdn ((f_X7_bl ((f_X7_rdn ((f_X7_word mi ml).2) ml 0 0).2) ml).2) ml 0 1).2) ml).2) ml 0 2).2) ml).2)
                  else if ((f_X7_rdn ((f_X7_bl ((f_X7_rdn ((f_X7_bl ((f_X7_rdn ((f_X7_bl ((f_X7_rdn ((f_X7_word mi ml).2) ml 0 0).2) ml).2) ml 0 1).2) ml).2) ml 0 2).2) ml).2) ml 0 3).1) = 0 then (0, (f_X7_rdn ((f_X7_bl ((f_X7_rdn ((f_X7_bl ((f_X7_rdn ((f_X7_bl ((f_X7_rdn ((f_X7_word mi ml).2) ml 0 0).2) ml).2) ml 0 1).2) ml).2) ml 0 2).2) ml).2) ml 0 3).2)
                    else (1, (f_X7_addsCitizen ((f_X7_rdn ((f_X7_bl ((f_X7_rdn ((f_X7_bl ((f_X7_rdn ((f_X7_bl ((f_X7_rdn ((f_X7_word mi ml).2) ml 0 0).2) ml).2) ml 0 1).2) ml).2) ml 0 2).2) ml).2) ml 0 3).2) (((f_X7_rdn ((f_X7_word mi ml).2) ml 0 0).2) (8, 27, 0) 0) (((f_X7_rdn ((f_X7_bl ((f_X7_rdn ((f_X7_word mi ml).2) ml 0 0).2) ml).2) ml 0 1).2) (8, 27, 0) 1) (((f_X7_rdn ((f_X7_bl ((f_X7_rdn ((f_X7_bl ((f_X7_rdn ((f_X7_word mi ml).2) ml 0 0).2) ml).2) ml 0 1).2) ml).2) ml 0 2).2) (8, 27, 0) 2) (((f_X7_rdn ((f_X7_bl ((f_X7_rdn ((f_X7_bl ((f_X7_rdn ((f_X7_bl ((f_X7_rdn ((f_X7_word mi ml).2) ml 0 0).2) ml).2) ml 0 1).2) ml).2) ml 0 2).2) ml).2) ml 0 3).2) (8, 27, 0) 3)).2)
      else if ((f_X7_word mi ml).1) = 1 then if ((f_X7_rdn ((f_X7_word mi ml).2) ml 1 0).1) = 0 then (0, (f_X7_rdn ((f_X7_word mi ml).2) ml 1 0).2)
          else if ((f_X7_bl ((f_X7_rdn ((f_X7_word mi ml).2) ml 1 0).2) ml).1) = 0 then (0, (f_X7_bl ((f_X7_rdn ((f_X7_word mi ml).2) ml 1 0).2) ml).2)
            else if ((f_X7_rdn ((f_X7_bl ((f_X7_rdn ((f_X7_word mi ml).2) ml 1 0).2) ml).2) ml 1 1).1) = 0 then (0, (f_X7_rdn ((f_X7_bl ((f_X7_rdn ((f_X7_word mi ml).2) ml 1 0).2) ml).2) ml 1 1).2)
              else (1, (f_X7_addsBeggar ((f_X7_rdn ((f_X7_bl ((f_X7_rdn ((f_X7_word mi ml).2) ml 1 0).2) ml).2) ml 1 1).2) (((f_X7_rdn ((f_X7_word mi ml).2) ml 1 0).2) (8, 27, 0) 0) (((f_X7_rdn ((f_X7_bl ((f_X7_rdn ((f_X7_word mi ml).2) ml 1 0).2) ml).2) ml 1 1).2) (8, 27, 0) 1)).2)
        else if ((f_X7_word mi ml).1) = 2 then if ((f_X7_rdn ((f_X7_word mi ml).2) ml 2 0).1) = 0 then (0, (f_X7_rdn ((f_X7_word mi ml).2) ml 2 0).2)
            else if ((f_X7_bl ((f_X7_rdn ((f_X7_word mi ml).2) ml 2 0).2) ml).1) = 0 then (0, (f_X7_bl ((f_X7_rdn ((f_X7_word mi ml).2) ml 2 0).2) ml).2)
              else if ((f_X7_rdn ((f_X7_bl ((f_X7_rdn ((f_X7_word mi ml).2) ml 2 0).2) ml).2) ml 2 1).1) = 0 then (0, (f_X7_rdn ((f_X7_bl ((f_X7_rdn ((f_X7_word mi ml).2) ml 2 0).2) ml).2) ml 2 1).2)
                else (1, k_ui ((f_X7_rdn ((f_X7_bl ((f_X7_rdn ((f_X7_word mi ml).2) ml 2 0).2) ml).2) ml 2 1).2) (8, 10, 0) ((((f_X7_rdn ((f_X7_word mi ml).2) ml 2 0).2) (8, 27, 0) 0).toNatClampNeg) (((f_X7_rdn ((f_X7_bl ((f_X7_rdn ((f_X7_word mi ml).2) ml 2 0).2) ml).2) ml 2 1).2) (8, 27, 0) 1))
          else if ((f_X7_word mi ml).1) = 3 then if ((f_X7_rdn ((f_X7_word mi ml).2) ml 3 0).1) = 0 then (0, (f_X7_rdn ((f_X7_word mi ml).2) ml 3 0).2)
              else (1, k_ui ((f_X7_rdn ((f_X7_word mi ml).2) ml 3 0).2) (8, 12, 0) ((((f_X7_rdn ((f_X7_word mi ml).2) ml 3 0).2) (8, 27, 0) 0).toNatClampNeg) 1)
            else if ((f_X7_word mi ml).1) = 4 then if ((f_X7_rdn ((f_X7_word mi ml).2) ml 4 0).1) = 0 then (0, (f_X7_rdn ((f_X7_word mi ml).2) ml 4 0).2)
                else (1, k_ui ((f_X7_rdn ((f_X7_word mi ml).2) ml 4 0).2) (8, 12, 0) ((((f_X7_rdn ((f_X7_word mi ml).2) ml 4 0).2) (8, 27, 0) 0).toNatClampNeg) 0)
              else if ((f_X7_rdn ((f_X7_word mi ml).2) ml 5 0).1) = 0 then (0, (f_X7_rdn ((f_X7_word mi ml).2) ml 5 0).2)
                else (1, k_ui ((f_X7_rdn ((f_X7_word mi ml).2) ml 5 0).2) (8, 17, 0) ((((f_X7_rdn ((f_X7_word mi ml).2) ml 5 0).2) (8, 27, 0) 0).toNatClampNeg) 1)
  else (0, (f_X7_wrong mi (mi (7, 0, 0) 29)).2)
set_option maxRecDepth 100000 in
set_option maxHeartbeats 4000000 in
theorem ct_X7_item {nC nB : Nat} {mi : MemI} {ml : MemL} (hm : k_mo nC nB mi) (hrd : k_rd mi) (hw : k_wok mi) (hnm : k_nok mi) : k_Ct k_KS k_R0 Mt_X7_item 2 [vR (7, 0, 0)] mi ml (k_rt (some (vI (f_X7_item mi ml).1)) (f_X7_item mi ml).2 ml) := by
  refine k_ofV (L0 := [vR (7, 0, 0), vU, vU, vU]) (by decide +kernel) (Nat.le_of_ble_eq_true rfl) rfl rfl ?_
  intro p l e s m args below meth c D cy ad bs C
  have hC := hm.1
  have h6 := hm.2.1
  have hB0 := hm.2.2.1
  have h6b := hm.2.2.2.1
  have hA : ∀ (m0 : MemI) (w x : Int32), k_rd m0 → ((f_X7_bl m0 ml).1 = 0 → f_X7_item mi ml = (0, (f_X7_bl m0 ml).2)) → (¬ (f_X7_bl m0 ml).1 = 0 → k_V p l e (k_rm 2) s m args below meth c D cy ad bs k_KS k_R0 0 0 (k_End below D cy ad bs k_KS k_R0 (k_rt (some (vI (f_X7_item mi ml).1)) (f_X7_item mi ml).2 ml) args s) ((f_X7_bl m0 ml).2) ml 121 [vR (7, 0, 0), vI w, vI x, vU] []) → k_V p l e (k_rm 2) s m args below meth c D cy ad bs k_KS k_R0 0 0 (k_End below D cy ad bs k_KS k_R0 (k_rt (some (vI (f_X7_item mi ml).1)) (f_X7_item mi ml).2 ml) args s) m0 ml 71 [vR (7, 0, 0), vI w, vI x, vU] [] := by
    intro m0 w x hr0 hret hnext
    refine k_aload_n (pc := 71) C dX7_item_71 rfl ?_
    refine k_getI (pc := 72) C fl_X7_170 k_in7 rfl rfl dX7_item_72 ?_
    refine k_aload_n (pc := 75) C dX7_item_75 rfl ?_
    refine k_getI (pc := 76) C fl_X7_173 k_in7 rfl rfl dX7_item_76 ?_
    refine k_icmp_ge (pc := 79) C 102 dX7_item_79 (by decide) (fun c79 => ?_) (fun c79 => ?_)
    · skip
      refine k_aload_n (pc := 102) C dX7_item_102 rfl ?_
      refine k_aload_n (pc := 103) C dX7_item_103 rfl ?_
      refine k_getI (pc := 104) C fl_X7_170 k_in7 rfl rfl dX7_item_104 ?_
      refine k_call1 (pc := 107) C cv_X7_186 ct_X7_wrong k_in7 rfl (by decide) rfl (Nat.le_of_ble_eq_true rfl) dX7_item_107 ?_
      exact k_zret (pc := 110) C rfl (Or.inl rfl) (k_fIm ((hret (by unfold f_X7_bl; rw [if_pos c79])).trans (by unfold f_X7_bl; rw [if_pos c79]; try rfl))) dX7_item_110
    · skip
      refine k_aload_n (pc := 82) C dX7_item_82 rfl ?_
      refine k_getR (pc := 83) (r := some (9, 1, 0)) C fl_X7_68 k_in7 rfl rfl rfl dX7_item_83 ?_
      refine k_aload_n (pc := 86) C dX7_item_86 rfl ?_
      refine k_getI (pc := 87) C fl_X7_176 k_in7 rfl rfl dX7_item_87 ?_
      refine k_aload_n (pc := 90) C dX7_item_90 rfl ?_
      refine k_getI (pc := 91) C fl_X7_170 k_in7 rfl rfl dX7_item_91 ?_
      refine k_iadd (pc := 94) C dX7_item_94 ?_
      refine k_laldX (pc := 95) (j := ((m0 (7, 0, 0) 28) + (m0 (7, 0, 0) 29)).toNatClampNeg) C rfl (by decide +kernel) rfl (k_cin hr0 (by assumption)) dX7_item_95 ?_
      refine k_l2i (pc := 96) C dX7_item_96 ?_
      refine k_bipush (pc := 97) (v := 32) C dX7_item_97 (by decide) ?_
      refine k_icmp_eq (pc := 99) C 111 dX7_item_99 (by decide) (fun c99 => ?_) (fun c99 => ?_)
      · skip
        refine k_aload_n (pc := 111) C dX7_item_111 rfl ?_
        refine k_dup (pc := 112) C dX7_item_112 rfl ?_
        refine k_getI (pc := 113) C fl_X7_170 k_in7 rfl rfl dX7_item_113 ?_
        refine k_iconst (pc := 116) (v := 1) C dX7_item_116 (by decide) ?_
        refine k_iadd (pc := 117) C dX7_item_117 ?_
        refine k_putI (pc := 118) C pl_X7_170 k_in7 rfl rfl dX7_item_118 ?_
        have hq : f_X7_bl m0 ml = (1, k_ui m0 (7, 0, 0) 29 ((m0 (7, 0, 0) 29) + 1)) := by unfold f_X7_bl; rw [if_neg c79, if_pos c99]
        exact k_cast rfl (by rw [hq]) rfl (hnext (by rw [hq]; dsimp only; decide))
      · skip
        refine k_aload_n (pc := 102) C dX7_item_102 rfl ?_
        refine k_aload_n (pc := 103) C dX7_item_103 rfl ?_
        refine k_getI (pc := 104) C fl_X7_170 k_in7 rfl rfl dX7_item_104 ?_
        refine k_call1 (pc := 107) C cv_X7_186 ct_X7_wrong k_in7 rfl (by decide) rfl (Nat.le_of_ble_eq_true rfl) dX7_item_107 ?_
        exact k_zret (pc := 110) C rfl (Or.inl rfl) (k_fIm ((hret (by unfold f_X7_bl; rw [if_neg c79, if_neg c99])).trans (by unfold f_X7_bl; rw [if_neg c79, if_neg c99]; try rfl))) dX7_item_110
  have hB : ∀ (m0 : MemI) (w x : Int32), k_rd m0 → vp_in x 4 → ((f_X7_rdn m0 ml w x).1 = 0 → f_X7_item mi ml = (0, (f_X7_rdn m0 ml w x).2)) → (¬ (f_X7_rdn m0 ml w x).1 = 0 → k_V p l e (k_rm 2) s m args below meth c D cy ad bs k_KS k_R0 0 0 (k_End below D cy ad bs k_KS k_R0 (k_rt (some (vI (f_X7_item mi ml).1)) (f_X7_item mi ml).2 ml) args s) ((f_X7_rdn m0 ml w x).2) ml 57 [vR (7, 0, 0), vI w, vI (x + 1), vU] []) → k_V p l e (k_rm 2) s m args below meth c D cy ad bs k_KS k_R0 0 0 (k_End below D cy ad bs k_KS k_R0 (k_rt (some (vI (f_X7_item mi ml).1)) (f_X7_item mi ml).2 ml) args s) m0 ml 121 [vR (7, 0, 0), vI w, vI x, vU] [] := by
    intro m0 w x hr0 hx hret hnext
    refine k_aload_n (pc := 121) C dX7_item_121 rfl ?_
    refine k_getI (pc := 122) C fl_X7_170 k_in7 rfl rfl dX7_item_122 ?_
    refine k_istore_3 (pc := 125) C dX7_item_125 rfl ?_
    refine k_aload_n (pc := 126) C dX7_item_126 rfl ?_
    refine k_call0 (pc := 127) C cv_X7_196 (ct_X7_reads hr0) k_in7 rfl (by decide) rfl (Nat.le_of_ble_eq_true rfl) dX7_item_127 ?_
    refine k_if_ne (pc := 130) C 135 dX7_item_130 (by decide) (fun c130 => ?_) (fun c130 => ?_)
    · skip
      refine k_aload_n (pc := 135) C dX7_item_135 rfl ?_
      refine k_iload_n (pc := 136) C dX7_item_136 rfl ?_
      refine k_iload_n (pc := 137) C dX7_item_137 rfl ?_
      refine k_call2 (pc := 138) C cv_X7_199 (ct_X7_isSo (by first | exact hx | exact k_vd (by decide))) k_in7 rfl (by decide) rfl (Nat.le_of_ble_eq_true rfl) dX7_item_138 ?_
      refine k_if_ne (pc := 141) C 150 dX7_item_141 (by decide) (fun c141 => ?_) (fun c141 => ?_)
      · skip
        refine k_aload_n (pc := 150) C dX7_item_150 rfl ?_
        refine k_getR (pc := 151) (r := some (8, 27, 0)) C fl_X7_84 k_in7 rfl rfl rfl dX7_item_151 ?_
        refine k_iload_n (pc := 154) C dX7_item_154 rfl ?_
        refine k_aload_n (pc := 155) C dX7_item_155 rfl ?_
        refine k_getI (pc := 156) C fl_X7_179 k_in7 rfl rfl dX7_item_156 ?_
        refine k_iastX (pc := 159) (j := x.toNatClampNeg) C rfl (by decide +kernel) rfl hx dX7_item_159 ?_
        refine k_iinc_2 (pc := 160) (v := x + 1) C dX7_item_160 rfl rfl ?_
        refine k_goto (pc := 163) C 57 dX7_item_163 (by decide) ?_
        refine k_drop_3 ?_
        have hq : f_X7_rdn m0 ml w x = (1, k_ui ((f_X7_reads m0 ml).2) (8, 27, 0) x.toNatClampNeg (((f_X7_reads m0 ml).2) (7, 0, 0) 31)) := by unfold f_X7_rdn; rw [if_neg c130, if_neg c141]
        exact k_cast rfl (by rw [hq]) rfl (hnext (by rw [hq]; dsimp only; decide))
      · skip
        refine k_aload_n (pc := 144) C dX7_item_144 rfl ?_
        refine k_iload_n (pc := 145) C dX7_item_145 rfl ?_
        refine k_call1 (pc := 146) C cv_X7_186 ct_X7_wrong k_in7 rfl (by decide) rfl (Nat.le_of_ble_eq_true rfl) dX7_item_146 ?_
        exact k_zret (pc := 149) C rfl (Or.inl rfl) (k_fIm ((hret (by unfold f_X7_rdn; rw [if_neg c130, if_pos c141])).trans (by unfold f_X7_rdn; rw [if_neg c130, if_pos c141]; try rfl))) dX7_item_149
    · skip
      refine k_iconst (pc := 133) (v := 0) C dX7_item_133 (by decide) ?_
      exact k_zret (pc := 134) C rfl (Or.inl rfl) (k_fIm ((hret (by unfold f_X7_rdn; rw [if_pos c130])).trans (by unfold f_X7_rdn; rw [if_pos c130]; try rfl))) dX7_item_134
  by_cases hf : (f_X7_full mi ml) = 0
  · skip
    have h43 : k_V p l e (k_rm 2) s m args below meth c D cy ad bs k_KS k_R0 0 0 (k_End below D cy ad bs k_KS k_R0 (k_rt (some (vI (f_X7_item mi ml).1)) (f_X7_item mi ml).2 ml) args s) mi ml 43 [vR (7, 0, 0), vU, vU, vU] [] := by
      refine k_aload_n (pc := 43) C dX7_item_43 rfl ?_
      refine k_call0 (pc := 44) C cv_X7_192 (ct_X7_word hrd hw) k_in7 rfl (by decide) rfl (Nat.le_of_ble_eq_true rfl) dX7_item_44 ?_
      refine k_istore_1 (pc := 47) C dX7_item_47 rfl ?_
      refine k_iload_n (pc := 48) C dX7_item_48 rfl ?_
      refine k_iconst (pc := 49) (v := (-1)) C dX7_item_49 (by decide) ?_
      refine k_icmp_ne (pc := 50) C 55 dX7_item_50 (by decide) (fun c50 => ?_) (fun c50 => ?_)
      · skip
        by_cases k0 : ((f_X7_word mi ml).1) = 0
        · skip
          refine k_cast (L' := [vR (7, 0, 0), vI 0, vU, vU]) (by rw [k0]) rfl rfl ?_
          refine k_iconst (pc := 55) (v := 0) C dX7_item_55 (by decide) ?_
          refine k_istore_2 (pc := 56) C dX7_item_56 rfl ?_
          refine k_iload_n (pc := 57) C dX7_item_57 rfl ?_
          refine k_aload_n (pc := 58) C dX7_item_58 rfl ?_
          refine k_getR (pc := 59) (r := some (8, 25, 0)) C fl_X7_78 k_in7 rfl rfl rfl dX7_item_59 ?_
          refine k_iload_n (pc := 62) C dX7_item_62 rfl ?_
          refine k_ialdX (pc := 63) (j := 0) C (by decide) (by decide +kernel) rfl (k_vd (by decide)) dX7_item_63 ?_
          refine k_sx (x := mi (8, 25, 0) 0) (word_fr (by simp)) ?_
          refine k_sx (x := 4) ((hnm 0 (by decide)).trans rfl) ?_
          refine k_icmp_geF (pc := 64) C 166 dX7_item_64 (by decide) (by decide) ?_
          refine k_iload_n (pc := 67) C dX7_item_67 rfl ?_
          refine k_if_leT (pc := 68) C 121 dX7_item_68 (by decide) (by decide) ?_
          refine hB ((f_X7_word mi ml).2) 0 0 (rd_word hrd) (k_vd (by decide)) (fun hq => by unfold f_X7_item; rw [if_pos hf, if_neg c50, if_pos k0, if_pos hq]) (fun hS1 => ?_)
          refine k_cast (L' := [vR (7, 0, 0), vI 0, vI 1, vU]) (by rfl) rfl rfl ?_
          refine k_iload_n (pc := 57) C dX7_item_57 rfl ?_
          refine k_aload_n (pc := 58) C dX7_item_58 rfl ?_
          refine k_getR (pc := 59) (r := some (8, 25, 0)) C fl_X7_78 k_in7 rfl rfl rfl dX7_item_59 ?_
          refine k_iload_n (pc := 62) C dX7_item_62 rfl ?_
          refine k_ialdX (pc := 63) (j := 0) C (by decide) (by decide +kernel) rfl (k_vd (by decide)) dX7_item_63 ?_
          refine k_sx (x := mi (8, 25, 0) 0) (Eq.trans (rdn_fr (by simp) (by simp)) (word_fr (by simp))) ?_
          refine k_sx (x := 4) ((hnm 0 (by decide)).trans rfl) ?_
          refine k_icmp_geF (pc := 64) C 166 dX7_item_64 (by decide) (by decide) ?_
          refine k_iload_n (pc := 67) C dX7_item_67 rfl ?_
          refine k_if_leF (pc := 68) C 121 dX7_item_68 (by decide) (by decide) ?_
          refine hA ((f_X7_rdn ((f_X7_word mi ml).2) ml 0 0).2) 0 1 (rd_rdn (rd_word hrd)) (fun hq => by unfold f_X7_item; rw [if_pos hf, if_neg c50, if_pos k0, if_neg hS1, if_pos hq]) (fun hS2 => ?_)
          refine hB ((f_X7_bl ((f_X7_rdn ((f_X7_word mi ml).2) ml 0 0).2) ml).2) 0 1 (rd_bl (rd_rdn (rd_word hrd))) (k_vd (by decide)) (fun hq => by unfold f_X7_item; rw [if_pos hf, if_neg c50, if_pos k0, if_neg hS1, if_neg hS2, if_pos hq]) (fun hS3 => ?_)
          refine k_cast (L' := [vR (7, 0, 0), vI 0, vI 2, vU]) (by rfl) rfl rfl ?_
          refine k_iload_n (pc := 57) C dX7_item_57 rfl ?_
          refine k_aload_n (pc := 58) C dX7_item_58 rfl ?_
          refine k_getR (pc := 59) (r := some (8, 25, 0)) C fl_X7_78 k_in7 rfl rfl rfl dX7_item_59 ?_
          refine k_iload_n (pc := 62) C dX7_item_62 rfl ?_
          refine k_ialdX (pc := 63) (j := 0) C (by decide) (by decide +kernel) rfl (k_vd (by decide)) dX7_item_63 ?_
          refine k_sx (x := mi (8, 25, 0) 0) (Eq.trans (rdn_fr (by simp) (by simp)) (Eq.trans (bl_fr (by simp)) (Eq.trans (rdn_fr (by simp) (by simp)) (word_fr (by simp))))) ?_
          refine k_sx (x := 4) ((hnm 0 (by decide)).trans rfl) ?_
          refine k_icmp_geF (pc := 64) C 166 dX7_item_64 (by decide) (by decide) ?_
          refine k_iload_n (pc := 67) C dX7_item_67 rfl ?_
          refine k_if_leF (pc := 68) C 121 dX7_item_68 (by decide) (by decide) ?_
          refine hA ((f_X7_rdn ((f_X7_bl ((f_X7_rdn ((f_X7_word mi ml).2) ml 0 0).2) ml).2) ml 0 1).2) 0 2 (rd_rdn (rd_bl (rd_rdn (rd_word hrd)))) (fun hq => by unfold f_X7_item; rw [if_pos hf, if_neg c50, if_pos k0, if_neg hS1, if_neg hS2, if_neg hS3, if_pos hq]) (fun hS4 => ?_)
          refine hB ((f_X7_bl ((f_X7_rdn ((f_X7_bl ((f_X7_rdn ((f_X7_word mi ml).2) ml 0 0).2) ml).2) ml 0 1).2) ml).2) 0 2 (rd_bl (rd_rdn (rd_bl (rd_rdn (rd_word hrd))))) (k_vd (by decide)) (fun hq => by unfold f_X7_item; rw [if_pos hf, if_neg c50, if_pos k0, if_neg hS1, if_neg hS2, if_neg hS3, if_neg hS4, if_pos hq]) (fun hS5 => ?_)
          refine k_cast (L' := [vR (7, 0, 0), vI 0, vI 3, vU]) (by rfl) rfl rfl ?_
          refine k_iload_n (pc := 57) C dX7_item_57 rfl ?_
          refine k_aload_n (pc := 58) C dX7_item_58 rfl ?_
          refine k_getR (pc := 59) (r := some (8, 25, 0)) C fl_X7_78 k_in7 rfl rfl rfl dX7_item_59 ?_
          refine k_iload_n (pc := 62) C dX7_item_62 rfl ?_
          refine k_ialdX (pc := 63) (j := 0) C (by decide) (by decide +kernel) rfl (k_vd (by decide)) dX7_item_63 ?_
          refine k_sx (x := mi (8, 25, 0) 0) (Eq.trans (rdn_fr (by simp) (by simp)) (Eq.trans (bl_fr (by simp)) (Eq.trans (rdn_fr (by simp) (by simp)) (Eq.trans (bl_fr (by simp)) (Eq.trans (rdn_fr (by simp) (by simp)) (word_fr (by simp))))))) ?_
          refine k_sx (x := 4) ((hnm 0 (by decide)).trans rfl) ?_
          refine k_icmp_geF (pc := 64) C 166 dX7_item_64 (by decide) (by decide) ?_
          refine k_iload_n (pc := 67) C dX7_item_67 rfl ?_
          refine k_if_leF (pc := 68) C 121 dX7_item_68 (by decide) (by decide) ?_
          refine hA ((f_X7_rdn ((f_X7_bl ((f_X7_rdn ((f_X7_bl ((f_X7_rdn ((f_X7_word mi ml).2) ml 0 0).2) ml).2) ml 0 1).2) ml).2) ml 0 2).2) 0 3 (rd_rdn (rd_bl (rd_rdn (rd_bl (rd_rdn (rd_word hrd)))))) (fun hq => by unfold f_X7_item; rw [if_pos hf, if_neg c50, if_pos k0, if_neg hS1, if_neg hS2, if_neg hS3, if_neg hS4, if_neg hS5, if_pos hq]) (fun hS6 => ?_)
          refine hB ((f_X7_bl ((f_X7_rdn ((f_X7_bl ((f_X7_rdn ((f_X7_bl ((f_X7_rdn ((f_X7_word mi ml).2) ml 0 0).2) ml).2) ml 0 1).2) ml).2) ml 0 2).2) ml).2) 0 3 (rd_bl (rd_rdn (rd_bl (rd_rdn (rd_bl (rd_rdn (rd_word hrd))))))) (k_vd (by decide)) (fun hq => by unfold f_X7_item; rw [if_pos hf, if_neg c50, if_pos k0, if_neg hS1, if_neg hS2, if_neg hS3, if_neg hS4, if_neg hS5, if_neg hS6, if_pos hq]) (fun hS7 => ?_)
          refine k_cast (L' := [vR (7, 0, 0), vI 0, vI 4, vU]) (by rfl) rfl rfl ?_
          refine k_iload_n (pc := 57) C dX7_item_57 rfl ?_
          refine k_aload_n (pc := 58) C dX7_item_58 rfl ?_
          refine k_getR (pc := 59) (r := some (8, 25, 0)) C fl_X7_78 k_in7 rfl rfl rfl dX7_item_59 ?_
          refine k_iload_n (pc := 62) C dX7_item_62 rfl ?_
          refine k_ialdX (pc := 63) (j := 0) C (by decide) (by decide +kernel) rfl (k_vd (by decide)) dX7_item_63 ?_
          refine k_sx (x := mi (8, 25, 0) 0) (Eq.trans (rdn_fr (by simp) (by simp)) (Eq.trans (bl_fr (by simp)) (Eq.trans (rdn_fr (by simp) (by simp)) (Eq.trans (bl_fr (by simp)) (Eq.trans (rdn_fr (by simp) (by simp)) (Eq.trans (bl_fr (by simp)) (Eq.trans (rdn_fr (by simp) (by simp)) (word_fr (by simp))))))))) ?_
          refine k_sx (x := 4) ((hnm 0 (by decide)).trans rfl) ?_
          refine k_icmp_geT (pc := 64) C 166 dX7_item_64 (by decide) (by decide) ?_
          refine k_iload_n (pc := 166) C dX7_item_166 rfl ?_
          refine k_tabIn (pc := 167) (v := 0) C 204 dX7_item_167 rfl (by decide) (by decide) rfl (by decide) ?_
          have hcin : vp_in (((f_X7_rdn ((f_X7_bl ((f_X7_rdn ((f_X7_bl ((f_X7_rdn ((f_X7_bl ((f_X7_rdn ((f_X7_word mi ml).2) ml 0 0).2) ml).2) ml 0 1).2) ml).2) ml 0 2).2) ml).2) ml 0 3).2) (7, 0, 0) 0) 6 := by rw [show ((f_X7_rdn ((f_X7_bl ((f_X7_rdn ((f_X7_bl ((f_X7_rdn ((f_X7_bl ((f_X7_rdn ((f_X7_word mi ml).2) ml 0 0).2) ml).2) ml 0 1).2) ml).2) ml 0 2).2) ml).2) ml 0 3).2) (7, 0, 0) 0 = mi (7, 0, 0) 0 from Eq.trans (rdn_fr (by simp) (by simp)) (Eq.trans (bl_fr (by simp)) (Eq.trans (rdn_fr (by simp) (by simp)) (Eq.trans (bl_fr (by simp)) (Eq.trans (rdn_fr (by simp) (by simp)) (Eq.trans (bl_fr (by simp)) (Eq.trans (rdn_fr (by simp) (by simp)) (word_fr (by simp))))))))]; exact k_addin hC h6 (full_c hf k0)
          refine k_aload_n (pc := 204) C dX7_item_204 rfl ?_
          refine k_aload_n (pc := 205) C dX7_item_205 rfl ?_
          refine k_getR (pc := 206) (r := some (8, 27, 0)) C fl_X7_84 k_in7 rfl rfl rfl dX7_item_206 ?_
          refine k_iconst (pc := 209) (v := 0) C dX7_item_209 (by decide) ?_
          refine k_ialdX (pc := 210) (j := 0) C (by decide) (by decide +kernel) rfl (k_vd (by decide)) dX7_item_210 ?_
          refine k_sx (x := ((f_X7_rdn ((f_X7_word mi ml).2) ml 0 0).2) (8, 27, 0) 0) (Eq.trans (rdn_fr (by simp) (by decide)) (Eq.trans (bl_fr (by simp)) (Eq.trans (rdn_fr (by simp) (by decide)) (Eq.trans (bl_fr (by simp)) (Eq.trans (rdn_fr (by simp) (by decide)) (bl_fr (by simp))))))) ?_
          refine k_aload_n (pc := 211) C dX7_item_211 rfl ?_
          refine k_getR (pc := 212) (r := some (8, 27, 0)) C fl_X7_84 k_in7 rfl rfl rfl dX7_item_212 ?_
          refine k_iconst (pc := 215) (v := 1) C dX7_item_215 (by decide) ?_
          refine k_ialdX (pc := 216) (j := 1) C (by decide) (by decide +kernel) rfl (k_vd (by decide)) dX7_item_216 ?_
          refine k_sx (x := ((f_X7_rdn ((f_X7_bl ((f_X7_rdn ((f_X7_word mi ml).2) ml 0 0).2) ml).2) ml 0 1).2) (8, 27, 0) 1) (Eq.trans (rdn_fr (by simp) (by decide)) (Eq.trans (bl_fr (by simp)) (Eq.trans (rdn_fr (by simp) (by decide)) (bl_fr (by simp))))) ?_
          refine k_aload_n (pc := 217) C dX7_item_217 rfl ?_
          refine k_getR (pc := 218) (r := some (8, 27, 0)) C fl_X7_84 k_in7 rfl rfl rfl dX7_item_218 ?_
          refine k_iconst (pc := 221) (v := 2) C dX7_item_221 (by decide) ?_
          refine k_ialdX (pc := 222) (j := 2) C (by decide) (by decide +kernel) rfl (k_vd (by decide)) dX7_item_222 ?_
          refine k_sx (x := ((f_X7_rdn ((f_X7_bl ((f_X7_rdn ((f_X7_bl ((f_X7_rdn ((f_X7_word mi ml).2) ml 0 0).2) ml).2) ml 0 1).2) ml).2) ml 0 2).2) (8, 27, 0) 2) (Eq.trans (rdn_fr (by simp) (by decide)) (bl_fr (by simp))) ?_
          refine k_aload_n (pc := 223) C dX7_item_223 rfl ?_
          refine k_getR (pc := 224) (r := some (8, 27, 0)) C fl_X7_84 k_in7 rfl rfl rfl dX7_item_224 ?_
          refine k_iconst (pc := 227) (v := 3) C dX7_item_227 (by decide) ?_
          refine k_ialdX (pc := 228) (j := 3) C (by decide) (by decide +kernel) rfl (k_vd (by decide)) dX7_item_228 ?_
          refine k_call4 (pc := 229) C cv_X7_153 (ct_X7_addsCitizen hcin) k_in7 rfl (by decide) rfl (Nat.le_of_ble_eq_true rfl) dX7_item_229 ?_
          refine k_pop (pc := 232) C dX7_item_232 rfl ?_
          refine k_goto (pc := 233) C 312 dX7_item_233 (by decide) ?_
          refine k_iconst (pc := 312) (v := 1) C dX7_item_312 (by decide) ?_
          exact k_zret (pc := 313) C rfl (Or.inr rfl) (k_fIm (by unfold f_X7_item; rw [if_pos hf, if_neg c50, if_pos k0, if_neg hS1, if_neg hS2, if_neg hS3, if_neg hS4, if_neg hS5, if_neg hS6, if_neg hS7]; try rfl)) dX7_item_313
        · skip
          by_cases k1 : ((f_X7_word mi ml).1) = 1
          · skip
            refine k_cast (L' := [vR (7, 0, 0), vI 1, vU, vU]) (by rw [k1]) rfl rfl ?_
            refine k_iconst (pc := 55) (v := 0) C dX7_item_55 (by decide) ?_
            refine k_istore_2 (pc := 56) C dX7_item_56 rfl ?_
            refine k_iload_n (pc := 57) C dX7_item_57 rfl ?_
            refine k_aload_n (pc := 58) C dX7_item_58 rfl ?_
            refine k_getR (pc := 59) (r := some (8, 25, 0)) C fl_X7_78 k_in7 rfl rfl rfl dX7_item_59 ?_
            refine k_iload_n (pc := 62) C dX7_item_62 rfl ?_
            refine k_ialdX (pc := 63) (j := 1) C (by decide) (by decide +kernel) rfl (k_vd (by decide)) dX7_item_63 ?_
            refine k_sx (x := mi (8, 25, 0) 1) (word_fr (by simp)) ?_
            refine k_sx (x := 2) ((hnm 1 (by decide)).trans rfl) ?_
            refine k_icmp_geF (pc := 64) C 166 dX7_item_64 (by decide) (by decide) ?_
            refine k_iload_n (pc := 67) C dX7_item_67 rfl ?_
            refine k_if_leT (pc := 68) C 121 dX7_item_68 (by decide) (by decide) ?_
            refine hB ((f_X7_word mi ml).2) 1 0 (rd_word hrd) (k_vd (by decide)) (fun hq => by unfold f_X7_item; rw [if_pos hf, if_neg c50, if_neg k0, if_pos k1, if_pos hq]) (fun hS8 => ?_)
            refine k_cast (L' := [vR (7, 0, 0), vI 1, vI 1, vU]) (by rfl) rfl rfl ?_
            refine k_iload_n (pc := 57) C dX7_item_57 rfl ?_
            refine k_aload_n (pc := 58) C dX7_item_58 rfl ?_
            refine k_getR (pc := 59) (r := some (8, 25, 0)) C fl_X7_78 k_in7 rfl rfl rfl dX7_item_59 ?_
            refine k_iload_n (pc := 62) C dX7_item_62 rfl ?_
            refine k_ialdX (pc := 63) (j := 1) C (by decide) (by decide +kernel) rfl (k_vd (by decide)) dX7_item_63 ?_
            refine k_sx (x := mi (8, 25, 0) 1) (Eq.trans (rdn_fr (by simp) (by simp)) (word_fr (by simp))) ?_
            refine k_sx (x := 2) ((hnm 1 (by decide)).trans rfl) ?_
            refine k_icmp_geF (pc := 64) C 166 dX7_item_64 (by decide) (by decide) ?_
            refine k_iload_n (pc := 67) C dX7_item_67 rfl ?_
            refine k_if_leF (pc := 68) C 121 dX7_item_68 (by decide) (by decide) ?_
            refine hA ((f_X7_rdn ((f_X7_word mi ml).2) ml 1 0).2) 1 1 (rd_rdn (rd_word hrd)) (fun hq => by unfold f_X7_item; rw [if_pos hf, if_neg c50, if_neg k0, if_pos k1, if_neg hS8, if_pos hq]) (fun hS9 => ?_)
            refine hB ((f_X7_bl ((f_X7_rdn ((f_X7_word mi ml).2) ml 1 0).2) ml).2) 1 1 (rd_bl (rd_rdn (rd_word hrd))) (k_vd (by decide)) (fun hq => by unfold f_X7_item; rw [if_pos hf, if_neg c50, if_neg k0, if_pos k1, if_neg hS8, if_neg hS9, if_pos hq]) (fun hS10 => ?_)
            refine k_cast (L' := [vR (7, 0, 0), vI 1, vI 2, vU]) (by rfl) rfl rfl ?_
            refine k_iload_n (pc := 57) C dX7_item_57 rfl ?_
            refine k_aload_n (pc := 58) C dX7_item_58 rfl ?_
            refine k_getR (pc := 59) (r := some (8, 25, 0)) C fl_X7_78 k_in7 rfl rfl rfl dX7_item_59 ?_
            refine k_iload_n (pc := 62) C dX7_item_62 rfl ?_
            refine k_ialdX (pc := 63) (j := 1) C (by decide) (by decide +kernel) rfl (k_vd (by decide)) dX7_item_63 ?_
            refine k_sx (x := mi (8, 25, 0) 1) (Eq.trans (rdn_fr (by simp) (by simp)) (Eq.trans (bl_fr (by simp)) (Eq.trans (rdn_fr (by simp) (by simp)) (word_fr (by simp))))) ?_
            refine k_sx (x := 2) ((hnm 1 (by decide)).trans rfl) ?_
            refine k_icmp_geT (pc := 64) C 166 dX7_item_64 (by decide) (by decide) ?_
            refine k_iload_n (pc := 166) C dX7_item_166 rfl ?_
            refine k_tabIn (pc := 167) (v := 1) C 236 dX7_item_167 rfl (by decide) (by decide) rfl (by decide) ?_
            have hcin : vp_in (((f_X7_rdn ((f_X7_bl ((f_X7_rdn ((f_X7_word mi ml).2) ml 1 0).2) ml).2) ml 1 1).2) (7, 0, 0) 1) 6 := by rw [show ((f_X7_rdn ((f_X7_bl ((f_X7_rdn ((f_X7_word mi ml).2) ml 1 0).2) ml).2) ml 1 1).2) (7, 0, 0) 1 = mi (7, 0, 0) 1 from Eq.trans (rdn_fr (by simp) (by simp)) (Eq.trans (bl_fr (by simp)) (Eq.trans (rdn_fr (by simp) (by simp)) (word_fr (by simp))))]; exact k_addin hB0 h6b (full_b hf k1)
            refine k_aload_n (pc := 236) C dX7_item_236 rfl ?_
            refine k_aload_n (pc := 237) C dX7_item_237 rfl ?_
            refine k_getR (pc := 238) (r := some (8, 27, 0)) C fl_X7_84 k_in7 rfl rfl rfl dX7_item_238 ?_
            refine k_iconst (pc := 241) (v := 0) C dX7_item_241 (by decide) ?_
            refine k_ialdX (pc := 242) (j := 0) C (by decide) (by decide +kernel) rfl (k_vd (by decide)) dX7_item_242 ?_
            refine k_sx (x := ((f_X7_rdn ((f_X7_word mi ml).2) ml 1 0).2) (8, 27, 0) 0) (Eq.trans (rdn_fr (by simp) (by decide)) (bl_fr (by simp))) ?_
            refine k_aload_n (pc := 243) C dX7_item_243 rfl ?_
            refine k_getR (pc := 244) (r := some (8, 27, 0)) C fl_X7_84 k_in7 rfl rfl rfl dX7_item_244 ?_
            refine k_iconst (pc := 247) (v := 1) C dX7_item_247 (by decide) ?_
            refine k_ialdX (pc := 248) (j := 1) C (by decide) (by decide +kernel) rfl (k_vd (by decide)) dX7_item_248 ?_
            refine k_call2 (pc := 249) C cv_X7_157 (ct_X7_addsBeggar hcin) k_in7 rfl (by decide) rfl (Nat.le_of_ble_eq_true rfl) dX7_item_249 ?_
            refine k_pop (pc := 252) C dX7_item_252 rfl ?_
            refine k_goto (pc := 253) C 312 dX7_item_253 (by decide) ?_
            refine k_iconst (pc := 312) (v := 1) C dX7_item_312 (by decide) ?_
            exact k_zret (pc := 313) C rfl (Or.inr rfl) (k_fIm (by unfold f_X7_item; rw [if_pos hf, if_neg c50, if_neg k0, if_pos k1, if_neg hS8, if_neg hS9, if_neg hS10]; try rfl)) dX7_item_313
          · skip
            by_cases k2 : ((f_X7_word mi ml).1) = 2
            · skip
              refine k_cast (L' := [vR (7, 0, 0), vI 2, vU, vU]) (by rw [k2]) rfl rfl ?_
              refine k_iconst (pc := 55) (v := 0) C dX7_item_55 (by decide) ?_
              refine k_istore_2 (pc := 56) C dX7_item_56 rfl ?_
              refine k_iload_n (pc := 57) C dX7_item_57 rfl ?_
              refine k_aload_n (pc := 58) C dX7_item_58 rfl ?_
              refine k_getR (pc := 59) (r := some (8, 25, 0)) C fl_X7_78 k_in7 rfl rfl rfl dX7_item_59 ?_
              refine k_iload_n (pc := 62) C dX7_item_62 rfl ?_
              refine k_ialdX (pc := 63) (j := 2) C (by decide) (by decide +kernel) rfl (k_vd (by decide)) dX7_item_63 ?_
              refine k_sx (x := mi (8, 25, 0) 2) (word_fr (by simp)) ?_
              refine k_sx (x := 2) ((hnm 2 (by decide)).trans rfl) ?_
              refine k_icmp_geF (pc := 64) C 166 dX7_item_64 (by decide) (by decide) ?_
              refine k_iload_n (pc := 67) C dX7_item_67 rfl ?_
              refine k_if_leT (pc := 68) C 121 dX7_item_68 (by decide) (by decide) ?_
              refine hB ((f_X7_word mi ml).2) 2 0 (rd_word hrd) (k_vd (by decide)) (fun hq => by unfold f_X7_item; rw [if_pos hf, if_neg c50, if_neg k0, if_neg k1, if_pos k2, if_pos hq]) (fun hS11 => ?_)
              have ht0 := rdn_c (nC := nC) hS11 (by decide) ((word_fr (by simp)).trans hC) h6
              refine k_cast (L' := [vR (7, 0, 0), vI 2, vI 1, vU]) (by rfl) rfl rfl ?_
              refine k_iload_n (pc := 57) C dX7_item_57 rfl ?_
              refine k_aload_n (pc := 58) C dX7_item_58 rfl ?_
              refine k_getR (pc := 59) (r := some (8, 25, 0)) C fl_X7_78 k_in7 rfl rfl rfl dX7_item_59 ?_
              refine k_iload_n (pc := 62) C dX7_item_62 rfl ?_
              refine k_ialdX (pc := 63) (j := 2) C (by decide) (by decide +kernel) rfl (k_vd (by decide)) dX7_item_63 ?_
              refine k_sx (x := mi (8, 25, 0) 2) (Eq.trans (rdn_fr (by simp) (by simp)) (word_fr (by simp))) ?_
              refine k_sx (x := 2) ((hnm 2 (by decide)).trans rfl) ?_
              refine k_icmp_geF (pc := 64) C 166 dX7_item_64 (by decide) (by decide) ?_
              refine k_iload_n (pc := 67) C dX7_item_67 rfl ?_
              refine k_if_leF (pc := 68) C 121 dX7_item_68 (by decide) (by decide) ?_
              refine hA ((f_X7_rdn ((f_X7_word mi ml).2) ml 2 0).2) 2 1 (rd_rdn (rd_word hrd)) (fun hq => by unfold f_X7_item; rw [if_pos hf, if_neg c50, if_neg k0, if_neg k1, if_pos k2, if_neg hS11, if_pos hq]) (fun hS12 => ?_)
              refine hB ((f_X7_bl ((f_X7_rdn ((f_X7_word mi ml).2) ml 2 0).2) ml).2) 2 1 (rd_bl (rd_rdn (rd_word hrd))) (k_vd (by decide)) (fun hq => by unfold f_X7_item; rw [if_pos hf, if_neg c50, if_neg k0, if_neg k1, if_pos k2, if_neg hS11, if_neg hS12, if_pos hq]) (fun hS13 => ?_)
              refine k_cast (L' := [vR (7, 0, 0), vI 2, vI 2, vU]) (by rfl) rfl rfl ?_
              refine k_iload_n (pc := 57) C dX7_item_57 rfl ?_
              refine k_aload_n (pc := 58) C dX7_item_58 rfl ?_
              refine k_getR (pc := 59) (r := some (8, 25, 0)) C fl_X7_78 k_in7 rfl rfl rfl dX7_item_59 ?_
              refine k_iload_n (pc := 62) C dX7_item_62 rfl ?_
              refine k_ialdX (pc := 63) (j := 2) C (by decide) (by decide +kernel) rfl (k_vd (by decide)) dX7_item_63 ?_
              refine k_sx (x := mi (8, 25, 0) 2) (Eq.trans (rdn_fr (by simp) (by simp)) (Eq.trans (bl_fr (by simp)) (Eq.trans (rdn_fr (by simp) (by simp)) (word_fr (by simp))))) ?_
              refine k_sx (x := 2) ((hnm 2 (by decide)).trans rfl) ?_
              refine k_icmp_geT (pc := 64) C 166 dX7_item_64 (by decide) (by decide) ?_
              refine k_iload_n (pc := 166) C dX7_item_166 rfl ?_
              refine k_tabIn (pc := 167) (v := 2) C 256 dX7_item_167 rfl (by decide) (by decide) rfl (by decide) ?_
              refine k_aload_n (pc := 256) C dX7_item_256 rfl ?_
              refine k_getR (pc := 257) (r := some (8, 10, 0)) C fl_X7_32 k_in7 rfl rfl rfl dX7_item_257 ?_
              refine k_aload_n (pc := 260) C dX7_item_260 rfl ?_
              refine k_getR (pc := 261) (r := some (8, 27, 0)) C fl_X7_84 k_in7 rfl rfl rfl dX7_item_261 ?_
              refine k_iconst (pc := 264) (v := 0) C dX7_item_264 (by decide) ?_
              refine k_ialdX (pc := 265) (j := 0) C (by decide) (by decide +kernel) rfl (k_vd (by decide)) dX7_item_265 ?_
              refine k_sx (x := ((f_X7_rdn ((f_X7_word mi ml).2) ml 2 0).2) (8, 27, 0) 0) (Eq.trans (rdn_fr (by simp) (by decide)) (bl_fr (by simp))) ?_
              refine k_aload_n (pc := 266) C dX7_item_266 rfl ?_
              refine k_getR (pc := 267) (r := some (8, 27, 0)) C fl_X7_84 k_in7 rfl rfl rfl dX7_item_267 ?_
              refine k_iconst (pc := 270) (v := 1) C dX7_item_270 (by decide) ?_
              refine k_ialdX (pc := 271) (j := 1) C (by decide) (by decide +kernel) rfl (k_vd (by decide)) dX7_item_271 ?_
              refine k_iastX (pc := 272) (j := (((f_X7_rdn ((f_X7_word mi ml).2) ml 2 0).2) (8, 27, 0) 0).toNatClampNeg) C rfl (by decide +kernel) rfl (vp_mono ht0 (by assumption)) dX7_item_272 ?_
              refine k_goto (pc := 273) C 312 dX7_item_273 (by decide) ?_
              refine k_iconst (pc := 312) (v := 1) C dX7_item_312 (by decide) ?_
              exact k_zret (pc := 313) C rfl (Or.inr rfl) (k_fIm (by unfold f_X7_item; rw [if_pos hf, if_neg c50, if_neg k0, if_neg k1, if_pos k2, if_neg hS11, if_neg hS12, if_neg hS13]; try rfl)) dX7_item_313
            · skip
              by_cases k3 : ((f_X7_word mi ml).1) = 3
              · skip
                refine k_cast (L' := [vR (7, 0, 0), vI 3, vU, vU]) (by rw [k3]) rfl rfl ?_
                refine k_iconst (pc := 55) (v := 0) C dX7_item_55 (by decide) ?_
                refine k_istore_2 (pc := 56) C dX7_item_56 rfl ?_
                refine k_iload_n (pc := 57) C dX7_item_57 rfl ?_
                refine k_aload_n (pc := 58) C dX7_item_58 rfl ?_
                refine k_getR (pc := 59) (r := some (8, 25, 0)) C fl_X7_78 k_in7 rfl rfl rfl dX7_item_59 ?_
                refine k_iload_n (pc := 62) C dX7_item_62 rfl ?_
                refine k_ialdX (pc := 63) (j := 3) C (by decide) (by decide +kernel) rfl (k_vd (by decide)) dX7_item_63 ?_
                refine k_sx (x := mi (8, 25, 0) 3) (word_fr (by simp)) ?_
                refine k_sx (x := 1) ((hnm 3 (by decide)).trans rfl) ?_
                refine k_icmp_geF (pc := 64) C 166 dX7_item_64 (by decide) (by decide) ?_
                refine k_iload_n (pc := 67) C dX7_item_67 rfl ?_
                refine k_if_leT (pc := 68) C 121 dX7_item_68 (by decide) (by decide) ?_
                refine hB ((f_X7_word mi ml).2) 3 0 (rd_word hrd) (k_vd (by decide)) (fun hq => by unfold f_X7_item; rw [if_pos hf, if_neg c50, if_neg k0, if_neg k1, if_neg k2, if_pos k3, if_pos hq]) (fun hS14 => ?_)
                have ht0 := rdn_c (nC := nC) hS14 (by decide) ((word_fr (by simp)).trans hC) h6
                refine k_cast (L' := [vR (7, 0, 0), vI 3, vI 1, vU]) (by rfl) rfl rfl ?_
                refine k_iload_n (pc := 57) C dX7_item_57 rfl ?_
                refine k_aload_n (pc := 58) C dX7_item_58 rfl ?_
                refine k_getR (pc := 59) (r := some (8, 25, 0)) C fl_X7_78 k_in7 rfl rfl rfl dX7_item_59 ?_
                refine k_iload_n (pc := 62) C dX7_item_62 rfl ?_
                refine k_ialdX (pc := 63) (j := 3) C (by decide) (by decide +kernel) rfl (k_vd (by decide)) dX7_item_63 ?_
                refine k_sx (x := mi (8, 25, 0) 3) (Eq.trans (rdn_fr (by simp) (by simp)) (word_fr (by simp))) ?_
                refine k_sx (x := 1) ((hnm 3 (by decide)).trans rfl) ?_
                refine k_icmp_geT (pc := 64) C 166 dX7_item_64 (by decide) (by decide) ?_
                refine k_iload_n (pc := 166) C dX7_item_166 rfl ?_
                refine k_tabIn (pc := 167) (v := 3) C 291 dX7_item_167 rfl (by decide) (by decide) rfl (by decide) ?_
                refine k_aload_n (pc := 291) C dX7_item_291 rfl ?_
                refine k_getR (pc := 292) (r := some (8, 12, 0)) C fl_X7_38 k_in7 rfl rfl rfl dX7_item_292 ?_
                refine k_aload_n (pc := 295) C dX7_item_295 rfl ?_
                refine k_getR (pc := 296) (r := some (8, 27, 0)) C fl_X7_84 k_in7 rfl rfl rfl dX7_item_296 ?_
                refine k_iconst (pc := 299) (v := 0) C dX7_item_299 (by decide) ?_
                refine k_ialdX (pc := 300) (j := 0) C (by decide) (by decide +kernel) rfl (k_vd (by decide)) dX7_item_300 ?_
                refine k_iload_n (pc := 301) C dX7_item_301 rfl ?_
                refine k_iconst (pc := 302) (v := 3) C dX7_item_302 (by decide) ?_
                refine k_icmp_neF (pc := 303) C 310 dX7_item_303 (by decide) (by decide) ?_
                refine k_iconst (pc := 306) (v := 1) C dX7_item_306 (by decide) ?_
                refine k_goto (pc := 307) C 311 dX7_item_307 (by decide) ?_
                refine k_iastX (pc := 311) (j := (((f_X7_rdn ((f_X7_word mi ml).2) ml 3 0).2) (8, 27, 0) 0).toNatClampNeg) C rfl (by decide +kernel) rfl (vp_mono ht0 (by assumption)) dX7_item_311 ?_
                refine k_iconst (pc := 312) (v := 1) C dX7_item_312 (by decide) ?_
                exact k_zret (pc := 313) C rfl (Or.inr rfl) (k_fIm (by unfold f_X7_item; rw [if_pos hf, if_neg c50, if_neg k0, if_neg k1, if_neg k2, if_pos k3, if_neg hS14]; try rfl)) dX7_item_313
              · skip
                by_cases k4 : ((f_X7_word mi ml).1) = 4
                · skip
                  refine k_cast (L' := [vR (7, 0, 0), vI 4, vU, vU]) (by rw [k4]) rfl rfl ?_
                  refine k_iconst (pc := 55) (v := 0) C dX7_item_55 (by decide) ?_
                  refine k_istore_2 (pc := 56) C dX7_item_56 rfl ?_
                  refine k_iload_n (pc := 57) C dX7_item_57 rfl ?_
                  refine k_aload_n (pc := 58) C dX7_item_58 rfl ?_
                  refine k_getR (pc := 59) (r := some (8, 25, 0)) C fl_X7_78 k_in7 rfl rfl rfl dX7_item_59 ?_
                  refine k_iload_n (pc := 62) C dX7_item_62 rfl ?_
                  refine k_ialdX (pc := 63) (j := 4) C (by decide) (by decide +kernel) rfl (k_vd (by decide)) dX7_item_63 ?_
                  refine k_sx (x := mi (8, 25, 0) 4) (word_fr (by simp)) ?_
                  refine k_sx (x := 1) ((hnm 4 (by decide)).trans rfl) ?_
                  refine k_icmp_geF (pc := 64) C 166 dX7_item_64 (by decide) (by decide) ?_
                  refine k_iload_n (pc := 67) C dX7_item_67 rfl ?_
                  refine k_if_leT (pc := 68) C 121 dX7_item_68 (by decide) (by decide) ?_
                  refine hB ((f_X7_word mi ml).2) 4 0 (rd_word hrd) (k_vd (by decide)) (fun hq => by unfold f_X7_item; rw [if_pos hf, if_neg c50, if_neg k0, if_neg k1, if_neg k2, if_neg k3, if_pos k4, if_pos hq]) (fun hS15 => ?_)
                  have ht0 := rdn_c (nC := nC) hS15 (by decide) ((word_fr (by simp)).trans hC) h6
                  refine k_cast (L' := [vR (7, 0, 0), vI 4, vI 1, vU]) (by rfl) rfl rfl ?_
                  refine k_iload_n (pc := 57) C dX7_item_57 rfl ?_
                  refine k_aload_n (pc := 58) C dX7_item_58 rfl ?_
                  refine k_getR (pc := 59) (r := some (8, 25, 0)) C fl_X7_78 k_in7 rfl rfl rfl dX7_item_59 ?_
                  refine k_iload_n (pc := 62) C dX7_item_62 rfl ?_
                  refine k_ialdX (pc := 63) (j := 4) C (by decide) (by decide +kernel) rfl (k_vd (by decide)) dX7_item_63 ?_
                  refine k_sx (x := mi (8, 25, 0) 4) (Eq.trans (rdn_fr (by simp) (by simp)) (word_fr (by simp))) ?_
                  refine k_sx (x := 1) ((hnm 4 (by decide)).trans rfl) ?_
                  refine k_icmp_geT (pc := 64) C 166 dX7_item_64 (by decide) (by decide) ?_
                  refine k_iload_n (pc := 166) C dX7_item_166 rfl ?_
                  refine k_tabIn (pc := 167) (v := 4) C 291 dX7_item_167 rfl (by decide) (by decide) rfl (by decide) ?_
                  refine k_aload_n (pc := 291) C dX7_item_291 rfl ?_
                  refine k_getR (pc := 292) (r := some (8, 12, 0)) C fl_X7_38 k_in7 rfl rfl rfl dX7_item_292 ?_
                  refine k_aload_n (pc := 295) C dX7_item_295 rfl ?_
                  refine k_getR (pc := 296) (r := some (8, 27, 0)) C fl_X7_84 k_in7 rfl rfl rfl dX7_item_296 ?_
                  refine k_iconst (pc := 299) (v := 0) C dX7_item_299 (by decide) ?_
                  refine k_ialdX (pc := 300) (j := 0) C (by decide) (by decide +kernel) rfl (k_vd (by decide)) dX7_item_300 ?_
                  refine k_iload_n (pc := 301) C dX7_item_301 rfl ?_
                  refine k_iconst (pc := 302) (v := 3) C dX7_item_302 (by decide) ?_
                  refine k_icmp_neT (pc := 303) C 310 dX7_item_303 (by decide) (by decide) ?_
                  refine k_iconst (pc := 310) (v := 0) C dX7_item_310 (by decide) ?_
                  refine k_iastX (pc := 311) (j := (((f_X7_rdn ((f_X7_word mi ml).2) ml 4 0).2) (8, 27, 0) 0).toNatClampNeg) C rfl (by decide +kernel) rfl (vp_mono ht0 (by assumption)) dX7_item_311 ?_
                  refine k_iconst (pc := 312) (v := 1) C dX7_item_312 (by decide) ?_
                  exact k_zret (pc := 313) C rfl (Or.inr rfl) (k_fIm (by unfold f_X7_item; rw [if_pos hf, if_neg c50, if_neg k0, if_neg k1, if_neg k2, if_neg k3, if_pos k4, if_neg hS15]; try rfl)) dX7_item_313
                · skip
                  have k5 : ((f_X7_word mi ml).1) = 5 := by
                    rcases word_rng mi ml with h | h | h | h | h | h | h
                    all_goals first | exact h | exact absurd h (by assumption)
                  refine k_cast (L' := [vR (7, 0, 0), vI 5, vU, vU]) (by rw [k5]) rfl rfl ?_
                  refine k_iconst (pc := 55) (v := 0) C dX7_item_55 (by decide) ?_
                  refine k_istore_2 (pc := 56) C dX7_item_56 rfl ?_
                  refine k_iload_n (pc := 57) C dX7_item_57 rfl ?_
                  refine k_aload_n (pc := 58) C dX7_item_58 rfl ?_
                  refine k_getR (pc := 59) (r := some (8, 25, 0)) C fl_X7_78 k_in7 rfl rfl rfl dX7_item_59 ?_
                  refine k_iload_n (pc := 62) C dX7_item_62 rfl ?_
                  refine k_ialdX (pc := 63) (j := 5) C (by decide) (by decide +kernel) rfl (k_vd (by decide)) dX7_item_63 ?_
                  refine k_sx (x := mi (8, 25, 0) 5) (word_fr (by simp)) ?_
                  refine k_sx (x := 1) ((hnm 5 (by decide)).trans rfl) ?_
                  refine k_icmp_geF (pc := 64) C 166 dX7_item_64 (by decide) (by decide) ?_
                  refine k_iload_n (pc := 67) C dX7_item_67 rfl ?_
                  refine k_if_leT (pc := 68) C 121 dX7_item_68 (by decide) (by decide) ?_
                  refine hB ((f_X7_word mi ml).2) 5 0 (rd_word hrd) (k_vd (by decide)) (fun hq => by unfold f_X7_item; rw [if_pos hf, if_neg c50, if_neg k0, if_neg k1, if_neg k2, if_neg k3, if_neg k4, if_pos hq]) (fun hS16 => ?_)
                  have ht0 := rdn_b (nB := nB) hS16 ((word_fr (by simp)).trans hB0) h6b
                  refine k_cast (L' := [vR (7, 0, 0), vI 5, vI 1, vU]) (by rfl) rfl rfl ?_
                  refine k_iload_n (pc := 57) C dX7_item_57 rfl ?_
                  refine k_aload_n (pc := 58) C dX7_item_58 rfl ?_
                  refine k_getR (pc := 59) (r := some (8, 25, 0)) C fl_X7_78 k_in7 rfl rfl rfl dX7_item_59 ?_
                  refine k_iload_n (pc := 62) C dX7_item_62 rfl ?_
                  refine k_ialdX (pc := 63) (j := 5) C (by decide) (by decide +kernel) rfl (k_vd (by decide)) dX7_item_63 ?_
                  refine k_sx (x := mi (8, 25, 0) 5) (Eq.trans (rdn_fr (by simp) (by simp)) (word_fr (by simp))) ?_
                  refine k_sx (x := 1) ((hnm 5 (by decide)).trans rfl) ?_
                  refine k_icmp_geT (pc := 64) C 166 dX7_item_64 (by decide) (by decide) ?_
                  refine k_iload_n (pc := 166) C dX7_item_166 rfl ?_
                  refine k_tabIn (pc := 167) (v := 5) C 276 dX7_item_167 rfl (by decide) (by decide) rfl (by decide) ?_
                  refine k_aload_n (pc := 276) C dX7_item_276 rfl ?_
                  refine k_getR (pc := 277) (r := some (8, 17, 0)) C fl_X7_53 k_in7 rfl rfl rfl dX7_item_277 ?_
                  refine k_aload_n (pc := 280) C dX7_item_280 rfl ?_
                  refine k_getR (pc := 281) (r := some (8, 27, 0)) C fl_X7_84 k_in7 rfl rfl rfl dX7_item_281 ?_
                  refine k_iconst (pc := 284) (v := 0) C dX7_item_284 (by decide) ?_
                  refine k_ialdX (pc := 285) (j := 0) C (by decide) (by decide +kernel) rfl (k_vd (by decide)) dX7_item_285 ?_
                  refine k_iconst (pc := 286) (v := 1) C dX7_item_286 (by decide) ?_
                  refine k_iastX (pc := 287) (j := (((f_X7_rdn ((f_X7_word mi ml).2) ml 5 0).2) (8, 27, 0) 0).toNatClampNeg) C rfl (by decide +kernel) rfl (vp_mono ht0 (by assumption)) dX7_item_287 ?_
                  refine k_goto (pc := 288) C 312 dX7_item_288 (by decide) ?_
                  refine k_iconst (pc := 312) (v := 1) C dX7_item_312 (by decide) ?_
                  exact k_zret (pc := 313) C rfl (Or.inr rfl) (k_fIm (by unfold f_X7_item; rw [if_pos hf, if_neg c50, if_neg k0, if_neg k1, if_neg k2, if_neg k3, if_neg k4, if_neg hS16]; try rfl)) dX7_item_313
      · skip
        refine k_iconst (pc := 53) (v := 0) C dX7_item_53 (by decide) ?_
        exact k_zret (pc := 54) C rfl (Or.inl rfl) (k_fIm (by unfold f_X7_item; rw [if_pos hf, if_pos c50]; try rfl)) dX7_item_54
    refine k_aload_n (pc := 0) C dX7_item_0 rfl ?_
    refine k_iconst (pc := 1) (v := 0) C dX7_item_1 (by decide) ?_
    refine k_call1 (pc := 2) C cv_X7_189 (ct_X7_stands_0 hrd hw) k_in7 rfl (by decide) rfl (Nat.le_of_ble_eq_true rfl) dX7_item_2 ?_
    refine k_if_eq (pc := 5) C 17 dX7_item_5 (by decide) (fun c5 => ?_) (fun c5 => ?_)
    · skip
      refine k_aload_n (pc := 17) C dX7_item_17 rfl ?_
      refine k_iconst (pc := 18) (v := 1) C dX7_item_18 (by decide) ?_
      refine k_call1 (pc := 19) C cv_X7_189 (ct_X7_stands_1 hrd hw) k_in7 rfl (by decide) rfl (Nat.le_of_ble_eq_true rfl) dX7_item_19 ?_
      refine k_if_eq (pc := 22) C 43 dX7_item_22 (by decide) (fun c22 => ?_) (fun c22 => ?_)
      · skip
        exact h43
      · skip
        refine k_aload_n (pc := 25) C dX7_item_25 rfl ?_
        refine k_getI (pc := 26) C fl_X7_132 k_in7 rfl rfl dX7_item_26 ?_
        refine k_bipush (pc := 29) (v := 6) C dX7_item_29 (by decide) ?_
        refine k_icmp_ne (pc := 31) C 43 dX7_item_31 (by decide) (fun c31 => ?_) (fun c31 => ?_)
        · skip
          exact h43
        · skip
          exact absurd hf (by unfold f_X7_full; rw [if_pos c5, if_neg c22, if_pos c31]; decide)
    · skip
      refine k_aload_n (pc := 8) C dX7_item_8 rfl ?_
      refine k_getI (pc := 9) C fl_X7_129 k_in7 rfl rfl dX7_item_9 ?_
      refine k_bipush (pc := 12) (v := 6) C dX7_item_12 (by decide) ?_
      refine k_icmp_eq (pc := 14) C 34 dX7_item_14 (by decide) (fun c14 => ?_) (fun c14 => ?_)
      · skip
        exact absurd hf (by unfold f_X7_full; rw [if_neg c5, if_pos c14]; decide)
      · skip
        refine k_aload_n (pc := 17) C dX7_item_17 rfl ?_
        refine k_iconst (pc := 18) (v := 1) C dX7_item_18 (by decide) ?_
        refine k_call1 (pc := 19) C cv_X7_189 (ct_X7_stands_1 hrd hw) k_in7 rfl (by decide) rfl (Nat.le_of_ble_eq_true rfl) dX7_item_19 ?_
        refine k_if_eq (pc := 22) C 43 dX7_item_22 (by decide) (fun c22 => ?_) (fun c22 => ?_)
        · skip
          exact h43
        · skip
          refine k_aload_n (pc := 25) C dX7_item_25 rfl ?_
          refine k_getI (pc := 26) C fl_X7_132 k_in7 rfl rfl dX7_item_26 ?_
          refine k_bipush (pc := 29) (v := 6) C dX7_item_29 (by decide) ?_
          refine k_icmp_ne (pc := 31) C 43 dX7_item_31 (by decide) (fun c31 => ?_) (fun c31 => ?_)
          · skip
            exact h43
          · skip
            exact absurd hf (by unfold f_X7_full; rw [if_neg c5, if_neg c14, if_neg c22, if_pos c31]; decide)
  · skip
    refine k_aload_n (pc := 0) C dX7_item_0 rfl ?_
    refine k_iconst (pc := 1) (v := 0) C dX7_item_1 (by decide) ?_
    refine k_call1 (pc := 2) C cv_X7_189 (ct_X7_stands_0 hrd hw) k_in7 rfl (by decide) rfl (Nat.le_of_ble_eq_true rfl) dX7_item_2 ?_
    refine k_if_eq (pc := 5) C 17 dX7_item_5 (by decide) (fun c5 => ?_) (fun c5 => ?_)
    · skip
      refine k_aload_n (pc := 17) C dX7_item_17 rfl ?_
      refine k_iconst (pc := 18) (v := 1) C dX7_item_18 (by decide) ?_
      refine k_call1 (pc := 19) C cv_X7_189 (ct_X7_stands_1 hrd hw) k_in7 rfl (by decide) rfl (Nat.le_of_ble_eq_true rfl) dX7_item_19 ?_
      refine k_if_eq (pc := 22) C 43 dX7_item_22 (by decide) (fun c22 => ?_) (fun c22 => ?_)
      · skip
        exact absurd (by unfold f_X7_full; rw [if_pos c5, if_pos c22]) hf
      · skip
        refine k_aload_n (pc := 25) C dX7_item_25 rfl ?_
        refine k_getI (pc := 26) C fl_X7_132 k_in7 rfl rfl dX7_item_26 ?_
        refine k_bipush (pc := 29) (v := 6) C dX7_item_29 (by decide) ?_
        refine k_icmp_ne (pc := 31) C 43 dX7_item_31 (by decide) (fun c31 => ?_) (fun c31 => ?_)
        · skip
          exact absurd (by unfold f_X7_full; rw [if_pos c5, if_neg c22, if_neg c31]) hf
        · skip
          refine k_aload_n (pc := 34) C dX7_item_34 rfl ?_
          refine k_aload_n (pc := 35) C dX7_item_35 rfl ?_
          refine k_getI (pc := 36) C fl_X7_170 k_in7 rfl rfl dX7_item_36 ?_
          refine k_call1 (pc := 39) C cv_X7_186 ct_X7_wrong k_in7 rfl (by decide) rfl (Nat.le_of_ble_eq_true rfl) dX7_item_39 ?_
          exact k_zret (pc := 42) C rfl (Or.inl rfl) (k_fIm (by unfold f_X7_item; rw [if_neg hf]; try rfl)) dX7_item_42
    · skip
      refine k_aload_n (pc := 8) C dX7_item_8 rfl ?_
      refine k_getI (pc := 9) C fl_X7_129 k_in7 rfl rfl dX7_item_9 ?_
      refine k_bipush (pc := 12) (v := 6) C dX7_item_12 (by decide) ?_
      refine k_icmp_eq (pc := 14) C 34 dX7_item_14 (by decide) (fun c14 => ?_) (fun c14 => ?_)
      · skip
        refine k_aload_n (pc := 34) C dX7_item_34 rfl ?_
        refine k_aload_n (pc := 35) C dX7_item_35 rfl ?_
        refine k_getI (pc := 36) C fl_X7_170 k_in7 rfl rfl dX7_item_36 ?_
        refine k_call1 (pc := 39) C cv_X7_186 ct_X7_wrong k_in7 rfl (by decide) rfl (Nat.le_of_ble_eq_true rfl) dX7_item_39 ?_
        exact k_zret (pc := 42) C rfl (Or.inl rfl) (k_fIm (by unfold f_X7_item; rw [if_neg hf]; try rfl)) dX7_item_42
      · skip
        refine k_aload_n (pc := 17) C dX7_item_17 rfl ?_
        refine k_iconst (pc := 18) (v := 1) C dX7_item_18 (by decide) ?_
        refine k_call1 (pc := 19) C cv_X7_189 (ct_X7_stands_1 hrd hw) k_in7 rfl (by decide) rfl (Nat.le_of_ble_eq_true rfl) dX7_item_19 ?_
        refine k_if_eq (pc := 22) C 43 dX7_item_22 (by decide) (fun c22 => ?_) (fun c22 => ?_)
        · skip
          exact absurd (by unfold f_X7_full; rw [if_neg c5, if_neg c14, if_pos c22]) hf
        · skip
          refine k_aload_n (pc := 25) C dX7_item_25 rfl ?_
          refine k_getI (pc := 26) C fl_X7_132 k_in7 rfl rfl dX7_item_26 ?_
          refine k_bipush (pc := 29) (v := 6) C dX7_item_29 (by decide) ?_
          refine k_icmp_ne (pc := 31) C 43 dX7_item_31 (by decide) (fun c31 => ?_) (fun c31 => ?_)
          · skip
            exact absurd (by unfold f_X7_full; rw [if_neg c5, if_neg c14, if_neg c22, if_neg c31]) hf
          · skip
            refine k_aload_n (pc := 34) C dX7_item_34 rfl ?_
            refine k_aload_n (pc := 35) C dX7_item_35 rfl ?_
            refine k_getI (pc := 36) C fl_X7_170 k_in7 rfl rfl dX7_item_36 ?_
            refine k_call1 (pc := 39) C cv_X7_186 ct_X7_wrong k_in7 rfl (by decide) rfl (Nat.le_of_ble_eq_true rfl) dX7_item_39 ?_
            exact k_zret (pc := 42) C rfl (Or.inl rfl) (k_fIm (by unfold f_X7_item; rw [if_neg hf]; try rfl)) dX7_item_42
