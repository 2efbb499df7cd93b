/-! act: the bodies -/
/-- the citizen's kind, number, amount stand in the play; both traces go alike; nothing else changes -/
def k_as (r : Nat) (K N A : Int32) (C : Nat) (mi mj m m' : MemI) : Prop := (m (3, 0, 0) 2 = K ∧ m (3, 0, 0) 3 = N ∧ m (3, 0, 0) 4 = A) ∧ (m' (8, 6, 0) C = K ∧ m' (8, 7, 0) C = A) ∧ k_tcr r m m' ∧ (∀ kk qq, kk ≠ (3, 0, 0) → kk ≠ (8, 102, 0) → m kk qq = mi kk qq) ∧ ∀ kk qq, ¬ (kk = (7, 0, 0) ∧ qq = 51) → kk ≠ (8, 50, 0) → m' kk qq = mj kk qq
def k_sm (r : Nat) (K N A : Int32) (C : Nat) (mi mj : MemI) (X Y : Int32 × MemI) : Prop := X.1 = Y.1 ∧ ∃ s, s ≤ r ∧ k_as s K N A C mi mj X.2 Y.2
theorem begK {mi : MemI} {b : Int32} {q : Nat} (hq : q ≠ 1) : f_X3_begin mi b (3, 0, 0) q = mi (3, 0, 0) q := by
  unfold f_X3_begin
  split
  · exact k_uj hq
  · split
    · exact k_uj hq
    · rw [k_uj hq]; exact k_uk (by decide)
theorem begO {mi : MemI} {b : Int32} {kk : Ky} {q : Nat} (h1 : kk ≠ (3, 0, 0)) (h2 : kk ≠ (8, 102, 0)) : f_X3_begin mi b kk q = mi kk q := by
  unfold f_X3_begin
  split
  · exact k_uk h1
  · split
    · exact k_uk h1
    · rw [k_uk h1]; exact k_uk h2
theorem bodO {mi : MemI} {b : Int32} {kk : Ky} {q : Nat} (h1 : ¬ (kk = (7, 0, 0) ∧ q = 51)) (h2 : kk ≠ (8, 50, 0)) : f_X7_body mi b kk q = mi kk q := by
  unfold f_X7_body
  split
  · exact k_ufr h1
  · rw [k_ufr h1]; exact k_uk h2
theorem as_beg {r : Nat} {K N A : Int32} {C : Nat} {mi mj m m' : MemI} {b : Int32} (hr : r < 300) (h : k_as r K N A C mi mj m m') : k_as (r + 1) K N A C mi mj (f_X3_begin m b) (f_X7_body m' b) := by
  obtain ⟨⟨a1, a2, a3⟩, ⟨b1, b2⟩, t, f1, f2⟩ := h
  refine ⟨⟨(begK (by decide)).trans a1, (begK (by decide)).trans a2, (begK (by decide)).trans a3⟩, ⟨(bodO (by simp) (by decide)).trans b1, (bodO (by simp) (by decide)).trans b2⟩, beg_tc hr t, fun kk qq x y => (begO x y).trans (f1 kk qq x y), fun kk qq x y => (bodO x y).trans (f2 kk qq x y)⟩
theorem k_d40 {D : Nat} (h : D ≤ 40) : nI D ≤ (40 : Int32) := by
  exact (nI_leI (a := D) (b := 40) (by omega) (by decide)).mpr h
theorem rn_st {n : Nat} {m : MemI} {kd mv x B AB : Int32} {D : Nat} (hD : D ≤ 40) (hB : f_X3_bodyOf (f_X3_ownerOf kd mv) mv = B) (hA : f_X6_kindAbove (f_X3_ownerOf kd mv) = AB) : f_rn (n + 1) m kd mv x (nI D) = f_X3_answer (f_rn n) (f_X3_begin m B) B AB x (nI (D + 1)) := by
  show (if nI D ≤ 40 then _ else _) = _
  have hS : nI D + 1 = nI (D + 1) := k_inc300 D (by omega)
  rw [if_pos (k_d40 hD), hB, hA, hS]
theorem an_10 {Rn : MemI → Int32 → Int32 → Int32 → Int32 → Int32 × MemI} {mi : MemI} {ab x d : Int32} : f_X3_answer Rn mi 10 ab x d = (x + (mi (3, 0, 0) 3), mi) := by
  unfold f_X3_answer
  rw [if_pos rfl]
theorem an_11 {Rn : MemI → Int32 → Int32 → Int32 → Int32 → Int32 × MemI} {mi : MemI} {ab x d : Int32} : f_X3_answer Rn mi 11 ab x d = (((Rn mi (mi (3, 0, 0) 2) 0 x d).1) * 2, (Rn mi (mi (3, 0, 0) 2) 0 x d).2) := by
  unfold f_X3_answer
  rw [if_neg (by decide), if_pos rfl]
theorem an_12 {Rn : MemI → Int32 → Int32 → Int32 → Int32 → Int32 × MemI} {mi : MemI} {ab x d : Int32} : f_X3_answer Rn mi 12 ab x d = (((Rn mi (mi (3, 0, 0) 2) 1 x d).1) ^^^ ((Rn ((Rn mi (mi (3, 0, 0) 2) 1 x d).2) (((Rn mi (mi (3, 0, 0) 2) 1 x d).2) (3, 0, 0) 2) 0 (x - (((Rn mi (mi (3, 0, 0) 2) 1 x d).2) (3, 0, 0) 4)) d).1), (Rn ((Rn mi (mi (3, 0, 0) 2) 1 x d).2) (((Rn mi (mi (3, 0, 0) 2) 1 x d).2) (3, 0, 0) 2) 0 (x - (((Rn mi (mi (3, 0, 0) 2) 1 x d).2) (3, 0, 0) 4)) d).2) := by
  unfold f_X3_answer
  rw [if_neg (by decide), if_neg (by decide), if_pos rfl]
theorem an_20 {Rn : MemI → Int32 → Int32 → Int32 → Int32 → Int32 × MemI} {mi : MemI} {ab x d : Int32} : f_X3_answer Rn mi 20 ab x d = (((Rn mi ab 1 x d).1) + (((Rn mi ab 1 x d).2) (3, 0, 0) 4), (Rn mi ab 1 x d).2) := by
  unfold f_X3_answer
  rw [if_neg (by decide), if_neg (by decide), if_neg (by decide), if_pos rfl]
theorem an_30 {Rn : MemI → Int32 → Int32 → Int32 → Int32 → Int32 × MemI} {mi : MemI} {ab x d : Int32} : f_X3_answer Rn mi 30 ab x d = (((Rn mi ab 0 x d).1) * 3, (Rn mi ab 0 x d).2) := by
  unfold f_X3_answer
  rw [if_neg (by decide), if_neg (by decide), if_neg (by decide), if_neg (by decide), if_pos rfl]
theorem an_40 {Rn : MemI → Int32 → Int32 → Int32 → Int32 → Int32 × MemI} {mi : MemI} {ab x d : Int32} : f_X3_answer Rn mi 40 ab x d = ((Rn mi ab 0 (x + 1) d).1, (Rn mi ab 0 (x + 1) d).2) := by
  unfold f_X3_answer
  rw [if_neg (by decide), if_neg (by decide), if_neg (by decide), if_neg (by decide), if_neg (by decide), if_pos rfl]
theorem an_50 {Rn : MemI → Int32 → Int32 → Int32 → Int32 → Int32 × MemI} {mi : MemI} {ab x d : Int32} : f_X3_answer Rn mi 50 ab x d = (-((Rn mi ab 2 x d).1), (Rn mi ab 2 x d).2) := by
  unfold f_X3_answer
  rw [if_neg (by decide), if_neg (by decide), if_neg (by decide), if_neg (by decide), if_neg (by decide), if_neg (by decide), if_pos rfl]
theorem an_51 {Rn : MemI → Int32 → Int32 → Int32 → Int32 → Int32 × MemI} {mi : MemI} {ab x d : Int32} : f_X3_answer Rn mi 51 ab x d = (((Rn mi ab 0 x d).1) - (((Rn mi ab 0 x d).2) (3, 0, 0) 3), (Rn mi ab 0 x d).2) := by
  unfold f_X3_answer
  rw [if_neg (by decide), if_neg (by decide), if_neg (by decide), if_neg (by decide), if_neg (by decide), if_neg (by decide), if_neg (by decide), if_pos rfl]
theorem an_60 {Rn : MemI → Int32 → Int32 → Int32 → Int32 → Int32 × MemI} {mi : MemI} {ab x d : Int32} : f_X3_answer Rn mi 60 ab x d = (((Rn mi ab 2 x d).1) ^^^ 5, (Rn mi ab 2 x d).2) := by
  unfold f_X3_answer
  rw [if_neg (by decide), if_neg (by decide), if_neg (by decide), if_neg (by decide), if_neg (by decide), if_neg (by decide), if_neg (by decide), if_neg (by decide), if_pos rfl]
theorem an_70 {Rn : MemI → Int32 → Int32 → Int32 → Int32 → Int32 × MemI} {mi : MemI} {ab x d : Int32} : f_X3_answer Rn mi 70 ab x d = (((Rn mi ab 0 x d).1) * 2, (Rn mi ab 0 x d).2) := by
  unfold f_X3_answer
  rw [if_neg (by decide), if_neg (by decide), if_neg (by decide), if_neg (by decide), if_neg (by decide), if_neg (by decide), if_neg (by decide), if_neg (by decide), if_neg (by decide), if_pos rfl]
theorem an_71 {Rn : MemI → Int32 → Int32 → Int32 → Int32 → Int32 × MemI} {mi : MemI} {ab x d : Int32} : f_X3_answer Rn mi 71 ab x d = ((Rn mi ab 1 (x - (mi (3, 0, 0) 4)) d).1, (Rn mi ab 1 (x - (mi (3, 0, 0) 4)) d).2) := by
  unfold f_X3_answer
  rw [if_neg (by decide), if_neg (by decide), if_neg (by decide), if_neg (by decide), if_neg (by decide), if_neg (by decide), if_neg (by decide), if_neg (by decide), if_neg (by decide), if_neg (by decide), if_pos rfl]
/-- a step with its body -/
theorem rn_10 {n r D C : Nat} {m m' mi mj : MemI} {kd mv x K N A : Int32} (hD : D ≤ 40) (hr : r < 300) (hB : f_X3_bodyOf (f_X3_ownerOf kd mv) mv = 10) (h : k_as r K N A C mi mj m m') : k_sm (r + 1) K N A C mi mj (f_rn (n + 1) m kd mv x (nI D)) (x + N, f_X7_body m' 10) := by
  rw [rn_st hD hB rfl, an_10]
  have a := as_beg (b := 10) hr h
  refine ⟨?_, r + 1, Nat.le_refl _, a⟩
  dsimp only
  rw [a.1.2.1]
theorem sm_mk {r s : Nat} {K N A : Int32} {C : Nat} {mi mj m m' : MemI} {x y : Int32} (e : x = y) (hs : s ≤ r) (h : k_as s K N A C mi mj m m') : k_sm r K N A C mi mj (x, m) (y, m') := ⟨e, s, hs, h⟩
theorem sm_le {r s : Nat} {K N A : Int32} {C : Nat} {mi mj : MemI} {X Y : Int32 × MemI} (h : k_sm r K N A C mi mj X Y) (hs : r ≤ s) : k_sm s K N A C mi mj X Y := by
  obtain ⟨e, t, ht, a⟩ := h
  exact ⟨e, t, Nat.le_trans ht hs, a⟩
theorem as_N {r : Nat} {K N A : Int32} {C : Nat} {mi mj m m' : MemI} (h : k_as r K N A C mi mj m m') : m (3, 0, 0) 3 = N := h.1.2.1
theorem as_K {r : Nat} {K N A : Int32} {C : Nat} {mi mj m m' : MemI} (h : k_as r K N A C mi mj m m') : m (3, 0, 0) 2 = K := h.1.1
theorem as_A {r : Nat} {K N A : Int32} {C : Nat} {mi mj m m' : MemI} (h : k_as r K N A C mi mj m m') : m (3, 0, 0) 4 = A := h.1.2.2
theorem as_K' {r : Nat} {K N A : Int32} {C : Nat} {mi mj m m' : MemI} (h : k_as r K N A C mi mj m m') : m' (8, 6, 0) C = K := h.2.1.1
theorem as_A' {r : Nat} {K N A : Int32} {C : Nat} {mi mj m m' : MemI} (h : k_as r K N A C mi mj m m') : m' (8, 7, 0) C = A := h.2.1.2
/-- looking by kind -/
theorem lk2 {n r D C : Nat} {m m' mi mj : MemI} {x K N A : Int32} (hD : D + 1 ≤ 40) (hr : r + 1 < 300) (h : k_as r K N A C mi mj m m') : k_sm (r + 2) K N A C mi mj (f_rn (n + 2) m 2 0 x (nI D)) ((x + N) * 3, f_X7_body (f_X7_body m' 30) 10) := by
  rw [rn_st (B := 30) (AB := 0) (by omega) (by decide +kernel) (by decide +kernel), an_30]
  obtain ⟨e, s, hs, a⟩ := rn_10 (n := n) (kd := 0) (mv := 0) (x := x) hD hr (by decide +kernel) (as_beg (b := 30) (by omega) h)
  exact sm_mk (by rw [e]) hs a
theorem lk3 {n r D C : Nat} {m m' mi mj : MemI} {x K N A : Int32} (hD : D + 2 ≤ 40) (hr : r + 2 < 300) (h : k_as r K N A C mi mj m m') : k_sm (r + 3) K N A C mi mj (f_rn (n + 3) m 3 0 x (nI D)) (((x + 1) + N) * 3, f_X7_body (f_X7_body (f_X7_body m' 40) 30) 10) := by
  rw [rn_st (B := 40) (AB := 2) (by omega) (by decide +kernel) (by decide +kernel), an_40]
  obtain ⟨e, s, hs, a⟩ := lk2 (n := n) (D := D + 1) (x := x + 1) (by omega) (by omega) (as_beg (b := 40) (by omega) h)
  exact sm_mk e (by omega) a
theorem lk4 {n r D C : Nat} {m m' mi mj : MemI} {kd x K N A : Int32} (hk : kd = 4 ∨ kd = 5) (hD : D + 1 ≤ 40) (hr : r + 1 < 300) (h : k_as r K N A C mi mj m m') : k_sm (r + 2) K N A C mi mj (f_rn (n + 2) m kd 0 x (nI D)) ((x + N) - N, f_X7_body (f_X7_body m' 51) 10) := by
  rw [rn_st (B := 51) (AB := 0) (by omega) (by rcases hk with rfl | rfl <;> decide +kernel) (by rcases hk with rfl | rfl <;> decide +kernel), an_51]
  obtain ⟨e, s, hs, a⟩ := rn_10 (n := n) (kd := 0) (mv := 0) (x := x) hD hr (by decide +kernel) (as_beg (b := 51) (by omega) h)
  exact sm_mk (by rw [e, as_N a]) hs a
theorem lk6 {n r D C : Nat} {m m' mi mj : MemI} {x K N A : Int32} (hD : D + 3 ≤ 40) (hr : r + 3 < 300) (h : k_as r K N A C mi mj m m') : k_sm (r + 4) K N A C mi mj (f_rn (n + 4) m 6 0 x (nI D)) ((((x + 1) + N) * 3) * 2, f_X7_body (f_X7_body (f_X7_body (f_X7_body m' 70) 40) 30) 10) := by
  rw [rn_st (B := 70) (AB := 3) (by omega) (by decide +kernel) (by decide +kernel), an_70]
  obtain ⟨e, s, hs, a⟩ := lk3 (n := n) (D := D + 1) (x := x) (by omega) (by omega) (as_beg (b := 70) (by omega) h)
  exact sm_mk (by rw [e]) (by omega) a
def k_K7 (K : Int32) : Prop := K = 0 ∨ K = 1 ∨ K = 2 ∨ K = 3 ∨ K = 4 ∨ K = 5 ∨ K = 6
theorem look {n r D : Nat} {m m' mi mj : MemI} {x K cz A : Int32} (hK : k_K7 K) (hD : D + 3 ≤ 40) (hr : r + 3 < 300) (h : k_as r K cz A cz.toNatClampNeg mi mj m m') : k_sm (r + 4) K cz A cz.toNatClampNeg mi mj (f_rn (n + 4) m K 0 x (nI D)) (f_X7_looking m' cz x) := by
  unfold f_X7_looking
  rw [as_K' h]
  rcases hK with rfl | rfl | rfl | rfl | rfl | rfl | rfl
  · rw [if_neg (by decide), if_neg (by decide), if_neg (by decide), if_neg (by decide), if_neg (by decide), if_neg (by decide)]
    exact sm_le (rn_10 (n := n + 3) (kd := 0) (mv := 0) (by omega) (by omega) (by decide +kernel) h) (by omega)
  · rw [if_pos rfl]
    exact sm_le (rn_10 (n := n + 3) (kd := 1) (mv := 0) (by omega) (by omega) (by decide +kernel) h) (by omega)
  · rw [if_neg (by decide), if_pos rfl]
    exact sm_le (lk2 (n := n + 2) (by omega) (by omega) h) (by omega)
  · rw [if_neg (by decide), if_neg (by decide), if_pos rfl]
    exact sm_le (lk3 (n := n + 1) (by omega) (by omega) h) (by omega)
  · rw [if_neg (by decide), if_neg (by decide), if_neg (by decide), if_pos rfl]
    exact sm_le (lk4 (n := n + 2) (Or.inl rfl) (by omega) (by omega) h) (by omega)
  · rw [if_neg (by decide), if_neg (by decide), if_neg (by decide), if_neg (by decide), if_pos rfl]
    exact sm_le (lk4 (n := n + 2) (Or.inr rfl) (by omega) (by omega) h) (by omega)
  · rw [if_neg (by decide), if_neg (by decide), if_neg (by decide), if_neg (by decide), if_neg (by decide), if_pos rfl]
    exact sm_le (lk6 (n := n) (by omega) (by omega) h) (by omega)
/-- giving -/
theorem gv11 {n r D : Nat} {m m' mi mj : MemI} {kd x K cz A : Int32} (hB : f_X3_bodyOf (f_X3_ownerOf kd 1) 1 = 11) (hK : k_K7 K) (hD : D + 4 ≤ 40) (hr : r + 4 < 300) (h : k_as r K cz A cz.toNatClampNeg mi mj m m') : k_sm (r + 5) K cz A cz.toNatClampNeg mi mj (f_rn (n + 5) m kd 1 x (nI D)) (((f_X7_looking (f_X7_body m' 11) cz x).1) * 2, (f_X7_looking (f_X7_body m' 11) cz x).2) := by
  have b := as_beg (b := 11) (by omega) h
  rw [rn_st (by omega) hB rfl, an_11, as_K b]
  obtain ⟨e, s, hs, a⟩ := look (n := n) (D := D + 1) (x := x) hK (by omega) (by omega) b
  exact sm_mk (by rw [e]) (by omega) a
theorem give {n r D : Nat} {m m' mi mj : MemI} {x K cz A : Int32} (hK : k_K7 K) (hD : D + 5 ≤ 40) (hr : r + 5 < 300) (h : k_as r K cz A cz.toNatClampNeg mi mj m m') : k_sm (r + 6) K cz A cz.toNatClampNeg mi mj (f_rn (n + 6) m K 1 x (nI D)) (f_X7_giving m' cz x) := by
  unfold f_X7_giving
  rw [as_K' h]
  by_cases c1 : K = 1
  · subst c1
    rw [if_pos rfl, rn_st (B := 20) (AB := 0) (by omega) (by decide +kernel) (by decide +kernel), an_20]
    obtain ⟨e, s, hs, a⟩ := gv11 (n := n) (D := D + 1) (x := x) (kd := 0) (by decide +kernel) hK (by omega) (by omega) (as_beg (b := 20) (by omega) h)
    exact sm_mk (by rw [e, as_A a, as_A' h]) (by omega) a
  · by_cases c6 : K = 6
    · subst c6
      have b := as_beg (b := 71) (by omega) h
      rw [if_neg (by decide), if_pos rfl, rn_st (B := 71) (AB := 3) (by omega) (by decide +kernel) (by decide +kernel), an_71, as_A b, as_A' h]
      obtain ⟨e, s, hs, a⟩ := gv11 (n := n) (D := D + 1) (x := x - A) (kd := 3) (by decide +kernel) hK (by omega) (by omega) b
      exact sm_mk e (by omega) a
    · rw [if_neg c1, if_neg c6]
      have hB : f_X3_bodyOf (f_X3_ownerOf K 1) 1 = 11 := by
        rcases hK with rfl | rfl | rfl | rfl | rfl | rfl | rfl
        · decide +kernel
        · exact absurd rfl c1
        · decide +kernel
        · decide +kernel
        · decide +kernel
        · decide +kernel
        · exact absurd rfl c6
      exact sm_le (gv11 (n := n + 1) hB hK (by omega) (by omega) h) (by omega)
/-- shutting -/
theorem sh12 {n r D : Nat} {m m' mi mj : MemI} {kd x K cz A : Int32} (hB : f_X3_bodyOf (f_X3_ownerOf kd 2) 2 = 12) (hK : k_K7 K) (hD : D + 6 ≤ 40) (hr : r + 12 < 300) (h : k_as r K cz A cz.toNatClampNeg mi mj m m') : k_sm (r + 12) K cz A cz.toNatClampNeg mi mj (f_rn (n + 7) m kd 2 x (nI D)) (((f_X7_giving (f_X7_body m' 12) cz x).1) ^^^ ((f_X7_looking ((f_X7_giving (f_X7_body m' 12) cz x).2) cz (x - A)).1), (f_X7_looking ((f_X7_giving (f_X7_body m' 12) cz x).2) cz (x - A)).2) := by
  have b := as_beg (b := 12) (by omega) h
  rw [rn_st (by omega) hB rfl, an_12, as_K b]
  obtain ⟨e, s, hs, a⟩ := give (n := n) (D := D + 1) (x := x) hK (by omega) (by omega) b
  rw [as_K a, as_A a, e]
  obtain ⟨e2, s2, hs2, a2⟩ := look (n := n + 2) (D := D + 1) (x := x - A) hK (by omega) (by omega) a
  exact sm_mk (by rw [e2]) (by omega) a2
theorem shut4 {n r D : Nat} {m m' mi mj : MemI} {x K cz A : Int32} (hK : k_K7 K) (hD : D + 7 ≤ 40) (hr : r + 13 < 300) (h : k_as r K cz A cz.toNatClampNeg mi mj m m') : k_sm (r + 13) K cz A cz.toNatClampNeg mi mj (f_rn (n + 8) m 4 2 x (nI D)) (-(((f_X7_giving (f_X7_body (f_X7_body m' 50) 12) cz x).1) ^^^ ((f_X7_looking ((f_X7_giving (f_X7_body (f_X7_body m' 50) 12) cz x).2) cz (x - A)).1)), (f_X7_looking ((f_X7_giving (f_X7_body (f_X7_body m' 50) 12) cz x).2) cz (x - A)).2) := by
  rw [rn_st (B := 50) (AB := 0) (by omega) (by decide +kernel) (by decide +kernel), an_50]
  obtain ⟨e, s, hs, a⟩ := sh12 (n := n) (D := D + 1) (x := x) (kd := 0) (by decide +kernel) hK (by omega) (by omega) (as_beg (b := 50) (by omega) h)
  exact sm_mk (by rw [e]) (by omega) a
theorem shut {n r D : Nat} {m m' mi mj : MemI} {x K cz A : Int32} (hK : k_K7 K) (hD : D + 8 ≤ 40) (hr : r + 14 < 300) (h : k_as r K cz A cz.toNatClampNeg mi mj m m') : k_sm (r + 14) K cz A cz.toNatClampNeg mi mj (f_rn (n + 9) m K 2 x (nI D)) (f_X7_shutting m' cz x) := by
  unfold f_X7_shutting
  rw [as_K' h, as_A' h]
  by_cases c5 : K = 5
  · subst c5
    rw [if_pos rfl, rn_st (B := 60) (AB := 4) (by omega) (by decide +kernel) (by decide +kernel), an_60]
    obtain ⟨e, s, hs, a⟩ := shut4 (n := n) (D := D + 1) (x := x) hK (by omega) (by omega) (as_beg (b := 60) (by omega) h)
    exact sm_mk (by rw [e]) (by omega) a
  · by_cases c4 : K = 4
    · subst c4
      rw [if_neg (by decide), if_pos rfl]
      exact sm_le (shut4 (n := n + 1) hK (by omega) (by omega) h) (by omega)
    · rw [if_neg c5, if_neg c4]
      have hB : f_X3_bodyOf (f_X3_ownerOf K 2) 2 = 12 := by
        rcases hK with rfl | rfl | rfl | rfl | rfl | rfl | rfl
        · decide +kernel
        · decide +kernel
        · decide +kernel
        · decide +kernel
        · exact absurd rfl c4
        · exact absurd rfl c5
        · decide +kernel
      exact sm_le (sh12 (n := n + 2) hB hK (by omega) (by omega) h) (by omega)
/-- the citizen's memory to play on -/
def k_pM (m : MemI) (i : Nat) : MemI := k_ui (k_ui (k_ui m (3, 0, 0) 2 (m (1, 0, i) 3)) (3, 0, 0) 3 (m (1, 0, i) 0)) (3, 0, 0) 4 (m (1, 0, i) 4)
theorem pf_eq (m : MemI) (i : Nat) (mv x : Int32) : f_X3_perform m 0 i mv x = f_rn 41 (k_pM m i) (m (1, 0, i) 3) mv x (nI 0) := by
  unfold f_X3_perform
  have e1 : ∀ q, (k_ui m (3, 0, 0) 2 (m (1, 0, i) 3)) (1, 0, i) q = m (1, 0, i) q := fun q => k_uk (by simp)
  have e2 : ∀ q v, (k_ui (k_ui m (3, 0, 0) 2 (m (1, 0, i) 3)) (3, 0, 0) 3 v) (1, 0, i) q = m (1, 0, i) q := fun q v => (k_uk (by simp)).trans (e1 q)
  rw [e1 0, e2 4 (m (1, 0, i) 0)]
  have e3 : (k_ui (k_ui (k_ui m (3, 0, 0) 2 (m (1, 0, i) 3)) (3, 0, 0) 3 (m (1, 0, i) 0)) (3, 0, 0) 4 (m (1, 0, i) 4)) (3, 0, 0) 2 = m (1, 0, i) 3 := by
    rw [k_uj (by decide), k_uj (by decide), k_uis]
  rw [e3, nI_0]
  unfold k_pM
  exact Prod.eta _
theorem pM_as {nC nB i : Nat} {mi mj : MemI} {cz : Int32} (h : k_CR 0 nC nB mi mj) (hi : i < nC) (hz : mi (3, 0, 0) 1 = 0 ∧ mj (7, 0, 0) 51 = 0) (hcz : cz = nI i) : k_as 0 (mi (1, 0, i) 3) cz (mi (1, 0, i) 4) cz.toNatClampNeg mi mj (k_pM mi i) mj ∧ k_K7 (mi (1, 0, i) 3) := by
  obtain ⟨a, b, c, d, e, f, p, r, z⟩ := h
  have h6 := a.1
  obtain ⟨⟨y1, y2, y3, y4, -⟩, ⟨-, y5, -⟩⟩ := e i hi
  have hC : cz.toNatClampNeg = i := by rw [hcz]; exact nI_clamp (by omega)
  refine ⟨⟨⟨?_, ?_, ?_⟩, ⟨by rw [hC]; exact y3.symm, by rw [hC]; exact y4.symm⟩, ⟨?_, ?_, fun j _ hj => absurd hj (Nat.not_lt_zero _)⟩, fun kk qq n1 n2 => ?_, fun kk qq n1 n2 => rfl⟩, ?_⟩
  · unfold k_pM; rw [k_uj (by decide), k_uj (by decide), k_uis]
  · unfold k_pM; rw [k_uj (by decide), k_uis, (d i (by omega)).1, hcz]
  · unfold k_pM; rw [k_uis]
  · unfold k_pM; rw [k_uj (by decide), k_uj (by decide), k_uj (by decide)]; exact hz.1
  · exact hz.2
  · unfold k_pM; rw [k_uk n1, k_uk n1, k_uk n1]
  · rw [y3]
    obtain ⟨m, m6, em⟩ := y5
    rw [em]
    unfold k_K7
    rcases (show m = 0 ∨ m = 1 ∨ m = 2 ∨ m = 3 ∨ m = 4 ∨ m = 5 ∨ m = 6 by omega) with rfl | rfl | rfl | rfl | rfl | rfl | rfl
    · exact Or.inl rfl
    · exact Or.inr (Or.inl rfl)
    · exact Or.inr (Or.inr (Or.inl rfl))
    · exact Or.inr (Or.inr (Or.inr (Or.inl rfl)))
    · exact Or.inr (Or.inr (Or.inr (Or.inr (Or.inl rfl))))
    · exact Or.inr (Or.inr (Or.inr (Or.inr (Or.inr (Or.inl rfl)))))
    · exact Or.inr (Or.inr (Or.inr (Or.inr (Or.inr (Or.inr rfl)))))
theorem Q_sm {nC nB r : Nat} {K N A : Int32} {C : Nat} {mi mj : MemI} {ml mlj : MemL} {X Y : Int32 × MemI} (h : k_R nC nB mi ml mj mlj) (hr : r ≤ 300) (s : k_sm r K N A C mi mj X Y) : k_Q nC nB X ml Y mlj := by
  obtain ⟨e, t, ht, a⟩ := s
  exact ⟨e, R_trace h a.2.2.2.1 a.2.2.2.2 a.2.2.1 (Nat.le_trans ht hr)⟩
theorem Q_eta {nC nB : Nat} {X Y : Int32 × MemI} {ml mlj : MemL} (h : k_Q nC nB X ml Y mlj) : k_Q nC nB (X.1, X.2) ml (Y.1, Y.2) mlj := ⟨h.1, h.2⟩
theorem mv_3 {mv : Int32} (h0 : ¬ mv < 0) (h3 : mv < 3) : mv = 0 ∨ mv = 1 ∨ mv = 2 := by
  obtain ⟨j, hj, rfl⟩ := nI_of h0
  have j3 : j < 3 := (nI_ltI hj (by decide)).mp h3
  rcases (show j = 0 ∨ j = 1 ∨ j = 2 by omega) with rfl | rfl | rfl
  · exact Or.inl rfl
  · exact Or.inr (Or.inl rfl)
  · exact Or.inr (Or.inr rfl)
theorem look41 {m m' mi mj : MemI} {x K cz A : Int32} (hK : k_K7 K) (h : k_as 0 K cz A cz.toNatClampNeg mi mj m m') : k_sm 20 K cz A cz.toNatClampNeg mi mj (f_rn 41 m K 0 x (nI 0)) (f_X7_looking m' cz x) :=
  sm_le (look (n := 37) (r := 0) (D := 0) hK (by decide) (by decide) h) (by decide)
theorem give41 {m m' mi mj : MemI} {x K cz A : Int32} (hK : k_K7 K) (h : k_as 0 K cz A cz.toNatClampNeg mi mj m m') : k_sm 20 K cz A cz.toNatClampNeg mi mj (f_rn 41 m K 1 x (nI 0)) (f_X7_giving m' cz x) :=
  sm_le (give (n := 35) (r := 0) (D := 0) hK (by decide) (by decide) h) (by decide)
theorem shut41 {m m' mi mj : MemI} {x K cz A : Int32} (hK : k_K7 K) (h : k_as 0 K cz A cz.toNatClampNeg mi mj m m') : k_sm 20 K cz A cz.toNatClampNeg mi mj (f_rn 41 m K 2 x (nI 0)) (f_X7_shutting m' cz x) :=
  sm_le (shut (n := 32) (r := 0) (D := 0) hK (by decide) (by decide) h) (by decide)
theorem q_act {nC nB : Nat} {mi mj : MemI} {ml mlj : MemL} (h0 : k_R nC nB mi ml mj mlj) (cz mv x : Int32) : k_Q nC nB (f_X6_act mi cz mv x) ml (f_X7_act mj cz mv x) mlj := by
  have h : k_R nC nB (f_X3_forget mi) ml (k_ui mj (7, 0, 0) 51 0) mlj := by
    unfold f_X3_forget
    exact R_trace (r := 0) h0 (fun kk qq n1 _ => k_uk n1) (fun kk qq n1 _ => k_ufr n1) ⟨k_uis, k_uis, fun i _ hi => absurd hi (Nat.not_lt_zero _)⟩ (by decide)
  have z1 : f_X3_forget mi (3, 0, 0) 1 = 0 := by unfold f_X3_forget; exact k_uis
  have z2 : k_ui mj (7, 0, 0) 51 0 (7, 0, 0) 51 = 0 := k_uis
  unfold f_X6_act f_X7_act
  generalize f_X3_forget mi = m at h z1 ⊢
  generalize k_ui mj (7, 0, 0) 51 0 = m' at h z2 ⊢
  by_cases w : vp_in cz nC
  · have hb := k_clamp w
    have h6 := h.1.1.1
    rw [cA_eq h.1 w, if_pos (show cz.toNatClampNeg < 6 by omega), if_neg (fun z => (isC_iff h.1 cz).mp z w)]
    by_cases n0 : mv < 0
    · rw [if_pos n0, if_pos n0]; exact Q_mk rfl h
    · rw [if_neg n0, if_neg n0]
      by_cases n3 : mv < 3
      · have n2 : mv ≤ 2 := by
          have := Int32.lt_iff_toInt_lt.mp n3
          have e3 : (3 : Int32).toInt = 3 := rfl
          have e2 : (2 : Int32).toInt = 2 := rfl
          rw [Int32.le_iff_toInt_le]
          omega
        rw [if_pos n3, if_pos n2]
        obtain ⟨a, hK⟩ := pM_as h.1 hb ⟨z1, z2⟩ (k_nat w)
        rw [pf_eq]
        rcases mv_3 n0 n3 with rfl | rfl | rfl
        · rw [if_pos rfl]
          exact Q_eta (Q_sm h (by decide) (look41 hK a))
        · rw [if_neg (show ¬ (1 : Int32) = 0 by decide), if_pos rfl]
          exact Q_eta (Q_sm h (by decide) (give41 hK a))
        · rw [if_neg (show ¬ (2 : Int32) = 0 by decide), if_neg (show ¬ (2 : Int32) = 1 by decide)]
          exact Q_eta (Q_sm h (by decide) (shut41 hK a))
      · have n2 : ¬ mv ≤ 2 := fun z => n3 (by
          have := Int32.le_iff_toInt_le.mp z
          have e3 : (3 : Int32).toInt = 3 := rfl
          have e2 : (2 : Int32).toInt = 2 := rfl
          rw [Int32.lt_iff_toInt_lt]
          omega)
        rw [if_neg n3, if_neg n2]; exact Q_mk rfl h
  · rw [cA_no h.1 w, if_neg (Nat.lt_irrefl 6), if_pos ((isC_iff h.1 cz).mpr w)]
    exact Q_mk rfl h
