/-! an item, whole -/
def k_ir (N Q nC0 : Nat) (s0 : Int32) (sg : Nat → Int32) (X Y : Int32 × MemI) : Prop := (X.1 = 0 ∧ Y.1 = 0 ∧ X.2 (4, 0, 0) 3 = Y.2 (7, 0, 0) 32) ∨ (¬ X.1 = 0 ∧ Y.1 = 1 ∧ ∃ nC nB P, (Q ≤ P ∧ nC0 ≤ nC) ∧ k_rx nC nB N P s0 sg X.2 Y.2)
theorem ir_no {N Q nC0 : Nat} {s0 : Int32} {sg : Nat → Int32} {m m' : MemI} (e : m (4, 0, 0) 3 = m' (7, 0, 0) 32) : k_ir N Q nC0 s0 sg (0, m) (0, m') := Or.inl ⟨rfl, rfl, e⟩
theorem ir_go {N nC nB P Q nC0 : Nat} {s0 : Int32} {sg : Nat → Int32} {m m' : MemI} (hQ : Q ≤ P ∧ nC0 ≤ nC) (h : k_rx nC nB N P s0 sg m m') : k_ir N Q nC0 s0 sg (1, m) (1, m') := Or.inr ⟨show ¬ (1 : Int32) = 0 by decide, rfl, nC, nB, P, hQ, h⟩
theorem ne_m1 {x : Int32} {v : Nat} (e : x = nI v) (hv : v ≤ 99) : ¬ x = -1 := by rw [e]; exact k_nIne (by omega)
/-- the city told on, the reader where it was -/
theorem rx_city {nC nB nC2 nB2 N P : Nat} {s0 : Int32} {sg : Nat → Int32} {m m' m2 m2' : MemI} (h : k_rx nC nB N P s0 sg m m') (c : k_CR 1 nC2 nB2 m2 m2') (c1 : ∀ kk qq, k_gr 1 kk = false → m2 kk qq = m kk qq) (d1 : ∀ n j, 18 ≤ n → m2' (8, n, 0) j = m' (8, n, 0) j) (d2 : ∀ q, 4 ≤ q → m2' (7, 0, 0) q = m' (7, 0, 0) q) : k_rx nC2 nB2 N P s0 sg m2 m2' := by
  obtain ⟨R, ⟨a1, a2, a3⟩, ⟨b1, b2, b3⟩, t, p, n⟩ := h
  exact ⟨c, ⟨(c1 _ _ rfl).trans a1, (c1 _ _ rfl).trans a2, fun i hi => (c1 _ _ rfl).trans (a3 i hi)⟩, ⟨(d2 _ (by decide)).trans b1, (d2 _ (by decide)).trans b2, (d2 _ (by decide)).trans b3⟩, tb_ext t (fun n j x _ => d1 n j (by omega)), p, n.1, (c1 _ _ rfl).trans n.2.1, (d2 _ (by decide)).trans n.2.2⟩
theorem aC_fr {m : MemI} {n : Nat} {k a ms h : Int32} (e : m (7, 0, 0) 0 = nI n) (hn : n < 1000) : (∀ n j, 18 ≤ n → (f_X7_addsCitizen m k a ms h).2 (8, n, 0) j = m (8, n, 0) j) ∧ ∀ q, 4 ≤ q → (f_X7_addsCitizen m k a ms h).2 (7, 0, 0) q = m (7, 0, 0) q := by
  rw [adC_eq e hn]
  dsimp only
  refine ⟨fun n j hj => ?_, fun q hq => ?_⟩
  · rw [k_uk (by simp), k_uk (k_keyne (by omega)), k_uk (k_keyne (by omega)), k_uk (k_keyne (by omega)), k_uk (k_keyne (by omega)), k_uk (k_keyne (by omega)), k_uk (k_keyne (by omega)), k_uk (k_keyne (by omega))]
  · rw [k_uj (by omega), k_uk (by decide), k_uk (by decide), k_uk (by decide), k_uk (by decide), k_uk (by decide), k_uk (by decide), k_uk (by decide)]
theorem aB_fr {m : MemI} {n : Nat} {k a : Int32} (e : m (7, 0, 0) 1 = nI n) (hn : n < 1000) : (∀ n j, 18 ≤ n → (f_X7_addsBeggar m k a).2 (8, n, 0) j = m (8, n, 0) j) ∧ ∀ q, 4 ≤ q → (f_X7_addsBeggar m k a).2 (7, 0, 0) q = m (7, 0, 0) q := by
  rw [adB_eq e hn]
  dsimp only
  refine ⟨fun n j hj => ?_, fun q hq => ?_⟩
  · rw [k_uk (by simp), k_uk (k_keyne (by omega)), k_uk (k_keyne (by omega)), k_uk (k_keyne (by omega)), k_uk (k_keyne (by omega)), k_uk (k_keyne (by omega))]
  · rw [k_uj (by omega), k_uk (by decide), k_uk (by decide), k_uk (by decide), k_uk (by decide), k_uk (by decide)]
theorem it_cit {nC nB N P : Nat} {s0 : Int32} {sg : Nat → Int32} {m m' : MemI} {mlj : MemL} (h : k_rx nC nB N P s0 sg m m') (w : vp_in s0 8) (hs : ∀ i, i < 160 → sg i = (mlj (9, 1, 0) (160 * s0.toNatClampNeg + i)).toInt32) (hC : nC < 6) (hL : P + 7 ≤ N) (hb : rx_ss N sg (P + 7) = 32) {W m1 : MemI} (hm1 : m1 = k_ui m (4, 0, 0) 2 (nI (P + 7))) (hW : W = k_ui m' (7, 0, 0) 29 (nI (P + 7 + 1))) :
    k_ir N (P + 1) nC s0 sg (f_X4_readCitizen m1)
     (if ((f_X7_rdn W mlj 0 0).1) = 0 then (0, (f_X7_rdn W mlj 0 0).2)
        else if ((f_X7_bl ((f_X7_rdn W mlj 0 0).2) mlj).1) = 0 then (0, (f_X7_bl ((f_X7_rdn W mlj 0 0).2) mlj).2)
          else if ((f_X7_rdn ((f_X7_bl ((f_X7_rdn W mlj 0 0).2) mlj).2) mlj 0 1).1) = 0 then (0, (f_X7_rdn ((f_X7_bl ((f_X7_rdn W mlj 0 0).2) mlj).2) mlj 0 1).2)
            else if ((f_X7_bl ((f_X7_rdn ((f_X7_bl ((f_X7_rdn W mlj 0 0).2) mlj).2) mlj 0 1).2) mlj).1) = 0 then (0, (f_X7_bl ((f_X7_rdn ((f_X7_bl ((f_X7_rdn W mlj 0 0).2) mlj).2) mlj 0 1).2) mlj).2)
              else if ((f_X7_rdn ((f_X7_bl ((f_X7_rdn ((f_X7_bl ((f_X7_rdn W mlj 0 0).2) mlj).2) mlj 0 1).2) mlj).2) mlj 0 2).1) = 0 then (0, (f_X7_rdn ((f_X7_bl ((f_X7_rdn ((f_X7_bl ((f_X7_rdn W mlj 0 0).2) mlj).2) mlj 0 1).2) mlj).2) mlj 0 2).2)
                else if ((f_X7_bl ((f_X7_rdn ((f_X7_bl ((f_X7_rdn ((f_X7_bl ((f_X7_rdn W mlj 0 0).2) mlj).2) mlj 0 1).2) mlj).2) mlj 0 2).2) mlj).1) = 0 then (0, (f_X7_bl ((f_X7_rdn ((f_X7_bl ((f_X7_rdn ((f_X7_bl ((f_X7_rdn W mlj 0 0).2) mlj).2) mlj 0 1).2) mlj).2) mlj 0 2).2) mlj).2)
                  else if ((f_X7_rdn ((f_X7_bl ((f_X7_rdn ((f_X7_bl ((f_X7_rdn ((f_X7_bl ((f_X7_rdn W mlj 0 0).2) mlj).2) mlj 0 1).2) mlj).2) mlj 0 2).2) mlj).2) mlj 0 3).1) = 0 then (0, (f_X7_rdn ((f_X7_bl ((f_X7_rdn ((f_X7_bl ((f_X7_rdn ((f_X7_bl ((f_X7_rdn W mlj 0 0).2) mlj).2) mlj 0 1).2) mlj).2) mlj 0 2).2) mlj).2) mlj 0 3).2)
                    else (1, (f_X7_addsCitizen ((f_X7_rdn ((f_X7_bl ((f_X7_rdn ((f_X7_bl ((f_X7_rdn ((f_X7_bl ((f_X7_rdn W mlj 0 0).2) mlj).2) mlj 0 1).2) mlj).2) mlj 0 2).2) mlj).2) mlj 0 3).2) (((f_X7_rdn W mlj 0 0).2) (8, 27, 0) 0) (((f_X7_rdn ((f_X7_bl ((f_X7_rdn W mlj 0 0).2) mlj).2) mlj 0 1).2) (8, 27, 0) 1) (((f_X7_rdn ((f_X7_bl ((f_X7_rdn ((f_X7_bl ((f_X7_rdn W mlj 0 0).2) mlj).2) mlj 0 1).2) mlj).2) mlj 0 2).2) (8, 27, 0) 2) (((f_X7_rdn ((f_X7_bl ((f_X7_rdn ((f_X7_bl ((f_X7_rdn ((f_X7_bl ((f_X7_rdn W mlj 0 0).2) mlj).2) mlj 0 1).2) mlj).2) mlj 0 2).2) mlj).2) mlj 0 3).2) (8, 27, 0) 3)).2)) := by
  have one : ¬ (1 : Int32) = 0 := by decide
  subst hm1 hW
  unfold f_X4_readCitizen
  rcases rx_first (ww := 0) (xi := 0) (lo := 0) (hi := 6) h w hs hL hb (x := 0) (by decide) rfl (fun P m m' h => so_w0 (hi := 6) h (Or.inl ⟨rfl, rfl⟩)) with ⟨a, b, c⟩ | ⟨v0, P0, ⟨hv0, hp0⟩, a0, o0, b0, c0, r0⟩
  · rw [if_pos a, if_pos b]; exact ir_no c
  rw [if_neg (ne_m1 a0 hv0), if_neg (fun z => one (b0.symm.trans z)), a0, c0]
  generalize f_X4_readNumber (k_ui m (4, 0, 0) 2 (nI (P + 7))) 0 6 = A0 at r0 ⊢
  generalize f_X7_rdn (k_ui m' (7, 0, 0) 29 (nI (P + 7 + 1))) mlj 0 0 = B0 at r0 ⊢
  rcases rx_nn (ww := 0) (xi := 1) (lo := 0) (hi := 9) r0 w hs (x := 1) (by decide) rfl (fun P m m' h => so_w0 (hi := 9) h (Or.inr (Or.inl ⟨rfl, rfl⟩))) with ⟨a, ⟨b, c⟩ | ⟨b, b2, c⟩⟩ | ⟨v1, P1, ⟨hv1, hp1⟩, a1, o1, b1, d1, c1, r1⟩
  · rw [if_pos a, if_pos b]; exact ir_no c
  · rw [if_pos a, if_neg (fun z => one (b.symm.trans z)), if_pos b2]; exact ir_no c
  rw [if_neg (ne_m1 a1 hv1), if_neg (fun z => one (b1.symm.trans z)), if_neg (fun z => one (d1.symm.trans z)), a1, c1]
  generalize f_X4_readNumber A0.2 0 9 = A1 at r1 ⊢
  generalize f_X7_rdn (f_X7_bl B0.2 mlj).2 mlj 0 1 = B1 at r1 ⊢
  rcases rx_nn (ww := 0) (xi := 2) (lo := 0) (hi := 99) r1 w hs (x := 2) (by decide) rfl (fun P m m' h => so_w0 (hi := 99) h (Or.inr (Or.inr (Or.inl ⟨rfl, rfl⟩)))) with ⟨a, ⟨b, c⟩ | ⟨b, b2, c⟩⟩ | ⟨v2, P2, ⟨hv2, hp2⟩, a2, o2, b2, d2, c2, r2⟩
  · rw [if_pos a, if_pos b]; exact ir_no c
  · rw [if_pos a, if_neg (fun z => one (b.symm.trans z)), if_pos b2]; exact ir_no c
  rw [if_neg (ne_m1 a2 hv2), if_neg (fun z => one (b2.symm.trans z)), if_neg (fun z => one (d2.symm.trans z)), a2, c2]
  generalize f_X4_readNumber A1.2 0 99 = A2 at r2 ⊢
  generalize f_X7_rdn (f_X7_bl B1.2 mlj).2 mlj 0 2 = B2 at r2 ⊢
  rcases rx_nn (ww := 0) (xi := 3) (lo := 0) (hi := 20) r2 w hs (x := 3) (by decide) rfl (fun P m m' h => so_w0 (hi := 20) h (Or.inr (Or.inr (Or.inr ⟨rfl, rfl⟩)))) with ⟨a, ⟨b, c⟩ | ⟨b, b2, c⟩⟩ | ⟨v3, P3, ⟨hv3, hp3⟩, a3, o3, b3, d3, c3, r3⟩
  · rw [if_pos a, if_pos b]; exact ir_no c
  · rw [if_pos a, if_neg (fun z => one (b.symm.trans z)), if_pos b2]; exact ir_no c
  rw [if_neg (ne_m1 a3 hv3), if_neg (fun z => one (b3.symm.trans z)), if_neg (fun z => one (d3.symm.trans z)), a3, c3]
  generalize f_X4_readNumber A2.2 0 20 = A3 at r3 ⊢
  generalize f_X7_rdn (f_X7_bl B2.2 mlj).2 mlj 0 3 = B3 at r3 ⊢
  have q0 := ((iso2 (v := v0) (lo := 0) (hi := 6) hv0 (by decide) (by decide)).mp o0).2
  have q1 := ((iso2 (v := v1) (lo := 0) (hi := 9) hv1 (by decide) (by decide)).mp o1).2
  have q2 := ((iso2 (v := v2) (lo := 0) (hi := 99) hv2 (by decide) (by decide)).mp o2).2
  have q3 := ((iso2 (v := v3) (lo := 0) (hi := 20) hv3 (by decide) (by decide)).mp o3).2
  have ad := (addC_CR r3.1 hC ⟨v0, q0, rfl⟩ ⟨v1, q1, rfl⟩ ⟨v2, q2, rfl⟩ ⟨v3, q3, rfl⟩).2
  have ac := adC_cl (k := nI v0) (a := nI v1) (ms := nI v2) (h := nI v3) r3.1.2.1.1 hC
  have fr := aC_fr (k := nI v0) (a := nI v1) (ms := nI v2) (h := nI v3) r3.1.2.1.2.2.1 (by omega)
  rw [if_neg (show ¬ (f_X2_addCitizen A3.2 1 (nI v0) (nI v1) (nI v2) (nI v3)).1 = -1 by rw [ac]; exact k_nIne (by omega))]
  exact ir_go (by omega) (rx_city r3 ad (fun kk qq hk => fg_X2_addCitizen hk) fr.1 fr.2)
