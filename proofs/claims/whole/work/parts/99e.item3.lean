/-! the other items -/
theorem cA_m1 {m : MemI} {g : Nat} : f_X2_citizenAt m g (-1) = 6 := if_pos (by decide)
theorem bA_m1 {m : MemI} {g : Nat} : f_X2_beggarAt m g (-1) = 6 := if_pos (by decide)
theorem it_beg {nC nB N P : Nat} {s0 : Int32} {sg : Nat → Int32} {m m' : MemI} {mlj : MemL} (h : k_rx nC nB N P s0 sg m m') (w : vp_in s0 8) (hs : ∀ i, i < 160 → sg i = (mlj (9, 1, 0) (160 * s0.toNatClampNeg + i)).toInt32) (hB : nB < 6) (hL : P + 6 ≤ N) (hb : rx_ss N sg (P + 6) = 32) {W m1 : MemI} (hm1 : m1 = k_ui m (4, 0, 0) 2 (nI (P + 6))) (hW : W = k_ui m' (7, 0, 0) 29 (nI (P + 6 + 1))) :
    k_ir N (P + 1) nC s0 sg (f_X4_readBeggar m1)
     (if ((f_X7_rdn W mlj 1 0).1) = 0 then (0, (f_X7_rdn W mlj 1 0).2)
          else if ((f_X7_bl ((f_X7_rdn W mlj 1 0).2) mlj).1) = 0 then (0, (f_X7_bl ((f_X7_rdn W mlj 1 0).2) mlj).2)
            else if ((f_X7_rdn ((f_X7_bl ((f_X7_rdn W mlj 1 0).2) mlj).2) mlj 1 1).1) = 0 then (0, (f_X7_rdn ((f_X7_bl ((f_X7_rdn W mlj 1 0).2) mlj).2) mlj 1 1).2)
              else (1, (f_X7_addsBeggar ((f_X7_rdn ((f_X7_bl ((f_X7_rdn W mlj 1 0).2) mlj).2) mlj 1 1).2) (((f_X7_rdn W mlj 1 0).2) (8, 27, 0) 0) (((f_X7_rdn ((f_X7_bl ((f_X7_rdn W mlj 1 0).2) mlj).2) mlj 1 1).2) (8, 27, 0) 1)).2)) := by
  have one : ¬ (1 : Int32) = 0 := by decide
  subst hm1 hW
  unfold f_X4_readBeggar
  rcases rx_first (ww := 1) (xi := 0) (lo := 1) (hi := 9) h w hs hL hb (x := 0) (by decide) rfl (fun P m m' h => (so_w1 h).1) with ⟨a, b, c⟩ | ⟨v0, P0, ⟨hv0, hp0⟩, a0, o0, b0, c0, r0⟩
  · rw [if_pos a, if_pos b]; exact ir_no c
  rw [if_neg (ne_m1 a0 hv0), if_neg (fun z => one (b0.symm.trans z)), a0, c0]
  generalize f_X4_readNumber (k_ui m (4, 0, 0) 2 (nI (P + 6))) 1 9 = A0 at r0 ⊢
  generalize f_X7_rdn (k_ui m' (7, 0, 0) 29 (nI (P + 6 + 1))) mlj 1 0 = B0 at r0 ⊢
  rcases rx_nn (ww := 1) (xi := 1) (lo := 0) (hi := 4) r0 w hs (x := 1) (by decide) rfl (fun P m m' h => (so_w1 h).2) with ⟨a, ⟨b, c⟩ | ⟨b, b2, c⟩⟩ | ⟨v1, P1, ⟨hv1, hp1⟩, a1, o1, b1, d1, c1, r1⟩
  · rw [if_pos a, if_pos b]; exact ir_no c
  · rw [if_pos a, if_neg (fun z => one (b.symm.trans z)), if_pos b2]; exact ir_no c
  rw [if_neg (ne_m1 a1 hv1), if_neg (fun z => one (b1.symm.trans z)), if_neg (fun z => one (d1.symm.trans z)), a1, c1]
  generalize f_X4_readNumber A0.2 0 4 = A1 at r1 ⊢
  generalize f_X7_rdn (f_X7_bl B0.2 mlj).2 mlj 1 1 = B1 at r1 ⊢
  have q0 := (iso2 (v := v0) (lo := 1) (hi := 9) hv0 (by decide) (by decide)).mp o0
  have q1 := ((iso2 (v := v1) (lo := 0) (hi := 4) hv1 (by decide) (by decide)).mp o1).2
  have ad := (addB_CR r1.1 hB ⟨v0, q0.1, q0.2, rfl⟩ ⟨v1, q1, rfl⟩).2
  have ac := adB_cl (k := nI v0) (r := nI v1) r1.1.2.1.2.1 hB
  have fr := aB_fr (k := nI v0) (a := nI v1) r1.1.2.1.2.2.2 (by omega)
  rw [if_neg (show ¬ (f_X2_addBeggar A1.2 1 (nI v0) (nI v1)).1 = -1 by rw [ac]; exact k_nIne (by omega))]
  exact ir_go (by omega) (rx_city r1 ad (fun kk qq hk => fg_X2_addBeggar hk) fr.1 fr.2)
theorem it_post {nC nB N P : Nat} {s0 : Int32} {sg : Nat → Int32} {m m' : MemI} {mlj : MemL} (h : k_rx nC nB N P s0 sg m m') (w : vp_in s0 8) (hs : ∀ i, i < 160 → sg i = (mlj (9, 1, 0) (160 * s0.toNatClampNeg + i)).toInt32) (hL : P + 4 ≤ N) (hb : rx_ss N sg (P + 4) = 32) {W m1 : MemI} (hm1 : m1 = k_ui m (4, 0, 0) 2 (nI (P + 4))) (hW : W = k_ui m' (7, 0, 0) 29 (nI (P + 4 + 1))) :
    k_ir N (P + 1) nC s0 sg (f_X4_readPost m1) (if ((f_X7_rdn W mlj 5 0).1) = 0 then (0, (f_X7_rdn W mlj 5 0).2)
                else (1, k_ui ((f_X7_rdn W mlj 5 0).2) (8, 17, 0) ((((f_X7_rdn W mlj 5 0).2) (8, 27, 0) 0).toNatClampNeg) 1)) := by
  have one : ¬ (1 : Int32) = 0 := by decide
  subst hm1 hW
  have hB := h.1.1.2
  unfold f_X4_readPost
  rw [show k_ui m (4, 0, 0) 2 (nI (P + 4)) (2, 1, 0) 3 = nI nB from (k_uk (by decide)).trans h.1.2.1.2.1]
  rcases rx_first (ww := 5) (xi := 0) (lo := 0) (hi := nI nB - 1) h w hs hL hb (x := 0) (by decide) rfl (fun P m m' h => so_w5 h) with ⟨a, b, c⟩ | ⟨v0, P0, ⟨hv0, hp0⟩, a0, o0, b0, c0, r0⟩
  · rw [a, bA_m1, if_neg (Nat.lt_irrefl 6), if_pos b]; exact ir_no c
  rw [a0, if_neg (fun z => one (b0.symm.trans z)), c0]
  generalize f_X4_readNumber (k_ui m (4, 0, 0) 2 (nI (P + 4))) 0 (nI nB - 1) = A0 at r0 ⊢
  generalize f_X7_rdn (k_ui m' (7, 0, 0) 29 (nI (P + 4 + 1))) mlj 5 0 = B0 at r0 ⊢
  have q0 := (iso3 hv0 hB).mp o0
  rw [bA_eq r0.1 (vp_in_nI q0 (by omega)), nI_clamp (by omega), if_pos (show v0 < 6 by omega)]
  exact ir_go (by omega) (rx_city r0 (CR_b2 r0.1 q0 ⟨1, by decide, rfl⟩) (fun kk qq hk => k_uk (fun e => by rw [e] at hk; exact absurd hk (by simp [k_gr]))) (fun n j hn => k_uk (k_keyne (by omega))) (fun q _ => k_uk (by decide)))
theorem it_wear {nC nB N P : Nat} {s0 : Int32} {sg : Nat → Int32} {m m' : MemI} {mlj : MemL} (h : k_rx nC nB N P s0 sg m m') (w : vp_in s0 8) (hs : ∀ i, i < 160 → sg i = (mlj (9, 1, 0) (160 * s0.toNatClampNeg + i)).toInt32) (hL : P + 4 ≤ N) (hb : rx_ss N sg (P + 4) = 32) {W m1 : MemI} (hm1 : m1 = k_ui m (4, 0, 0) 2 (nI (P + 4))) (hW : W = k_ui m' (7, 0, 0) 29 (nI (P + 4 + 1))) :
    k_ir N (P + 1) nC s0 sg (f_X4_readOfCitizen m1 2) (if ((f_X7_rdn W mlj 2 0).1) = 0 then (0, (f_X7_rdn W mlj 2 0).2)
            else if ((f_X7_bl ((f_X7_rdn W mlj 2 0).2) mlj).1) = 0 then (0, (f_X7_bl ((f_X7_rdn W mlj 2 0).2) mlj).2)
              else if ((f_X7_rdn ((f_X7_bl ((f_X7_rdn W mlj 2 0).2) mlj).2) mlj 2 1).1) = 0 then (0, (f_X7_rdn ((f_X7_bl ((f_X7_rdn W mlj 2 0).2) mlj).2) mlj 2 1).2)
                else (1, k_ui ((f_X7_rdn ((f_X7_bl ((f_X7_rdn W mlj 2 0).2) mlj).2) mlj 2 1).2) (8, 10, 0) ((((f_X7_rdn W mlj 2 0).2) (8, 27, 0) 0).toNatClampNeg) (((f_X7_rdn ((f_X7_bl ((f_X7_rdn W mlj 2 0).2) mlj).2) mlj 2 1).2) (8, 27, 0) 1))) := by
  have one : ¬ (1 : Int32) = 0 := by decide
  subst hm1 hW
  have hC := h.1.1.1
  unfold f_X4_readOfCitizen
  rw [show k_ui m (4, 0, 0) 2 (nI (P + 4)) (2, 1, 0) 2 = nI nC from (k_uk (by decide)).trans h.1.2.1.1]
  rcases rx_first (ww := 2) (xi := 0) (lo := 0) (hi := nI nC - 1) h w hs hL hb (x := 0) (by decide) rfl (fun P m m' h => (so_w2 h (Or.inl rfl)).1) with ⟨a, b, c⟩ | ⟨v0, P0, ⟨hv0, hp0⟩, a0, o0, b0, c0, r0⟩
  · rw [a, cA_m1, if_neg (Nat.lt_irrefl 6), if_pos b]; exact ir_no c
  rw [a0, if_neg (fun z => one (b0.symm.trans z)), c0]
  generalize f_X4_readNumber (k_ui m (4, 0, 0) 2 (nI (P + 4))) 0 (nI nC - 1) = A0 at r0 ⊢
  generalize f_X7_rdn (k_ui m' (7, 0, 0) 29 (nI (P + 4 + 1))) mlj 2 0 = B0 at r0 ⊢
  have q0 := (iso3 hv0 hC).mp o0
  rw [cA_eq r0.1 (vp_in_nI q0 (by omega)), nI_clamp (by omega), if_pos (show v0 < 6 by omega), if_pos rfl]
  rcases rx_nn (ww := 2) (xi := 1) (lo := 0) (hi := 99) r0 w hs (x := 1) (by decide) rfl (fun P m m' h => (so_w2 h (Or.inl rfl)).2) with ⟨a, ⟨b, c⟩ | ⟨b, b2, c⟩⟩ | ⟨v1, P1, ⟨hv1, hp1⟩, a1, o1, b1, d1, c1, r1⟩
  · rw [if_pos a, if_pos b]; exact ir_no c
  · rw [if_pos a, if_neg (fun z => one (b.symm.trans z)), if_pos b2]; exact ir_no c
  rw [if_neg (ne_m1 a1 hv1), if_neg (fun z => one (b1.symm.trans z)), if_neg (fun z => one (d1.symm.trans z)), a1, c1]
  generalize f_X4_readNumber A0.2 0 99 = A1 at r1 ⊢
  generalize f_X7_rdn (f_X7_bl B0.2 mlj).2 mlj 2 1 = B1 at r1 ⊢
  exact ir_go (by omega) (rx_city r1 (CR_c7 r1.1 q0 ⟨v1, hv1, rfl⟩) (fun kk qq hk => k_uk (fun e => by rw [e] at hk; exact absurd hk (by simp [k_gr]))) (fun n j hn => k_uk (k_keyne (by omega))) (fun q _ => k_uk (by decide)))
theorem it_hide {nC nB N P : Nat} {s0 ww vv : Int32} {sg : Nat → Int32} {m m' : MemI} {mlj : MemL} (h : k_rx nC nB N P s0 sg m m') (w : vp_in s0 8) (hs : ∀ i, i < 160 → sg i = (mlj (9, 1, 0) (160 * s0.toNatClampNeg + i)).toInt32) (hww : (ww = 3 ∧ vv = 1) ∨ (ww = 4 ∧ vv = 0)) (hL : P + 5 ≤ N) (hb : rx_ss N sg (P + 5) = 32) {W m1 : MemI} (hm1 : m1 = k_ui m (4, 0, 0) 2 (nI (P + 5))) (hW : W = k_ui m' (7, 0, 0) 29 (nI (P + 5 + 1))) :
    k_ir N (P + 1) nC s0 sg (f_X4_readOfCitizen m1 ww) (if ((f_X7_rdn W mlj ww 0).1) = 0 then (0, (f_X7_rdn W mlj ww 0).2)
              else (1, k_ui ((f_X7_rdn W mlj ww 0).2) (8, 12, 0) ((((f_X7_rdn W mlj ww 0).2) (8, 27, 0) 0).toNatClampNeg) vv)) := by
  have one : ¬ (1 : Int32) = 0 := by decide
  subst hm1 hW
  have hC := h.1.1.1
  unfold f_X4_readOfCitizen
  rw [show k_ui m (4, 0, 0) 2 (nI (P + 5)) (2, 1, 0) 2 = nI nC from (k_uk (by decide)).trans h.1.2.1.1]
  rcases rx_first (ww := ww) (xi := 0) (lo := 0) (hi := nI nC - 1) h w hs hL hb (x := 0) (by decide) rfl (fun P m m' h => (so_w2 h (Or.inr (hww.imp (fun z => z.1) (fun z => z.1)))).1) with ⟨a, b, c⟩ | ⟨v0, P0, ⟨hv0, hp0⟩, a0, o0, b0, c0, r0⟩
  · rw [a, cA_m1, if_neg (Nat.lt_irrefl 6), if_pos b]; exact ir_no c
  rw [a0, if_neg (fun z => one (b0.symm.trans z)), c0]
  generalize f_X4_readNumber (k_ui m (4, 0, 0) 2 (nI (P + 5))) 0 (nI nC - 1) = A0 at r0 ⊢
  generalize f_X7_rdn (k_ui m' (7, 0, 0) 29 (nI (P + 5 + 1))) mlj ww 0 = B0 at r0 ⊢
  have q0 := (iso3 hv0 hC).mp o0
  have R2 : ∀ v, k_bt 1 v → k_rx nC nB N P0 s0 sg (k_ui A0.2 (1, 1, v0) 2 v) (k_ui B0.2 (8, 12, 0) v0 v) := fun v hv => rx_city r0 (CR_c2 r0.1 q0 hv) (fun kk qq hk => k_uk (fun e => by rw [e] at hk; exact absurd hk (by simp [k_gr]))) (fun n j hn => k_uk (k_keyne (by omega))) (fun q _ => k_uk (by decide))
  rw [cA_eq r0.1 (vp_in_nI q0 (by omega)), nI_clamp (by omega), if_pos (show v0 < 6 by omega)]
  rcases hww with ⟨rfl, rfl⟩ | ⟨rfl, rfl⟩
  · rw [if_neg (by decide), if_pos rfl]; exact ir_go (by omega) (R2 1 ⟨1, by decide, rfl⟩)
  · rw [if_neg (by decide), if_neg (by decide)]; exact ir_go (by omega) (R2 0 ⟨0, by decide, rfl⟩)
