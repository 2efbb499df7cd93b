/-! any item -/
theorem ir_w {N Q nC0 : Nat} {s0 : Int32} {sg : Nat → Int32} {X Y : Int32 × MemI} (h : k_ir N Q nC0 s0 sg X Y) : k_ir N Q nC0 s0 sg (if X.1 = 0 then (0, X.2) else (1, X.2)) Y := by
  rcases h with ⟨a, b, c⟩ | ⟨a, b, c⟩
  · rw [if_pos a]; exact Or.inl ⟨rfl, b, c⟩
  · rw [if_neg a]; exact Or.inr ⟨show ¬ (1 : Int32) = 0 by decide, b, c⟩
theorem ir_e {N Q nC0 : Nat} {s0 : Int32} {sg : Nat → Int32} {X Y : Int32 × MemI} (h : k_ir N Q nC0 s0 sg X Y) : k_ir N Q nC0 s0 sg (X.1, X.2) Y := h
theorem hR_y {m : MemI} {n : Nat} {x : Int32} (hn : n < 6) : f_X4_hasRoom m (nI n) x = (1, m) := if_pos (nI_lt (b := 6) hn (by decide))
theorem hR_n {m : MemI} {x : Int32} : f_X4_hasRoom m (nI 6) x = (0, k_ui m (4, 0, 0) 3 x) := by
  unfold f_X4_hasRoom
  rw [if_neg (show ¬ nI 6 < 6 by decide)]
  rfl
theorem ri_eq {m m1 : MemI} {x : Int32} (e : f_X4_readWord m = (x, m1)) : f_X4_readItem m = (if x = 0 then if ((f_X4_hasRoom m1 (m1 (2, 1, 0) 2) (m (4, 0, 0) 2)).1) = 0 then (0, (f_X4_hasRoom m1 (m1 (2, 1, 0) 2) (m (4, 0, 0) 2)).2)
    else if ((f_X4_readCitizen ((f_X4_hasRoom m1 (m1 (2, 1, 0) 2) (m (4, 0, 0) 2)).2)).1) = 0 then (0, (f_X4_readCitizen ((f_X4_hasRoom m1 (m1 (2, 1, 0) 2) (m (4, 0, 0) 2)).2)).2)
      else (1, (f_X4_readCitizen ((f_X4_hasRoom m1 (m1 (2, 1, 0) 2) (m (4, 0, 0) 2)).2)).2)
  else if x = 1 then if ((f_X4_hasRoom m1 (m1 (2, 1, 0) 3) (m (4, 0, 0) 2)).1) = 0 then (0, (f_X4_hasRoom m1 (m1 (2, 1, 0) 3) (m (4, 0, 0) 2)).2)
      else if ((f_X4_readBeggar ((f_X4_hasRoom m1 (m1 (2, 1, 0) 3) (m (4, 0, 0) 2)).2)).1) = 0 then (0, (f_X4_readBeggar ((f_X4_hasRoom m1 (m1 (2, 1, 0) 3) (m (4, 0, 0) 2)).2)).2)
        else (1, (f_X4_readBeggar ((f_X4_hasRoom m1 (m1 (2, 1, 0) 3) (m (4, 0, 0) 2)).2)).2)
    else if x = 5 then ((f_X4_readPost m1).1, (f_X4_readPost m1).2)
      else if x = (-1) then (0, m1)
        else if ((f_X4_readOfCitizen m1 x).1) = 0 then (0, (f_X4_readOfCitizen m1 x).2)
          else (1, (f_X4_readOfCitizen m1 x).2)) := by
  unfold f_X4_readItem
  rw [e]
theorem it_eq {mi W : MemI} {ml : MemL} {x : Int32} (e : f_X7_word mi ml = (x, W)) : f_X7_item mi ml = (if (f_X7_full mi ml) = 0 then if x = (-1) then (0, W)
    else if x = 0 then if ((f_X7_rdn W ml 0 0).1) = 0 then (0, (f_X7_rdn W ml 0 0).2)
        else if ((f_X7_bl ((f_X7_rdn W ml 0 0).2) ml).1) = 0 then (0, (f_X7_bl ((f_X7_rdn W ml 0 0).2) ml).2)
          else if ((f_X7_rdn ((f_X7_bl ((f_X7_rdn W ml 0 0).2) ml).2) ml 0 1).1) = 0 then (0, (f_X7_rdn ((f_X7_bl ((f_X7_rdn W ml 0 0).2) ml).2) ml 0 1).2)
            else if ((f_X7_bl ((f_X7_rdn ((f_X7_bl ((f_X7_rdn W ml 0 0).2) ml).2) ml 0 1).2) ml).1) = 0 then (0, (f_X7_bl ((f_X7_rdn ((f_X7_bl ((f_X7_rdn W ml 0 0).2) ml).2) ml 0 1).2) ml).2)
              else if ((f_X7_rdn ((f_X7_bl ((f_X7_rdn ((f_X7_bl ((f_X7_rdn W ml 0 0).2) ml).2) ml 0 1).2) ml).2) ml 0 2).1) = 0 then (0, (f_X7_rdn ((f_X7_bl ((f_X7_rdn ((f_X7_bl ((f_X7_rdn W ml 0 0).2) ml).2) ml 0 1).2) ml).2) ml 0 2).2)
                else if ((f_X7_bl ((f_X7_rdn ((f_X7_bl ((f_X7_rdn ((f_X7_bl ((f_X7_rdn W ml 0 0).2) ml).2) ml 0 1).2) ml).2) ml 0 2).2) ml).1) = 0 then (0, (f_X7_bl ((f_X7_rdn ((f_X7_bl ((f_X7_rdn ((f_X7_bl ((f_X7_rdn W ml 0 0).2) ml).2) ml 0 1).2) ml).2) ml 0 2).2) ml).2)
                  else if ((f_X7_rdn ((f_X7_bl ((f_X7_rdn ((f_X7_bl ((f_X7_rdn ((f_X7_bl ((f_X7_rdn W ml 0 0).2) ml).2) ml 0 1).2) ml).2) ml 0 2).2) ml).2) ml 0 3).1) = 0 then (0, (f_X7_rdn ((f_X7_bl ((f_X7_rdn ((f_X7_bl ((f_X7_rdn ((f_X7_bl ((f_X7_rdn W ml 0 0).2) ml).2) ml 0 1).2) ml).2) ml 0 2).2) ml).2) ml 0 3).2)
                    else (1, (f_X7_addsCitizen ((f_X7_rdn ((f_X7_bl ((f_X7_rdn ((f_X7_bl ((f_X7_rdn ((f_X7_bl ((f_X7_rdn W ml 0 0).2) ml).2) ml 0 1).2) ml).2) ml 0 2).2) ml).2) ml 0 3).2) (((f_X7_rdn W ml 0 0).2) (8, 27, 0) 0) (((f_X7_rdn ((f_X7_bl ((f_X7_rdn W ml 0 0).2) ml).2) ml 0 1).2) (8, 27, 0) 1) (((f_X7_rdn ((f_X7_bl ((f_X7_rdn ((f_X7_bl ((f_X7_rdn W ml 0 0).2) ml).2) ml 0 1).2) ml).2) ml 0 2).2) (8, 27, 0) 2) (((f_X7_rdn ((f_X7_bl ((f_X7_rdn ((f_X7_bl ((f_X7_rdn ((f_X7_bl ((f_X7_rdn W ml 0 0).2) ml).2) ml 0 1).2) ml).2) ml 0 2).2) ml).2) ml 0 3).2) (8, 27, 0) 3)).2)
      else if x = 1 then if ((f_X7_rdn W ml 1 0).1) = 0 then (0, (f_X7_rdn W ml 1 0).2)
          else if ((f_X7_bl ((f_X7_rdn W ml 1 0).2) ml).1) = 0 then (0, (f_X7_bl ((f_X7_rdn W ml 1 0).2) ml).2)
            else if ((f_X7_rdn ((f_X7_bl ((f_X7_rdn W ml 1 0).2) ml).2) ml 1 1).1) = 0 then (0, (f_X7_rdn ((f_X7_bl ((f_X7_rdn W ml 1 0).2) ml).2) ml 1 1).2)
              else (1, (f_X7_addsBeggar ((f_X7_rdn ((f_X7_bl ((f_X7_rdn W ml 1 0).2) ml).2) ml 1 1).2) (((f_X7_rdn W ml 1 0).2) (8, 27, 0) 0) (((f_X7_rdn ((f_X7_bl ((f_X7_rdn W ml 1 0).2) ml).2) ml 1 1).2) (8, 27, 0) 1)).2)
        else if x = 2 then if ((f_X7_rdn W ml 2 0).1) = 0 then (0, (f_X7_rdn W ml 2 0).2)
            else if ((f_X7_bl ((f_X7_rdn W ml 2 0).2) ml).1) = 0 then (0, (f_X7_bl ((f_X7_rdn W ml 2 0).2) ml).2)
              else if ((f_X7_rdn ((f_X7_bl ((f_X7_rdn W ml 2 0).2) ml).2) ml 2 1).1) = 0 then (0, (f_X7_rdn ((f_X7_bl ((f_X7_rdn W ml 2 0).2) ml).2) ml 2 1).2)
                else (1, k_ui ((f_X7_rdn ((f_X7_bl ((f_X7_rdn W ml 2 0).2) ml).2) ml 2 1).2) (8, 10, 0) ((((f_X7_rdn W ml 2 0).2) (8, 27, 0) 0).toNatClampNeg) (((f_X7_rdn ((f_X7_bl ((f_X7_rdn W ml 2 0).2) ml).2) ml 2 1).2) (8, 27, 0) 1))
          else if x = 3 then if ((f_X7_rdn W ml 3 0).1) = 0 then (0, (f_X7_rdn W ml 3 0).2)
              else (1, k_ui ((f_X7_rdn W ml 3 0).2) (8, 12, 0) ((((f_X7_rdn W ml 3 0).2) (8, 27, 0) 0).toNatClampNeg) 1)
            else if x = 4 then if ((f_X7_rdn W ml 4 0).1) = 0 then (0, (f_X7_rdn W ml 4 0).2)
                else (1, k_ui ((f_X7_rdn W ml 4 0).2) (8, 12, 0) ((((f_X7_rdn W ml 4 0).2) (8, 27, 0) 0).toNatClampNeg) 0)
              else if ((f_X7_rdn W ml 5 0).1) = 0 then (0, (f_X7_rdn W ml 5 0).2)
                else (1, k_ui ((f_X7_rdn W ml 5 0).2) (8, 17, 0) ((((f_X7_rdn W ml 5 0).2) (8, 27, 0) 0).toNatClampNeg) 1)
  else (0, (f_X7_wrong mi (mi (7, 0, 0) 29)).2)) := by
  unfold f_X7_item
  rw [e]
theorem rx_item {nC nB N P : Nat} {s0 : Int32} {sg : Nat → Int32} {m m' : MemI} {mlj : MemL} (h : k_rx nC nB N P s0 sg m m') (v : vp_in s0 8) (hs : ∀ i, i < 160 → sg i = (mlj (9, 1, 0) (160 * s0.toNatClampNeg + i)).toInt32) : k_ir N (P + 1) nC s0 sg (f_X4_readItem m) (f_X7_item m' mlj) := by
  have hC := h.1.1.1
  have hB := h.1.1.2
  have e4 : ∀ x, k_ui m (4, 0, 0) 2 x (2, 1, 0) 2 = nI nC := fun x => (k_uk (by decide)).trans h.1.2.1.1
  have e5 : ∀ x, k_ui m (4, 0, 0) 2 x (2, 1, 0) 3 = nI nB := fun x => (k_uk (by decide)).trans h.1.2.1.2.1
  rcases rx_which h v hs with ⟨Q, e1, e2, e3⟩ | ⟨w, hw, e1, hL, ef, eb⟩
  · rw [ri_eq e1, it_eq e2, if_pos e3, if_neg (by decide), if_neg (by decide), if_neg (by decide), if_pos rfl, if_pos rfl]
    (refine ir_no ?_; (try dsimp only); exact k_uis.trans k_uis.symm)
  · have wr : (f_X7_wrong m' (m' (7, 0, 0) 29)).2 (7, 0, 0) 32 = nI P := by
      unfold f_X7_wrong
      dsimp only
      exact k_uis.trans h.2.2.1.2.1
    rcases (show w = 0 ∨ w = 1 ∨ w = 2 ∨ w = 3 ∨ w = 4 ∨ w = 5 by omega) with rfl | rfl | rfl | rfl | rfl | rfl
    · rw [show k_len.getD 0 0 = 7 from rfl] at e1 hL eb
      rw [ri_eq e1, if_pos (show nI 0 = 0 from rfl), e4, h.2.1.2.1]
      by_cases c6 : nC = 6
      · rw [c6, hR_n, if_pos rfl]
        rcases eb with ⟨hb, e2⟩ | ⟨hb, e2⟩ <;> rw [it_eq e2, if_neg (fun z => ((ef.mp z).1) ⟨rfl, c6⟩)] <;> (refine ir_no ?_; (try dsimp only); exact k_uis.trans wr.symm)
      · have fu := ef.mpr ⟨fun z => c6 z.2, fun z => absurd z.1 (by decide)⟩
        rw [hR_y (show nC < 6 by omega), if_neg (show ¬ (1 : Int32) = 0 by decide)]
        refine ir_w ?_
        rcases eb with ⟨hb, e2⟩ | ⟨hb, e2⟩
        · rw [it_eq e2, if_pos fu, if_neg (show ¬ nI 0 = -1 by decide), if_pos (show nI 0 = 0 from rfl)]
          exact it_cit h v hs (by omega) hL hb rfl rfl
        · rw [it_eq e2, if_pos fu, if_pos rfl]
          unfold f_X4_readCitizen
          rw [rx_nofirst h hL hb, if_pos rfl]
          (refine ir_no ?_; (try dsimp only); exact k_uis.trans k_uis.symm)
    · rw [show k_len.getD 1 0 = 6 from rfl] at e1 hL eb
      rw [ri_eq e1, if_neg (show ¬ nI 1 = 0 by decide), if_pos (show nI 1 = 1 from rfl), e5, h.2.1.2.1]
      by_cases c6 : nB = 6
      · rw [c6, hR_n, if_pos rfl]
        rcases eb with ⟨hb, e2⟩ | ⟨hb, e2⟩ <;> rw [it_eq e2, if_neg (fun z => ((ef.mp z).2) ⟨rfl, c6⟩)] <;> (refine ir_no ?_; (try dsimp only); exact k_uis.trans wr.symm)
      · have fu := ef.mpr ⟨fun z => absurd z.1 (by decide), fun z => c6 z.2⟩
        rw [hR_y (show nB < 6 by omega), if_neg (show ¬ (1 : Int32) = 0 by decide)]
        refine ir_w ?_
        rcases eb with ⟨hb, e2⟩ | ⟨hb, e2⟩
        · rw [it_eq e2, if_pos fu, if_neg (show ¬ nI 1 = -1 by decide), if_neg (show ¬ nI 1 = 0 by decide), if_pos (show nI 1 = 1 from rfl)]
          exact it_beg h v hs (by omega) hL hb rfl rfl
        · rw [it_eq e2, if_pos fu, if_pos rfl]
          unfold f_X4_readBeggar
          rw [rx_nofirst h hL hb, if_pos rfl]
          (refine ir_no ?_; (try dsimp only); exact k_uis.trans k_uis.symm)
    · rw [show k_len.getD 2 0 = 4 from rfl] at e1 hL eb
      have fu := ef.mpr ⟨fun z => absurd z.1 (by decide), fun z => absurd z.1 (by decide)⟩
      rw [ri_eq e1, if_neg (show ¬ nI 2 = 0 by decide), if_neg (show ¬ nI 2 = 1 by decide), if_neg (show ¬ nI 2 = 5 by decide), if_neg (show ¬ nI 2 = -1 by decide)]
      refine ir_w ?_
      rcases eb with ⟨hb, e2⟩ | ⟨hb, e2⟩
      · rw [it_eq e2, if_pos fu, if_neg (show ¬ nI 2 = -1 by decide), if_neg (show ¬ nI 2 = 0 by decide), if_neg (show ¬ nI 2 = 1 by decide), if_pos (show nI 2 = 2 from rfl)]
        exact it_wear h v hs hL hb rfl rfl
      · rw [it_eq e2, if_pos fu, if_pos rfl]
        unfold f_X4_readOfCitizen
        rw [rx_nofirst h hL hb, cA_m1, if_neg (Nat.lt_irrefl 6)]
        (refine ir_no ?_; (try dsimp only); exact k_uis.trans k_uis.symm)
    · rw [show k_len.getD 3 0 = 5 from rfl] at e1 hL eb
      have fu := ef.mpr ⟨fun z => absurd z.1 (by decide), fun z => absurd z.1 (by decide)⟩
      rw [ri_eq e1, if_neg (show ¬ nI 3 = 0 by decide), if_neg (show ¬ nI 3 = 1 by decide), if_neg (show ¬ nI 3 = 5 by decide), if_neg (show ¬ nI 3 = -1 by decide)]
      refine ir_w ?_
      rcases eb with ⟨hb, e2⟩ | ⟨hb, e2⟩
      · rw [it_eq e2, if_pos fu, if_neg (show ¬ nI 3 = -1 by decide), if_neg (show ¬ nI 3 = 0 by decide), if_neg (show ¬ nI 3 = 1 by decide), if_neg (show ¬ nI 3 = 2 by decide), if_pos (show nI 3 = 3 from rfl)]
        exact it_hide (ww := 3) (vv := 1) h v hs (Or.inl ⟨rfl, rfl⟩) hL hb rfl rfl
      · rw [it_eq e2, if_pos fu, if_pos rfl]
        unfold f_X4_readOfCitizen
        rw [rx_nofirst h hL hb, cA_m1, if_neg (Nat.lt_irrefl 6)]
        (refine ir_no ?_; (try dsimp only); exact k_uis.trans k_uis.symm)
    · rw [show k_len.getD 4 0 = 5 from rfl] at e1 hL eb
      have fu := ef.mpr ⟨fun z => absurd z.1 (by decide), fun z => absurd z.1 (by decide)⟩
      rw [ri_eq e1, if_neg (show ¬ nI 4 = 0 by decide), if_neg (show ¬ nI 4 = 1 by decide), if_neg (show ¬ nI 4 = 5 by decide), if_neg (show ¬ nI 4 = -1 by decide)]
      refine ir_w ?_
      rcases eb with ⟨hb, e2⟩ | ⟨hb, e2⟩
      · rw [it_eq e2, if_pos fu, if_neg (show ¬ nI 4 = -1 by decide), if_neg (show ¬ nI 4 = 0 by decide), if_neg (show ¬ nI 4 = 1 by decide), if_neg (show ¬ nI 4 = 2 by decide), if_neg (show ¬ nI 4 = 3 by decide), if_pos (show nI 4 = 4 from rfl)]
        exact it_hide (ww := 4) (vv := 0) h v hs (Or.inr ⟨rfl, rfl⟩) hL hb rfl rfl
      · rw [it_eq e2, if_pos fu, if_pos rfl]
        unfold f_X4_readOfCitizen
        rw [rx_nofirst h hL hb, cA_m1, if_neg (Nat.lt_irrefl 6)]
        (refine ir_no ?_; (try dsimp only); exact k_uis.trans k_uis.symm)
    · rw [show k_len.getD 5 0 = 4 from rfl] at e1 hL eb
      have fu := ef.mpr ⟨fun z => absurd z.1 (by decide), fun z => absurd z.1 (by decide)⟩
      rw [ri_eq e1, if_neg (show ¬ nI 5 = 0 by decide), if_neg (show ¬ nI 5 = 1 by decide), if_pos (show nI 5 = 5 from rfl)]
      refine ir_e ?_
      rcases eb with ⟨hb, e2⟩ | ⟨hb, e2⟩
      · rw [it_eq e2, if_pos fu, if_neg (show ¬ nI 5 = -1 by decide), if_neg (show ¬ nI 5 = 0 by decide), if_neg (show ¬ nI 5 = 1 by decide), if_neg (show ¬ nI 5 = 2 by decide), if_neg (show ¬ nI 5 = 3 by decide), if_neg (show ¬ nI 5 = 4 by decide)]
        exact it_post h v hs hL hb rfl rfl
      · rw [it_eq e2, if_pos fu, if_pos rfl]
        unfold f_X4_readPost
        rw [rx_nofirst h hL hb, bA_m1, if_neg (Nat.lt_irrefl 6)]
        (refine ir_no ?_; (try dsimp only); exact k_uis.trans k_uis.symm)
