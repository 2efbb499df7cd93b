/-! level 2: city -/
theorem R_all {nC nB nC' nB' : Nat} {mi mj m m' : MemI} {ml mlj : MemL} (h : k_R nC nB mi ml mj mlj) (hcr : k_CR 0 nC' nB' m m') (hC : nC ≤ nC') (h1 : ∀ kk qq, k_rk kk = true → k_gr 0 kk = false → m kk qq = mi kk qq) (h2 : ∀ kk qq, k_nr kk qq = true → m kk qq = mi kk qq) (h3 : ∀ kk qq, k_mw kk qq = false → ¬ (kk = (7, 0, 0) ∧ qq = 4) → m' kk qq = mj kk qq) (h4 : m (4, 0, 0) 3 = m' (7, 0, 0) 4) : k_R nC' nB' m ml m' mlj := by
  obtain ⟨a1, a2, a2b, a3, a4, a5, a6, a7, a8, a9⟩ := h
  have k8 : ∀ n j, (n ≤ 5 ∨ (18 ≤ n ∧ n ≤ 26) ∨ n = 34 ∨ n = 50) → m' (8, n, 0) j = mj (8, n, 0) j := fun n j hn => h3 _ _ (by
    rcases hn with q | q | q | q
    · simp [k_mw, k_sc]; omega
    · simp [k_mw, k_sc]; omega
    · subst q; rfl
    · subst q; rfl) (by simp)
  have k7 : ∀ q, (q = 51 ∨ q = 52) → m' (7, 0, 0) q = mj (7, 0, 0) q := fun q hq => h3 _ _ (by rcases hq with rfl | rfl <;> rfl) (by simp; omega)
  refine ⟨hcr, nums_ext a2 (fun g i => h2 _ _ rfl) (fun g i => h2 _ _ rfl), fun i hi => ?_, im_ext a3 (h1 _ _ rfl rfl) ⟨fun i q _ => h1 _ _ rfl rfl, fun i q _ => h1 _ _ rfl rfl, fun q _ => h1 _ _ rfl rfl⟩ (k7 52 (by simp)) (fun p => k8 34 p (by simp)), fun j hj1 hj8 => ?_, h4, tc_ext a6 (h1 _ _ rfl rfl) (fun i => h1 _ _ rfl rfl) (k7 51 (by simp)) (fun i => k8 50 i (by simp)), fun s hs => sh_ext (a7 s hs) hC (fun q => h1 _ _ rfl rfl) (k8 18 s (by simp)) (k8 19 s (by simp)) (k8 20 s (by simp)) (k8 21 s (by simp)), a8, tb_ext a9 (fun n j x y => k8 n j (by omega))⟩
  · rw [h1 (1, 2, i) 1 rfl rfl, h1 (1, 2, i) 2 rfl rfl, h1 (0, 2, i) 1 rfl rfl, h1 (0, 2, i) 2 rfl rfl]; exact a2b i hi
  · rw [h1 (8, 100, 0) j rfl rfl, k8 5 j (by simp)]; exact a4 j hj1 hj8
theorem sg_fr {m : MemI} {ml : MemL} {s : Nat} {kk : Ky} {q : Nat} (h : kk ≠ (8, 101, 0)) : ∀ j, f_X4_sg m ml s j kk q = m kk q := by
  intro j
  induction j with
  | zero => rfl
  | succ j ih => rw [f_X4_sg_s, k_uk h]; exact ih
theorem gi_ext {m m2 : MemI} {ml : MemL} {s : Nat} {x : Int32} (h : m2 (5, 0, s) 2 = m (5, 0, s) 2) : f_X5_getInt m2 ml s x = f_X5_getInt m ml s x := by
  unfold f_X5_getInt f_X5_get f_X5_hasElement
  rw [h]
theorem sg_at {m : MemI} {ml : MemL} {s i : Nat} : ∀ j, i < j → f_X4_sg m ml s j (8, 101, 0) i = f_X5_getInt m ml s (nI i) := by
  intro j
  induction j with
  | zero => intro h; omega
  | succ j ih =>
    intro h
    rw [f_X4_sg_s]
    by_cases e : i = j
    · subst e; rw [k_uis]; exact gi_ext (sg_fr (by simp) _)
    · rw [k_uj e]; exact ih (by omega)
theorem allI_32 {m : MemI} {t q : Nat} (hq : 4 ≤ q) : f_X7_allI m t (7, 0, 0) q = m (7, 0, 0) q := by
  unfold f_X7_allI
  rw [k_uj (by omega), k_uj (by omega), k_uj (by omega), k_uj (by omega)]
  rw [crI_fr (by simp), crI_fr (by simp), crI_fr (by simp), crI_fr (by simp), crI_fr (by simp), crI_fr (by simp), crI_fr (by simp), crI_fr (by simp), crI_fr (by simp), crI_fr (by simp), crI_fr (by simp), crI_fr (by simp)]
theorem mw_33 {kk : Ky} {qq : Nat} (hk : k_mw kk qq = false) : kk ≠ (8, 33, 0) := fun e => by rw [e] at hk; exact absurd hk (by simp [k_mw, k_sc])
theorem q_city {nC nB : Nat} {mi mj : MemI} {ml mlj : MemL} (h : k_R nC nB mi ml mj mlj) (s0 : Int32) : ∃ nC' nB', k_Q nC' nB' (f_X6_city mi ml s0) ml (f_X7_city mj mlj s0) mlj := by
  unfold f_X6_city f_X7_city f_X6_noRow f_X7_wanted
  by_cases w : vp_in s0 8
  · have hb := k_clamp w
    have h6 := h.1.1.1
    rw [shA_eq w, if_pos hb, if_neg (fun z => (isS_iff s0).mp z w)]
    obtain ⟨⟨len, l1, l2⟩, a⟩ := h.2.2.2.2.2.2.2.1 _ hb
    unfold f_X5_hasCitizen f_X5_hasRow
    rcases a with ⟨a1, a2, a3, a4, a5⟩ | ⟨a1, a2, a3, a4⟩ | ⟨a1, a2, a3, a4, a5⟩
    · rw [a3, if_pos rfl, if_pos rfl, a1, if_neg (bt3_ne a2), if_neg (show ¬ (1 : Int32) = 0 by decide), if_pos rfl, if_pos hb, a5, if_neg (show ¬ (1 : Int32) = 2 by decide), if_neg (show ¬ (1 : Int32) = 0 by decide), if_pos rfl]
      have RT := R_trial h
      have bG : ∀ kk qq, k_gr 1 kk = false → f_X2_become mi 1 0 kk qq = mi kk qq := fun kk qq hk => fg_X2_become hk
      have frd : ∀ kk qq, k_rk kk = true → (f_X4_read (f_X2_become mi 1 0) ml s0.toNatClampNeg).2 kk qq = mi kk qq := fun kk qq hk => (fr_X4_read hk).trans (bG kk qq (k_rk1 hk))
      have fnd : ∀ kk qq, k_nr kk qq = true → (f_X4_read (f_X2_become mi 1 0) ml s0.toNatClampNeg).2 kk qq = mi kk qq := fun kk qq hk => (fn_X4_read hk).trans (fn_X2_become hk)
      have z20 : f_X7_allO mj 33 (8, 20, 0) s0.toNatClampNeg = nI len := (allO_fr (by decide) _).trans l2
      rw [z20]
      -- the model's start
      have s7 : ∀ q, (q < 28 ∨ 30 < q) → q ≠ 4 → (k_ui (k_ui (k_ui (k_ui (f_X7_allO mj 33) (7, 0, 0) 28 (160 * s0)) (7, 0, 0) 29 0) (7, 0, 0) 30 (nI len)) (7, 0, 0) 4 (-1)) (7, 0, 0) q = mj (7, 0, 0) q := fun q hq h4 => by
        rw [k_uj (by omega), k_uj (by omega), k_uj (by omega), k_uj (by omega), allO_fr (by decide)]
      have s8 : ∀ kk q, kk ≠ (7, 0, 0) → (k_ui (k_ui (k_ui (k_ui (f_X7_allO mj 33) (7, 0, 0) 28 (160 * s0)) (7, 0, 0) 29 0) (7, 0, 0) 30 (nI len)) (7, 0, 0) 4 (-1)) kk q = f_X7_allO mj 33 kk q := fun kk q hk => by
        rw [k_uk hk, k_uk hk, k_uk hk, k_uk hk]
      have sw : ∀ kk qq, k_mw kk qq = false → ¬ (kk = (7, 0, 0) ∧ qq = 4) → (k_ui (k_ui (k_ui (k_ui (f_X7_allO mj 33) (7, 0, 0) 28 (160 * s0)) (7, 0, 0) 29 0) (7, 0, 0) 30 (nI len)) (7, 0, 0) 4 (-1)) kk qq = mj kk qq := fun kk qq hk h4 => by
        by_cases e : kk = (7, 0, 0)
        · subst e
          refine s7 qq ?_ (fun z => h4 ⟨rfl, z⟩)
          simp [k_mw, k_sc] at hk
          omega
        · exact (s8 kk qq e).trans (allO_fr (mw_33 hk) _)
      have s33 : k_sv 33 mj (k_ui (k_ui (k_ui (k_ui (f_X7_allO mj 33) (7, 0, 0) 28 (160 * s0)) (7, 0, 0) 29 0) (7, 0, 0) 30 (nI len)) (7, 0, 0) 4 (-1)) := sv_keep (sv_all (by decide)) (fun p => s8 _ p (by decide))
      have s0' : (k_ui (k_ui (k_ui (k_ui (f_X7_allO mj 33) (7, 0, 0) 28 (160 * s0)) (7, 0, 0) 29 0) (7, 0, 0) 30 (nI len)) (7, 0, 0) 4 (-1)) (7, 0, 0) 28 = 160 * s0 ∧ (k_ui (k_ui (k_ui (k_ui (f_X7_allO mj 33) (7, 0, 0) 28 (160 * s0)) (7, 0, 0) 29 0) (7, 0, 0) 30 (nI len)) (7, 0, 0) 4 (-1)) (7, 0, 0) 29 = nI 0 ∧ (k_ui (k_ui (k_ui (k_ui (f_X7_allO mj 33) (7, 0, 0) 28 (160 * s0)) (7, 0, 0) 29 0) (7, 0, 0) 30 (nI len)) (7, 0, 0) 4 (-1)) (7, 0, 0) 30 = nI len ∧ (k_ui (k_ui (k_ui (k_ui (f_X7_allO mj 33) (7, 0, 0) 28 (160 * s0)) (7, 0, 0) 29 0) (7, 0, 0) 30 (nI len)) (7, 0, 0) 4 (-1)) (7, 0, 0) 4 = -1 := by
        refine ⟨?_, ?_, ?_, k_uis⟩
        · rw [k_uj (by decide), k_uj (by decide), k_uj (by decide), k_uis]
        · rw [k_uj (by decide), k_uj (by decide), k_uis, nI_0]
        · rw [k_uj (by decide), k_uis]
      generalize (k_ui (k_ui (k_ui (k_ui (f_X7_allO mj 33) (7, 0, 0) 28 (160 * s0)) (7, 0, 0) 29 0) (7, 0, 0) 30 (nI len)) (7, 0, 0) 4 (-1)) = M0 at s7 s8 sw s33 s0' ⊢
      -- the reader's start
      have hb2 : f_X2_become mi 1 0 (5, 0, s0.toNatClampNeg) 2 = nI len := (bG _ _ rfl).trans (a4.trans l2)
      have st : k_rx nC nB len 0 s0 (fun i => (mlj (9, 1, 0) (160 * s0.toNatClampNeg + i)).toInt32) (k_ui (k_ui (f_X4_sg (k_ui (f_X2_become mi 1 0) (4, 0, 0) 1 (f_X2_become mi 1 0 (5, 0, s0.toNatClampNeg) 2)) ml s0.toNatClampNeg 160) (4, 0, 0) 2 0) (4, 0, 0) 3 (-1)) M0 := by
        rw [hb2]
        refine ⟨CR_ext RT ⟨fun i q _ => ?_, fun i q _ => ?_, fun q _ => ?_⟩ ⟨fun n j x y => (s8 _ _ (by simp)).trans (allO_fr (by simp; omega) _), fun q hq => s7 q (by omega) (by omega)⟩, ⟨?_, ?_, fun i hi => ?_⟩, ⟨s0'.1, s0'.2.1, s0'.2.2.1⟩, tb_ext h.2.2.2.2.2.2.2.2.2 (fun n j x y => (s8 _ _ (by simp)).trans (allO_fr (by simp; omega) _)), Nat.zero_le _, l1, k_uis, s0'.2.2.2⟩
        · rw [k_uk (by simp), k_uk (by simp), sg_fr (by simp), k_uk (by simp)]
        · rw [k_uk (by simp), k_uk (by simp), sg_fr (by simp), k_uk (by simp)]
        · rw [k_uk (by simp), k_uk (by simp), sg_fr (by simp), k_uk (by simp)]
        · rw [k_uj (by decide), k_uj (by decide), sg_fr (by decide), k_uis]
        · rw [k_uj (by decide), k_uis, nI_0]
        · rw [k_uk (by decide), k_uk (by decide), sg_at 160 (by omega)]
          unfold f_X5_getInt f_X5_get f_X5_hasElement
          rw [k_uk (by simp), hb2, if_neg (nI_pos (by omega)), if_neg (fun z => absurd ((nI_leI (by omega) (by omega)).mp z) (by omega)), if_neg (show ¬ (160 : Int32) ≤ nI i from nI_ge (b := 160) (by omega) (by decide)), if_neg (show ¬ (1 : Int32) = 0 by decide), nI_clamp (by omega)]
          exact congrArg Int64.toInt32 (h.2.2.2.2.2.2.2.2.1 _ hb i (by omega))
      have lp := rx_loop (nC0 := nC) w (fun i _ => rfl) 160 0 nC nB 0 _ M0 rfl (Nat.le_refl _) (Nat.le_refl _) st
      have rw1 : ∀ kk qq, k_mw kk qq = false → (f_X7_ctR mlj 162 1 (f_X7_item M0 mlj).1 (f_X7_item M0 mlj).2).2.2 kk qq = M0 kk qq := fun kk qq hk => (fw_X7_ctR hk).trans (fw_X7_item hk)
      have rv : k_sv 33 mj (f_X7_ctR mlj 162 1 (f_X7_item M0 mlj).1 (f_X7_item M0 mlj).2).2.2 := sv_keep s33 (fun p => (fv_X7_ctR rfl).trans (fv_X7_item rfl))
      have e1 : (nI (0 + 1) : Int32) = 1 := rfl
      rw [e1] at lp
      have lp2 : k_lr len nC s0 (fun i => (mlj (9, 1, 0) (160 * s0.toNatClampNeg + i)).toInt32) (f_X4_read (f_X2_become mi 1 0) ml s0.toNatClampNeg) (f_X7_ctR mlj 162 1 (f_X7_item M0 mlj).1 (f_X7_item M0 mlj).2) := lp
      generalize f_X4_read (f_X2_become mi 1 0) ml s0.toNatClampNeg = A at frd fnd lp2 ⊢
      generalize f_X7_ctR mlj 162 1 (f_X7_item M0 mlj).1 (f_X7_item M0 mlj).2 = B at rw1 rv lp2 ⊢
      unfold f_X7_ctE
      rcases lp2 with ⟨p1, p2, p3⟩ | ⟨p1, p2, p3, nC2, nB2, P2, p4, p5⟩
      · rw [if_pos p1, if_pos p2]
        refine ⟨nC, nB, ?_⟩
        have RB : k_R nC nB A.2 ml (k_ui (f_X7_allI B.2.2 33) (7, 0, 0) 4 (f_X7_allI B.2.2 33 (7, 0, 0) 32)) mlj := by
          have bk := sv_back (by decide) rv
          refine R_all h (CR_ext6 h.1 ⟨fun i q _ => frd _ _ rfl, fun i q _ => frd _ _ rfl, fun q _ => frd _ _ rfl⟩ ⟨fun n j x y hj => ?_, fun q hq => ?_⟩) (Nat.le_refl _) (fun kk qq hk _ => frd kk qq hk) fnd (fun kk qq hk h4 => ?_) ?_
          · rw [k_uk (by simp)]; exact bk.1 n j x y hj
          · rw [k_uj (by omega)]; exact bk.2 q hq
          · rw [k_ufr h4]; exact (fw_X7_allI hk).trans ((rw1 kk qq hk).trans (sw kk qq hk h4))
          · rw [k_uis, allI_32 (by decide)]; exact p3
        exact Q_no RB 6 (by decide) (by decide)
      · rw [if_neg p1, if_neg p2]
        refine ⟨nC2, nB2, Q_mk p3 ?_⟩
        have hn0 : ∀ i, i < 6 → A.2 (1, 0, i) 0 = nI i ∧ A.2 (0, 0, i) 0 = nI i := fun i hi => by
          rw [fnd _ _ rfl, fnd _ _ rfl]; exact h.2.1 0 (by decide) i hi
        refine R_all h (bec_CR (by decide) p5.1 hn0) p4 (fun kk qq hk hg => (fg_X2_become hg).trans (frd kk qq hk)) (fun kk qq hk => (fn_X2_become hk).trans (fnd kk qq hk)) (fun kk qq hk h4 => (rw1 kk qq hk).trans (sw kk qq hk h4)) ?_
        rw [fg_X2_become rfl, p5.2.2.2.2.2.2.1]
        exact p5.2.2.2.2.2.2.2.symm
    · rw [a2, if_pos rfl, if_pos rfl, a1, if_pos rfl, if_pos rfl, if_neg (show ¬ (3 : Int32) = 0 by decide), a4, if_neg (show ¬ (0 : Int32) = 2 by decide), if_pos rfl, if_neg (show ¬ (-3 : Int32) = 0 by decide)]
      exact ⟨nC, nB, Q_no h 3 (by decide) (by decide)⟩
    · have hn : ¬ mj (8, 21, 0) s0.toNatClampNeg = -1 := by
        obtain ⟨j, hj, e⟩ := vp_in_of a4 (by omega)
        rw [e]; exact k_nIne (by omega)
      rw [a3, if_neg hn, if_neg (show ¬ (1 : Int32) = 0 by decide), if_neg (show ¬ (2 : Int32) = 0 by decide), a5, if_pos rfl, if_neg (show ¬ (-2 : Int32) = 0 by decide)]
      exact ⟨nC, nB, Q_no h 2 (by decide) (by decide)⟩
  · rw [shA_no w, if_neg (Nat.lt_irrefl 8), if_pos ((isS_iff s0).mpr w), if_neg (show ¬ (1 : Int32) = 0 by decide), if_neg (show ¬ (-1 : Int32) = 0 by decide)]
    exact ⟨nC, nB, Q_no h 1 (by decide) (by decide)⟩
