/-! level 2: hide, mornings, winters, seed, wear, unkept -/
theorem bfL_open {mj : MemI} {few lst : Int32} : ∀ n, n ≤ 6 → f_X7_bfL mj few lst n < 6 → ¬ mj (8, 12, 0) (f_X7_bfL mj few lst n) = 1 := by
  intro n
  induction n with
  | zero => intro _ h; exact absurd h (Nat.lt_irrefl 6)
  | succ n ih =>
    intro hn h
    have i2 := ih (by omega)
    rw [f_X7_bfL_s] at h ⊢
    by_cases z : mj (8, 12, 0) n = 1
    · simp only [if_pos z] at h ⊢
      by_cases q : f_X7_bfL mj few lst n < 6
      · simp only [if_pos q] at h ⊢; exact i2 q
      · simp only [if_neg q] at h; exact absurd h (Nat.lt_irrefl 6)
    · simp only [if_neg z] at h ⊢
      by_cases q : f_X7_bfL mj few lst n < 6
      · simp only [if_pos q] at h ⊢
        repeat' split
        all_goals first | exact i2 q | exact z
      · simp only [if_neg q] at h ⊢; exact z
theorem blR_open {mj : MemI} : ∀ u j x, f_X7_blR mj u j x < 6 → ¬ mj (8, 12, 0) (f_X7_blR mj u j x) = 1 := by
  intro u
  induction u with
  | zero => intro j x h; exact absurd h (Nat.lt_irrefl 6)
  | succ u ih =>
    intro j x h
    rw [f_X7_blR_s] at h ⊢
    by_cases z : mj (8, 12, 0) j = 1
    · simp only [if_pos z] at h ⊢; exact ih _ _ h
    · simp only [if_neg z] at h ⊢
      by_cases q : x = 0
      · simp only [if_pos q] at h ⊢; exact z
      · simp only [if_neg q] at h ⊢; exact ih _ _ h
theorem pB_open {mj : MemI} {b nC : Nat} {r : Int32} (h6 : nC ≤ 6) (h : f_X7_picksBy mj b r nC < 6) : ¬ mj (8, 12, 0) (f_X7_picksBy mj b r nC) = 1 := by
  revert h
  unfold f_X7_picksBy f_X7_blindly
  have hb := fun few lst => bfL_open (mj := mj) (few := few) (lst := lst) nC h6
  have hl := fun x => blR_open (mj := mj) nC 0 x
  repeat' split
  all_goals intro h
  all_goals first
    | exact absurd h (Nat.lt_irrefl 6)
    | exact hb _ _ h
    | exact hl _ h
    | (rename_i z; rw [z]; decide)
theorem go2_shut {nC nB : Nat} {F : MemI} (h6 : nC ≤ 6) (h0 : ∀ c, c < nC → F (8, 40, 0) c = 0) : ∀ j, ∀ c, c < nC → F (8, 12, 0) c = 1 → (f_X7_go2 F nC j) (8, 40, 0) c = 0 := by
  intro j
  induction j with
  | zero => intro c hc _; exact h0 c hc
  | succ j ih =>
    intro c hc h1
    have i2 := ih c hc h1
    have e12 : (k_ui (k_ui (f_X7_go2 F nC j) (8, 37, 0) j (-1)) (8, 41, 0) j 0) (8, 12, 0) c = 1 := ((k_uk (by decide)).trans (k_uk (by decide))).trans ((fz_X7_go2 rfl).trans h1)
    have hop := pB_open (mj := k_ui (k_ui (f_X7_go2 F nC j) (8, 37, 0) j (-1)) (8, 41, 0) j 0) (b := j) (r := f_X7_go2 F nC j (8, 14, 0) j) h6
    rw [f_X7_go2_s]
    generalize f_X7_picksBy (k_ui (k_ui (f_X7_go2 F nC j) (8, 37, 0) j (-1)) (8, 41, 0) j 0) j (f_X7_go2 F nC j (8, 14, 0) j) nC = p at *
    by_cases hp : p < 6
    · have e : c ≠ p := fun q => hop hp (q ▸ e12)
      rw [if_pos hp]
      repeat' split
      all_goals repeat first | rw [k_uk (by decide)] | rw [k_uj e]
      all_goals exact i2
    · rw [if_neg hp]
      repeat' split
      all_goals repeat first | rw [k_uk (by decide)]
      all_goals exact i2
theorem mB_eq {g nC nB : Nat} {A F : MemI} (h : k_CR g nC nB A F) (hm : k_MR g nC A F) (hb : ∀ c, c < nC → k_bt 54 (F (8, 40, 0) c)) (hs : ∀ c, c < nC → F (8, 12, 0) c = 1 → F (8, 40, 0) c = 0) : ∀ j, j ≤ nC → (f_X2_mostB A g j).2 = k_op (f_X7_hiL F j) ∧ (f_X2_mostB A g j).1 = (if f_X7_hiL F j < 6 then F (8, 40, 0) (f_X7_hiL F j) else 0) ∧ (f_X7_hiL F j < j ∨ f_X7_hiL F j = 6) ∧ ¬ (f_X2_mostB A g j).1 < 0 := by
  intro j
  induction j with
  | zero => intro _; exact ⟨rfl, rfl, Or.inr rfl, show ¬ (0 : Int32) < 0 by decide⟩
  | succ j ih =>
    intro hj
    obtain ⟨i1, i2, i3, i4⟩ := ih (by omega)
    have h6 := h.1.1
    have ho := CR_open h (show j < nC by omega)
    have e13 := (hm j (by omega)).2.2.2
    have e0 := (h.2.2.2.1 j (by omega)).1
    obtain ⟨y, hy, ey⟩ := hb j (by omega)
    rw [f_X2_mostB_s, f_X7_hiL_s, e13, e0]
    by_cases q : f_X7_hiL F j < 6
    · rw [if_pos q] at i2
      simp only [if_pos q, i2, i1]
      by_cases z : f_X1_isOpen A g j = 0
      · have e40 := hs j (by omega) (ho.mp z)
        simp only [if_pos z, e40, if_pos (Int32.le_refl 0), if_pos q]
        rw [i2] at i4
        exact ⟨trivial, trivial, by omega, i4⟩
      · simp only [if_neg z]
        by_cases w : F (8, 40, 0) j ≤ F (8, 40, 0) (f_X7_hiL F j)
        · simp only [if_pos w]
          rw [i2] at i4
          by_cases w0 : F (8, 40, 0) j ≤ 0
          · simp only [if_pos w0, if_pos q]; exact ⟨trivial, trivial, by omega, i4⟩
          · simp only [if_neg w0, if_pos q]; exact ⟨trivial, trivial, by omega, i4⟩
        · simp only [if_neg w]
          have w0 : ¬ F (8, 40, 0) j ≤ 0 := fun a => w (Int32.le_trans a (Int32.not_lt.mp (by rw [i2] at i4; exact i4)))
          simp only [if_neg w0, if_pos (show j < 6 by omega)]
          exact ⟨(k_op_s (by omega)).symm, trivial, by omega, fun a => w0 (Int32.le_of_lt a)⟩
    · have q6 : f_X7_hiL F j = 6 := by omega
      rw [if_neg q] at i2
      simp only [if_neg q, i2, i1]
      by_cases z : f_X1_isOpen A g j = 0
      · have e40 := hs j (by omega) (ho.mp z)
        simp only [if_pos z, e40, if_pos (Int32.le_refl 0), q6]
        exact ⟨trivial, rfl, Or.inr trivial, by decide⟩
      · simp only [if_neg z]
        by_cases w : F (8, 40, 0) j ≤ 0
        · simp only [if_pos w, q6]; exact ⟨trivial, rfl, Or.inr trivial, by decide⟩
        · simp only [if_neg w, if_pos (show j < 6 by omega)]
          exact ⟨(k_op_s (by omega)).symm, trivial, by omega, fun a => w (Int32.le_of_lt a)⟩
theorem q_hide {nC nB : Nat} {mi mj : MemI} {ml mlj : MemL} (h : k_R nC nB mi ml mj mlj) : k_Q nC nB (f_X6_hide mi) ml (f_X7_hide mj nC nB) mlj := by
  unfold f_X6_hide f_X7_hide
  refine Q_mk ?_ (R_look h)
  obtain ⟨g1, -⟩ := go_res h.1
  have hs : ∀ c, c < nC → (f_X7_goes mj nC nB) (8, 12, 0) c = 1 → (f_X7_goes mj nC nB) (8, 40, 0) c = 0 := fun c hc hh => by
    have e12 : (f_X7_goes mj nC nB) (8, 12, 0) c = mj (8, 12, 0) c := sM_goes.1 12 c (by decide) (by decide)
    exact go2_shut (nB := nB) h.1.1.1 (fun c hc => (go1_at _ nC c hc).2.2.2) nB c hc ((fz_X7_go1 rfl).trans (((k_uk (by decide)).trans (k_uk (by decide))).trans (e12.symm.trans hh)))
  have hm := mB_eq g1.1 g1.2.1 (fun c hc => go_bu h.1 hc) hs nC (Nat.le_refl _)
  unfold f_X2_mostBurdened
  rw [← hm.1]
  have e6 : f_X2_mostB (f_X2_goBy mi 0) 0 6 = f_X2_mostB (f_X2_goBy mi 0) 0 nC := k_tail6 h.1.1.1 (fun j h1 h2 => by rw [f_X2_mostB_s, if_pos (CR_shut g1.1 h1 h2)])
  rw [e6]
/-- the city now is another -/
theorem R_city {nC nB nC' nB' : Nat} {mi mj m m' : MemI} {ml mlj : MemL} (h : k_R nC nB mi ml mj mlj) (hcr : k_CR 0 nC' nB' m m') (hC : nC ≤ nC') (h1 : ∀ kk qq, k_gr 0 kk = false → m kk qq = mi kk qq) (h2 : ∀ kk qq, k_nr kk qq = true → m kk qq = mi kk qq) (h3 : ∀ kk qq, k_mw kk qq = false → m' kk qq = mj kk qq) : k_R nC' nB' m ml m' mlj := by
  obtain ⟨a1, a2, a2b, a3, a4, a5, a6, a7, a8, a9⟩ := h
  have k8 : ∀ n j, (n ≤ 5 ∨ (18 ≤ n ∧ n ≤ 26) ∨ n = 34 ∨ n = 50) → m' (8, n, 0) j = mj (8, n, 0) j := fun n j hn => h3 _ _ (by
    rcases hn with q | q | q | q
    · simp [k_mw, k_sc]; omega
    · simp [k_mw, k_sc]; omega
    · subst q; rfl
    · subst q; rfl)
  have k7 : ∀ q, (q = 4 ∨ q = 51 ∨ q = 52) → m' (7, 0, 0) q = mj (7, 0, 0) q := fun q hq => h3 _ _ (by rcases hq with rfl | rfl | rfl <;> rfl)
  refine ⟨hcr, nums_ext a2 (fun g i => h2 _ _ rfl) (fun g i => h2 _ _ rfl), fun i hi => ?_, im_ext a3 (h1 _ _ rfl) ⟨fun i q _ => h1 _ _ rfl, fun i q _ => h1 _ _ rfl, fun q _ => h1 _ _ rfl⟩ (k7 52 (by simp)) (fun p => k8 34 p (by simp)), fun j hj1 hj8 => ?_, ?_, tc_ext a6 (h1 _ _ rfl) (fun i => h1 _ _ rfl) (k7 51 (by simp)) (fun i => k8 50 i (by simp)), fun s hs => sh_ext (a7 s hs) hC (fun q => h1 _ _ rfl) (k8 18 s (by simp)) (k8 19 s (by simp)) (k8 20 s (by simp)) (k8 21 s (by simp)), a8, tb_ext a9 (fun n j x y => k8 n j (by omega))⟩
  · rw [h1 (1, 2, i) 1 rfl, h1 (1, 2, i) 2 rfl, h1 (0, 2, i) 1 rfl, h1 (0, 2, i) 2 rfl]; exact a2b i hi
  · rw [h1 (8, 100, 0) j rfl, k8 5 j (by simp)]; exact a4 j hj1 hj8
  · rw [h1 (4, 0, 0) 3 rfl, k7 4 (by simp)]; exact a5
theorem q_mornings {nC nB : Nat} {mi mj : MemI} {ml mlj : MemL} (h : k_R nC nB mi ml mj mlj) (n : Int32) : k_Q nC nB (f_X6_mornings mi n) ml (f_X7_mornings mj n nC nB) mlj := by
  unfold f_X6_mornings f_X7_mornings
  by_cases o : f_X6_isOutside n 1 60 = 0
  · rw [if_pos o, if_neg ((k_iO n 1 60).mp o)]
    obtain ⟨a1, a2⟩ := passN_CR h.1 n.toNatClampNeg
    unfold f_X2_passMornings
    exact Q_mk a1 (R_city h a2 (Nat.le_refl _) (fun kk qq hk => fg_X2_passN hk) (fun kk qq hk => fn_X2_passN hk) (fun kk qq hk => fw_X7_moL hk))
  · rw [if_neg o, if_pos (Decidable.of_not_not (fun z => o ((k_iO n 1 60).mpr z)))]
    exact Q_no h 6 (by decide) (by decide)
theorem fg_wintL {mi : MemI} {N : Nat} {kk : Ky} {qq : Nat} (hk : k_gr 0 kk = false) : ∀ j, (f_X6_wintL mi N j).2 kk qq = mi kk qq := by
  intro j
  induction j with
  | zero => rfl
  | succ j ih => rw [f_X6_wintL_s]; dsimp only; rw [fg_X2_passMorning hk, fg_X2_drawWhoHides hk]; exact ih
theorem q_winters {nC nB : Nat} {mi mj : MemI} {ml mlj : MemL} (h : k_R nC nB mi ml mj mlj) (n : Int32) : k_Q nC nB (f_X6_winters mi n) ml (f_X7_winters mj n nC nB) mlj := by
  unfold f_X6_winters f_X7_winters
  by_cases o : f_X6_isOutside n 1 60 = 0
  · rw [if_pos o, if_neg ((k_iO n 1 60).mp o)]
    obtain ⟨a1, a2⟩ := wint_CR (N := n.toNatClampNeg) h.1 n.toNatClampNeg
    unfold f_X6_wintersI
    exact Q_mk a1 (R_city h a2 (Nat.le_refl _) (fun kk qq hk => fg_wintL hk _) (fun kk qq hk => fn_X6_wintL hk) (fun kk qq hk => fw_X7_wiL hk))
  · rw [if_neg o, if_pos (Decidable.of_not_not (fun z => o ((k_iO n 1 60).mpr z)))]
    exact Q_no h 6 (by decide) (by decide)
theorem q_seed {nC nB : Nat} {mi mj : MemI} {ml mlj : MemL} (h : k_R nC nB mi ml mj mlj) (v : Int32) : k_Q nC nB (f_X6_seed mi v) ml (f_X7_seed mj v) mlj := by
  unfold f_X6_seed f_X7_seed
  exact Q_mk h.1.2.2.1.2 (R_city h (CR_seed h.1) (Nat.le_refl _) (fun kk qq hk => k_frG hk rfl) (fun kk qq hk => k_frN hk rfl) (fun kk qq hk => k_frW hk rfl))
/-- the city on which questions are tried -/
theorem R_trial {nC nB : Nat} {mi mj : MemI} {ml mlj : MemL} (h : k_R nC nB mi ml mj mlj) : k_CR 1 nC nB (f_X2_become mi 1 0) mj :=
  bec_CR (by decide) h.1 (fun i hi => h.2.1 1 (by decide) i hi)
theorem sv_keep {t : Nat} {mj X Y : MemI} (h : k_sv t mj X) (h1 : ∀ p, Y (8, t, 0) p = X (8, t, 0) p) : k_sv t mj Y :=
  ⟨fun n i hn hi => (h1 _).trans (h.1 n i hn hi), fun q hq => (h1 _).trans (h.2 q hq)⟩
theorem q_wear {nC nB : Nat} {mi mj : MemI} {ml mlj : MemL} (h : k_R nC nB mi ml mj mlj) (cz n : Int32) : k_Q nC nB (f_X6_wear mi cz n) ml (f_X7_wear mj cz n nC nB) mlj := by
  unfold f_X6_wear f_X7_wear
  by_cases w : vp_in cz nC
  · have hb := k_clamp w
    have h6 := h.1.1.1
    rw [cA_eq h.1 w, if_pos (show cz.toNatClampNeg < 6 by omega), if_neg (fun z => (isC_iff h.1 cz).mp z w)]
    by_cases o : f_X6_isOutside n 0 40 = 0
    · rw [if_pos o, if_neg ((k_iO n 0 40).mp o)]
      have t0 : k_CR 1 nC nB (f_X2_become mi 1 0) (f_X7_allO mj 35) := CR_ext6 (R_trial h) sC_rf (s6_of ⟨fun n j h1 h2 => allO_fr (by simp; omega) j, fun q _ => allO_fr (by decide) q⟩)
      obtain ⟨a1, a2⟩ := passN_CR t0 n.toNatClampNeg
      unfold f_X2_passMornings
      dsimp only
      rw [cA_eq a2 w, if_pos (show cz.toNatClampNeg < 6 by omega), weL_eq]
      refine Q_mk (a2.2.2.2.2.1 _ hb).1.2.2.2.2.2.2.1 (R_ext h (kp_g1 (fun kk qq hk => (fg_X2_passN hk).trans (fg_X2_become hk)) (fun kk qq hk => (fn_X2_passN hk).trans (fn_X2_become hk))) (fun kk qq hk => (fw_X7_allI hk).trans ((fw_X7_moL hk).trans (fw_X7_allO hk))) (sv_back (by decide) (sv_keep (sv_all (by decide)) (fun p => fv_X7_moL rfl))))
    · rw [if_neg o, if_pos (Decidable.of_not_not (fun z => o ((k_iO n 0 40).mpr z)))]
      exact Q_no h 6 (by decide) (by decide)
  · rw [cA_no h.1 w, if_neg (Nat.lt_irrefl 6), if_pos ((isC_iff h.1 cz).mpr w)]
    exact Q_no h 1 (by decide) (by decide)
theorem n40 {n : Int32} (h : ¬ f_X7_isFrom n 0 40 = 0) : n.toNatClampNeg ≤ 40 := k_n40 (isFrom_le h) (isFrom_nn h (by decide))
theorem q_unkept {nC nB : Nat} {mi mj : MemI} {ml mlj : MemL} (h : k_R nC nB mi ml mj mlj) (n v : Int32) : k_Q nC nB (f_X6_unkept mi n v) ml (f_X7_unkept mj n v nC nB) mlj := by
  unfold f_X6_unkept f_X7_unkept
  by_cases p : f_X6_isOutside v 0 1 = 0
  · obtain ⟨p1, p2⟩ := (k_iO2 v 1).mp p
    rw [if_pos p, if_neg p1, if_pos p2]
    by_cases o : f_X6_isOutside n 0 40 = 0
    · rw [if_pos o, if_neg ((k_iO n 0 40).mp o)]
      have t0 : k_CR 1 nC nB (f_X2_become mi 1 0) (f_X7_allO mj 35) := CR_ext6 (R_trial h) sC_rf (s6_of ⟨fun n j h1 h2 => allO_fr (by simp; omega) j, fun q _ => allO_fr (by decide) q⟩)
      obtain ⟨u1, u2⟩ := unL_eq (nC := nC) (nB := nB) (mj := f_X7_allO mj 35) n.toNatClampNeg
      have hM : ∀ kk qq, k_mw kk qq = false → (f_X7_allI (f_X7_moL (f_X7_allO mj 35) nC nB n.toNatClampNeg).2 35) kk qq = mj kk qq := fun kk qq hk => (fw_X7_allI hk).trans ((fw_X7_moL hk).trans (fw_X7_allO hk))
      have hS := sv_back (by decide) (sv_keep (Y := (f_X7_moL (f_X7_allO mj 35) nC nB n.toNatClampNeg).2) (sv_all (mj := mj) (t := 35) (by decide)) (fun p => fv_X7_moL rfl))
      by_cases z : v = 0
      · rw [if_pos z, if_pos z, u1, u2]
        obtain ⟨a1, a2⟩ := passN_CR t0 n.toNatClampNeg
        unfold f_X2_passMornings
        exact Q_mk a1 (R_ext h (kp_g1 (fun kk qq hk => (fg_X2_passN hk).trans (fg_X2_become hk)) (fun kk qq hk => (fn_X2_passN hk).trans (fn_X2_become hk))) hM hS)
      · rw [if_neg z, if_neg z, u2]
        have hn := n40 ((k_iO n 0 40).mp o)
        have e := fh_eq (g := 1) n.toNatClampNeg 0 (mi := f_X2_become mi 1 0) (mj := f_X7_allO mj 35) (by omega) rfl t0
        rw [Nat.zero_add] at e
        unfold f_X2_firstHungryMorning
        exact Q_mk e (R_ext h (kp_g1 (fun kk qq hk => (fg_X2_fhR hk).trans (fg_X2_become hk)) (fun kk qq hk => (fn_X2_fhR hk).trans (fn_X2_become hk))) hM hS)
    · rw [if_neg o, if_pos (Decidable.of_not_not (fun z => o ((k_iO n 0 40).mpr z)))]
      exact Q_noT h 6 (by decide) (by decide)
  · rw [if_neg p]
    by_cases a : v < 0
    · rw [if_pos a]; exact Q_noT h 5 (by decide) (by decide)
    · rw [if_neg a, if_neg (fun b => p ((k_iO2 v 1).mpr ⟨a, b⟩))]; exact Q_noT h 5 (by decide) (by decide)
