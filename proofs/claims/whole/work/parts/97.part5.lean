/-! level 2: parting -/
theorem pa_FF {nC nB : Nat} {mi mj : MemI} (h : k_CR 0 nC nB mi mj) : k_CR 0 nC nB mi (f_X7_files mj nB) ∧ pa_F nC nB (f_X7_files mj nB) := by
  have fr : ∀ n j, n ≠ 44 → f_X7_files mj nB (8, n, 0) j = mj (8, n, 0) j := fun n j hn => files_fr (k_keyne hn) (by simp)
  have fe : ∀ j, f_X7_fc (f_X7_files mj nB) j = f_X7_fc mj j := fc_eq (fun b => fr 17 b (by decide))
  refine ⟨CR_ext h sC_rf ⟨fun n j x y => fr n j (by omega), fun q hq => files_fr (by decide) (fun z => by have := z.2; omega)⟩, h.1.1, h.1.2, fun c hc => ?_, fun b hb => ?_, fun b hb hc => ?_⟩
  · obtain ⟨-, ⟨y1, -, -, y4, -⟩⟩ := h.2.2.2.2.1 c hc
    rw [fr 12 c (by decide), fr 8 c (by decide)]
    exact ⟨bt_01 y1, y4⟩
  · obtain ⟨-, ⟨-, y2, -⟩⟩ := h.2.2.2.2.2.2.1 b hb
    obtain ⟨m, m1, m9, em⟩ := y2
    rw [fr 13 b (by decide)]
    exact ⟨m, m9, em⟩
  · rw [fe]; exact files_at hb ((fr 17 b (by decide)).symm.trans hc)
theorem pa_paL {m : MemI} {c : Nat} : ∀ j, c < j → f_X2_paL m 0 j (1, 0, c) 14 = 0 := by
  intro j
  induction j with
  | zero => intro h; omega
  | succ j ih =>
    intro h
    rw [f_X2_paL_s]
    by_cases e : c = j
    · subst e; exact k_uis
    · rw [k_uk (show ((1, 0, c) : Ky) ≠ (1, 0, j) by simp [e])]; exact ih (by omega)
theorem pa_paM {m : MemI} {c : Nat} : ∀ j, c < j → f_X7_paL m j (8, 47, 0) c = 0 := by
  intro j
  induction j with
  | zero => intro h; omega
  | succ j ih =>
    intro h
    rw [f_X7_paL_s]
    by_cases e : c = j
    · subst e; exact k_uis
    · rw [k_uj e]; exact ih (by omega)
theorem pa_paMf {m : MemI} {kk : Ky} {q : Nat} (h : kk ≠ (8, 47, 0)) : ∀ j, f_X7_paL m j kk q = m kk q := by
  intro j
  induction j with
  | zero => rfl
  | succ j ih => rw [f_X7_paL_s, k_uk h]; exact ih
theorem pa_c0 {nC nB fl : Nat} {mi F : MemI} (h : k_CR 0 nC nB mi F) : pa_C nC nB F fl 0 (fun _ => 0) (fun _ => 0) none (k_ui (k_ui (f_X2_paL mi 0 6) (2, 0, 0) 7 (nI fl)) (2, 0, 0) 6 1000) := by
  have hC := h.1.1
  refine ⟨CR_ext h ⟨fun i q hq => ?_, fun i q hq => ?_, fun q hq => ?_⟩ ⟨fun _ _ _ _ => rfl, fun _ _ => rfl⟩, fun c hc => ?_, fun b hb hc hi => absurd hi (Nat.not_lt_zero _), ?_, ?_, fun v a e => by cases e⟩
  · rw [k_uk (by simp), k_uk (by simp)]; exact ft_X2_paL (by simp [k_tr]; omega)
  · rw [k_uk (by simp), k_uk (by simp)]; exact ft_X2_paL (by simp [k_tr]; omega)
  · rw [k_uj (by omega), k_uj (by omega)]; exact ft_X2_paL (by simp [k_tr]; omega)
  · rw [k_uk (by simp), k_uk (by simp), pa_paL 6 (by omega)]; exact nI_0.symm
  · rw [k_uj (by decide), k_uis]
  · rw [k_uis]; rfl
theorem pa_m0 {nC cm : Nat} {F : MemI} (hC : nC ≤ 6) : pa_M nC cm F 0 (fun _ => 0) (fun _ => 0) none (f_X7_paL (k_ui F (7, 0, 0) 49 (-1)) 6) := by
  refine ⟨fun n q a b c => ?_, fun c hc => ?_, fun k hk => absurd hk (Nat.not_lt_zero _), fun _ => ?_, fun v a e => by cases e⟩
  · rw [pa_paMf (k_keyne c), k_uk (by simp)]
  · rw [pa_paM 6 (by omega)]; exact nI_0.symm
  · rw [pa_paMf (by decide), k_uis]
theorem pa_mx0 : ∀ n, pa_mx (fun _ => 0) n = 0 := by
  intro n
  induction n with
  | zero => rfl
  | succ n ih => show max (pa_mx (fun _ => 0) n) 0 = 0; rw [ih]; rfl
theorem pa_su0 : ∀ n, pa_su (fun _ => 0) n = 0 := by
  intro n
  induction n with
  | zero => rfl
  | succ n ih => show pa_su (fun _ => 0) n + 0 = 0; rw [ih]
/-- the class's way, whole -/
theorem pa_all {nC nB : Nat} {mi F : MemI} (h : k_CR 0 nC nB mi F) (hF : pa_F nC nB F) : ∃ fl m, pa_C nC nB F fl 0 (fun _ => 0) (fun _ => 0) (pa_S (pa_op nC F) (pa_mn F) (pa_w F) nC (f_X7_fc F nB) 0 (fun _ => 0) (fun _ => 0)) m ∧ f_X2_partAll mi 0 = (if m (2, 0, 0) 6 = 1000 then (-1, m) else (m (2, 0, 0) 6, m)) := by
  have hC := h.1.1
  have hB := h.1.2
  have R1 : k_CR 0 nC nB (f_X2_paL mi 0 6) F := CR_ext h ⟨fun i q hq => ft_X2_paL (by simp [k_tr]; omega), fun i q hq => ft_X2_paL (by simp [k_tr]; omega), fun q hq => ft_X2_paL (by simp [k_tr]; omega)⟩ ⟨fun _ _ _ _ => rfl, fun _ _ => rfl⟩
  have co := pa_cop R1 6 (Nat.le_refl _)
  rw [show min 6 nC = nC by omega] at co
  obtain ⟨s1, s2⟩ := pa_sum h hF 6 (Nat.le_refl _)
  rw [show min 6 nB = nB by omega] at s1 s2
  have ol := pa_co_le (pa_op nC F) nC
  have run : ∀ fl, fl = pa_fl (pa_sw (pa_w F) 0 (f_X7_fc F nB)) (pa_co (pa_op nC F) nC) → pa_C nC nB F fl 0 (fun _ => 0) (fun _ => 0) (pa_S (pa_op nC F) (pa_mn F) (pa_w F) nC (f_X7_fc F nB) 0 (fun _ => 0) (fun _ => 0)) (f_X2_pf 0 6 0 (k_ui (k_ui (f_X2_paL mi 0 6) (2, 0, 0) 7 (nI fl)) (2, 0, 0) 6 1000) 0) := by
    intro fl hfl
    have hf9 : fl < 1000 := by
      have : pa_fl (pa_sw (pa_w F) 0 (f_X7_fc F nB)) (pa_co (pa_op nC F) nC) ≤ 60 := by
        unfold pa_fl
        split
        · exact Nat.zero_le _
        · exact Nat.le_trans (Nat.div_le_self _ _) (by omega)
      omega
    have r := pa_pf hF hfl hf9 6 0 (fun _ => 0) (fun _ => 0) none _ rfl (by rw [Nat.zero_min]; exact pa_c0 h) (fun _ _ => Nat.zero_le _) (by rw [pa_mx0]; exact Nat.zero_le _) (fun _ _ _ => rfl) (by rw [Nat.zero_min, pa_su0, Nat.zero_add]; rfl) (by rw [pa_mx0]; show 0 < 1000; decide)
    rw [Nat.zero_min, pa_mx0, nI_0] at r
    exact r
  unfold f_X2_partAll
  rw [co, s1]
  by_cases o0 : pa_co (pa_op nC F) nC = 0
  · rw [o0, if_pos (show nI 0 ≤ 0 by decide)]
    have r := run 0 (by unfold pa_fl; rw [if_pos o0])
    rw [nI_0] at r
    exact ⟨0, _, r, rfl⟩
  · have e : (nI (pa_sw (pa_w F) 0 (f_X7_fc F nB)) + nI (pa_co (pa_op nC F) nC) - 1) / nI (pa_co (pa_op nC F) nC) = nI (pa_fl (pa_sw (pa_w F) 0 (f_X7_fc F nB)) (pa_co (pa_op nC F) nC)) := by
      unfold pa_fl
      rw [if_neg o0, nI_add]
      obtain ⟨k, hk⟩ : ∃ k, pa_sw (pa_w F) 0 (f_X7_fc F nB) + pa_co (pa_op nC F) nC = k + 1 := ⟨pa_sw (pa_w F) 0 (f_X7_fc F nB) + pa_co (pa_op nC F) nC - 1, by omega⟩
      rw [hk, nI_pred, Nat.add_sub_cancel]
      exact k_dv k (by omega) _ (by omega)
    rw [if_neg (nI_nle (by omega) (by omega)), e]
    exact ⟨_, _, run _ rfl, rfl⟩
theorem pa_eq {nC nB : Nat} {mi F : MemI} (h : k_CR 0 nC nB mi F) (hF : pa_F nC nB F) {B : MemI} (hB : B = f_X7_pt nC (f_X7_fc F nB) (f_X7_fc F nB) 0 (f_X7_paL (k_ui F (7, 0, 0) 49 (-1)) 6)) : (f_X2_partAll mi 0).1 = B (7, 0, 0) 49 ∧ k_CR 0 nC nB (f_X2_partAll mi 0).2 F ∧ (B (7, 0, 0) 49 = -1 ∨ ∃ a : Nat → Nat, (∀ b, b < nB → F (8, 17, 0) b = 0 → (f_X2_partAll mi 0).2 (0, 0, b) 10 = nI (a (f_X7_fc F b))) ∧ ∀ k, k < f_X7_fc F nB → B (8, 46, 0) k = nI (a k)) := by
  obtain ⟨fl, m, C, e⟩ := pa_all h hF
  have M := pa_pt hF (f_X7_fc F nB) 0 _ _ _ _ (Nat.zero_add _) (pa_m0 (cm := f_X7_fc F nB) (F := F) h.1.1) (fun _ _ => Nat.zero_le _)
  rw [← hB] at M
  rw [e]
  obtain ⟨R, -, -, -, c5, c6⟩ := C
  obtain ⟨-, -, -, m4, m5⟩ := M
  generalize pa_S (pa_op nC F) (pa_mn F) (pa_w F) nC (f_X7_fc F nB) 0 (fun _ => 0) (fun _ => 0) = Y at c5 c6 m4 m5
  rw [c5]
  cases Y with
  | none =>
    rw [show pa_v none = 1000 from rfl, if_pos (show nI 1000 = 1000 from rfl)]
    exact ⟨(m4 rfl).symm, R, Or.inl (m4 rfl)⟩
  | some ya =>
    obtain ⟨v, a⟩ := ya
    obtain ⟨v9, c7⟩ := c6 v a rfl
    obtain ⟨-, m6, m7⟩ := m5 v a rfl
    rw [show pa_v (some (v, a)) = v from rfl, if_neg (show ¬ nI v = 1000 from fun z => absurd ((nI_eq (b := 1000) (by omega) (by decide)).mp z) (by omega))]
    exact ⟨m6.symm, R, Or.inr ⟨a, c7, m7⟩⟩
theorem R_files {nC nB : Nat} {mi mj : MemI} {ml mlj : MemL} (h : k_R nC nB mi ml mj mlj) : k_R nC nB mi ml (f_X7_files mj nB) mlj :=
  R_ext h (fun _ _ _ => rfl) (fun kk qq hk => fw_X7_files hk) (s6_of (sM_ofZ (fun kk qq hk => fz_X7_files hk)))
theorem q_parting {nC nB : Nat} {mi mj : MemI} {ml mlj : MemL} (h : k_R nC nB mi ml mj mlj) (x : Int32) : k_Q nC nB (f_X6_parting mi x) ml (f_X7_parting mj x nC nB) mlj := by
  have hB := h.1.1.2
  have fr : ∀ n j, n ≠ 44 → f_X7_files mj nB (8, n, 0) j = mj (8, n, 0) j := fun n j hn => files_fr (k_keyne hn) (by simp)
  have fe : ∀ j, f_X7_fc (f_X7_files mj nB) j = f_X7_fc mj j := fc_eq (fun b => fr 17 b (by decide))
  obtain ⟨RF, hF⟩ := pa_FF h.1
  have hno : k_Q nC nB (f_X6_refuse mi 10 5) ml (f_X7_noTen (f_X7_files mj nB) (-5)) mlj := Q_noT (R_files h) 5 (by decide) (by decide)
  have cc := pa_ccm RF 6 (Nat.le_refl _)
  rw [show min 6 nB = nB by omega] at cc
  have cmB := fc_le (f_X7_files mj nB) nB
  unfold f_X6_parting f_X7_parting
  rw [cc, ← fe nB]
  have hR : ∀ X, X = f_X7_pt nC (f_X7_fc (f_X7_files mj nB) nB) (f_X7_fc (f_X7_files mj nB) nB) 0 (f_X7_paL (k_ui (f_X7_files mj nB) (7, 0, 0) 49 (-1)) 6) → k_R nC nB (f_X2_partAll mi 0).2 ml X mlj := fun X e => by
    have fz : ∀ kk qq, k_sc kk qq = false → X kk qq = mj kk qq := fun kk qq hk => by
      rw [e]
      refine (fz_X7_pt hk).trans ((fz_X7_paL hk).trans (Eq.trans ?_ (fz_X7_files (nB := nB) hk)))
      exact k_ufr (fun z => by rw [z.1, z.2] at hk; exact absurd hk (by decide))
    exact R_ext h (kp_tr (fun kk qq hk => ft_X2_partAll hk)) (mw_sc fz) (s6_of (sM_ofZ fz))
  have hE := fun X e => pa_eq RF hF (B := X) e
  generalize f_X7_pt nC (f_X7_fc (f_X7_files mj nB) nB) (f_X7_fc (f_X7_files mj nB) nB) 0 (f_X7_paL (k_ui (f_X7_files mj nB) (7, 0, 0) 49 (-1)) 6) = B at hR hE ⊢
  have R2 := hR B rfl
  obtain ⟨e1, e2, e3⟩ := hE B rfl
  generalize f_X2_partAll mi 0 = A at R2 e1 e2 e3 ⊢
  by_cases n1 : x = -1
  · subst n1
    rw [if_pos rfl, if_neg (show ¬ (-1 : Int32) < -1 by decide), if_pos (show (-1 : Int32) < nI (f_X7_fc (f_X7_files mj nB) nB) from Int32.lt_of_lt_of_le (show (-1 : Int32) < 0 by decide) (nI_pos' (by omega))), if_pos rfl]
    exact Q_mk e1 R2
  · rw [if_neg n1]
    by_cases x0 : x < 0
    · have xm : x < -1 := by
        have a := Int32.lt_iff_toInt_lt.mp x0
        rw [Int32.lt_iff_toInt_lt]
        have b : x.toInt ≠ (-1 : Int32).toInt := fun z => n1 (Int32.toInt_inj.mp z)
        have c1 : (0 : Int32).toInt = 0 := rfl
        have c2 : (-1 : Int32).toInt = -1 := rfl
        omega
      rw [if_pos x0, if_pos xm]
      exact hno
    · have xm : ¬ x < -1 := fun z => x0 (Int32.lt_trans z (by decide))
      rw [if_neg x0, if_neg xm]
      by_cases xc : x < nI (f_X7_fc (f_X7_files mj nB) nB)
      · rw [if_pos xc, if_pos xc, if_neg n1, e1]
        by_cases q : B (7, 0, 0) 49 = -1
        · rw [if_pos q, if_pos q]; exact Q_mk rfl R2
        · rw [if_neg q, if_neg q]
          rcases e3 with e3 | ⟨a, a1, a2⟩
          · exact absurd e3 q
          · obtain ⟨X, hX, rfl⟩ := nI_of x0
            have lt : X < f_X7_fc (f_X7_files mj nB) nB := (nI_ltI hX (by omega)).mp xc
            obtain ⟨b, b1, b2, b3, b4⟩ := pa_cat e2 6 0 X rfl (by rw [Nat.zero_min]; show 0 + X < _; omega)
            rw [Nat.zero_min] at b3
            have b3' : f_X7_fc (f_X7_files mj nB) b = X := b3.trans (Nat.zero_add X)
            unfold f_X2_comingAt
            rw [b4, if_pos (show b < 6 by omega)]
            refine Q_mk ?_ R2
            rw [a1 b b1 b2, b3', nI_clamp (by omega), a2 X lt]
      · rw [if_neg xc, if_neg xc]; exact hno
