/-! level 2: the whole relation of the class's memory and the model's -/
def k_nums (mi : MemI) : Prop := ∀ g, g < 3 → ∀ i, i < 6 → mi (1, g, i) 0 = nI i ∧ mi (0, g, i) 0 = nI i
/-- a shelf -/
def k_sh (nC s : Nat) (mi mj : MemI) : Prop := (∃ len : Nat, len ≤ 160 ∧ mj (8, 20, 0) s = nI len) ∧
  ((mi (5, 0, s) 1 = mj (8, 19, 0) s ∧ k_bt 3 (mj (8, 19, 0) s) ∧ mi (5, 0, s) 3 = -1 ∧ mi (5, 0, s) 2 = mj (8, 20, 0) s ∧ mj (8, 18, 0) s = 1) ∨
   (mi (5, 0, s) 1 = -1 ∧ mi (5, 0, s) 3 = -1 ∧ mi (5, 0, s) 2 = 0 ∧ mj (8, 18, 0) s = 0) ∨
   (mi (5, 0, s) 1 = -1 ∧ mi (5, 0, s) 2 = 0 ∧ mi (5, 0, s) 3 = mj (8, 21, 0) s ∧ vp_in (mj (8, 21, 0) s) nC ∧ mj (8, 18, 0) s = 2))
/-- the image -/
def k_im (mi mj : MemI) : Prop := (mi (6, 0, 0) 3 = 0 ∧ mj (7, 0, 0) 52 = 0) ∨ (mi (6, 0, 0) 3 = 1 ∧ mj (7, 0, 0) 52 = 1 ∧ ∃ a b mk, k_CR 2 a b mi mk ∧ k_sv 34 mk mj)
/-- the trace -/
def k_tc (mi mj : MemI) : Prop := ∃ r : Nat, r ≤ 300 ∧ mi (3, 0, 0) 1 = nI r ∧ mj (7, 0, 0) 51 = nI r ∧ ∀ i, i < 20 → i < r → mi (8, 102, 0) i = mj (8, 50, 0) i
/-- the tables -/
def k_tb (mj : MemI) : Prop := k_wok mj ∧ k_nok mj ∧ mj (8, 26, 0) 0 = 6 ∧ mj (8, 26, 0) 1 = 9 ∧ mj (8, 26, 0) 2 = 99 ∧ mj (8, 26, 0) 3 = 20
def k_R (nC nB : Nat) (mi : MemI) (ml : MemL) (mj : MemI) (mlj : MemL) : Prop :=
  k_CR 0 nC nB mi mj ∧ k_nums mi ∧ (∀ i, i < 6 → (mi (1, 2, i) 2 = 0 ∨ mi (1, 2, i) 2 = 1) ∧ (mi (1, 2, i) 1 = 0 ∨ mi (1, 2, i) 1 = 1) ∧ (mi (0, 2, i) 1 = 0 ∨ mi (0, 2, i) 1 = 1) ∧ (mi (0, 2, i) 2 = 0 ∨ mi (0, 2, i) 2 = 1)) ∧ k_im mi mj ∧ (∀ j, 1 ≤ j → j < 8 → mi (8, 100, 0) j = mj (8, 5, 0) j) ∧ mi (4, 0, 0) 3 = mj (7, 0, 0) 4 ∧ k_tc mi mj ∧ (∀ s, s < 8 → k_sh nC s mi mj) ∧
  (∀ s, s < 8 → ∀ i, i < 160 → ml (9, 0, s) i = mlj (9, 1, 0) (160 * s + i)) ∧ k_tb mj
/-- what stays of the class -/
def k_kp (k : Ky) (q : Nat) : Bool := (!k_tr k q && !k_gr 1 k && !(k.1 == 4 && decide (q < 3)) && !(k.1 == 8 && k.2.1 == 101)) || (decide (k.1 ≤ 1) && q == 0)
/-- what the model's city and scratch are -/
def k_mw (k : Ky) (q : Nat) : Bool := k_sc k q || (k.1 == 7 && decide (q ≤ 3)) || (k.1 == 8 && decide (6 ≤ k.2.1) && decide (k.2.1 ≤ 17))
theorem kp_C {g : Nat} {mi m : MemI} (hg : g ≠ 1) (h : ∀ kk qq, k_kp kk qq = true → m kk qq = mi kk qq) : k_sC g mi m :=
  ⟨fun i q hq => h _ _ (by simp [k_kp, k_tr, k_gr]; omega), fun i q hq => h _ _ (by simp [k_kp, k_tr, k_gr]; omega), fun q hq => h _ _ (by simp [k_kp, k_tr, k_gr]; omega)⟩
theorem R_ext {nC nB : Nat} {mi mj m m' : MemI} {ml mlj : MemL} (h : k_R nC nB mi ml mj mlj) (h1 : ∀ kk qq, k_kp kk qq = true → m kk qq = mi kk qq) (h2 : ∀ kk qq, k_mw kk qq = false → m' kk qq = mj kk qq) (h3 : k_s6 mj m') : k_R nC nB m ml m' mlj := by
  obtain ⟨a1, a2, a2b, a3, a4, a5, a6, a7, a8, a9⟩ := h
  have k8 : ∀ n j, (n ≤ 5 ∨ (18 ≤ n ∧ n ≤ 26) ∨ n = 34 ∨ n = 50) → m' (8, n, 0) j = mj (8, n, 0) j := fun n j hn => h2 _ _ (by
    rcases hn with q | q | q | q
    · simp [k_mw, k_sc]; omega
    · simp [k_mw, k_sc]; omega
    · subst q; rfl
    · subst q; rfl)
  have k7 : ∀ q, (q = 4 ∨ q = 51 ∨ q = 52) → m' (7, 0, 0) q = mj (7, 0, 0) q := fun q hq => h2 _ _ (by rcases hq with rfl | rfl | rfl <;> rfl)
  have c5 : ∀ s q, m (5, 0, s) q = mi (5, 0, s) q := fun s q => h1 _ _ (by simp [k_kp, k_tr, k_gr])
  refine ⟨CR_ext6 a1 (kp_C (by decide) h1) h3, fun g hg i hi => ?_, fun i hi => ?_, ?_, fun j hj1 hj8 => ?_, ?_, ?_, fun s hs => ?_, a8, ?_⟩
  · rw [h1 (1, g, i) 0 (by simp [k_kp]), h1 (0, g, i) 0 (by simp [k_kp])]; exact a2 g hg i hi
  · have hc := kp_C (g := 2) (by decide) h1
    rw [hc.1 i 1 (by decide), hc.1 i 2 (by decide), hc.2.1 i 1 (by decide), hc.2.1 i 2 (by decide)]; exact a2b i hi
  · rcases a3 with ⟨b1, b2⟩ | ⟨b1, b2, x, y, mk, b3, b4⟩
    · left; rw [h1 (6, 0, 0) 3 rfl, k7 52 (by simp)]; exact ⟨b1, b2⟩
    · right
      refine ⟨(h1 (6, 0, 0) 3 rfl).trans b1, (k7 52 (by simp)).trans b2, x, y, mk, CR_ext6 b3 (kp_C (by decide) h1) s6_rf, fun n i hn hi => ?_, fun q hq => ?_⟩
      · rw [k8 34 _ (by simp)]; exact b4.1 n i hn hi
      · rw [k8 34 _ (by simp)]; exact b4.2 q hq
  · rw [h1 (8, 100, 0) j (by simp [k_kp, k_tr, k_gr]), k8 5 j (by simp)]; exact a4 j hj1 hj8
  · rw [h1 (4, 0, 0) 3 rfl, k7 4 (by simp)]; exact a5
  · obtain ⟨r, b1, b2, b3, b4⟩ := a6
    refine ⟨r, b1, (h1 (3, 0, 0) 1 rfl).trans b2, (k7 51 (by simp)).trans b3, fun i hi hr => ?_⟩
    rw [h1 (8, 102, 0) i (by simp [k_kp, k_tr, k_gr]), k8 50 i (by simp)]; exact b4 i hi hr
  · have hs7 := a7 s hs
    unfold k_sh at hs7 ⊢
    rw [c5, c5, c5, k8 18 s (by simp), k8 19 s (by simp), k8 20 s (by simp), k8 21 s (by simp)]
    exact hs7
  · obtain ⟨t1, t2, t3, t4, t5, t6⟩ := a9
    refine ⟨fun j hj => (k8 24 j (by simp)).trans (t1 j hj), fun j hj => (k8 25 j (by simp)).trans (t2 j hj), ?_, ?_, ?_, ?_⟩
    · rw [k8 26 _ (by simp)]; exact t3
    · rw [k8 26 _ (by simp)]; exact t4
    · rw [k8 26 _ (by simp)]; exact t5
    · rw [k8 26 _ (by simp)]; exact t6
/-! the parts of the relation, each by what it reads -/
theorem im_ext {mi mj m m' : MemI} (h : k_im mi mj) (h1 : m (6, 0, 0) 3 = mi (6, 0, 0) 3) (h2 : k_sC 2 mi m) (h3 : m' (7, 0, 0) 52 = mj (7, 0, 0) 52) (h4 : ∀ p, m' (8, 34, 0) p = mj (8, 34, 0) p) : k_im m m' := by
  rcases h with ⟨b1, b2⟩ | ⟨b1, b2, x, y, mk, b3, b4⟩
  · left; rw [h1, h3]; exact ⟨b1, b2⟩
  · right
    exact ⟨h1.trans b1, h3.trans b2, x, y, mk, CR_ext b3 h2 sM_rf, fun n i hn hi => (h4 _).trans (b4.1 n i hn hi), fun q hq => (h4 _).trans (b4.2 q hq)⟩
theorem tc_ext {mi mj m m' : MemI} (h : k_tc mi mj) (h1 : m (3, 0, 0) 1 = mi (3, 0, 0) 1) (h2 : ∀ i, m (8, 102, 0) i = mi (8, 102, 0) i) (h3 : m' (7, 0, 0) 51 = mj (7, 0, 0) 51) (h4 : ∀ i, m' (8, 50, 0) i = mj (8, 50, 0) i) : k_tc m m' := by
  obtain ⟨r, b1, b2, b3, b4⟩ := h
  exact ⟨r, b1, h1.trans b2, h3.trans b3, fun i hi hr => by rw [h2, h4]; exact b4 i hi hr⟩
theorem sh_ext {nC nC' s : Nat} {mi mj m m' : MemI} (h : k_sh nC s mi mj) (hC : nC ≤ nC') (h1 : ∀ q, m (5, 0, s) q = mi (5, 0, s) q) (h2 : m' (8, 18, 0) s = mj (8, 18, 0) s) (h3 : m' (8, 19, 0) s = mj (8, 19, 0) s) (h4 : m' (8, 20, 0) s = mj (8, 20, 0) s) (h5 : m' (8, 21, 0) s = mj (8, 21, 0) s) : k_sh nC' s m m' := by
  unfold k_sh at h ⊢
  rw [h1, h1, h1, h2, h3, h4, h5]
  refine ⟨h.1, h.2.imp id (fun z => z.imp id (fun w => ⟨w.1, w.2.1, w.2.2.1, vp_mono w.2.2.2.1 hC, w.2.2.2.2⟩))⟩
theorem tb_ext {mj m' : MemI} (h : k_tb mj) (h1 : ∀ n j, 24 ≤ n → n ≤ 26 → m' (8, n, 0) j = mj (8, n, 0) j) : k_tb m' := by
  obtain ⟨t1, t2, t3, t4, t5, t6⟩ := h
  exact ⟨fun j hj => (h1 24 j (by decide) (by decide)).trans (t1 j hj), fun j hj => (h1 25 j (by decide) (by decide)).trans (t2 j hj), (h1 26 _ (by decide) (by decide)).trans t3, (h1 26 _ (by decide) (by decide)).trans t4, (h1 26 _ (by decide) (by decide)).trans t5, (h1 26 _ (by decide) (by decide)).trans t6⟩
theorem nums_ext {mi m : MemI} (h : k_nums mi) (h1 : ∀ g i, m (1, g, i) 0 = mi (1, g, i) 0) (h2 : ∀ g i, m (0, g, i) 0 = mi (0, g, i) 0) : k_nums m := fun g hg i hi => by rw [h1, h2]; exact h g hg i hi
/-- both sides count a refusal -/
theorem R_bump {nC nB w : Nat} {mi mj : MemI} {ml mlj : MemL} (h : k_R nC nB mi ml mj mlj) (hw : 1 ≤ w) (h8 : w < 8) : k_R nC nB (k_ui mi (8, 100, 0) w (mi (8, 100, 0) w + 1)) ml (k_ui mj (8, 5, 0) w (mj (8, 5, 0) w + 1)) mlj := by
  obtain ⟨a1, a2, a2b, a3, a4, a5, a6, a7, a8, a9⟩ := h
  have c1 : ∀ g i q, k_ui mi (8, 100, 0) w (mi (8, 100, 0) w + 1) (1, g, i) q = mi (1, g, i) q := fun g i q => k_uk (by simp)
  have c0 : ∀ g i q, k_ui mi (8, 100, 0) w (mi (8, 100, 0) w + 1) (0, g, i) q = mi (0, g, i) q := fun g i q => k_uk (by simp)
  have c2 : ∀ g q, k_ui mi (8, 100, 0) w (mi (8, 100, 0) w + 1) (2, g, 0) q = mi (2, g, 0) q := fun g q => k_uk (by simp)
  have hsC : ∀ g, k_sC g mi (k_ui mi (8, 100, 0) w (mi (8, 100, 0) w + 1)) := fun g => ⟨fun i q _ => c1 g i q, fun i q _ => c0 g i q, fun q _ => c2 g q⟩
  have d8 : ∀ n j, n ≠ 5 → k_ui mj (8, 5, 0) w (mj (8, 5, 0) w + 1) (8, n, 0) j = mj (8, n, 0) j := fun n j hn => k_uk (by simpa using hn)
  have d7 : ∀ q, k_ui mj (8, 5, 0) w (mj (8, 5, 0) w + 1) (7, 0, 0) q = mj (7, 0, 0) q := fun q => k_uk (by decide)
  refine ⟨CR_ext a1 (hsC 0) ⟨fun n j h1 h2 => d8 n j (by omega), fun q _ => d7 q⟩, nums_ext a2 (fun g i => c1 g i 0) (fun g i => c0 g i 0), fun i hi => ?_, im_ext a3 (k_uk (by decide)) (hsC 2) (d7 52) (fun p => d8 34 p (by decide)), fun j h1 h2 => ?_, ?_, tc_ext a6 (k_uk (by decide)) (fun i => k_uk (by decide)) (d7 51) (fun i => d8 50 i (by decide)), fun s hs => sh_ext (a7 s hs) (Nat.le_refl _) (fun q => k_uk (by simp)) (d8 18 s (by decide)) (d8 19 s (by decide)) (d8 20 s (by decide)) (d8 21 s (by decide)), a8, tb_ext a9 (fun n j h1 h2 => d8 n j (by omega))⟩
  · rw [c1, c1, c0, c0]; exact a2b i hi
  · by_cases e : j = w
    · subst e; rw [k_uis, k_uis, a4 j h1 h2]
    · rw [k_uj e, k_uj e]; exact a4 j h1 h2
  · rw [d7, k_uk (by decide)]; exact a5
/-- the refusals, by their numbers: the class's answer at base 0, 10, 100 and the model's -/
theorem ref_C {mi : MemI} {b : Int32} {w : Nat} (h8 : w < 8) : f_X6_refuse mi b (nI w) = (-b - nI w, k_ui mi (8, 100, 0) w (mi (8, 100, 0) w + 1)) := by
  unfold f_X6_refuse
  rw [if_neg (nI_pos (by omega)), if_neg (show ¬ (8 : Int32) ≤ nI w from nI_ge (b := 8) h8 (by decide)), nI_clamp (by omega)]
theorem no_M {mj : MemI} {w : Nat} (h8 : w < 8) : f_X7_no mj (-(nI w)) = (-(nI w), k_ui mj (8, 5, 0) w (mj (8, 5, 0) w + 1)) := by
  unfold f_X7_no
  rw [Int32.neg_neg, nI_clamp (by omega)]
theorem noT_M {mj : MemI} {w : Nat} (h8 : w < 8) : f_X7_noTen mj (-(nI w)) = (-(nI w) - 10, k_ui mj (8, 5, 0) w (mj (8, 5, 0) w + 1)) := by
  unfold f_X7_noTen
  rw [Int32.neg_neg, nI_clamp (by omega)]
/-- what a call leaves: the same answer, the relation -/
def k_Q (nC nB : Nat) (X : Int32 × MemI) (ml : MemL) (Y : Int32 × MemI) (mlj : MemL) : Prop := X.1 = Y.1 ∧ k_R nC nB X.2 ml Y.2 mlj
theorem Q_no {nC nB : Nat} {mi mj : MemI} {ml mlj : MemL} (h : k_R nC nB mi ml mj mlj) (w : Nat) (hw : 1 ≤ w) (h8 : w < 8) : k_Q nC nB (f_X6_refuse mi 0 (nI w)) ml (f_X7_no mj (-(nI w))) mlj := by
  rw [ref_C h8, no_M h8]
  exact ⟨by show -(0 : Int32) - nI w = -(nI w); rw [show -(0 : Int32) = 0 by decide, Int32.zero_sub], R_bump h hw h8⟩
theorem Q_noT {nC nB : Nat} {mi mj : MemI} {ml mlj : MemL} (h : k_R nC nB mi ml mj mlj) (w : Nat) (hw : 1 ≤ w) (h8 : w < 8) : k_Q nC nB (f_X6_refuse mi 10 (nI w)) ml (f_X7_noTen mj (-(nI w))) mlj := by
  rw [ref_C h8, noT_M h8]
  refine ⟨?_, R_bump h hw h8⟩
  show -(10 : Int32) - nI w = -(nI w) - 10
  rw [Int32.sub_eq_add_neg, Int32.sub_eq_add_neg, Int32.add_comm]
theorem Q_noH {nC nB : Nat} {mi mj : MemI} {ml mlj : MemL} (h : k_R nC nB mi ml mj mlj) (w : Nat) (hw : 1 ≤ w) (h8 : w < 8) : k_Q nC nB (f_X6_refuse mi 100 (nI w)) ml ((f_X7_no mj (-(nI w))).1 - 100, (f_X7_no mj (-(nI w))).2) mlj := by
  rw [ref_C h8, no_M h8]
  refine ⟨?_, R_bump h hw h8⟩
  show -(100 : Int32) - nI w = -(nI w) - 100
  rw [Int32.sub_eq_add_neg, Int32.sub_eq_add_neg, Int32.add_comm]
