/-! parting: the model's way -/
/-- what a way is made of -/
def pa_op (nC : Nat) (F : MemI) (c : Nat) : Bool := decide (c < nC) && decide (F (8, 12, 0) c = 0)
def pa_mn (F : MemI) (c : Nat) : Nat := if c < 6 then (F (8, 8, 0) c).toNatClampNeg else 0
def pa_w (F : MemI) (k : Nat) : Nat := (F (8, 13, 0) (F (8, 44, 0) k).toNatClampNeg).toNatClampNeg
/-- what is known of the city parted -/
def pa_F (nC nB : Nat) (F : MemI) : Prop := nC ≤ 6 ∧ nB ≤ 6 ∧ (∀ c, c < nC → (F (8, 12, 0) c = 0 ∨ F (8, 12, 0) c = 1) ∧ ∃ m : Nat, m ≤ 99 ∧ F (8, 8, 0) c = nI m) ∧ (∀ b, b < nB → ∃ m : Nat, m ≤ 9 ∧ F (8, 13, 0) b = nI m) ∧ ∀ b, b < nB → F (8, 17, 0) b = 0 → F (8, 44, 0) (f_X7_fc F b) = nI b
theorem pa_opO {nC : Nat} {F : MemI} : ∀ c, nC ≤ c → pa_op nC F c = false := fun c h => by unfold pa_op; rw [decide_eq_false (by omega)]; rfl
theorem pa_wk {nC nB b : Nat} {F : MemI} (h : pa_F nC nB F) (hb : b < nB) (hc : F (8, 17, 0) b = 0) : F (8, 13, 0) b = nI (pa_w F (f_X7_fc F b)) ∧ pa_w F (f_X7_fc F b) ≤ 9 := by
  obtain ⟨-, h6, -, h2, h3⟩ := h
  unfold pa_w
  obtain ⟨m, m9, em⟩ := h2 b hb
  rw [h3 b hb hc, nI_clamp (by omega), em, nI_clamp (by omega)]
  exact ⟨rfl, m9⟩
theorem pa_wk2 {nC nB k : Nat} {F : MemI} (h : pa_F nC nB F) (hk : k < f_X7_fc F nB) : F (8, 13, 0) (F (8, 44, 0) k).toNatClampNeg = nI (pa_w F k) ∧ pa_w F k ≤ 9 := by
  obtain ⟨b, h1, h2, h3⟩ := fc_sur nB hk
  have e := h.2.2.2.2 b h1 h2
  rw [h3] at e
  have := pa_wk h h1 h2
  rw [h3] at this
  have h6 := h.2.1
  rw [e, nI_clamp (by omega)]
  exact this
theorem pa_mk {nC nB c : Nat} {F : MemI} (h : pa_F nC nB F) (hc : c < nC) : F (8, 8, 0) c = nI (pa_mn F c) ∧ pa_mn F c ≤ 99 := by
  obtain ⟨h5, -, h1, -⟩ := h
  obtain ⟨-, m, m9, em⟩ := h1 c hc
  unfold pa_mn
  rw [if_pos (by omega), em, nI_clamp (by omega)]
  exact ⟨rfl, m9⟩
/-- the model on its way: so far L, G; the least so far y -/
def pa_M (nC cm : Nat) (F : MemI) (i : Nat) (L G : Nat → Nat) (y : Option (Nat × (Nat → Nat))) (m : MemI) : Prop :=
  (∀ n q, n ≠ 45 → n ≠ 46 → n ≠ 47 → m (8, n, 0) q = F (8, n, 0) q) ∧ (∀ c, c < nC → m (8, 47, 0) c = nI (L c)) ∧ (∀ k, k < i → m (8, 45, 0) k = nI (G k)) ∧
  (y = none → m (7, 0, 0) 49 = -1) ∧ ∀ v a, y = some (v, a) → v ≤ 99 ∧ m (7, 0, 0) 49 = nI v ∧ ∀ k, k < cm → m (8, 46, 0) k = nI (a k)
theorem pa_ptM {nC cm i : Nat} {F m : MemI} {L G : Nat → Nat} {y : Option (Nat × (Nat → Nat))} (h : pa_M nC cm F i L G y m) (hL : ∀ c, c < nC → L c ≤ 99) : ∀ n, n ≤ nC → f_X7_ptM m n = nI (pa_mx L n) ∧ pa_mx L n ≤ 99 := by
  intro n
  induction n with
  | zero => intro _; exact ⟨nI_0.symm, Nat.zero_le _⟩
  | succ n ih =>
    intro hn
    obtain ⟨i1, i2⟩ := ih (by omega)
    have l := hL n (by omega)
    rw [f_X7_ptM_s, h.2.1 n (by omega), i1]
    show _ = nI (max (pa_mx L n) (L n)) ∧ max (pa_mx L n) (L n) ≤ 99
    by_cases c : L n ≤ pa_mx L n
    · rw [if_pos ((nI_leI (by omega) (by omega)).mpr c), show max (pa_mx L n) (L n) = pa_mx L n by omega]; exact ⟨rfl, i2⟩
    · rw [if_neg (fun z => c ((nI_leI (by omega) (by omega)).mp z)), show max (pa_mx L n) (L n) = L n by omega]; exact ⟨rfl, l⟩
theorem ptG_at {m : MemI} {k : Nat} : ∀ j, k < j → f_X7_ptG m j (8, 46, 0) k = m (8, 45, 0) k := by
  intro j
  induction j with
  | zero => intro h; omega
  | succ j ih =>
    intro h
    rw [f_X7_ptG_s]
    by_cases e : k = j
    · subst e; rw [k_uis, ptG_fr (by decide)]
    · rw [k_uj e]; exact ih (by omega)
theorem pa_note {nC cm x : Nat} {F m : MemI} {L G : Nat → Nat} {y : Option (Nat × (Nat → Nat))} (h : pa_M nC cm F cm L G y m) (hx : x ≤ 99) : pa_M nC cm F cm L G (some (x, G)) (f_X7_ptG (k_ui m (7, 0, 0) 49 (nI x)) cm) := by
  obtain ⟨h1, h2, h3, h4, h5⟩ := h
  have fr : ∀ n q, n ≠ 46 → f_X7_ptG (k_ui m (7, 0, 0) 49 (nI x)) cm (8, n, 0) q = m (8, n, 0) q := fun n q hn => by rw [ptG_fr (k_keyne hn), k_uk (by simp)]
  refine ⟨fun n q a b c => (fr n q b).trans (h1 n q a b c), fun c hc => (fr 47 c (by decide)).trans (h2 c hc), fun k hk => (fr 45 k (by decide)).trans (h3 k hk), fun e => (by cases e), fun v a e => ?_⟩
  injection e with e; injection e with e1 e2; subst e1; subst e2
  refine ⟨hx, by rw [ptG_fr (by decide), k_uis], fun k hk => ?_⟩
  rw [ptG_at _ hk, k_uk (by decide)]; exact h3 k hk
theorem pa_leaf {nC cm i : Nat} {F m : MemI} {L G : Nat → Nat} {y : Option (Nat × (Nat → Nat))} (h : pa_M nC cm F cm L G y m) (hL : ∀ c, c < nC → L c ≤ 99) : pa_M nC cm F cm L G (pa_b2 y (some (pa_mx L nC, G))) (f_X7_ptE m i nC cm) := by
  obtain ⟨e1, e2⟩ := pa_ptM h hL nC (Nat.le_refl _)
  unfold f_X7_ptE
  rw [e1]
  cases y with
  | none =>
    rw [if_pos (h.2.2.2.1 rfl)]
    exact pa_note h e2
  | some ya =>
    obtain ⟨v, a⟩ := ya
    obtain ⟨v9, ev, -⟩ := h.2.2.2.2 v a rfl
    rw [ev, if_neg (k_nIne (by omega))]
    simp only [pa_b2]
    by_cases c : pa_mx L nC < v
    · rw [if_pos ((nI_ltI (by omega) (by omega)).mpr c), if_pos c]; exact pa_note h e2
    · rw [if_neg (fun z => c ((nI_ltI (by omega) (by omega)).mp z)), if_neg c]; exact h
theorem pa_pl {nC nB n i : Nat} {F : MemI} {Rn : MemI → MemI} (hF : pa_F nC nB F) (hi : i < f_X7_fc F nB) (L G : Nat → Nat) (hL : ∀ c, c < nC → L c ≤ 99)
    (hR : ∀ L G y m, pa_M nC (f_X7_fc F nB) F (i + 1) L G y m → (∀ c, c < nC → L c ≤ 99) → pa_M nC (f_X7_fc F nB) F (i + 1) L G (pa_b2 y (pa_S (pa_op nC F) (pa_mn F) (pa_w F) nC n (i + 1) L G)) (Rn m)) :
    ∀ u c y m, u + c = nC → pa_M nC (f_X7_fc F nB) F i L G y m → pa_M nC (f_X7_fc F nB) F i L G (pa_b2 y (pa_L (fun c => if pa_op nC F c = true ∧ L c + pa_w F i ≤ pa_mn F c then pa_S (pa_op nC F) (pa_mn F) (pa_w F) nC n (i + 1) (pa_up L c (L c + pa_w F i)) (pa_up G i c) else none) (u + (6 - nC)) c)) (f_X7_pl Rn i (nI (pa_w F i)) u c m) := by
  have hC6 := hF.1
  intro u
  induction u with
  | zero =>
    intro c y m hu h
    rw [pa_L_no _ c (fun k hk => if_neg (fun z => by rw [pa_opO k (by omega)] at z; exact absurd z.1 (by decide))), pa_b2n]
    exact h
  | succ u ih =>
    intro c y m hu h
    have hc : c < nC := by omega
    obtain ⟨w1, w9⟩ := pa_wk2 hF hi
    obtain ⟨mk1, mk2⟩ := pa_mk hF hc
    have l := hL c hc
    obtain ⟨h1, h2, h3, h4, h5⟩ := id h
    rw [f_X7_pl_s, h1 12 c (by decide) (by decide) (by decide), h2 c hc, nI_add, h1 8 c (by decide) (by decide) (by decide), mk1]
    rw [show u + 1 + (6 - nC) = (u + (6 - nC)) + 1 by omega]
    show pa_M nC (f_X7_fc F nB) F i L G (pa_b2 y (pa_b2 (if pa_op nC F c = true ∧ L c + pa_w F i ≤ pa_mn F c then pa_S (pa_op nC F) (pa_mn F) (pa_w F) nC n (i + 1) (pa_up L c (L c + pa_w F i)) (pa_up G i c) else none) (pa_L _ (u + (6 - nC)) (c + 1)))) _
    rw [← pa_as]
    rcases (hF.2.2.1 c hc).1 with o | o
    · have op : pa_op nC F c = true := by unfold pa_op; rw [decide_eq_true hc, decide_eq_true o]; rfl
      rw [if_neg (show ¬ F (8, 12, 0) c = 1 by rw [o]; decide)]
      by_cases q : L c + pa_w F i ≤ pa_mn F c
      · rw [if_pos ((nI_leI (by omega) (by omega)).mpr q), if_pos ⟨op, q⟩]
        have hL2 : ∀ c', c' < nC → pa_up L c (L c + pa_w F i) c' ≤ 99 := fun c' hc' => by
          by_cases e : c' = c
          · subst e; rw [pa_upS]; omega
          · rw [pa_upO e]; exact hL c' hc'
        have r := hR (pa_up L c (L c + pa_w F i)) (pa_up G i c) y (k_ui (k_ui m (8, 45, 0) i (nI c)) (8, 47, 0) c (nI (L c + pa_w F i))) ⟨fun n q a b d => by rw [k_uk (k_keyne d), k_uk (k_keyne a)]; exact h1 n q a b d, fun c' hc' => ?_, fun k hk => ?_, fun e => by rw [k_uk (by decide), k_uk (by decide)]; exact h4 e, fun v a e => ?_⟩ hL2
        · refine ih (c + 1) _ _ (by omega) ?_
          generalize Rn (k_ui (k_ui m (8, 45, 0) i (nI c)) (8, 47, 0) c (nI (L c + pa_w F i))) = m2 at r ⊢
          generalize pa_b2 y (pa_S (pa_op nC F) (pa_mn F) (pa_w F) nC n (i + 1) (pa_up L c (L c + pa_w F i)) (pa_up G i c)) = y2 at r ⊢
          obtain ⟨r1, r2, r3, r4, r5⟩ := r
          refine ⟨fun n q a b d => by rw [k_uk (k_keyne d)]; exact r1 n q a b d, fun c' hc' => ?_, fun k hk => ?_, fun e => by rw [k_uk (by decide)]; exact r4 e, fun v a e => ?_⟩
          · by_cases e : c' = c
            · subst e
              rw [k_uis, r2 c' hc', pa_upS, ← nI_add]; exact Int32.add_sub_cancel _ _
            · rw [k_uj e, r2 c' hc', pa_upO e]
          · rw [k_uk (by decide), r3 k (by omega), pa_upO (by omega)]
          · obtain ⟨a1, a2, a3⟩ := r5 v a e
            exact ⟨a1, by rw [k_uk (by decide)]; exact a2, fun k hk => by rw [k_uk (by decide)]; exact a3 k hk⟩
        · by_cases e : c' = c
          · subst e; rw [k_uis, pa_upS]
          · rw [k_uj e, k_uk (by decide), pa_upO e]; exact h2 c' hc'
        · rw [k_uk (by decide)]
          by_cases e : k = i
          · subst e; rw [k_uis, pa_upS]
          · rw [k_uj e, pa_upO e]; exact h3 k (by omega)
        · obtain ⟨a1, a2, a3⟩ := h5 v a e
          exact ⟨a1, by rw [k_uk (by decide), k_uk (by decide)]; exact a2, fun k hk => by rw [k_uk (by decide), k_uk (by decide)]; exact a3 k hk⟩
      · rw [if_neg (fun z => q ((nI_leI (by omega) (by omega)).mp z)), if_neg (fun z => q z.2), pa_b2n]
        exact ih (c + 1) _ _ (by omega) h
    · rw [if_pos o, if_neg (fun z => by have := z.1; unfold pa_op at this; rw [o] at this; simp at this), pa_b2n]
      exact ih (c + 1) _ _ (by omega) h
theorem pa_pt {nC nB : Nat} {F : MemI} (hF : pa_F nC nB F) : ∀ n i L G y m, i + n = f_X7_fc F nB → pa_M nC (f_X7_fc F nB) F i L G y m → (∀ c, c < nC → L c ≤ 99) → pa_M nC (f_X7_fc F nB) F i L G (pa_b2 y (pa_S (pa_op nC F) (pa_mn F) (pa_w F) nC n i L G)) (f_X7_pt nC (f_X7_fc F nB) n i m) := by
  intro n
  induction n with
  | zero =>
    intro i L G y m hi h hL
    have e : i = f_X7_fc F nB := by omega
    rw [e] at h ⊢
    exact pa_leaf h hL
  | succ n ih =>
    intro i L G y m hi h hL
    have hC6 := hF.1
    obtain ⟨w1, w9⟩ := pa_wk2 hF (k := i) (by omega)
    show pa_M nC (f_X7_fc F nB) F i L G _ (f_X7_pl (f_X7_pt nC (f_X7_fc F nB) n (i + 1)) i (m (8, 13, 0) ((m (8, 44, 0) i).toNatClampNeg)) nC 0 m)
    rw [h.1 44 i (by decide) (by decide) (by decide), h.1 13 _ (by decide) (by decide) (by decide), w1]
    have r := pa_pl (n := n) (Rn := f_X7_pt nC (f_X7_fc F nB) n (i + 1)) hF (i := i) (by omega) L G hL (fun L G y m h hL => ih (i + 1) L G y m (by omega) h hL) nC 0 y m (by omega) h
    rw [show nC + (6 - nC) = 6 by omega] at r
    exact r
