/-! parting: the class's way -/
def pa_v : Option (Nat × (Nat → Nat)) → Nat
  | none => 1000
  | some a => a.1
def pa_C (nC nB : Nat) (F : MemI) (fl i : Nat) (L G : Nat → Nat) (y : Option (Nat × (Nat → Nat))) (m : MemI) : Prop :=
  k_CR 0 nC nB m F ∧ (∀ c, c < nC → m (1, 0, c) 14 = nI (L c)) ∧ (∀ b, b < nB → F (8, 17, 0) b = 0 → f_X7_fc F b < i → m (0, 0, b) 9 = nI (G (f_X7_fc F b))) ∧ m (2, 0, 0) 7 = nI fl ∧
  m (2, 0, 0) 6 = nI (pa_v y) ∧ ∀ v a, y = some (v, a) → v ≤ 99 ∧ ∀ b, b < nB → F (8, 17, 0) b = 0 → m (0, 0, b) 10 = nI (a (f_X7_fc F b))
theorem pa_vle {nC nB fl i : Nat} {F m : MemI} {L G : Nat → Nat} {y : Option (Nat × (Nat → Nat))} (h : pa_C nC nB F fl i L G y m) : pa_v y ≤ 1000 := by
  cases y with
  | none => exact Nat.le_refl _
  | some ya => have := (h.2.2.2.2.2 ya.1 ya.2 rfl).1; show ya.1 ≤ 1000; omega
theorem k_mxI {a b : Nat} (ha : a < 2 ^ 31) (hb : b < 2 ^ 31) : k_mx (nI a) (nI b) = nI (max a b) := by
  unfold k_mx
  by_cases c : a < b
  · rw [if_pos ((nI_ltI ha hb).mpr c), show max a b = b by omega]
  · rw [if_neg (fun z => c ((nI_ltI ha hb).mp z)), show max a b = a by omega]
theorem np_fr {m : MemI} {kk : Ky} {q : Nat} (h : ¬ (kk.1 = 0 ∧ q = 10)) : ∀ j, f_X2_np m 0 j kk q = m kk q := by
  intro j
  induction j with
  | zero => rfl
  | succ j ih => rw [f_X2_np_s, k_ufr (fun z => h ⟨by rw [z.1], z.2⟩)]; exact ih
theorem np_at {m : MemI} {b : Nat} : ∀ j, b < j → f_X2_np m 0 j (0, 0, b) 10 = m (0, 0, b) 9 := by
  intro j
  induction j with
  | zero => intro h; omega
  | succ j ih =>
    intro h
    rw [f_X2_np_s]
    by_cases e : b = j
    · subst e; rw [k_uis, np_fr (by simp)]
    · rw [k_uk (show ((0, 0, b) : Ky) ≠ (0, 0, j) by simp [e])]; exact ih (by omega)
theorem pa_np {nC nB fl x : Nat} {F m : MemI} {L G : Nat → Nat} {y : Option (Nat × (Nat → Nat))} (h : pa_C nC nB F fl (f_X7_fc F nB) L G y m) (hx : x ≤ 99) (hlt : x < pa_v y) : pa_C nC nB F fl (f_X7_fc F nB) L G (pa_b2 y (some (x, G))) (f_X2_notePart m 0 (nI x)) := by
  have e : pa_b2 y (some (x, G)) = some (x, G) := by
    cases y with
    | none => rfl
    | some ya => simp only [pa_b2]; rw [if_pos (show x < ya.1 from hlt)]
  rw [e]
  obtain ⟨R, h2, h3, h4, h5, h6⟩ := h
  have hB := R.1.2
  unfold f_X2_notePart
  refine ⟨CR_ext R ⟨fun i q hq => ?_, fun i q hq => ?_, fun q hq => ?_⟩ ⟨fun _ _ _ _ => rfl, fun _ _ => rfl⟩, fun c hc => ?_, fun b hb hc hi => ?_, ?_, ?_, fun v a e => ?_⟩
  · rw [np_fr (by simp), k_uk (by simp)]
  · rw [np_fr (fun z => by have := z.2; omega), k_uk (by simp)]
  · rw [np_fr (by simp), k_uj (by omega)]
  · rw [np_fr (by simp), k_uk (by simp)]; exact h2 c hc
  · rw [np_fr (by simp), k_uk (by simp)]; exact h3 b hb hc hi
  · rw [np_fr (by simp), k_uj (by decide)]; exact h4
  · rw [np_fr (by simp), k_uis]; rfl
  · injection e with e; injection e with e1 e2; subst e1; subst e2
    refine ⟨hx, fun b hb hc => ?_⟩
    rw [np_at 6 (by omega), k_uk (by simp)]; exact h3 b hb hc (fc_lt hc hb)
theorem pa_vb {x : Nat} {y z : Option (Nat × (Nat → Nat))} (hx : x < 1000) (hy : pa_v y ≤ x) (hz : pa_ge x z) : pa_b2 y z = y := by
  cases y with
  | none => exact absurd hy (by show ¬ 1000 ≤ x; omega)
  | some ya => exact pa_skip (a := ya.2) (v := ya.1) (fun v a e => Nat.le_trans hy (hz v a e))
theorem pa_te {nC nB n j fl T : Nat} {F : MemI} {Rn : MemI → Int32 → MemI} (hF : pa_F nC nB F) (hj : j < nB) (hz : F (8, 17, 0) j = 0) (L G : Nat → Nat) (hL : ∀ c, c < nC → L c ≤ 99)
    (hcl : ∀ c, c < nC → pa_op nC F c = false → L c = 0) (hT : pa_su L nC + pa_sw (pa_w F) (f_X7_fc F j) (n + 1) = T) (hfl : fl = pa_fl T (pa_co (pa_op nC F) nC)) (hf9 : fl < 1000) (hmx : pa_mx L nC ≤ 99)
    (hR : ∀ L G y m, pa_C nC nB F fl (f_X7_fc F j + 1) L G y m → (∀ c, c < nC → L c ≤ 99) → pa_mx L nC ≤ 99 → (∀ c, c < nC → pa_op nC F c = false → L c = 0) → pa_su L nC + pa_sw (pa_w F) (f_X7_fc F j + 1) n = T → pa_mx L nC < pa_v y → pa_C nC nB F fl (f_X7_fc F j + 1) L G (pa_b2 y (pa_S (pa_op nC F) (pa_mn F) (pa_w F) nC n (f_X7_fc F j + 1) L G)) (Rn m (nI (pa_mx L nC)))) :
    ∀ u c y m, u + c = 6 → pa_C nC nB F fl (f_X7_fc F j) L G y m → pa_C nC nB F fl (f_X7_fc F j) L G (pa_b2 y (pa_L (fun c => if pa_op nC F c = true ∧ L c + pa_w F (f_X7_fc F j) ≤ pa_mn F c then pa_S (pa_op nC F) (pa_mn F) (pa_w F) nC n (f_X7_fc F j + 1) (pa_up L c (L c + pa_w F (f_X7_fc F j))) (pa_up G (f_X7_fc F j) c) else none) u c)) (f_X2_te Rn 0 j (nI (pa_mx L nC)) u c m) := by
  have hC6 := hF.1
  have hB6 := hF.2.1
  obtain ⟨w1, w9⟩ := pa_wk hF hj hz
  -- nothing of the node is under the floor
  have hfloor : ∀ c, pa_ge fl ((fun c => if pa_op nC F c = true ∧ L c + pa_w F (f_X7_fc F j) ≤ pa_mn F c then pa_S (pa_op nC F) (pa_mn F) (pa_w F) nC n (f_X7_fc F j + 1) (pa_up L c (L c + pa_w F (f_X7_fc F j))) (pa_up G (f_X7_fc F j) c) else none) c) := by
    intro c v a e
    dsimp only at e
    split at e
    · rename_i hh
      have hc : c < nC := by
        rcases Nat.lt_or_ge c nC with q | q
        · exact q
        · rw [pa_opO c q] at hh; exact absurd hh.1 (by decide)
      have := pa_S_su pa_opO n (f_X7_fc F j + 1) _ _ (fun k hk hko => by
        rw [pa_upO (fun q => by rw [q, hh.1] at hko; exact absurd hko (by decide))]; exact hcl k hk hko) v a e
      rw [pa_su_up nC hc] at this
      rw [hfl]
      refine pa_fl_le ?_
      have hT2 : pa_su L nC + (pa_w F (f_X7_fc F j) + pa_sw (pa_w F) (f_X7_fc F j + 1) n) = T := hT
      omega
    · cases e
  intro u
  induction u with
  | zero => intro c y m hu h; rw [show pa_L _ 0 c = none from rfl, pa_b2n]; exact h
  | succ u ih =>
    intro c y m hu h
    obtain ⟨R, h2, h3, h4, h5, h6⟩ := id h
    have op := open_iff R
    have hv := pa_vle h
    rw [f_X2_te_s]
    show pa_C nC nB F fl (f_X7_fc F j) L G (pa_b2 y (pa_b2 (if pa_op nC F c = true ∧ L c + pa_w F (f_X7_fc F j) ≤ pa_mn F c then pa_S (pa_op nC F) (pa_mn F) (pa_w F) nC n (f_X7_fc F j + 1) (pa_up L c (L c + pa_w F (f_X7_fc F j))) (pa_up G (f_X7_fc F j) c) else none) (pa_L _ u (c + 1)))) _
    rw [← pa_as]
    by_cases hc : c < nC
    · by_cases o : F (8, 12, 0) c = 0
      · have opc : pa_op nC F c = true := by unfold pa_op; rw [decide_eq_true hc, decide_eq_true o]; rfl
        rw [if_neg (fun z => ((op.2.1 c hc).mp z) o)]
        obtain ⟨mk1, mk2⟩ := pa_mk hF hc
        have l := hL c hc
        have e5 : m (1, 0, c) 5 = nI (pa_mn F c) := (((R.2.2.2.2.1 c hc).1).2.2.2.2.1).trans mk1
        have e3 : m (0, 0, j) 3 = nI (pa_w F (f_X7_fc F j)) := (((R.2.2.2.2.2.2.1 j hj).1).2.2.1).trans w1
        have e0 : m (1, 0, c) 0 = nI c := (R.2.2.2.1 c (by omega)).1
        rw [e5, e3, h2 c hc, nI_add]
        by_cases q : L c + pa_w F (f_X7_fc F j) ≤ pa_mn F c
        · rw [if_neg (fun z => absurd ((nI_ltI (by omega) (by omega)).mp z) (by omega)), if_pos ⟨opc, q⟩, k_mxI (by omega) (by omega), h5, k_uj (by decide), e0]
          have mxe := pa_mx_up (L := L) (c := c) (x := L c + pa_w F (f_X7_fc F j)) (by omega) nC hc
          by_cases p : max (pa_mx L nC) (L c + pa_w F (f_X7_fc F j)) < pa_v y
          · rw [if_pos ((nI_ltI (by omega) (by omega)).mpr p)]
            have hL2 : ∀ c', c' < nC → pa_up L c (L c + pa_w F (f_X7_fc F j)) c' ≤ 99 := fun c' hc' => by
              by_cases e : c' = c
              · subst e; rw [pa_upS]; omega
              · rw [pa_upO e]; exact hL c' hc'
            have hT2 : pa_su L nC + (pa_w F (f_X7_fc F j) + pa_sw (pa_w F) (f_X7_fc F j + 1) n) = T := hT
            have r := hR (pa_up L c (L c + pa_w F (f_X7_fc F j))) (pa_up G (f_X7_fc F j) c) y (k_ui (k_ui m (1, 0, c) 14 (nI (L c + pa_w F (f_X7_fc F j)))) (0, 0, j) 9 (nI c)) ⟨CR_ext R ⟨fun i q hq => by rw [k_uk (by simp), k_ufr (fun z => by have := z.2; omega)], fun i q hq => by rw [k_ufr (fun z => by have := z.2; omega), k_uk (by simp)], fun q hq => by rw [k_uk (by simp), k_uk (by simp)]⟩ ⟨fun _ _ _ _ => rfl, fun _ _ => rfl⟩, fun c' hc' => ?_, fun b hb hbc hi => ?_, by rw [k_uk (by simp), k_uk (by simp)]; exact h4, by rw [k_uk (by simp), k_uk (by simp)]; exact h5, fun v a e => ?_⟩ hL2 (by rw [mxe]; omega) (fun k hk hko => by
              rw [pa_upO (fun q => by rw [q, opc] at hko; exact absurd hko (by decide))]; exact hcl k hk hko) (by rw [pa_su_up nC hc]; omega) (by rw [mxe]; exact p)
            · rw [mxe] at r
              generalize Rn (k_ui (k_ui m (1, 0, c) 14 (nI (L c + pa_w F (f_X7_fc F j)))) (0, 0, j) 9 (nI c)) (nI (max (pa_mx L nC) (L c + pa_w F (f_X7_fc F j)))) = m2 at r ⊢
              generalize pa_b2 y (pa_S (pa_op nC F) (pa_mn F) (pa_w F) nC n (f_X7_fc F j + 1) (pa_up L c (L c + pa_w F (f_X7_fc F j))) (pa_up G (f_X7_fc F j) c)) = y2 at r ⊢
              have hv2 := pa_vle r
              obtain ⟨R', r2, r3, r4, r5, r6⟩ := r
              have e3' : m2 (0, 0, j) 3 = nI (pa_w F (f_X7_fc F j)) := (((R'.2.2.2.2.2.2.1 j hj).1).2.2.1).trans w1
              have back : pa_C nC nB F fl (f_X7_fc F j) L G y2 (k_ui m2 (1, 0, c) 14 (nI (L c + pa_w F (f_X7_fc F j)) - m2 (0, 0, j) 3)) := by
                refine ⟨CR_ext R' ⟨fun i q hq => by rw [k_ufr (fun z => by have := z.2; omega)], fun i q hq => by rw [k_uk (by simp)], fun q hq => by rw [k_uk (by simp)]⟩ ⟨fun _ _ _ _ => rfl, fun _ _ => rfl⟩, fun c' hc' => ?_, fun b hb hbc hi => ?_, by rw [k_uk (by simp)]; exact r4, by rw [k_uk (by simp)]; exact r5, fun v a e => ⟨(r6 v a e).1, fun b hb hbc => by rw [k_uk (by simp)]; exact (r6 v a e).2 b hb hbc⟩⟩
                · by_cases e : c' = c
                  · subst e; rw [k_uis, e3', ← nI_add]; exact Int32.add_sub_cancel _ _
                  · rw [k_uk (show ((1, 0, c') : Ky) ≠ (1, 0, c) by simp [e]), r2 c' hc', pa_upO e]
                · rw [k_uk (by simp), r3 b hb hbc (by omega), pa_upO (by omega)]
              have b4 := back.2.2.2.1
              have b5 := back.2.2.2.2.1
              generalize k_ui m2 (1, 0, c) 14 (nI (L c + pa_w F (f_X7_fc F j)) - m2 (0, 0, j) 3) = m3 at back b4 b5 ⊢
              rw [b4, b5]
              by_cases s : fl < pa_v y2
              · rw [if_pos ((nI_ltI (by omega) (by omega)).mpr s)]
                exact ih (c + 1) _ _ (by omega) back
              · rw [if_neg (fun z => s ((nI_ltI (by omega) (by omega)).mp z)), pa_vb hf9 (by omega) (pa_L_ge hfloor u (c + 1))]
                exact back
            · by_cases e : c' = c
              · subst e; rw [k_uk (show ((1, 0, c') : Ky) ≠ (0, 0, j) by simp), k_uis, pa_upS]
              · rw [k_uk (show ((1, 0, c') : Ky) ≠ (0, 0, j) by simp), k_uk (show ((1, 0, c') : Ky) ≠ (1, 0, c) by simp [e]), pa_upO e]; exact h2 c' hc'
            · by_cases e : b = j
              · subst e; rw [k_uis, pa_upS]
              · have ne : f_X7_fc F b ≠ f_X7_fc F j := by
                  rcases Nat.lt_or_ge b j with q | q
                  · have := fc_lt hbc q; omega
                  · have := fc_lt hz (show j < b by omega); omega
                rw [k_uk (show ((0, 0, b) : Ky) ≠ (0, 0, j) by simp [e]), k_uk (by simp), pa_upO ne]; exact h3 b hb hbc (by omega)
            · obtain ⟨a1, a2⟩ := h6 v a e
              exact ⟨a1, fun b hb hbc => by rw [k_ufr (fun z => absurd z.2 (by decide)), k_uk (by simp)]; exact a2 b hb hbc⟩
          · rw [if_neg (fun z => p ((nI_ltI (by omega) (by omega)).mp z))]
            have sk : pa_b2 y (pa_S (pa_op nC F) (pa_mn F) (pa_w F) nC n (f_X7_fc F j + 1) (pa_up L c (L c + pa_w F (f_X7_fc F j))) (pa_up G (f_X7_fc F j) c)) = y := by
              refine pa_vb (x := max (pa_mx L nC) (L c + pa_w F (f_X7_fc F j))) (by omega) (by omega) ?_
              rw [← mxe]
              exact pa_S_mx pa_opO n _ _ _
            rw [sk]
            exact ih (c + 1) _ _ (by omega) h
        · rw [if_pos ((nI_ltI (by omega) (by omega)).mpr (by omega)), if_neg (fun z => q z.2), pa_b2n]
          exact ih (c + 1) _ _ (by omega) h
      · rw [if_pos ((op.2.1 c hc).mpr o), if_neg (fun z => by have := z.1; unfold pa_op at this; simp [o] at this), pa_b2n]
        exact ih (c + 1) _ _ (by omega) h
    · rw [if_pos (op.2.2 c (by omega) (by omega)), if_neg (fun z => by rw [pa_opO c (by omega)] at z; exact absurd z.1 (by decide)), pa_b2n]
      exact ih (c + 1) _ _ (by omega) h
