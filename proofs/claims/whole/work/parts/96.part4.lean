/-! parting: both ways to the end -/
theorem pa_pf {nC nB fl T : Nat} {F : MemI} (hF : pa_F nC nB F) (hfl : fl = pa_fl T (pa_co (pa_op nC F) nC)) (hf9 : fl < 1000) : ∀ n j L G y m, j + n = 6 → pa_C nC nB F fl (f_X7_fc F (min j nB)) L G y m → (∀ c, c < nC → L c ≤ 99) → pa_mx L nC ≤ 99 → (∀ c, c < nC → pa_op nC F c = false → L c = 0) → pa_su L nC + pa_sw (pa_w F) (f_X7_fc F (min j nB)) (f_X7_fc F nB - f_X7_fc F (min j nB)) = T → pa_mx L nC < pa_v y →
    pa_C nC nB F fl (f_X7_fc F (min j nB)) L G (pa_b2 y (pa_S (pa_op nC F) (pa_mn F) (pa_w F) nC (f_X7_fc F nB - f_X7_fc F (min j nB)) (f_X7_fc F (min j nB)) L G)) (f_X2_pf 0 n j m (nI (pa_mx L nC))) := by
  have hB6 := hF.2.1
  intro n
  induction n with
  | zero =>
    intro j L G y m hj h hL hmx hcl hT hlt
    rw [show min j nB = nB by omega] at h hT ⊢
    rw [Nat.sub_self]
    exact pa_np h hmx hlt
  | succ n ih =>
    intro j L G y m hj h hL hmx hcl hT hlt
    have cm := comes_iff h.1
    rw [f_X2_pf_s]
    by_cases c : j < nB
    · rw [show min j nB = j by omega] at h hT ⊢
      by_cases z : F (8, 17, 0) j = 0
      · rw [if_neg (fun w => (cm.1 j c).mp w z)]
        have lt := fc_lt z c
        have e1 : f_X7_fc F nB - f_X7_fc F j = (f_X7_fc F nB - (f_X7_fc F j + 1)) + 1 := by omega
        have e2 : f_X7_fc F (min (j + 1) nB) = f_X7_fc F j + 1 := by rw [show min (j + 1) nB = j + 1 by omega, f_X7_fc_s, if_pos z]
        rw [e1] at hT ⊢
        refine pa_te (n := f_X7_fc F nB - (f_X7_fc F j + 1)) (Rn := f_X2_pf 0 n (j + 1)) hF c z L G hL hcl hT hfl hf9 hmx (fun L G y m h hL hmx hcl hT hlt => ?_) 6 0 y m rfl h
        have r := ih (j + 1) L G y m (by omega)
        rw [e2] at r
        exact r h hL hmx hcl hT hlt
      · rw [if_pos ((cm.1 j c).mpr z)]
        have r := ih (j + 1) L G y m (by omega)
        rw [show min (j + 1) nB = j + 1 by omega, f_X7_fc_s, if_neg z] at r
        exact r h hL hmx hcl hT hlt
    · rw [if_pos (cm.2 j (by omega) (by omega))]
      rw [show min j nB = nB by omega] at h hT ⊢
      have r := ih (j + 1) L G y m (by omega)
      rw [show min (j + 1) nB = nB by omega] at r
      exact r h hL hmx hcl hT hlt
theorem pa_sw_e (w : Nat → Nat) : ∀ n i, pa_sw w i (n + 1) = pa_sw w i n + w (i + n) := by
  intro n
  induction n with
  | zero => intro i; show w i + 0 = 0 + w (i + 0); rw [Nat.add_zero, Nat.zero_add, Nat.add_zero]
  | succ n ih =>
    intro i
    show w i + pa_sw w (i + 1) (n + 1) = w i + pa_sw w (i + 1) n + w (i + (n + 1))
    rw [ih (i + 1), show i + 1 + n = i + (n + 1) by omega]
    omega
theorem pa_sum {nC nB : Nat} {mi F : MemI} (h : k_CR 0 nC nB mi F) (hF : pa_F nC nB F) : ∀ j, j ≤ 6 → f_X2_paS mi 0 j = nI (pa_sw (pa_w F) 0 (f_X7_fc F (min j nB))) ∧ pa_sw (pa_w F) 0 (f_X7_fc F (min j nB)) ≤ 9 * j := by
  have cm := comes_iff h
  intro j
  induction j with
  | zero => intro _; rw [Nat.zero_min]; exact ⟨nI_0.symm, Nat.le_refl _⟩
  | succ j ih =>
    intro hj
    obtain ⟨i1, i2⟩ := ih (by omega)
    rw [f_X2_paS_s, i1]
    by_cases c : j < nB
    · rw [show min j nB = j by omega] at i2 ⊢
      rw [show min (j + 1) nB = j + 1 by omega, f_X7_fc_s]
      by_cases z : F (8, 17, 0) j = 0
      · obtain ⟨w1, w9⟩ := pa_wk hF c z
        have e3 : mi (0, 0, j) 3 = nI (pa_w F (f_X7_fc F j)) := (((h.2.2.2.2.2.2.1 j c).1).2.2.1).trans w1
        rw [if_neg (fun y => (cm.1 j c).mp y z), if_pos z, e3, nI_add, pa_sw_e, Nat.zero_add]
        exact ⟨rfl, by omega⟩
      · rw [if_pos ((cm.1 j c).mpr z), if_neg z, Int32.add_zero]
        exact ⟨rfl, by omega⟩
    · rw [show min j nB = nB by omega] at i2 ⊢
      rw [if_pos (cm.2 j (by omega) (by omega)), show min (j + 1) nB = nB by omega, Int32.add_zero]
      exact ⟨rfl, by omega⟩
theorem pa_cop {nC nB : Nat} {mi F : MemI} (h : k_CR 0 nC nB mi F) : ∀ j, j ≤ 6 → f_X2_countOpen mi 0 j = pa_co (pa_op nC F) (min j nC) := by
  have op := open_iff h
  have hC := h.1.1
  intro j
  induction j with
  | zero => intro _; rw [Nat.zero_min]; rfl
  | succ j ih =>
    intro hj
    have i1 := ih (by omega)
    show (if f_X1_isOpen mi 0 j = 0 then f_X2_countOpen mi 0 j else f_X2_countOpen mi 0 j + 1) = _
    rw [i1]
    by_cases c : j < nC
    · rw [show min j nC = j by omega, show min (j + 1) nC = j + 1 by omega]
      show _ = if pa_op nC F j then pa_co (pa_op nC F) j + 1 else pa_co (pa_op nC F) j
      by_cases z : F (8, 12, 0) j = 0
      · rw [if_neg (fun y => (op.2.1 j c).mp y z), if_pos (by unfold pa_op; rw [decide_eq_true c, decide_eq_true z]; rfl)]
      · rw [if_pos ((op.2.1 j c).mpr z), if_neg (by unfold pa_op; simp [z])]
    · rw [if_pos (op.2.2 j (by omega) (by omega)), show min j nC = nC by omega, show min (j + 1) nC = nC by omega]
theorem pa_co_le (op : Nat → Bool) : ∀ n, pa_co op n ≤ n := by
  intro n
  induction n with
  | zero => exact Nat.le_refl _
  | succ n ih => show (if op n then pa_co op n + 1 else pa_co op n) ≤ n + 1; split <;> omega
theorem k_dv : ∀ a, a < 70 → ∀ o, o < 7 → nI a / nI o = nI (a / o) := by decide +kernel
theorem pa_ccm {nC nB : Nat} {mi F : MemI} (h : k_CR 0 nC nB mi F) : ∀ j, j ≤ 6 → f_X2_countComing mi 0 j = f_X7_fc F (min j nB) := by
  have cm := comes_iff h
  intro j
  induction j with
  | zero => intro _; rw [Nat.zero_min]; rfl
  | succ j ih =>
    intro hj
    have i1 := ih (by omega)
    rw [f_X2_countComing_s, i1]
    by_cases c : j < nB
    · rw [show min j nB = j by omega, show min (j + 1) nB = j + 1 by omega, f_X7_fc_s]
      by_cases z : F (8, 17, 0) j = 0
      · rw [if_neg (fun y => (cm.1 j c).mp y z), if_pos z]
      · rw [if_pos ((cm.1 j c).mpr z), if_neg z]
    · rw [if_pos (cm.2 j (by omega) (by omega)), show min j nB = nB by omega, show min (j + 1) nB = nB by omega]
theorem pa_cat {nC nB : Nat} {m F : MemI} (h : k_CR 0 nC nB m F) : ∀ u j X, j + u = 6 → f_X7_fc F (min j nB) + X < f_X7_fc F nB → ∃ b, b < nB ∧ F (8, 17, 0) b = 0 ∧ f_X7_fc F b = f_X7_fc F (min j nB) + X ∧ f_X2_comingAtR m 0 u j (nI X) = b := by
  have cm := comes_iff h
  have hB := h.1.2
  intro u
  induction u with
  | zero => intro j X hj hX; rw [show min j nB = nB by omega] at hX; omega
  | succ u ih =>
    intro j X hj hX
    rw [f_X2_comingAtR_s]
    have hcm := fc_le F nB
    by_cases c : j < nB
    · rw [show min j nB = j by omega] at hX ⊢
      by_cases z : F (8, 17, 0) j = 0
      · rw [if_neg (fun y => (cm.1 j c).mp y z)]
        cases X with
        | zero => rw [if_pos nI_0]; exact ⟨j, c, z, rfl, rfl⟩
        | succ X =>
          rw [if_neg (nI_ne0 (by omega) (by omega)), k_dec]
          have r := ih (j + 1) X (by omega)
          rw [show min (j + 1) nB = j + 1 by omega, f_X7_fc_s, if_pos z] at r
          obtain ⟨b, b1, b2, b3, b4⟩ := r (by omega)
          exact ⟨b, b1, b2, by omega, b4⟩
      · rw [if_pos ((cm.1 j c).mpr z)]
        have r := ih (j + 1) X (by omega)
        rw [show min (j + 1) nB = j + 1 by omega, f_X7_fc_s, if_neg z] at r
        exact r hX
    · rw [show min j nB = nB by omega] at hX; omega
