/-! what the model leaves as it is: the class's cells -/
theorem k_isM8 {n : Nat} (h : n < 100) : k_isM (8, n, 0) = true := by simp [k_isM, h]
theorem fc_X7_crO {mi : MemI} {fo t f : Nat} {kk : Ky} {qq : Nat} (ht : t < 100) (hk : k_isM kk = false) : ∀ {j : Nat}, f_X7_crO mi fo t f j kk qq = mi kk qq := by
  intro j
  induction j with
  | zero => rfl
  | succ j ih => rw [f_X7_crO_s, k_frC hk (k_isM8 ht)]; exact ih
theorem fc_X7_crI {mi : MemI} {fo t f : Nat} {kk : Ky} {qq : Nat} (hf : fo < 100) (hk : k_isM kk = false) : ∀ {j : Nat}, f_X7_crI mi fo t f j kk qq = mi kk qq := by
  intro j
  induction j with
  | zero => rfl
  | succ j ih => rw [f_X7_crI_s, k_frC hk (k_isM8 hf)]; exact ih
theorem fc_X7_allO {mi : MemI} {t : Nat} {kk : Ky} {qq : Nat} (ht : t < 100) (hk : k_isM kk = false) : (f_X7_allO mi t) kk qq = mi kk qq := by
  unfold f_X7_allO
  exact (k_frC hk (k_isM8 ht)).trans ((k_frC hk (k_isM8 ht)).trans ((k_frC hk (k_isM8 ht)).trans ((k_frC hk (k_isM8 ht)).trans ((fc_X7_crO ht hk).trans ((fc_X7_crO ht hk).trans ((fc_X7_crO ht hk).trans ((fc_X7_crO ht hk).trans ((fc_X7_crO ht hk).trans ((fc_X7_crO ht hk).trans ((fc_X7_crO ht hk).trans ((fc_X7_crO ht hk).trans ((fc_X7_crO ht hk).trans ((fc_X7_crO ht hk).trans ((fc_X7_crO ht hk).trans ((fc_X7_crO ht hk).trans (rfl))))))))))))))))
theorem fc_X7_allI {mi : MemI} {t : Nat} {kk : Ky} {qq : Nat} (ht : t < 100) (hk : k_isM kk = false) : (f_X7_allI mi t) kk qq = mi kk qq := by
  unfold f_X7_allI
  exact (k_frC hk rfl).trans ((k_frC hk rfl).trans ((k_frC hk rfl).trans ((k_frC hk rfl).trans ((fc_X7_crI (by decide) hk).trans ((fc_X7_crI (by decide) hk).trans ((fc_X7_crI (by decide) hk).trans ((fc_X7_crI (by decide) hk).trans ((fc_X7_crI (by decide) hk).trans ((fc_X7_crI (by decide) hk).trans ((fc_X7_crI (by decide) hk).trans ((fc_X7_crI (by decide) hk).trans ((fc_X7_crI (by decide) hk).trans ((fc_X7_crI (by decide) hk).trans ((fc_X7_crI (by decide) hk).trans ((fc_X7_crI (by decide) hk).trans (rfl))))))))))))))))
theorem fc_X7_no {mi : MemI} {b : Int32} {kk : Ky} {qq : Nat} (hk : k_isM kk = false) : (f_X7_no mi b).2 kk qq = mi kk qq := by
  unfold f_X7_no
  dsimp only
  exact (k_frC hk rfl).trans (rfl)
theorem fc_X7_noTen {mi : MemI} {b : Int32} {kk : Ky} {qq : Nat} (hk : k_isM kk = false) : (f_X7_noTen mi b).2 kk qq = mi kk qq := by
  unfold f_X7_noTen
  dsimp only
  exact (k_frC hk rfl).trans (rfl)
theorem fc_X7_seed {mi : MemI} {v : Int32} {kk : Ky} {qq : Nat} (hk : k_isM kk = false) : (f_X7_seed mi v).2 kk qq = mi kk qq := by
  unfold f_X7_seed
  dsimp only
  exact (k_frC hk rfl).trans (rfl)
theorem fc_X7_wrong {mi : MemI} {x : Int32} {kk : Ky} {qq : Nat} (hk : k_isM kk = false) : (f_X7_wrong mi x).2 kk qq = mi kk qq := by
  unfold f_X7_wrong
  dsimp only
  exact (k_frC hk rfl).trans (rfl)
theorem fc_X7_body {mi : MemI} {b : Int32} {kk : Ky} {qq : Nat} (hk : k_isM kk = false) : (f_X7_body mi b) kk qq = mi kk qq := by
  unfold f_X7_body
  refine k_ite (P := fun (z : MemI) => z kk qq = mi kk qq) (fun hq0 => ?_) (fun hq0 => ?_)
  · skip
    exact (k_frC hk rfl).trans (rfl)
  · skip
    exact (k_frC hk rfl).trans ((k_frC hk rfl).trans (rfl))
theorem fc_X7_show {mi : MemI} {s0 : Int32} {cz : Int32} {kk : Ky} {qq : Nat} (hk : k_isM kk = false) : (f_X7_show mi s0 cz).2 kk qq = mi kk qq := by
  unfold f_X7_show
  refine k_ite (P := fun (z : Int32 × MemI) => z.2 kk qq = mi kk qq) (fun hq0 => ?_) (fun hq0 => ?_)
  · skip
    dsimp only
    exact (fc_X7_no hk).trans (rfl)
  · skip
    refine k_ite (P := fun (z : Int32 × MemI) => z.2 kk qq = mi kk qq) (fun hq1 => ?_) (fun hq1 => ?_)
    · skip
      dsimp only
      exact (k_frC hk rfl).trans ((k_frC hk rfl).trans (rfl))
    · skip
      refine k_ite (P := fun (z : Int32 × MemI) => z.2 kk qq = mi kk qq) (fun hq2 => ?_) (fun hq2 => ?_)
      · skip
        dsimp only
        exact (fc_X7_no hk).trans (rfl)
      · skip
        dsimp only
        exact (k_frC hk rfl).trans ((k_frC hk rfl).trans (rfl))
theorem fc_X7_addsCitizen {mi : MemI} {k : Int32} {a : Int32} {ms : Int32} {h : Int32} {kk : Ky} {qq : Nat} (hk : k_isM kk = false) : (f_X7_addsCitizen mi k a ms h).2 kk qq = mi kk qq := by
  unfold f_X7_addsCitizen
  dsimp only
  exact (k_frC hk rfl).trans ((k_frC hk rfl).trans ((k_frC hk rfl).trans ((k_frC hk rfl).trans ((k_frC hk rfl).trans ((k_frC hk rfl).trans ((k_frC hk rfl).trans ((k_frC hk rfl).trans (rfl))))))))
theorem fc_X7_addsBeggar {mi : MemI} {n : Int32} {r : Int32} {kk : Ky} {qq : Nat} (hk : k_isM kk = false) : (f_X7_addsBeggar mi n r).2 kk qq = mi kk qq := by
  unfold f_X7_addsBeggar
  dsimp only
  exact (k_frC hk rfl).trans ((k_frC hk rfl).trans ((k_frC hk rfl).trans ((k_frC hk rfl).trans ((k_frC hk rfl).trans ((k_frC hk rfl).trans (rfl))))))
theorem fc_X7_set {mi : MemI} {ml : MemL} {s0 : Int32} {x : Int32} {v : Int64} {kk : Ky} {qq : Nat} (hk : k_isM kk = false) : (f_X7_set mi ml s0 x v).2.1 kk qq = mi kk qq := by
  unfold f_X7_set
  refine k_ite (P := fun (z : Int32 × MemI × MemL) => z.2.1 kk qq = mi kk qq) (fun hq0 => ?_) (fun hq0 => ?_)
  · skip
    dsimp only
    exact (fc_X7_no hk).trans (rfl)
  · skip
    refine k_ite (P := fun (z : Int32 × MemI × MemL) => z.2.1 kk qq = mi kk qq) (fun hq1 => ?_) (fun hq1 => ?_)
    · skip
      dsimp only
      exact (fc_X7_no hk).trans (rfl)
    · skip
      refine k_ite (P := fun (z : Int32 × MemI × MemL) => z.2.1 kk qq = mi kk qq) (fun hq2 => ?_) (fun hq2 => ?_)
      · skip
        dsimp only
        exact (fc_X7_no hk).trans (rfl)
      · skip
        refine k_ite (P := fun (z : Int32 × MemI × MemL) => z.2.1 kk qq = mi kk qq) (fun hq3 => ?_) (fun hq3 => ?_)
        · skip
          dsimp only
          exact (fc_X7_no hk).trans (rfl)
        · skip
          refine k_ite (P := fun (z : Int32 × MemI × MemL) => z.2.1 kk qq = mi kk qq) (fun hq4 => ?_) (fun hq4 => ?_)
          · skip
            refine k_ite (P := fun (z : Int32 × MemI × MemL) => z.2.1 kk qq = mi kk qq) (fun hq5 => ?_) (fun hq5 => ?_)
            · skip
              exact rfl
            · skip
              refine k_ite (P := fun (z : Int32 × MemI × MemL) => z.2.1 kk qq = mi kk qq) (fun hq6 => ?_) (fun hq6 => ?_)
              · skip
                exact rfl
              · skip
                refine k_ite (P := fun (z : Int32 × MemI × MemL) => z.2.1 kk qq = mi kk qq) (fun hq7 => ?_) (fun hq7 => ?_)
                · skip
                  exact rfl
                · skip
                  exact rfl
          · skip
            dsimp only
            exact (fc_X7_no hk).trans (rfl)
theorem fc_X7_post {mi : MemI} {bg : Int32} {is : Int32} {kk : Ky} {qq : Nat} (hk : k_isM kk = false) : (f_X7_post mi bg is).2 kk qq = mi kk qq := by
  unfold f_X7_post
  refine k_ite (P := fun (z : Int32 × MemI) => z.2 kk qq = mi kk qq) (fun hq0 => ?_) (fun hq0 => ?_)
  · skip
    dsimp only
    exact (fc_X7_no hk).trans (rfl)
  · skip
    refine k_ite (P := fun (z : Int32 × MemI) => z.2 kk qq = mi kk qq) (fun hq1 => ?_) (fun hq1 => ?_)
    · skip
      dsimp only
      exact (k_frC hk rfl).trans (rfl)
    · skip
      dsimp only
      exact (k_frC hk rfl).trans (rfl)
theorem fc_X7_citizenOf {mi : MemI} {cz : Int32} {w : Int32} {kk : Ky} {qq : Nat} (hk : k_isM kk = false) : (f_X7_citizenOf mi cz w).2 kk qq = mi kk qq := by
  unfold f_X7_citizenOf
  refine k_ite (P := fun (z : Int32 × MemI) => z.2 kk qq = mi kk qq) (fun hq0 => ?_) (fun hq0 => ?_)
  · skip
    dsimp only
    exact (fc_X7_no hk).trans (rfl)
  · skip
    refine k_ite (P := fun (z : Int32 × MemI) => z.2 kk qq = mi kk qq) (fun hq1 => ?_) (fun hq1 => ?_)
    · skip
      exact rfl
    · skip
      refine k_ite (P := fun (z : Int32 × MemI) => z.2 kk qq = mi kk qq) (fun hq2 => ?_) (fun hq2 => ?_)
      · skip
        exact rfl
      · skip
        refine k_ite (P := fun (z : Int32 × MemI) => z.2 kk qq = mi kk qq) (fun hq3 => ?_) (fun hq3 => ?_)
        · skip
          exact rfl
        · skip
          refine k_ite (P := fun (z : Int32 × MemI) => z.2 kk qq = mi kk qq) (fun hq4 => ?_) (fun hq4 => ?_)
          · skip
            exact rfl
          · skip
            refine k_ite (P := fun (z : Int32 × MemI) => z.2 kk qq = mi kk qq) (fun hq5 => ?_) (fun hq5 => ?_)
            · skip
              exact rfl
            · skip
              refine k_ite (P := fun (z : Int32 × MemI) => z.2 kk qq = mi kk qq) (fun hq6 => ?_) (fun hq6 => ?_)
              · skip
                exact rfl
              · skip
                refine k_ite (P := fun (z : Int32 × MemI) => z.2 kk qq = mi kk qq) (fun hq7 => ?_) (fun hq7 => ?_)
                · skip
                  exact rfl
                · skip
                  refine k_ite (P := fun (z : Int32 × MemI) => z.2 kk qq = mi kk qq) (fun hq8 => ?_) (fun hq8 => ?_)
                  · skip
                    exact rfl
                  · skip
                    dsimp only
                    exact (fc_X7_no hk).trans (rfl)
theorem fc_X7_beggarOf {mi : MemI} {bg : Int32} {w : Int32} {kk : Ky} {qq : Nat} (hk : k_isM kk = false) : (f_X7_beggarOf mi bg w).2 kk qq = mi kk qq := by
  unfold f_X7_beggarOf
  refine k_ite (P := fun (z : Int32 × MemI) => z.2 kk qq = mi kk qq) (fun hq0 => ?_) (fun hq0 => ?_)
  · skip
    dsimp only
    exact (fc_X7_noTen hk).trans (rfl)
  · skip
    refine k_ite (P := fun (z : Int32 × MemI) => z.2 kk qq = mi kk qq) (fun hq1 => ?_) (fun hq1 => ?_)
    · skip
      exact rfl
    · skip
      refine k_ite (P := fun (z : Int32 × MemI) => z.2 kk qq = mi kk qq) (fun hq2 => ?_) (fun hq2 => ?_)
      · skip
        exact rfl
      · skip
        refine k_ite (P := fun (z : Int32 × MemI) => z.2 kk qq = mi kk qq) (fun hq3 => ?_) (fun hq3 => ?_)
        · skip
          exact rfl
        · skip
          refine k_ite (P := fun (z : Int32 × MemI) => z.2 kk qq = mi kk qq) (fun hq4 => ?_) (fun hq4 => ?_)
          · skip
            exact rfl
          · skip
            refine k_ite (P := fun (z : Int32 × MemI) => z.2 kk qq = mi kk qq) (fun hq5 => ?_) (fun hq5 => ?_)
            · skip
              exact rfl
            · skip
              dsimp only
              exact (fc_X7_noTen hk).trans (rfl)
theorem fc_X7_tell {mi : MemI} {cz : Int32} {w : Int32} {v : Int32} {kk : Ky} {qq : Nat} (hk : k_isM kk = false) : (f_X7_tell mi cz w v).2 kk qq = mi kk qq := by
  unfold f_X7_tell
  refine k_ite (P := fun (z : Int32 × MemI) => z.2 kk qq = mi kk qq) (fun hq0 => ?_) (fun hq0 => ?_)
  · skip
    dsimp only
    exact (fc_X7_no hk).trans (rfl)
  · skip
    refine k_ite (P := fun (z : Int32 × MemI) => z.2 kk qq = mi kk qq) (fun hq1 => ?_) (fun hq1 => ?_)
    · skip
      dsimp only
      exact (fc_X7_no hk).trans (rfl)
    · skip
      refine k_ite (P := fun (z : Int32 × MemI) => z.2 kk qq = mi kk qq) (fun hq2 => ?_) (fun hq2 => ?_)
      · skip
        dsimp only
        exact (fc_X7_no hk).trans (rfl)
      · skip
        refine k_ite (P := fun (z : Int32 × MemI) => z.2 kk qq = mi kk qq) (fun hq3 => ?_) (fun hq3 => ?_)
        · skip
          refine k_ite (P := fun (z : Int32 × MemI) => z.2 kk qq = mi kk qq) (fun hq4 => ?_) (fun hq4 => ?_)
          · skip
            dsimp only
            exact (fc_X7_no hk).trans (rfl)
          · skip
            dsimp only
            exact (k_frC hk rfl).trans (rfl)
        · skip
          refine k_ite (P := fun (z : Int32 × MemI) => z.2 kk qq = mi kk qq) (fun hq4 => ?_) (fun hq4 => ?_)
          · skip
            refine k_ite (P := fun (z : Int32 × MemI) => z.2 kk qq = mi kk qq) (fun hq5 => ?_) (fun hq5 => ?_)
            · skip
              dsimp only
              exact (fc_X7_no hk).trans (rfl)
            · skip
              refine k_ite (P := fun (z : Int32 × MemI) => z.2 kk qq = mi kk qq) (fun hq6 => ?_) (fun hq6 => ?_)
              · skip
                dsimp only
                exact (k_frC hk rfl).trans (rfl)
              · skip
                dsimp only
                exact (k_frC hk rfl).trans (rfl)
          · skip
            refine k_ite (P := fun (z : Int32 × MemI) => z.2 kk qq = mi kk qq) (fun hq5 => ?_) (fun hq5 => ?_)
            · skip
              dsimp only
              exact (fc_X7_no hk).trans (rfl)
            · skip
              refine k_ite (P := fun (z : Int32 × MemI) => z.2 kk qq = mi kk qq) (fun hq6 => ?_) (fun hq6 => ?_)
              · skip
                dsimp only
                exact (k_frC hk rfl).trans (rfl)
              · skip
                dsimp only
                exact (k_frC hk rfl).trans (rfl)
theorem fc_X7_citizen {mi : MemI} {k : Int32} {a : Int32} {ms : Int32} {h : Int32} {kk : Ky} {qq : Nat} (hk : k_isM kk = false) : (f_X7_citizen mi k a ms h).2 kk qq = mi kk qq := by
  unfold f_X7_citizen
  refine k_ite (P := fun (z : Int32 × MemI) => z.2 kk qq = mi kk qq) (fun hq0 => ?_) (fun hq0 => ?_)
  · skip
    dsimp only
    exact (fc_X7_no hk).trans (rfl)
  · skip
    refine k_ite (P := fun (z : Int32 × MemI) => z.2 kk qq = mi kk qq) (fun hq1 => ?_) (fun hq1 => ?_)
    · skip
      refine k_ite (P := fun (z : Int32 × MemI) => z.2 kk qq = mi kk qq) (fun hq2 => ?_) (fun hq2 => ?_)
      · skip
        dsimp only
        exact (fc_X7_no hk).trans (rfl)
      · skip
        refine k_ite (P := fun (z : Int32 × MemI) => z.2 kk qq = mi kk qq) (fun hq3 => ?_) (fun hq3 => ?_)
        · skip
          dsimp only
          exact (fc_X7_no hk).trans (rfl)
        · skip
          refine k_ite (P := fun (z : Int32 × MemI) => z.2 kk qq = mi kk qq) (fun hq4 => ?_) (fun hq4 => ?_)
          · skip
            dsimp only
            exact (fc_X7_no hk).trans (rfl)
          · skip
            refine k_ite (P := fun (z : Int32 × MemI) => z.2 kk qq = mi kk qq) (fun hq5 => ?_) (fun hq5 => ?_)
            · skip
              dsimp only
              exact (fc_X7_no hk).trans (rfl)
            · skip
              dsimp only
              exact (fc_X7_addsCitizen hk).trans (rfl)
    · skip
      dsimp only
      exact (fc_X7_no hk).trans (rfl)
theorem fc_X7_beggar {mi : MemI} {n : Int32} {r : Int32} {kk : Ky} {qq : Nat} (hk : k_isM kk = false) : (f_X7_beggar mi n r).2 kk qq = mi kk qq := by
  unfold f_X7_beggar
  refine k_ite (P := fun (z : Int32 × MemI) => z.2 kk qq = mi kk qq) (fun hq0 => ?_) (fun hq0 => ?_)
  · skip
    dsimp only
    exact (fc_X7_no hk).trans (rfl)
  · skip
    refine k_ite (P := fun (z : Int32 × MemI) => z.2 kk qq = mi kk qq) (fun hq1 => ?_) (fun hq1 => ?_)
    · skip
      dsimp only
      exact (fc_X7_no hk).trans (rfl)
    · skip
      refine k_ite (P := fun (z : Int32 × MemI) => z.2 kk qq = mi kk qq) (fun hq2 => ?_) (fun hq2 => ?_)
      · skip
        dsimp only
        exact (fc_X7_no hk).trans (rfl)
      · skip
        dsimp only
        exact (fc_X7_addsBeggar hk).trans (rfl)
theorem fc_X7_says {mi : MemI} {s0 : Int32} {k : Int32} {kk : Ky} {qq : Nat} (hk : k_isM kk = false) : (f_X7_says mi s0 k).2 kk qq = mi kk qq := by
  unfold f_X7_says
  refine k_ite (P := fun (z : Int32 × MemI) => z.2 kk qq = mi kk qq) (fun hq0 => ?_) (fun hq0 => ?_)
  · skip
    dsimp only
    exact (fc_X7_no hk).trans (rfl)
  · skip
    refine k_ite (P := fun (z : Int32 × MemI) => z.2 kk qq = mi kk qq) (fun hq1 => ?_) (fun hq1 => ?_)
    · skip
      dsimp only
      exact (fc_X7_no hk).trans (rfl)
    · skip
      refine k_ite (P := fun (z : Int32 × MemI) => z.2 kk qq = mi kk qq) (fun hq2 => ?_) (fun hq2 => ?_)
      · skip
        refine k_ite (P := fun (z : Int32 × MemI) => z.2 kk qq = mi kk qq) (fun hq3 => ?_) (fun hq3 => ?_)
        · skip
          dsimp only
          exact (fc_X7_no hk).trans (rfl)
        · skip
          refine k_ite (P := fun (z : Int32 × MemI) => z.2 kk qq = mi kk qq) (fun hq4 => ?_) (fun hq4 => ?_)
          · skip
            dsimp only
            exact (fc_X7_no hk).trans (rfl)
          · skip
            refine k_ite (P := fun (z : Int32 × MemI) => z.2 kk qq = mi kk qq) (fun hq5 => ?_) (fun hq5 => ?_)
            · skip
              refine k_ite (P := fun (z : Int32 × MemI) => z.2 kk qq = mi kk qq) (fun hq6 => ?_) (fun hq6 => ?_)
              · skip
                refine k_ite (P := fun (z : Int32 × MemI) => z.2 kk qq = mi kk qq) (fun hq7 => ?_) (fun hq7 => ?_)
                · skip
                  exact rfl
                · skip
                  exact rfl
              · skip
                refine k_ite (P := fun (z : Int32 × MemI) => z.2 kk qq = mi kk qq) (fun hq7 => ?_) (fun hq7 => ?_)
                · skip
                  refine k_ite (P := fun (z : Int32 × MemI) => z.2 kk qq = mi kk qq) (fun hq8 => ?_) (fun hq8 => ?_)
                  · skip
                    exact rfl
                  · skip
                    exact rfl
                · skip
                  refine k_ite (P := fun (z : Int32 × MemI) => z.2 kk qq = mi kk qq) (fun hq8 => ?_) (fun hq8 => ?_)
                  · skip
                    exact rfl
                  · skip
                    dsimp only
                    exact (fc_X7_no hk).trans (rfl)
            · skip
              refine k_ite (P := fun (z : Int32 × MemI) => z.2 kk qq = mi kk qq) (fun hq6 => ?_) (fun hq6 => ?_)
              · skip
                refine k_ite (P := fun (z : Int32 × MemI) => z.2 kk qq = mi kk qq) (fun hq7 => ?_) (fun hq7 => ?_)
                · skip
                  refine k_ite (P := fun (z : Int32 × MemI) => z.2 kk qq = mi kk qq) (fun hq8 => ?_) (fun hq8 => ?_)
                  · skip
                    exact rfl
                  · skip
                    exact rfl
                · skip
                  refine k_ite (P := fun (z : Int32 × MemI) => z.2 kk qq = mi kk qq) (fun hq8 => ?_) (fun hq8 => ?_)
                  · skip
                    exact rfl
                  · skip
                    dsimp only
                    exact (fc_X7_no hk).trans (rfl)
              · skip
                refine k_ite (P := fun (z : Int32 × MemI) => z.2 kk qq = mi kk qq) (fun hq7 => ?_) (fun hq7 => ?_)
                · skip
                  refine k_ite (P := fun (z : Int32 × MemI) => z.2 kk qq = mi kk qq) (fun hq8 => ?_) (fun hq8 => ?_)
                  · skip
                    refine k_ite (P := fun (z : Int32 × MemI) => z.2 kk qq = mi kk qq) (fun hq9 => ?_) (fun hq9 => ?_)
                    · skip
                      exact rfl
                    · skip
                      exact rfl
                  · skip
                    refine k_ite (P := fun (z : Int32 × MemI) => z.2 kk qq = mi kk qq) (fun hq9 => ?_) (fun hq9 => ?_)
                    · skip
                      exact rfl
                    · skip
                      dsimp only
                      exact (fc_X7_no hk).trans (rfl)
                · skip
                  refine k_ite (P := fun (z : Int32 × MemI) => z.2 kk qq = mi kk qq) (fun hq8 => ?_) (fun hq8 => ?_)
                  · skip
                    exact rfl
                  · skip
                    refine k_ite (P := fun (z : Int32 × MemI) => z.2 kk qq = mi kk qq) (fun hq9 => ?_) (fun hq9 => ?_)
                    · skip
                      refine k_ite (P := fun (z : Int32 × MemI) => z.2 kk qq = mi kk qq) (fun hq10 => ?_) (fun hq10 => ?_)
                      · skip
                        exact rfl
                      · skip
                        refine k_ite (P := fun (z : Int32 × MemI) => z.2 kk qq = mi kk qq) (fun hq11 => ?_) (fun hq11 => ?_)
                        · skip
                          exact rfl
                        · skip
                          refine k_ite (P := fun (z : Int32 × MemI) => z.2 kk qq = mi kk qq) (fun hq12 => ?_) (fun hq12 => ?_)
                          · skip
                            exact rfl
                          · skip
                            refine k_ite (P := fun (z : Int32 × MemI) => z.2 kk qq = mi kk qq) (fun hq13 => ?_) (fun hq13 => ?_)
                            · skip
                              exact rfl
                            · skip
                              refine k_ite (P := fun (z : Int32 × MemI) => z.2 kk qq = mi kk qq) (fun hq14 => ?_) (fun hq14 => ?_)
                              · skip
                                exact rfl
                              · skip
                                refine k_ite (P := fun (z : Int32 × MemI) => z.2 kk qq = mi kk qq) (fun hq15 => ?_) (fun hq15 => ?_)
                                · skip
                                  exact rfl
                                · skip
                                  exact rfl
                    · skip
                      dsimp only
                      exact (fc_X7_no hk).trans (rfl)
      · skip
        dsimp only
        exact (fc_X7_no hk).trans (rfl)
theorem fc_X7_looking {mi : MemI} {cz : Int32} {x : Int32} {kk : Ky} {qq : Nat} (hk : k_isM kk = false) : (f_X7_looking mi cz x).2 kk qq = mi kk qq := by
  unfold f_X7_looking
  refine k_ite (P := fun (z : Int32 × MemI) => z.2 kk qq = mi kk qq) (fun hq0 => ?_) (fun hq0 => ?_)
  · skip
    dsimp only
    exact (fc_X7_body hk).trans (rfl)
  · skip
    refine k_ite (P := fun (z : Int32 × MemI) => z.2 kk qq = mi kk qq) (fun hq1 => ?_) (fun hq1 => ?_)
    · skip
      dsimp only
      exact (fc_X7_body hk).trans ((fc_X7_body hk).trans (rfl))
    · skip
      refine k_ite (P := fun (z : Int32 × MemI) => z.2 kk qq = mi kk qq) (fun hq2 => ?_) (fun hq2 => ?_)
      · skip
        dsimp only
        exact (fc_X7_body hk).trans ((fc_X7_body hk).trans ((fc_X7_body hk).trans (rfl)))
      · skip
        refine k_ite (P := fun (z : Int32 × MemI) => z.2 kk qq = mi kk qq) (fun hq3 => ?_) (fun hq3 => ?_)
        · skip
          dsimp only
          exact (fc_X7_body hk).trans ((fc_X7_body hk).trans (rfl))
        · skip
          refine k_ite (P := fun (z : Int32 × MemI) => z.2 kk qq = mi kk qq) (fun hq4 => ?_) (fun hq4 => ?_)
          · skip
            dsimp only
            exact (fc_X7_body hk).trans ((fc_X7_body hk).trans (rfl))
          · skip
            refine k_ite (P := fun (z : Int32 × MemI) => z.2 kk qq = mi kk qq) (fun hq5 => ?_) (fun hq5 => ?_)
            · skip
              dsimp only
              exact (fc_X7_body hk).trans ((fc_X7_body hk).trans ((fc_X7_body hk).trans ((fc_X7_body hk).trans (rfl))))
            · skip
              dsimp only
              exact (fc_X7_body hk).trans (rfl)
theorem fc_X7_giving {mi : MemI} {cz : Int32} {x : Int32} {kk : Ky} {qq : Nat} (hk : k_isM kk = false) : (f_X7_giving mi cz x).2 kk qq = mi kk qq := by
  unfold f_X7_giving
  refine k_ite (P := fun (z : Int32 × MemI) => z.2 kk qq = mi kk qq) (fun hq0 => ?_) (fun hq0 => ?_)
  · skip
    dsimp only
    exact (fc_X7_looking hk).trans ((fc_X7_body hk).trans ((fc_X7_body hk).trans (rfl)))
  · skip
    refine k_ite (P := fun (z : Int32 × MemI) => z.2 kk qq = mi kk qq) (fun hq1 => ?_) (fun hq1 => ?_)
    · skip
      dsimp only
      exact (fc_X7_looking hk).trans ((fc_X7_body hk).trans ((fc_X7_body hk).trans (rfl)))
    · skip
      dsimp only
      exact (fc_X7_looking hk).trans ((fc_X7_body hk).trans (rfl))
theorem fc_X7_shutting {mi : MemI} {cz : Int32} {x : Int32} {kk : Ky} {qq : Nat} (hk : k_isM kk = false) : (f_X7_shutting mi cz x).2 kk qq = mi kk qq := by
  unfold f_X7_shutting
  refine k_ite (P := fun (z : Int32 × MemI) => z.2 kk qq = mi kk qq) (fun hq0 => ?_) (fun hq0 => ?_)
  · skip
    dsimp only
    exact (fc_X7_looking hk).trans ((fc_X7_giving hk).trans ((fc_X7_body hk).trans ((fc_X7_body hk).trans ((fc_X7_body hk).trans (rfl)))))
  · skip
    refine k_ite (P := fun (z : Int32 × MemI) => z.2 kk qq = mi kk qq) (fun hq1 => ?_) (fun hq1 => ?_)
    · skip
      dsimp only
      exact (fc_X7_looking hk).trans ((fc_X7_giving hk).trans ((fc_X7_body hk).trans ((fc_X7_body hk).trans (rfl))))
    · skip
      dsimp only
      exact (fc_X7_looking hk).trans ((fc_X7_giving hk).trans ((fc_X7_body hk).trans (rfl)))
theorem fc_X7_act {mi : MemI} {cz : Int32} {mv : Int32} {x : Int32} {kk : Ky} {qq : Nat} (hk : k_isM kk = false) : (f_X7_act mi cz mv x).2 kk qq = mi kk qq := by
  unfold f_X7_act
  refine k_ite (P := fun (z : Int32 × MemI) => z.2 kk qq = mi kk qq) (fun hq0 => ?_) (fun hq0 => ?_)
  · skip
    dsimp only
    exact (k_frC hk rfl).trans (rfl)
  · skip
    refine k_ite (P := fun (z : Int32 × MemI) => z.2 kk qq = mi kk qq) (fun hq1 => ?_) (fun hq1 => ?_)
    · skip
      dsimp only
      exact (k_frC hk rfl).trans (rfl)
    · skip
      refine k_ite (P := fun (z : Int32 × MemI) => z.2 kk qq = mi kk qq) (fun hq2 => ?_) (fun hq2 => ?_)
      · skip
        refine k_ite (P := fun (z : Int32 × MemI) => z.2 kk qq = mi kk qq) (fun hq3 => ?_) (fun hq3 => ?_)
        · skip
          dsimp only
          exact (fc_X7_looking hk).trans ((k_frC hk rfl).trans (rfl))
        · skip
          refine k_ite (P := fun (z : Int32 × MemI) => z.2 kk qq = mi kk qq) (fun hq4 => ?_) (fun hq4 => ?_)
          · skip
            dsimp only
            exact (fc_X7_giving hk).trans ((k_frC hk rfl).trans (rfl))
          · skip
            dsimp only
            exact (fc_X7_shutting hk).trans ((k_frC hk rfl).trans (rfl))
      · skip
        dsimp only
        exact (k_frC hk rfl).trans (rfl)
theorem fc_X7_go2 {nC : Nat} {mi : MemI} {kk : Ky} {qq : Nat} (hk : k_isM kk = false) : ∀ {j : Nat}, (f_X7_go2 mi nC j) kk qq = mi kk qq := by
  intro j
  induction j with
  | zero => rfl
  | succ j ih =>
    rw [f_X7_go2_s]
    refine k_ite (P := fun (z : MemI) => z kk qq = mi kk qq) (fun hq0 => ?_) (fun hq0 => ?_)
    · skip
      exact (k_frC hk rfl).trans ((k_frC hk rfl).trans (ih))
    · skip
      refine k_ite (P := fun (z : MemI) => z kk qq = mi kk qq) (fun hq1 => ?_) (fun hq1 => ?_)
      · skip
        refine k_ite (P := fun (z : MemI) => z kk qq = mi kk qq) (fun hq2 => ?_) (fun hq2 => ?_)
        · skip
          refine k_ite (P := fun (z : MemI) => z kk qq = mi kk qq) (fun hq3 => ?_) (fun hq3 => ?_)
          · skip
            refine k_ite (P := fun (z : MemI) => z kk qq = mi kk qq) (fun hq4 => ?_) (fun hq4 => ?_)
            · skip
              exact (k_frC hk rfl).trans ((k_frC hk rfl).trans ((k_frC hk rfl).trans ((k_frC hk rfl).trans ((k_frC hk rfl).trans (ih)))))
            · skip
              exact (k_frC hk rfl).trans ((k_frC hk rfl).trans ((k_frC hk rfl).trans ((k_frC hk rfl).trans ((k_frC hk rfl).trans ((k_frC hk rfl).trans ((k_frC hk rfl).trans ((k_frC hk rfl).trans ((k_frC hk rfl).trans (ih)))))))))
          · skip
            exact (k_frC hk rfl).trans ((k_frC hk rfl).trans ((k_frC hk rfl).trans ((k_frC hk rfl).trans ((k_frC hk rfl).trans ((k_frC hk rfl).trans ((k_frC hk rfl).trans ((k_frC hk rfl).trans (ih))))))))
        · skip
          refine k_ite (P := fun (z : MemI) => z kk qq = mi kk qq) (fun hq3 => ?_) (fun hq3 => ?_)
          · skip
            exact (k_frC hk rfl).trans ((k_frC hk rfl).trans ((k_frC hk rfl).trans ((k_frC hk rfl).trans ((k_frC hk rfl).trans (ih)))))
          · skip
            exact (k_frC hk rfl).trans ((k_frC hk rfl).trans ((k_frC hk rfl).trans ((k_frC hk rfl).trans ((k_frC hk rfl).trans ((k_frC hk rfl).trans ((k_frC hk rfl).trans ((k_frC hk rfl).trans ((k_frC hk rfl).trans (ih)))))))))
      · skip
        exact (k_frC hk rfl).trans ((k_frC hk rfl).trans ((k_frC hk rfl).trans ((k_frC hk rfl).trans (ih))))
theorem fc_X7_go1  {mi : MemI} {kk : Ky} {qq : Nat} (hk : k_isM kk = false) : ∀ {j : Nat}, (f_X7_go1 mi j) kk qq = mi kk qq := by
  intro j
  induction j with
  | zero => rfl
  | succ j ih =>
    rw [f_X7_go1_s]
    exact (k_frC hk rfl).trans ((k_frC hk rfl).trans ((k_frC hk rfl).trans ((k_frC hk rfl).trans (ih))))
theorem fc_X7_goes {mi : MemI} {nC : Nat} {nB : Nat} {kk : Ky} {qq : Nat} (hk : k_isM kk = false) : (f_X7_goes mi nC nB) kk qq = mi kk qq := by
  unfold f_X7_goes
  exact (fc_X7_go2 hk).trans ((fc_X7_go1 hk).trans ((k_frC hk rfl).trans ((k_frC hk rfl).trans (rfl))))
theorem fc_X7_ps2  {mi : MemI} {kk : Ky} {qq : Nat} (hk : k_isM kk = false) : ∀ {j : Nat}, (f_X7_ps2 mi j) kk qq = mi kk qq := by
  intro j
  induction j with
  | zero => rfl
  | succ j ih =>
    rw [f_X7_ps2_s]
    refine k_ite (P := fun (z : MemI) => z kk qq = mi kk qq) (fun hq0 => ?_) (fun hq0 => ?_)
    · skip
      exact ih
    · skip
      refine k_ite (P := fun (z : MemI) => z kk qq = mi kk qq) (fun hq1 => ?_) (fun hq1 => ?_)
      · skip
        refine k_ite (P := fun (z : MemI) => z kk qq = mi kk qq) (fun hq2 => ?_) (fun hq2 => ?_)
        · skip
          exact (k_frC hk rfl).trans (ih)
        · skip
          refine k_ite (P := fun (z : MemI) => z kk qq = mi kk qq) (fun hq3 => ?_) (fun hq3 => ?_)
          · skip
            exact (k_frC hk rfl).trans (ih)
          · skip
            exact (k_frC hk rfl).trans (ih)
      · skip
        refine k_ite (P := fun (z : MemI) => z kk qq = mi kk qq) (fun hq2 => ?_) (fun hq2 => ?_)
        · skip
          exact (k_frC hk rfl).trans ((k_frC hk rfl).trans (ih))
        · skip
          refine k_ite (P := fun (z : MemI) => z kk qq = mi kk qq) (fun hq3 => ?_) (fun hq3 => ?_)
          · skip
            exact (k_frC hk rfl).trans ((k_frC hk rfl).trans (ih))
          · skip
            exact (k_frC hk rfl).trans ((k_frC hk rfl).trans (ih))
theorem fc_X7_ps1  {mi : MemI} {kk : Ky} {qq : Nat} (hk : k_isM kk = false) : ∀ {j : Nat}, (f_X7_ps1 mi j) kk qq = mi kk qq := by
  intro j
  induction j with
  | zero => rfl
  | succ j ih =>
    rw [f_X7_ps1_s]
    refine k_ite (P := fun (z : MemI) => z kk qq = mi kk qq) (fun hq0 => ?_) (fun hq0 => ?_)
    · skip
      refine k_ite (P := fun (z : MemI) => z kk qq = mi kk qq) (fun hq1 => ?_) (fun hq1 => ?_)
      · skip
        refine k_ite (P := fun (z : MemI) => z kk qq = mi kk qq) (fun hq2 => ?_) (fun hq2 => ?_)
        · skip
          exact (k_frC hk rfl).trans ((k_frC hk rfl).trans (ih))
        · skip
          exact (k_frC hk rfl).trans ((k_frC hk rfl).trans (ih))
      · skip
        refine k_ite (P := fun (z : MemI) => z kk qq = mi kk qq) (fun hq2 => ?_) (fun hq2 => ?_)
        · skip
          exact (k_frC hk rfl).trans ((k_frC hk rfl).trans (ih))
        · skip
          exact (k_frC hk rfl).trans ((k_frC hk rfl).trans (ih))
    · skip
      refine k_ite (P := fun (z : MemI) => z kk qq = mi kk qq) (fun hq1 => ?_) (fun hq1 => ?_)
      · skip
        exact (k_frC hk rfl).trans ((k_frC hk rfl).trans (ih))
      · skip
        exact (k_frC hk rfl).trans ((k_frC hk rfl).trans (ih))
theorem fc_X7_passes {mi : MemI} {nC : Nat} {nB : Nat} {kk : Ky} {qq : Nat} (hk : k_isM kk = false) : (f_X7_passes mi nC nB) kk qq = mi kk qq := by
  unfold f_X7_passes
  exact (k_frC hk rfl).trans ((fc_X7_ps2 hk).trans ((fc_X7_ps1 hk).trans ((fc_X7_goes hk).trans (rfl))))
theorem fc_X7_picks {mi : MemI} {bg : Int32} {nC : Nat} {nB : Nat} {kk : Ky} {qq : Nat} (hk : k_isM kk = false) : (f_X7_picks mi bg nC nB).2 kk qq = mi kk qq := by
  unfold f_X7_picks
  refine k_ite (P := fun (z : Int32 × MemI) => z.2 kk qq = mi kk qq) (fun hq0 => ?_) (fun hq0 => ?_)
  · skip
    dsimp only
    exact (fc_X7_noTen hk).trans (rfl)
  · skip
    dsimp only
    exact (fc_X7_goes hk).trans (rfl)
theorem fc_X7_kept {mi : MemI} {nC : Nat} {nB : Nat} {kk : Ky} {qq : Nat} (hk : k_isM kk = false) : (f_X7_kept mi nC nB).2 kk qq = mi kk qq := by
  unfold f_X7_kept
  dsimp only
  exact (fc_X7_goes hk).trans (rfl)
theorem fc_X7_picked {mi : MemI} {cz : Int32} {w : Int32} {nC : Nat} {nB : Nat} {kk : Ky} {qq : Nat} (hk : k_isM kk = false) : (f_X7_picked mi cz w nC nB).2 kk qq = mi kk qq := by
  unfold f_X7_picked
  refine k_ite (P := fun (z : Int32 × MemI) => z.2 kk qq = mi kk qq) (fun hq0 => ?_) (fun hq0 => ?_)
  · skip
    dsimp only
    exact (fc_X7_no hk).trans (rfl)
  · skip
    refine k_ite (P := fun (z : Int32 × MemI) => z.2 kk qq = mi kk qq) (fun hq1 => ?_) (fun hq1 => ?_)
    · skip
      dsimp only
      exact (fc_X7_no hk).trans (rfl)
    · skip
      refine k_ite (P := fun (z : Int32 × MemI) => z.2 kk qq = mi kk qq) (fun hq2 => ?_) (fun hq2 => ?_)
      · skip
        refine k_ite (P := fun (z : Int32 × MemI) => z.2 kk qq = mi kk qq) (fun hq3 => ?_) (fun hq3 => ?_)
        · skip
          dsimp only
          exact (fc_X7_goes hk).trans (rfl)
        · skip
          dsimp only
          exact (fc_X7_goes hk).trans (rfl)
      · skip
        dsimp only
        exact (fc_X7_no hk).trans (rfl)
theorem fc_X7_moL {nC : Nat} {nB : Nat} {mi : MemI} {kk : Ky} {qq : Nat} (hk : k_isM kk = false) : ∀ {j : Nat}, (f_X7_moL mi nC nB j).2 kk qq = mi kk qq := by
  intro j
  induction j with
  | zero => rfl
  | succ j ih =>
    rw [f_X7_moL_s]
    dsimp only
    exact (fc_X7_passes hk).trans (ih)
theorem fc_X7_mornings {mi : MemI} {n : Int32} {nC : Nat} {nB : Nat} {kk : Ky} {qq : Nat} (hk : k_isM kk = false) : (f_X7_mornings mi n nC nB).2 kk qq = mi kk qq := by
  unfold f_X7_mornings
  refine k_ite (P := fun (z : Int32 × MemI) => z.2 kk qq = mi kk qq) (fun hq0 => ?_) (fun hq0 => ?_)
  · skip
    dsimp only
    exact (fc_X7_no hk).trans (rfl)
  · skip
    dsimp only
    exact (fc_X7_moL hk).trans (rfl)
theorem fc_X7_weL {nC : Nat} {nB : Nat} {mi : MemI} {kk : Ky} {qq : Nat} (hk : k_isM kk = false) : ∀ {j : Nat}, (f_X7_weL mi nC nB j) kk qq = mi kk qq := by
  intro j
  induction j with
  | zero => rfl
  | succ j ih =>
    rw [f_X7_weL_s]
    exact (fc_X7_passes hk).trans (ih)
theorem fc_X7_wear {mi : MemI} {cz : Int32} {n : Int32} {nC : Nat} {nB : Nat} {kk : Ky} {qq : Nat} (hk : k_isM kk = false) : (f_X7_wear mi cz n nC nB).2 kk qq = mi kk qq := by
  unfold f_X7_wear
  refine k_ite (P := fun (z : Int32 × MemI) => z.2 kk qq = mi kk qq) (fun hq0 => ?_) (fun hq0 => ?_)
  · skip
    dsimp only
    exact (fc_X7_no hk).trans (rfl)
  · skip
    refine k_ite (P := fun (z : Int32 × MemI) => z.2 kk qq = mi kk qq) (fun hq1 => ?_) (fun hq1 => ?_)
    · skip
      dsimp only
      exact (fc_X7_no hk).trans (rfl)
    · skip
      dsimp only
      exact (fc_X7_allI (by decide) hk).trans ((fc_X7_weL hk).trans ((fc_X7_allO (by decide) hk).trans (rfl)))
theorem fc_X7_unL {nC : Nat} {nB : Nat} {mi : MemI} {kk : Ky} {qq : Nat} (hk : k_isM kk = false) : ∀ {j : Nat}, (f_X7_unL mi nC nB j).2.2 kk qq = mi kk qq := by
  intro j
  induction j with
  | zero => rfl
  | succ j ih =>
    rw [f_X7_unL_s]
    refine k_ite (P := fun (z : Int32 × Int32 × MemI) => z.2.2 kk qq = mi kk qq) (fun hq0 => ?_) (fun hq0 => ?_)
    · skip
      dsimp only
      exact (fc_X7_passes hk).trans (ih)
    · skip
      refine k_ite (P := fun (z : Int32 × Int32 × MemI) => z.2.2 kk qq = mi kk qq) (fun hq1 => ?_) (fun hq1 => ?_)
      · skip
        dsimp only
        exact (fc_X7_passes hk).trans (ih)
      · skip
        dsimp only
        exact (fc_X7_passes hk).trans (ih)
theorem fc_X7_unkept {mi : MemI} {n : Int32} {w : Int32} {nC : Nat} {nB : Nat} {kk : Ky} {qq : Nat} (hk : k_isM kk = false) : (f_X7_unkept mi n w nC nB).2 kk qq = mi kk qq := by
  unfold f_X7_unkept
  refine k_ite (P := fun (z : Int32 × MemI) => z.2 kk qq = mi kk qq) (fun hq0 => ?_) (fun hq0 => ?_)
  · skip
    dsimp only
    exact (fc_X7_noTen hk).trans (rfl)
  · skip
    refine k_ite (P := fun (z : Int32 × MemI) => z.2 kk qq = mi kk qq) (fun hq1 => ?_) (fun hq1 => ?_)
    · skip
      refine k_ite (P := fun (z : Int32 × MemI) => z.2 kk qq = mi kk qq) (fun hq2 => ?_) (fun hq2 => ?_)
      · skip
        dsimp only
        exact (fc_X7_noTen hk).trans (rfl)
      · skip
        refine k_ite (P := fun (z : Int32 × MemI) => z.2 kk qq = mi kk qq) (fun hq3 => ?_) (fun hq3 => ?_)
        · skip
          dsimp only
          exact (fc_X7_allI (by decide) hk).trans ((fc_X7_unL hk).trans ((fc_X7_allO (by decide) hk).trans (rfl)))
        · skip
          dsimp only
          exact (fc_X7_allI (by decide) hk).trans ((fc_X7_unL hk).trans ((fc_X7_allO (by decide) hk).trans (rfl)))
    · skip
      dsimp only
      exact (fc_X7_noTen hk).trans (rfl)
theorem fc_X7_shL {cz : Int32} {nC : Nat} {nB : Nat} {mi : MemI} {kk : Ky} {qq : Nat} (hk : k_isM kk = false) : ∀ {j : Nat}, (f_X7_shL mi cz nC nB j).2.2 kk qq = mi kk qq := by
  intro j
  induction j with
  | zero => rfl
  | succ j ih =>
    rw [f_X7_shL_s]
    refine k_ite (P := fun (z : Int32 × Int32 × MemI) => z.2.2 kk qq = mi kk qq) (fun hq0 => ?_) (fun hq0 => ?_)
    · skip
      dsimp only
      exact (fc_X7_goes hk).trans ((k_frC hk rfl).trans (ih))
    · skip
      refine k_ite (P := fun (z : Int32 × Int32 × MemI) => z.2.2 kk qq = mi kk qq) (fun hq1 => ?_) (fun hq1 => ?_)
      · skip
        dsimp only
        exact (fc_X7_goes hk).trans ((k_frC hk rfl).trans (ih))
      · skip
        dsimp only
        exact (fc_X7_goes hk).trans ((k_frC hk rfl).trans (ih))
theorem fc_X7_shun {mi : MemI} {cz : Int32} {w : Int32} {nC : Nat} {nB : Nat} {kk : Ky} {qq : Nat} (hk : k_isM kk = false) : (f_X7_shun mi cz w nC nB).2 kk qq = mi kk qq := by
  unfold f_X7_shun
  refine k_ite (P := fun (z : Int32 × MemI) => z.2 kk qq = mi kk qq) (fun hq0 => ?_) (fun hq0 => ?_)
  · skip
    dsimp only
    exact (fc_X7_noTen hk).trans (rfl)
  · skip
    refine k_ite (P := fun (z : Int32 × MemI) => z.2 kk qq = mi kk qq) (fun hq1 => ?_) (fun hq1 => ?_)
    · skip
      dsimp only
      exact (fc_X7_noTen hk).trans (rfl)
    · skip
      refine k_ite (P := fun (z : Int32 × MemI) => z.2 kk qq = mi kk qq) (fun hq2 => ?_) (fun hq2 => ?_)
      · skip
        dsimp only
        exact (fc_X7_noTen hk).trans (rfl)
      · skip
        refine k_ite (P := fun (z : Int32 × MemI) => z.2 kk qq = mi kk qq) (fun hq3 => ?_) (fun hq3 => ?_)
        · skip
          refine k_ite (P := fun (z : Int32 × MemI) => z.2 kk qq = mi kk qq) (fun hq4 => ?_) (fun hq4 => ?_)
          · skip
            dsimp only
            exact (k_frC hk rfl).trans ((fc_X7_shL hk).trans (rfl))
          · skip
            dsimp only
            exact (k_frC hk rfl).trans ((fc_X7_shL hk).trans (rfl))
        · skip
          dsimp only
          exact (fc_X7_noTen hk).trans (rfl)
theorem fc_X7_ruL {bg : Int32} {cz : Int32} {nC : Nat} {nB : Nat} {mi : MemI} {kk : Ky} {qq : Nat} (hk : k_isM kk = false) : ∀ {j : Nat}, (f_X7_ruL mi bg cz nC nB j).2 kk qq = mi kk qq := by
  intro j
  induction j with
  | zero => rfl
  | succ j ih =>
    rw [f_X7_ruL_s]
    refine k_ite (P := fun (z : Int32 × MemI) => z.2 kk qq = mi kk qq) (fun hq0 => ?_) (fun hq0 => ?_)
    · skip
      dsimp only
      exact (fc_X7_goes hk).trans ((k_frC hk rfl).trans (ih))
    · skip
      dsimp only
      exact (fc_X7_goes hk).trans ((k_frC hk rfl).trans (ih))
theorem fc_X7_rules {mi : MemI} {bg : Int32} {cz : Int32} {nC : Nat} {nB : Nat} {kk : Ky} {qq : Nat} (hk : k_isM kk = false) : (f_X7_rules mi bg cz nC nB).2 kk qq = mi kk qq := by
  unfold f_X7_rules
  refine k_ite (P := fun (z : Int32 × MemI) => z.2 kk qq = mi kk qq) (fun hq0 => ?_) (fun hq0 => ?_)
  · skip
    dsimp only
    exact (fc_X7_no hk).trans (rfl)
  · skip
    refine k_ite (P := fun (z : Int32 × MemI) => z.2 kk qq = mi kk qq) (fun hq1 => ?_) (fun hq1 => ?_)
    · skip
      dsimp only
      exact (fc_X7_no hk).trans (rfl)
    · skip
      refine k_ite (P := fun (z : Int32 × MemI) => z.2 kk qq = mi kk qq) (fun hq2 => ?_) (fun hq2 => ?_)
      · skip
        dsimp only
        exact (fc_X7_no hk).trans (rfl)
      · skip
        dsimp only
        exact (k_frC hk rfl).trans ((fc_X7_ruL hk).trans (rfl))
theorem fc_X7_hide {mi : MemI} {nC : Nat} {nB : Nat} {kk : Ky} {qq : Nat} (hk : k_isM kk = false) : (f_X7_hide mi nC nB).2 kk qq = mi kk qq := by
  unfold f_X7_hide
  dsimp only
  exact (fc_X7_goes hk).trans (rfl)
theorem fc_X7_lose {mi : MemI} {cz : Int32} {nC : Nat} {nB : Nat} {kk : Ky} {qq : Nat} (hk : k_isM kk = false) : (f_X7_lose mi cz nC nB).2 kk qq = mi kk qq := by
  unfold f_X7_lose
  refine k_ite (P := fun (z : Int32 × MemI) => z.2 kk qq = mi kk qq) (fun hq0 => ?_) (fun hq0 => ?_)
  · skip
    dsimp only
    exact (fc_X7_no hk).trans (rfl)
  · skip
    refine k_ite (P := fun (z : Int32 × MemI) => z.2 kk qq = mi kk qq) (fun hq1 => ?_) (fun hq1 => ?_)
    · skip
      dsimp only
      exact (fc_X7_no hk).trans (rfl)
    · skip
      dsimp only
      exact (k_frC hk rfl).trans ((fc_X7_goes hk).trans ((k_frC hk rfl).trans ((fc_X7_goes hk).trans (rfl))))
theorem fc_X7_beL {nC : Nat} {nB : Nat} {mi : MemI} {kk : Ky} {qq : Nat} (hk : k_isM kk = false) : ∀ {j : Nat}, (f_X7_beL mi nC nB j).2.2 kk qq = mi kk qq := by
  intro j
  induction j with
  | zero => rfl
  | succ j ih =>
    rw [f_X7_beL_s]
    refine k_ite (P := fun (z : Nat × Int32 × MemI) => z.2.2 kk qq = mi kk qq) (fun hq0 => ?_) (fun hq0 => ?_)
    · skip
      refine k_ite (P := fun (z : Nat × Int32 × MemI) => z.2.2 kk qq = mi kk qq) (fun hq1 => ?_) (fun hq1 => ?_)
      · skip
        dsimp only
        exact ih
      · skip
        refine k_ite (P := fun (z : Nat × Int32 × MemI) => z.2.2 kk qq = mi kk qq) (fun hq2 => ?_) (fun hq2 => ?_)
        · skip
          dsimp only
          exact (k_frC hk rfl).trans ((fc_X7_goes hk).trans ((k_frC hk rfl).trans (ih)))
        · skip
          dsimp only
          exact (k_frC hk rfl).trans ((fc_X7_goes hk).trans ((k_frC hk rfl).trans (ih)))
    · skip
      refine k_ite (P := fun (z : Nat × Int32 × MemI) => z.2.2 kk qq = mi kk qq) (fun hq1 => ?_) (fun hq1 => ?_)
      · skip
        dsimp only
        exact ih
      · skip
        dsimp only
        exact (k_frC hk rfl).trans ((fc_X7_goes hk).trans ((k_frC hk rfl).trans (ih)))
theorem fc_X7_best {mi : MemI} {nC : Nat} {nB : Nat} {kk : Ky} {qq : Nat} (hk : k_isM kk = false) : (f_X7_best mi nC nB).2 kk qq = mi kk qq := by
  unfold f_X7_best
  dsimp only
  exact (fc_X7_beL hk).trans (rfl)
theorem fc_X7_fi  {mi : MemI} {kk : Ky} {qq : Nat} (hk : k_isM kk = false) : ∀ {j : Nat}, (f_X7_fi mi j) kk qq = mi kk qq := by
  intro j
  induction j with
  | zero => rfl
  | succ j ih =>
    rw [f_X7_fi_s]
    refine k_ite (P := fun (z : MemI) => z kk qq = mi kk qq) (fun hq0 => ?_) (fun hq0 => ?_)
    · skip
      exact (k_frC hk rfl).trans ((k_frC hk rfl).trans (ih))
    · skip
      exact ih
theorem fc_X7_files {mi : MemI} {nB : Nat} {kk : Ky} {qq : Nat} (hk : k_isM kk = false) : (f_X7_files mi nB) kk qq = mi kk qq := by
  unfold f_X7_files
  exact (fc_X7_fi hk).trans ((k_frC hk rfl).trans (rfl))
theorem fc_X7_ptG  {mi : MemI} {kk : Ky} {qq : Nat} (hk : k_isM kk = false) : ∀ {j : Nat}, (f_X7_ptG mi j) kk qq = mi kk qq := by
  intro j
  induction j with
  | zero => rfl
  | succ j ih =>
    rw [f_X7_ptG_s]
    exact (k_frC hk rfl).trans (ih)
theorem fc_X7_ptE {mi : MemI} {i : Nat} {nC : Nat} {cm : Nat} {kk : Ky} {qq : Nat} (hk : k_isM kk = false) : (f_X7_ptE mi i nC cm) kk qq = mi kk qq := by
  unfold f_X7_ptE
  refine k_ite (P := fun (z : MemI) => z kk qq = mi kk qq) (fun hq0 => ?_) (fun hq0 => ?_)
  · skip
    exact (fc_X7_ptG hk).trans ((k_frC hk rfl).trans (rfl))
  · skip
    refine k_ite (P := fun (z : MemI) => z kk qq = mi kk qq) (fun hq1 => ?_) (fun hq1 => ?_)
    · skip
      exact (fc_X7_ptG hk).trans ((k_frC hk rfl).trans (rfl))
    · skip
      exact rfl
theorem fc_X7_pl {Rn : MemI → MemI} {i : Nat} {w : Int32} {kk : Ky} {qq : Nat} (hR : ∀ m, Rn m kk qq = m kk qq) (hk : k_isM kk = false) : ∀ {u : Nat} {c2 : Nat} {m0 : MemI}, (f_X7_pl Rn i w u c2 m0) kk qq = m0 kk qq := by
  intro u
  induction u with
  | zero =>
    intro c2 m0
    show (f_X7_pl Rn i w 0 c2 m0) kk qq = m0 kk qq
    unfold f_X7_pl
    exact rfl
  | succ u ih =>
    intro c2 m0
    rw [f_X7_pl_s]
    refine k_ite (P := fun (z : MemI) => z kk qq = m0 kk qq) (fun hq0 => ?_) (fun hq0 => ?_)
    · skip
      exact ih.trans (rfl)
    · skip
      refine k_ite (P := fun (z : MemI) => z kk qq = m0 kk qq) (fun hq1 => ?_) (fun hq1 => ?_)
      · skip
        exact ih.trans ((k_frC hk rfl).trans ((hR _).trans ((k_frC hk rfl).trans ((k_frC hk rfl).trans (rfl)))))
      · skip
        exact ih.trans (rfl)
theorem fc_X7_pt {nC cm : Nat} {kk : Ky} {qq : Nat} (hk : k_isM kk = false) : ∀ {n i : Nat} {m0 : MemI}, f_X7_pt nC cm n i m0 kk qq = m0 kk qq := by
  intro n
  induction n with
  | zero => intro i m0; exact fc_X7_ptE hk
  | succ n ih => intro i m0; exact fc_X7_pl (fun _ => ih) hk
theorem fc_X7_paL  {mi : MemI} {kk : Ky} {qq : Nat} (hk : k_isM kk = false) : ∀ {j : Nat}, (f_X7_paL mi j) kk qq = mi kk qq := by
  intro j
  induction j with
  | zero => rfl
  | succ j ih =>
    rw [f_X7_paL_s]
    exact (k_frC hk rfl).trans (ih)
theorem fc_X7_parting {mi : MemI} {x : Int32} {nC : Nat} {nB : Nat} {kk : Ky} {qq : Nat} (hk : k_isM kk = false) : (f_X7_parting mi x nC nB).2 kk qq = mi kk qq := by
  unfold f_X7_parting
  refine k_ite (P := fun (z : Int32 × MemI) => z.2 kk qq = mi kk qq) (fun hq0 => ?_) (fun hq0 => ?_)
  · skip
    dsimp only
    exact (fc_X7_noTen hk).trans ((fc_X7_files hk).trans (rfl))
  · skip
    refine k_ite (P := fun (z : Int32 × MemI) => z.2 kk qq = mi kk qq) (fun hq1 => ?_) (fun hq1 => ?_)
    · skip
      refine k_ite (P := fun (z : Int32 × MemI) => z.2 kk qq = mi kk qq) (fun hq2 => ?_) (fun hq2 => ?_)
      · skip
        dsimp only
        exact (fc_X7_pt hk).trans ((fc_X7_paL hk).trans ((k_frC hk rfl).trans ((fc_X7_files hk).trans (rfl))))
      · skip
        refine k_ite (P := fun (z : Int32 × MemI) => z.2 kk qq = mi kk qq) (fun hq3 => ?_) (fun hq3 => ?_)
        · skip
          dsimp only
          exact (fc_X7_pt hk).trans ((fc_X7_paL hk).trans ((k_frC hk rfl).trans ((fc_X7_files hk).trans (rfl))))
        · skip
          dsimp only
          exact (fc_X7_pt hk).trans ((fc_X7_paL hk).trans ((k_frC hk rfl).trans ((fc_X7_files hk).trans (rfl))))
    · skip
      dsimp only
      exact (fc_X7_noTen hk).trans ((fc_X7_files hk).trans (rfl))
theorem fc_X7_judge {mi : MemI} {ml : MemL} {s0 : Int32} {n : Int32} {nC : Nat} {nB : Nat} {kk : Ky} {qq : Nat} (hk : k_isM kk = false) : (f_X7_judge mi ml s0 n nC nB).2 kk qq = mi kk qq := by
  unfold f_X7_judge
  refine k_ite (P := fun (z : Int32 × MemI) => z.2 kk qq = mi kk qq) (fun hq0 => ?_) (fun hq0 => ?_)
  · skip
    refine k_ite (P := fun (z : Int32 × MemI) => z.2 kk qq = mi kk qq) (fun hq1 => ?_) (fun hq1 => ?_)
    · skip
      refine k_ite (P := fun (z : Int32 × MemI) => z.2 kk qq = mi kk qq) (fun hq2 => ?_) (fun hq2 => ?_)
      · skip
        refine k_ite (P := fun (z : Int32 × MemI) => z.2 kk qq = mi kk qq) (fun hq3 => ?_) (fun hq3 => ?_)
        · skip
          dsimp only
          exact (fc_X7_files hk).trans ((fc_X7_goes hk).trans (rfl))
        · skip
          dsimp only
          exact (fc_X7_noTen hk).trans (rfl)
      · skip
        dsimp only
        exact (fc_X7_noTen hk).trans (rfl)
    · skip
      dsimp only
      exact (fc_X7_noTen hk).trans (rfl)
  · skip
    dsimp only
    exact (fc_X7_noTen hk).trans (rfl)
theorem fc_X7_drL {nC : Nat} {mi : MemI} {kk : Ky} {qq : Nat} (hk : k_isM kk = false) : ∀ {j : Nat}, (f_X7_drL mi nC j).2 kk qq = mi kk qq := by
  intro j
  induction j with
  | zero => rfl
  | succ j ih =>
    rw [f_X7_drL_s]
    refine k_ite (P := fun (z : Int32 × MemI) => z.2 kk qq = mi kk qq) (fun hq0 => ?_) (fun hq0 => ?_)
    · skip
      dsimp only
      exact ih
    · skip
      dsimp only
      exact (k_frC hk rfl).trans ((k_frC hk rfl).trans ((k_frC hk rfl).trans (ih)))
theorem fc_X7_doesRound {mi : MemI} {nC : Nat} {cm : Nat} {kk : Ky} {qq : Nat} (hk : k_isM kk = false) : (f_X7_doesRound mi nC cm).2 kk qq = mi kk qq := by
  unfold f_X7_doesRound
  dsimp only
  exact (fc_X7_drL hk).trans (rfl)
theorem fc_X7_ra3 {w : Nat} {mi : MemI} {kk : Ky} {qq : Nat} (hk : k_isM kk = false) : ∀ {j : Nat}, (f_X7_ra3 mi w j) kk qq = mi kk qq := by
  intro j
  induction j with
  | zero => rfl
  | succ j ih =>
    rw [f_X7_ra3_s]
    exact (k_frC hk rfl).trans (ih)
theorem fc_X7_ra2 {w : Nat} {mi : MemI} {kk : Ky} {qq : Nat} (hk : k_isM kk = false) : ∀ {j : Nat}, (f_X7_ra2 mi w j) kk qq = mi kk qq := by
  intro j
  induction j with
  | zero => rfl
  | succ j ih =>
    rw [f_X7_ra2_s]
    refine k_ite (P := fun (z : MemI) => z kk qq = mi kk qq) (fun hq0 => ?_) (fun hq0 => ?_)
    · skip
      exact (k_frC hk rfl).trans (ih)
    · skip
      exact (k_frC hk rfl).trans (ih)
theorem fc_X7_raR {nC : Nat} {cm : Nat} {kk : Ky} {qq : Nat} (hk : k_isM kk = false) : ∀ {u : Nat} {j : Nat} {m0 : MemI}, (f_X7_raR nC cm u j m0).2 kk qq = m0 kk qq := by
  intro u
  induction u with
  | zero =>
    intro j m0
    show (f_X7_raR nC cm 0 j m0).2 kk qq = m0 kk qq
    unfold f_X7_raR
    exact rfl
  | succ u ih =>
    intro j m0
    rw [f_X7_raR_s]
    refine k_ite (P := fun (z : Int32 × MemI) => z.2 kk qq = m0 kk qq) (fun hq0 => ?_) (fun hq0 => ?_)
    · skip
      dsimp only
      exact (fc_X7_doesRound hk).trans (rfl)
    · skip
      exact ih.trans ((fc_X7_doesRound hk).trans (rfl))
theorem fc_X7_restsAfter {mi : MemI} {nC : Nat} {cm : Nat} {kk : Ky} {qq : Nat} (hk : k_isM kk = false) : (f_X7_restsAfter mi nC cm).2 kk qq = mi kk qq := by
  unfold f_X7_restsAfter
  refine k_ite (P := fun (z : Int32 × MemI) => z.2 kk qq = mi kk qq) (fun hq0 => ?_) (fun hq0 => ?_)
  · skip
    exact (fc_X7_raR hk).trans ((fc_X7_ra3 hk).trans ((fc_X7_ra2 hk).trans (rfl)))
  · skip
    exact rfl
theorem fc_X7_rests {mi : MemI} {bg : Int32} {nC : Nat} {nB : Nat} {kk : Ky} {qq : Nat} (hk : k_isM kk = false) : (f_X7_rests mi bg nC nB).2 kk qq = mi kk qq := by
  unfold f_X7_rests
  refine k_ite (P := fun (z : Int32 × MemI) => z.2 kk qq = mi kk qq) (fun hq0 => ?_) (fun hq0 => ?_)
  · skip
    dsimp only
    exact (fc_X7_restsAfter hk).trans ((fc_X7_files hk).trans (rfl))
  · skip
    refine k_ite (P := fun (z : Int32 × MemI) => z.2 kk qq = mi kk qq) (fun hq1 => ?_) (fun hq1 => ?_)
    · skip
      dsimp only
      exact (fc_X7_noTen hk).trans (rfl)
    · skip
      refine k_ite (P := fun (z : Int32 × MemI) => z.2 kk qq = mi kk qq) (fun hq2 => ?_) (fun hq2 => ?_)
      · skip
        dsimp only
        exact (fc_X7_noTen hk).trans (rfl)
      · skip
        refine k_ite (P := fun (z : Int32 × MemI) => z.2 kk qq = mi kk qq) (fun hq3 => ?_) (fun hq3 => ?_)
        · skip
          dsimp only
          exact (fc_X7_restsAfter hk).trans ((fc_X7_files hk).trans (rfl))
        · skip
          dsimp only
          exact (fc_X7_restsAfter hk).trans ((fc_X7_files hk).trans (rfl))
theorem fc_X7_row {mi : MemI} {ml : MemL} {s0 : Int32} {so : Int32} {n : Int32} {kk : Ky} {qq : Nat} (hk : k_isM kk = false) : (f_X7_row mi ml s0 so n).2.1 kk qq = mi kk qq := by
  unfold f_X7_row
  refine k_ite (P := fun (z : Int32 × MemI × MemL) => z.2.1 kk qq = mi kk qq) (fun hq0 => ?_) (fun hq0 => ?_)
  · skip
    dsimp only
    exact (fc_X7_no hk).trans (rfl)
  · skip
    refine k_ite (P := fun (z : Int32 × MemI × MemL) => z.2.1 kk qq = mi kk qq) (fun hq1 => ?_) (fun hq1 => ?_)
    · skip
      refine k_ite (P := fun (z : Int32 × MemI × MemL) => z.2.1 kk qq = mi kk qq) (fun hq2 => ?_) (fun hq2 => ?_)
      · skip
        dsimp only
        exact (fc_X7_no hk).trans (rfl)
      · skip
        refine k_ite (P := fun (z : Int32 × MemI × MemL) => z.2.1 kk qq = mi kk qq) (fun hq3 => ?_) (fun hq3 => ?_)
        · skip
          refine k_ite (P := fun (z : Int32 × MemI × MemL) => z.2.1 kk qq = mi kk qq) (fun hq4 => ?_) (fun hq4 => ?_)
          · skip
            dsimp only
            exact (k_frC hk rfl).trans ((k_frC hk rfl).trans ((k_frC hk rfl).trans (rfl)))
          · skip
            dsimp only
            exact (fc_X7_no hk).trans (rfl)
        · skip
          dsimp only
          exact (fc_X7_no hk).trans (rfl)
    · skip
      dsimp only
      exact (fc_X7_no hk).trans (rfl)
theorem fc_X7_copy {mi : MemI} {ml : MemL} {p0 : Int32} {q0 : Int32} {x : Int32} {y : Int32} {n : Int32} {kk : Ky} {qq : Nat} (hk : k_isM kk = false) : (f_X7_copy mi ml p0 q0 x y n).2.1 kk qq = mi kk qq := by
  unfold f_X7_copy
  refine k_ite (P := fun (z : Int32 × MemI × MemL) => z.2.1 kk qq = mi kk qq) (fun hq0 => ?_) (fun hq0 => ?_)
  · skip
    dsimp only
    exact (fc_X7_no hk).trans (rfl)
  · skip
    refine k_ite (P := fun (z : Int32 × MemI × MemL) => z.2.1 kk qq = mi kk qq) (fun hq1 => ?_) (fun hq1 => ?_)
    · skip
      dsimp only
      exact (fc_X7_no hk).trans (rfl)
    · skip
      refine k_ite (P := fun (z : Int32 × MemI × MemL) => z.2.1 kk qq = mi kk qq) (fun hq2 => ?_) (fun hq2 => ?_)
      · skip
        dsimp only
        exact (fc_X7_no hk).trans (rfl)
      · skip
        refine k_ite (P := fun (z : Int32 × MemI × MemL) => z.2.1 kk qq = mi kk qq) (fun hq3 => ?_) (fun hq3 => ?_)
        · skip
          dsimp only
          exact (fc_X7_no hk).trans (rfl)
        · skip
          refine k_ite (P := fun (z : Int32 × MemI × MemL) => z.2.1 kk qq = mi kk qq) (fun hq4 => ?_) (fun hq4 => ?_)
          · skip
            refine k_ite (P := fun (z : Int32 × MemI × MemL) => z.2.1 kk qq = mi kk qq) (fun hq5 => ?_) (fun hq5 => ?_)
            · skip
              refine k_ite (P := fun (z : Int32 × MemI × MemL) => z.2.1 kk qq = mi kk qq) (fun hq6 => ?_) (fun hq6 => ?_)
              · skip
                refine k_ite (P := fun (z : Int32 × MemI × MemL) => z.2.1 kk qq = mi kk qq) (fun hq7 => ?_) (fun hq7 => ?_)
                · skip
                  refine k_ite (P := fun (z : Int32 × MemI × MemL) => z.2.1 kk qq = mi kk qq) (fun hq8 => ?_) (fun hq8 => ?_)
                  · skip
                    dsimp only
                    exact (fc_X7_no hk).trans (rfl)
                  · skip
                    refine k_ite (P := fun (z : Int32 × MemI × MemL) => z.2.1 kk qq = mi kk qq) (fun hq9 => ?_) (fun hq9 => ?_)
                    · skip
                      dsimp only
                      exact (fc_X7_no hk).trans (rfl)
                    · skip
                      refine k_ite (P := fun (z : Int32 × MemI × MemL) => z.2.1 kk qq = mi kk qq) (fun hq10 => ?_) (fun hq10 => ?_)
                      · skip
                        dsimp only
                        exact (fc_X7_no hk).trans (rfl)
                      · skip
                        refine k_ite (P := fun (z : Int32 × MemI × MemL) => z.2.1 kk qq = mi kk qq) (fun hq11 => ?_) (fun hq11 => ?_)
                        · skip
                          exact rfl
                        · skip
                          dsimp only
                          exact (fc_X7_no hk).trans (rfl)
                · skip
                  dsimp only
                  exact (fc_X7_no hk).trans (rfl)
              · skip
                dsimp only
                exact (fc_X7_no hk).trans (rfl)
            · skip
              refine k_ite (P := fun (z : Int32 × MemI × MemL) => z.2.1 kk qq = mi kk qq) (fun hq6 => ?_) (fun hq6 => ?_)
              · skip
                dsimp only
                exact (fc_X7_no hk).trans (rfl)
              · skip
                refine k_ite (P := fun (z : Int32 × MemI × MemL) => z.2.1 kk qq = mi kk qq) (fun hq7 => ?_) (fun hq7 => ?_)
                · skip
                  refine k_ite (P := fun (z : Int32 × MemI × MemL) => z.2.1 kk qq = mi kk qq) (fun hq8 => ?_) (fun hq8 => ?_)
                  · skip
                    dsimp only
                    exact (fc_X7_no hk).trans (rfl)
                  · skip
                    refine k_ite (P := fun (z : Int32 × MemI × MemL) => z.2.1 kk qq = mi kk qq) (fun hq9 => ?_) (fun hq9 => ?_)
                    · skip
                      dsimp only
                      exact (fc_X7_no hk).trans (rfl)
                    · skip
                      refine k_ite (P := fun (z : Int32 × MemI × MemL) => z.2.1 kk qq = mi kk qq) (fun hq10 => ?_) (fun hq10 => ?_)
                      · skip
                        dsimp only
                        exact (fc_X7_no hk).trans (rfl)
                      · skip
                        refine k_ite (P := fun (z : Int32 × MemI × MemL) => z.2.1 kk qq = mi kk qq) (fun hq11 => ?_) (fun hq11 => ?_)
                        · skip
                          exact rfl
                        · skip
                          dsimp only
                          exact (fc_X7_no hk).trans (rfl)
                · skip
                  dsimp only
                  exact (fc_X7_no hk).trans (rfl)
          · skip
            refine k_ite (P := fun (z : Int32 × MemI × MemL) => z.2.1 kk qq = mi kk qq) (fun hq5 => ?_) (fun hq5 => ?_)
            · skip
              dsimp only
              exact (fc_X7_no hk).trans (rfl)
            · skip
              refine k_ite (P := fun (z : Int32 × MemI × MemL) => z.2.1 kk qq = mi kk qq) (fun hq6 => ?_) (fun hq6 => ?_)
              · skip
                dsimp only
                exact (fc_X7_no hk).trans (rfl)
              · skip
                refine k_ite (P := fun (z : Int32 × MemI × MemL) => z.2.1 kk qq = mi kk qq) (fun hq7 => ?_) (fun hq7 => ?_)
                · skip
                  refine k_ite (P := fun (z : Int32 × MemI × MemL) => z.2.1 kk qq = mi kk qq) (fun hq8 => ?_) (fun hq8 => ?_)
                  · skip
                    dsimp only
                    exact (fc_X7_no hk).trans (rfl)
                  · skip
                    refine k_ite (P := fun (z : Int32 × MemI × MemL) => z.2.1 kk qq = mi kk qq) (fun hq9 => ?_) (fun hq9 => ?_)
                    · skip
                      dsimp only
                      exact (fc_X7_no hk).trans (rfl)
                    · skip
                      refine k_ite (P := fun (z : Int32 × MemI × MemL) => z.2.1 kk qq = mi kk qq) (fun hq10 => ?_) (fun hq10 => ?_)
                      · skip
                        dsimp only
                        exact (fc_X7_no hk).trans (rfl)
                      · skip
                        refine k_ite (P := fun (z : Int32 × MemI × MemL) => z.2.1 kk qq = mi kk qq) (fun hq11 => ?_) (fun hq11 => ?_)
                        · skip
                          exact rfl
                        · skip
                          dsimp only
                          exact (fc_X7_no hk).trans (rfl)
                · skip
                  dsimp only
                  exact (fc_X7_no hk).trans (rfl)
theorem fc_X7_image {mi : MemI} {kk : Ky} {qq : Nat} (hk : k_isM kk = false) : (f_X7_image mi).2 kk qq = mi kk qq := by
  unfold f_X7_image
  dsimp only
  exact (fc_X7_allO (by decide) hk).trans ((k_frC hk rfl).trans (rfl))
theorem fc_X7_reL  {mi : MemI} {kk : Ky} {qq : Nat} (hk : k_isM kk = false) : ∀ {j : Nat}, (f_X7_reL mi j) kk qq = mi kk qq := by
  intro j
  induction j with
  | zero => rfl
  | succ j ih =>
    rw [f_X7_reL_s]
    refine k_ite (P := fun (z : MemI) => z kk qq = mi kk qq) (fun hq0 => ?_) (fun hq0 => ?_)
    · skip
      refine k_ite (P := fun (z : MemI) => z kk qq = mi kk qq) (fun hq1 => ?_) (fun hq1 => ?_)
      · skip
        exact ih
      · skip
        exact (k_frC hk rfl).trans (ih)
    · skip
      exact ih
theorem fc_X7_restore {mi : MemI} {kk : Ky} {qq : Nat} (hk : k_isM kk = false) : (f_X7_restore mi).2 kk qq = mi kk qq := by
  unfold f_X7_restore
  refine k_ite (P := fun (z : Int32 × MemI) => z.2 kk qq = mi kk qq) (fun hq0 => ?_) (fun hq0 => ?_)
  · skip
    dsimp only
    exact (fc_X7_no hk).trans (rfl)
  · skip
    dsimp only
    exact (fc_X7_reL hk).trans ((fc_X7_allI (by decide) hk).trans (rfl))
theorem fc_X7_draw {mi : MemI} {n : Int32} {kk : Ky} {qq : Nat} (hk : k_isM kk = false) : (f_X7_draw mi n).2 kk qq = mi kk qq := by
  unfold f_X7_draw
  dsimp only
  exact (k_frC hk rfl).trans (rfl)
theorem fc_X7_wiC  {mi : MemI} {kk : Ky} {qq : Nat} (hk : k_isM kk = false) : ∀ {c2 : Nat}, (f_X7_wiC mi c2) kk qq = mi kk qq := by
  intro c2
  induction c2 with
  | zero => rfl
  | succ c2 ih =>
    rw [f_X7_wiC_s]
    refine k_ite (P := fun (z : MemI) => z kk qq = mi kk qq) (fun hq0 => ?_) (fun hq0 => ?_)
    · skip
      exact (k_frC hk rfl).trans ((fc_X7_draw hk).trans (ih))
    · skip
      exact (k_frC hk rfl).trans ((fc_X7_draw hk).trans (ih))
theorem fc_X7_wiL {nC : Nat} {nB : Nat} {mi : MemI} {kk : Ky} {qq : Nat} (hk : k_isM kk = false) : ∀ {j : Nat}, (f_X7_wiL mi nC nB j).2 kk qq = mi kk qq := by
  intro j
  induction j with
  | zero => rfl
  | succ j ih =>
    rw [f_X7_wiL_s]
    dsimp only
    exact (fc_X7_passes hk).trans ((fc_X7_wiC hk).trans (ih))
theorem fc_X7_winters {mi : MemI} {n : Int32} {nC : Nat} {nB : Nat} {kk : Ky} {qq : Nat} (hk : k_isM kk = false) : (f_X7_winters mi n nC nB).2 kk qq = mi kk qq := by
  unfold f_X7_winters
  refine k_ite (P := fun (z : Int32 × MemI) => z.2 kk qq = mi kk qq) (fun hq0 => ?_) (fun hq0 => ?_)
  · skip
    dsimp only
    exact (fc_X7_no hk).trans (rfl)
  · skip
    dsimp only
    exact (fc_X7_wiL hk).trans (rfl)
theorem fc_X7_reads {mi : MemI} {ml : MemL} {kk : Ky} {qq : Nat} (hk : k_isM kk = false) : (f_X7_reads mi ml).2 kk qq = mi kk qq := by
  unfold f_X7_reads
  refine k_ite (P := fun (z : Int32 × MemI) => z.2 kk qq = mi kk qq) (fun hq0 => ?_) (fun hq0 => ?_)
  · skip
    dsimp only
    exact (fc_X7_wrong hk).trans ((k_frC hk rfl).trans (rfl))
  · skip
    refine k_ite (P := fun (z : Int32 × MemI) => z.2 kk qq = mi kk qq) (fun hq1 => ?_) (fun hq1 => ?_)
    · skip
      dsimp only
      exact (k_frC hk rfl).trans ((k_frC hk rfl).trans ((k_frC hk rfl).trans (rfl)))
    · skip
      dsimp only
      exact (k_frC hk rfl).trans ((k_frC hk rfl).trans ((k_frC hk rfl).trans ((k_frC hk rfl).trans ((k_frC hk rfl).trans (rfl)))))
theorem fc_X7_word {mi : MemI} {ml : MemL} {kk : Ky} {qq : Nat} (hk : k_isM kk = false) : (f_X7_word mi ml).2 kk qq = mi kk qq := by
  unfold f_X7_word
  refine k_ite (P := fun (z : Int32 × MemI) => z.2 kk qq = mi kk qq) (fun hq0 => ?_) (fun hq0 => ?_)
  · skip
    dsimp only
    exact (k_frC hk rfl).trans (rfl)
  · skip
    refine k_ite (P := fun (z : Int32 × MemI) => z.2 kk qq = mi kk qq) (fun hq1 => ?_) (fun hq1 => ?_)
    · skip
      dsimp only
      exact (k_frC hk rfl).trans (rfl)
    · skip
      refine k_ite (P := fun (z : Int32 × MemI) => z.2 kk qq = mi kk qq) (fun hq2 => ?_) (fun hq2 => ?_)
      · skip
        dsimp only
        exact (k_frC hk rfl).trans (rfl)
      · skip
        refine k_ite (P := fun (z : Int32 × MemI) => z.2 kk qq = mi kk qq) (fun hq3 => ?_) (fun hq3 => ?_)
        · skip
          dsimp only
          exact (k_frC hk rfl).trans (rfl)
        · skip
          refine k_ite (P := fun (z : Int32 × MemI) => z.2 kk qq = mi kk qq) (fun hq4 => ?_) (fun hq4 => ?_)
          · skip
            dsimp only
            exact (k_frC hk rfl).trans (rfl)
          · skip
            refine k_ite (P := fun (z : Int32 × MemI) => z.2 kk qq = mi kk qq) (fun hq5 => ?_) (fun hq5 => ?_)
            · skip
              dsimp only
              exact (k_frC hk rfl).trans (rfl)
            · skip
              dsimp only
              exact (k_frC hk rfl).trans (rfl)
theorem fc_X7_bl {mi : MemI} {ml : MemL} {kk : Ky} {qq : Nat} (hk : k_isM kk = false) : (f_X7_bl mi ml).2 kk qq = mi kk qq := by
  unfold f_X7_bl
  refine k_ite (P := fun (z : Int32 × MemI) => z.2 kk qq = mi kk qq) (fun hq0 => ?_) (fun hq0 => ?_)
  · skip
    dsimp only
    exact (fc_X7_wrong hk).trans (rfl)
  · skip
    refine k_ite (P := fun (z : Int32 × MemI) => z.2 kk qq = mi kk qq) (fun hq1 => ?_) (fun hq1 => ?_)
    · skip
      dsimp only
      exact (k_frC hk rfl).trans (rfl)
    · skip
      dsimp only
      exact (fc_X7_wrong hk).trans (rfl)
theorem fc_X7_rdn {mi : MemI} {ml : MemL} {w : Int32} {x : Int32} {kk : Ky} {qq : Nat} (hk : k_isM kk = false) : (f_X7_rdn mi ml w x).2 kk qq = mi kk qq := by
  unfold f_X7_rdn
  refine k_ite (P := fun (z : Int32 × MemI) => z.2 kk qq = mi kk qq) (fun hq0 => ?_) (fun hq0 => ?_)
  · skip
    dsimp only
    exact (fc_X7_reads hk).trans (rfl)
  · skip
    refine k_ite (P := fun (z : Int32 × MemI) => z.2 kk qq = mi kk qq) (fun hq1 => ?_) (fun hq1 => ?_)
    · skip
      dsimp only
      exact (fc_X7_wrong hk).trans ((fc_X7_reads hk).trans (rfl))
    · skip
      dsimp only
      exact (k_frC hk rfl).trans ((fc_X7_reads hk).trans (rfl))
theorem fc_X7_item {mi : MemI} {ml : MemL} {kk : Ky} {qq : Nat} (hk : k_isM kk = false) : (f_X7_item mi ml).2 kk qq = mi kk qq := by
  unfold f_X7_item
  refine k_ite (P := fun (z : Int32 × MemI) => z.2 kk qq = mi kk qq) (fun hq0 => ?_) (fun hq0 => ?_)
  · skip
    refine k_ite (P := fun (z : Int32 × MemI) => z.2 kk qq = mi kk qq) (fun hq1 => ?_) (fun hq1 => ?_)
    · skip
      dsimp only
      exact (fc_X7_word hk).trans (rfl)
    · skip
      refine k_ite (P := fun (z : Int32 × MemI) => z.2 kk qq = mi kk qq) (fun hq2 => ?_) (fun hq2 => ?_)
      · skip
        refine k_ite (P := fun (z : Int32 × MemI) => z.2 kk qq = mi kk qq) (fun hq3 => ?_) (fun hq3 => ?_)
        · skip
          dsimp only
          exact (fc_X7_rdn hk).trans ((fc_X7_word hk).trans (rfl))
        · skip
          refine k_ite (P := fun (z : Int32 × MemI) => z.2 kk qq = mi kk qq) (fun hq4 => ?_) (fun hq4 => ?_)
          · skip
            dsimp only
            exact (fc_X7_bl hk).trans ((fc_X7_rdn hk).trans ((fc_X7_word hk).trans (rfl)))
          · skip
            refine k_ite (P := fun (z : Int32 × MemI) => z.2 kk qq = mi kk qq) (fun hq5 => ?_) (fun hq5 => ?_)
            · skip
              dsimp only
              exact (fc_X7_rdn hk).trans ((fc_X7_bl hk).trans ((fc_X7_rdn hk).trans ((fc_X7_word hk).trans (rfl))))
            · skip
              refine k_ite (P := fun (z : Int32 × MemI) => z.2 kk qq = mi kk qq) (fun hq6 => ?_) (fun hq6 => ?_)
              · skip
                dsimp only
                exact (fc_X7_bl hk).trans ((fc_X7_rdn hk).trans ((fc_X7_bl hk).trans ((fc_X7_rdn hk).trans ((fc_X7_word hk).trans (rfl)))))
              · skip
                refine k_ite (P := fun (z : Int32 × MemI) => z.2 kk qq = mi kk qq) (fun hq7 => ?_) (fun hq7 => ?_)
                · skip
                  dsimp only
                  exact (fc_X7_rdn hk).trans ((fc_X7_bl hk).trans ((fc_X7_rdn hk).trans ((fc_X7_bl hk).trans ((fc_X7_rdn hk).trans ((fc_X7_word hk).trans (rfl))))))
                · skip
                  refine k_ite (P := fun (z : Int32 × MemI) => z.2 kk qq = mi kk qq) (fun hq8 => ?_) (fun hq8 => ?_)
                  · skip
                    dsimp only
                    exact (fc_X7_bl hk).trans ((fc_X7_rdn hk).trans ((fc_X7_bl hk).trans ((fc_X7_rdn hk).trans ((fc_X7_bl hk).trans ((fc_X7_rdn hk).trans ((fc_X7_word hk).trans (rfl)))))))
                  · skip
                    refine k_ite (P := fun (z : Int32 × MemI) => z.2 kk qq = mi kk qq) (fun hq9 => ?_) (fun hq9 => ?_)
                    · skip
                      dsimp only
                      exact (fc_X7_rdn hk).trans ((fc_X7_bl hk).trans ((fc_X7_rdn hk).trans ((fc_X7_bl hk).trans ((fc_X7_rdn hk).trans ((fc_X7_bl hk).trans ((fc_X7_rdn hk).trans ((fc_X7_word hk).trans (rfl))))))))
                    · skip
                      dsimp only
                      exact (fc_X7_addsCitizen hk).trans ((fc_X7_rdn hk).trans ((fc_X7_bl hk).trans ((fc_X7_rdn hk).trans ((fc_X7_bl hk).trans ((fc_X7_rdn hk).trans ((fc_X7_bl hk).trans ((fc_X7_rdn hk).trans ((fc_X7_word hk).trans (rfl)))))))))
      · skip
        refine k_ite (P := fun (z : Int32 × MemI) => z.2 kk qq = mi kk qq) (fun hq3 => ?_) (fun hq3 => ?_)
        · skip
          refine k_ite (P := fun (z : Int32 × MemI) => z.2 kk qq = mi kk qq) (fun hq4 => ?_) (fun hq4 => ?_)
          · skip
            dsimp only
            exact (fc_X7_rdn hk).trans ((fc_X7_word hk).trans (rfl))
          · skip
            refine k_ite (P := fun (z : Int32 × MemI) => z.2 kk qq = mi kk qq) (fun hq5 => ?_) (fun hq5 => ?_)
            · skip
              dsimp only
              exact (fc_X7_bl hk).trans ((fc_X7_rdn hk).trans ((fc_X7_word hk).trans (rfl)))
            · skip
              refine k_ite (P := fun (z : Int32 × MemI) => z.2 kk qq = mi kk qq) (fun hq6 => ?_) (fun hq6 => ?_)
              · skip
                dsimp only
                exact (fc_X7_rdn hk).trans ((fc_X7_bl hk).trans ((fc_X7_rdn hk).trans ((fc_X7_word hk).trans (rfl))))
              · skip
                dsimp only
                exact (fc_X7_addsBeggar hk).trans ((fc_X7_rdn hk).trans ((fc_X7_bl hk).trans ((fc_X7_rdn hk).trans ((fc_X7_word hk).trans (rfl)))))
        · skip
          refine k_ite (P := fun (z : Int32 × MemI) => z.2 kk qq = mi kk qq) (fun hq4 => ?_) (fun hq4 => ?_)
          · skip
            refine k_ite (P := fun (z : Int32 × MemI) => z.2 kk qq = mi kk qq) (fun hq5 => ?_) (fun hq5 => ?_)
            · skip
              dsimp only
              exact (fc_X7_rdn hk).trans ((fc_X7_word hk).trans (rfl))
            · skip
              refine k_ite (P := fun (z : Int32 × MemI) => z.2 kk qq = mi kk qq) (fun hq6 => ?_) (fun hq6 => ?_)
              · skip
                dsimp only
                exact (fc_X7_bl hk).trans ((fc_X7_rdn hk).trans ((fc_X7_word hk).trans (rfl)))
              · skip
                refine k_ite (P := fun (z : Int32 × MemI) => z.2 kk qq = mi kk qq) (fun hq7 => ?_) (fun hq7 => ?_)
                · skip
                  dsimp only
                  exact (fc_X7_rdn hk).trans ((fc_X7_bl hk).trans ((fc_X7_rdn hk).trans ((fc_X7_word hk).trans (rfl))))
                · skip
                  dsimp only
                  exact (k_frC hk rfl).trans ((fc_X7_rdn hk).trans ((fc_X7_bl hk).trans ((fc_X7_rdn hk).trans ((fc_X7_word hk).trans (rfl)))))
          · skip
            refine k_ite (P := fun (z : Int32 × MemI) => z.2 kk qq = mi kk qq) (fun hq5 => ?_) (fun hq5 => ?_)
            · skip
              refine k_ite (P := fun (z : Int32 × MemI) => z.2 kk qq = mi kk qq) (fun hq6 => ?_) (fun hq6 => ?_)
              · skip
                dsimp only
                exact (fc_X7_rdn hk).trans ((fc_X7_word hk).trans (rfl))
              · skip
                dsimp only
                exact (k_frC hk rfl).trans ((fc_X7_rdn hk).trans ((fc_X7_word hk).trans (rfl)))
            · skip
              refine k_ite (P := fun (z : Int32 × MemI) => z.2 kk qq = mi kk qq) (fun hq6 => ?_) (fun hq6 => ?_)
              · skip
                refine k_ite (P := fun (z : Int32 × MemI) => z.2 kk qq = mi kk qq) (fun hq7 => ?_) (fun hq7 => ?_)
                · skip
                  dsimp only
                  exact (fc_X7_rdn hk).trans ((fc_X7_word hk).trans (rfl))
                · skip
                  dsimp only
                  exact (k_frC hk rfl).trans ((fc_X7_rdn hk).trans ((fc_X7_word hk).trans (rfl)))
              · skip
                refine k_ite (P := fun (z : Int32 × MemI) => z.2 kk qq = mi kk qq) (fun hq7 => ?_) (fun hq7 => ?_)
                · skip
                  dsimp only
                  exact (fc_X7_rdn hk).trans ((fc_X7_word hk).trans (rfl))
                · skip
                  dsimp only
                  exact (k_frC hk rfl).trans ((fc_X7_rdn hk).trans ((fc_X7_word hk).trans (rfl)))
  · skip
    dsimp only
    exact (fc_X7_wrong hk).trans (rfl)
theorem fc_X7_ctR {ml : MemL} {kk : Ky} {qq : Nat} (hk : k_isM kk = false) : ∀ {u : Nat} {n : Int32} {g : Int32} {m : MemI}, (f_X7_ctR ml u n g m).2.2 kk qq = m kk qq := by
  intro u
  induction u with
  | zero =>
    intro n g m
    show (f_X7_ctR ml 0 n g m).2.2 kk qq = m kk qq
    unfold f_X7_ctR
    exact rfl
  | succ u ih =>
    intro n g m
    rw [f_X7_ctR_s]
    refine k_ite (P := fun (z : Int32 × Int32 × MemI) => z.2.2 kk qq = m kk qq) (fun hq0 => ?_) (fun hq0 => ?_)
    · skip
      exact rfl
    · skip
      refine k_ite (P := fun (z : Int32 × Int32 × MemI) => z.2.2 kk qq = m kk qq) (fun hq1 => ?_) (fun hq1 => ?_)
      · skip
        exact rfl
      · skip
        refine k_ite (P := fun (z : Int32 × Int32 × MemI) => z.2.2 kk qq = m kk qq) (fun hq2 => ?_) (fun hq2 => ?_)
        · skip
          exact ih.trans ((fc_X7_item hk).trans ((k_frC hk rfl).trans (rfl)))
        · skip
          dsimp only
          exact (fc_X7_wrong hk).trans (rfl)
theorem fc_X7_ctE {R : Int32 × Int32 × MemI} {kk : Ky} {qq : Nat} (hk : k_isM kk = false) : (f_X7_ctE R).2 kk qq = R.2.2 kk qq := by
  unfold f_X7_ctE
  refine k_ite (P := fun (z : Int32 × MemI) => z.2 kk qq = R.2.2 kk qq) (fun _ => ?_) (fun _ => rfl)
  exact (fc_X7_no hk).trans ((k_frC hk rfl).trans (fc_X7_allI (by decide) hk))
theorem fc_X7_city {mi : MemI} {ml : MemL} {s0 : Int32} {kk : Ky} {qq : Nat} (hk : k_isM kk = false) : (f_X7_city mi ml s0).2 kk qq = mi kk qq := by
  unfold f_X7_city
  refine k_ite (P := fun (z : Int32 × MemI) => z.2 kk qq = mi kk qq) (fun hq0 => ?_) (fun hq0 => ?_)
  · skip
    exact (fc_X7_ctE hk).trans ((fc_X7_ctR hk).trans ((fc_X7_item hk).trans ((k_frC hk rfl).trans ((k_frC hk rfl).trans ((k_frC hk rfl).trans ((k_frC hk rfl).trans ((fc_X7_allO (by decide) hk).trans (rfl))))))))
  · skip
    dsimp only
    exact (fc_X7_no hk).trans (rfl)
