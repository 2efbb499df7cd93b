/-! level 2: cities taken over, saved and brought back -/
/-- what is no saved city -/
def k_nv (k : Ky) : Bool := !(k.1 == 8 && decide (33 ≤ k.2.1) && decide (k.2.1 ≤ 35))
theorem k_frV {mi : MemI} {K kk : Ky} {j qq : Nat} {v : Int32} (hk : k_nv kk = false) (hK : k_nv K = true) : k_ui mi K j v kk qq = mi kk qq :=
  k_uk (fun e => by rw [e, hK] at hk; cases hk)
theorem fv_X7_go1  {mi : MemI} {kk : Ky} {qq : Nat} (hk : k_nv kk = false) : ∀ {j : Nat}, (f_X7_go1 mi j) kk qq = mi kk qq := by
  intro j
  induction j with
  | zero => rfl
  | succ j ih =>
    rw [f_X7_go1_s]
    exact (k_frV hk rfl).trans ((k_frV hk rfl).trans ((k_frV hk rfl).trans ((k_frV hk rfl).trans (ih))))
theorem fv_X7_go2 {nC : Nat} {mi : MemI} {kk : Ky} {qq : Nat} (hk : k_nv kk = false) : ∀ {j : Nat}, (f_X7_go2 mi nC j) kk qq = mi kk qq := by
  intro j
  induction j with
  | zero => rfl
  | succ j ih =>
    rw [f_X7_go2_s]
    refine k_ite (P := fun (z : MemI) => z kk qq = mi kk qq) (fun hq0 => ?_) (fun hq0 => ?_)
    · skip
      exact (k_frV hk rfl).trans ((k_frV hk rfl).trans (ih))
    · skip
      refine k_ite (P := fun (z : MemI) => z kk qq = mi kk qq) (fun hq1 => ?_) (fun hq1 => ?_)
      · skip
        refine k_ite (P := fun (z : MemI) => z kk qq = mi kk qq) (fun hq2 => ?_) (fun hq2 => ?_)
        · skip
          refine k_ite (P := fun (z : MemI) => z kk qq = mi kk qq) (fun hq3 => ?_) (fun hq3 => ?_)
          · skip
            refine k_ite (P := fun (z : MemI) => z kk qq = mi kk qq) (fun hq4 => ?_) (fun hq4 => ?_)
            · skip
              exact (k_frV hk rfl).trans ((k_frV hk rfl).trans ((k_frV hk rfl).trans ((k_frV hk rfl).trans ((k_frV hk rfl).trans (ih)))))
            · skip
              exact (k_frV hk rfl).trans ((k_frV hk rfl).trans ((k_frV hk rfl).trans ((k_frV hk rfl).trans ((k_frV hk rfl).trans ((k_frV hk rfl).trans ((k_frV hk rfl).trans ((k_frV hk rfl).trans ((k_frV hk rfl).trans (ih)))))))))
          · skip
            exact (k_frV hk rfl).trans ((k_frV hk rfl).trans ((k_frV hk rfl).trans ((k_frV hk rfl).trans ((k_frV hk rfl).trans ((k_frV hk rfl).trans ((k_frV hk rfl).trans ((k_frV hk rfl).trans (ih))))))))
        · skip
          refine k_ite (P := fun (z : MemI) => z kk qq = mi kk qq) (fun hq3 => ?_) (fun hq3 => ?_)
          · skip
            exact (k_frV hk rfl).trans ((k_frV hk rfl).trans ((k_frV hk rfl).trans ((k_frV hk rfl).trans ((k_frV hk rfl).trans (ih)))))
          · skip
            exact (k_frV hk rfl).trans ((k_frV hk rfl).trans ((k_frV hk rfl).trans ((k_frV hk rfl).trans ((k_frV hk rfl).trans ((k_frV hk rfl).trans ((k_frV hk rfl).trans ((k_frV hk rfl).trans ((k_frV hk rfl).trans (ih)))))))))
      · skip
        exact (k_frV hk rfl).trans ((k_frV hk rfl).trans ((k_frV hk rfl).trans ((k_frV hk rfl).trans (ih))))
theorem fv_X7_goes {mi : MemI} {nC : Nat} {nB : Nat} {kk : Ky} {qq : Nat} (hk : k_nv kk = false) : (f_X7_goes mi nC nB) kk qq = mi kk qq := by
  unfold f_X7_goes
  exact (fv_X7_go2 hk).trans ((fv_X7_go1 hk).trans ((k_frV hk rfl).trans ((k_frV hk rfl).trans (rfl))))
theorem fv_X7_ps1  {mi : MemI} {kk : Ky} {qq : Nat} (hk : k_nv kk = false) : ∀ {j : Nat}, (f_X7_ps1 mi j) kk qq = mi kk qq := by
  intro j
  induction j with
  | zero => rfl
  | succ j ih =>
    rw [f_X7_ps1_s]
    refine k_ite (P := fun (z : MemI) => z kk qq = mi kk qq) (fun hq0 => ?_) (fun hq0 => ?_)
    · skip
      refine k_ite (P := fun (z : MemI) => z kk qq = mi kk qq) (fun hq1 => ?_) (fun hq1 => ?_)
      · skip
        refine k_ite (P := fun (z : MemI) => z kk qq = mi kk qq) (fun hq2 => ?_) (fun hq2 => ?_)
        · skip
          exact (k_frV hk rfl).trans ((k_frV hk rfl).trans (ih))
        · skip
          exact (k_frV hk rfl).trans ((k_frV hk rfl).trans (ih))
      · skip
        refine k_ite (P := fun (z : MemI) => z kk qq = mi kk qq) (fun hq2 => ?_) (fun hq2 => ?_)
        · skip
          exact (k_frV hk rfl).trans ((k_frV hk rfl).trans (ih))
        · skip
          exact (k_frV hk rfl).trans ((k_frV hk rfl).trans (ih))
    · skip
      refine k_ite (P := fun (z : MemI) => z kk qq = mi kk qq) (fun hq1 => ?_) (fun hq1 => ?_)
      · skip
        exact (k_frV hk rfl).trans ((k_frV hk rfl).trans (ih))
      · skip
        exact (k_frV hk rfl).trans ((k_frV hk rfl).trans (ih))
theorem fv_X7_ps2  {mi : MemI} {kk : Ky} {qq : Nat} (hk : k_nv kk = false) : ∀ {j : Nat}, (f_X7_ps2 mi j) kk qq = mi kk qq := by
  intro j
  induction j with
  | zero => rfl
  | succ j ih =>
    rw [f_X7_ps2_s]
    refine k_ite (P := fun (z : MemI) => z kk qq = mi kk qq) (fun hq0 => ?_) (fun hq0 => ?_)
    · skip
      exact ih
    · skip
      refine k_ite (P := fun (z : MemI) => z kk qq = mi kk qq) (fun hq1 => ?_) (fun hq1 => ?_)
      · skip
        refine k_ite (P := fun (z : MemI) => z kk qq = mi kk qq) (fun hq2 => ?_) (fun hq2 => ?_)
        · skip
          exact (k_frV hk rfl).trans (ih)
        · skip
          refine k_ite (P := fun (z : MemI) => z kk qq = mi kk qq) (fun hq3 => ?_) (fun hq3 => ?_)
          · skip
            exact (k_frV hk rfl).trans (ih)
          · skip
            exact (k_frV hk rfl).trans (ih)
      · skip
        refine k_ite (P := fun (z : MemI) => z kk qq = mi kk qq) (fun hq2 => ?_) (fun hq2 => ?_)
        · skip
          exact (k_frV hk rfl).trans ((k_frV hk rfl).trans (ih))
        · skip
          refine k_ite (P := fun (z : MemI) => z kk qq = mi kk qq) (fun hq3 => ?_) (fun hq3 => ?_)
          · skip
            exact (k_frV hk rfl).trans ((k_frV hk rfl).trans (ih))
          · skip
            exact (k_frV hk rfl).trans ((k_frV hk rfl).trans (ih))
theorem fv_X7_passes {mi : MemI} {nC : Nat} {nB : Nat} {kk : Ky} {qq : Nat} (hk : k_nv kk = false) : (f_X7_passes mi nC nB) kk qq = mi kk qq := by
  unfold f_X7_passes
  exact (k_frV hk rfl).trans ((fv_X7_ps2 hk).trans ((fv_X7_ps1 hk).trans ((fv_X7_goes hk).trans (rfl))))
theorem fv_X7_moL {nC : Nat} {nB : Nat} {mi : MemI} {kk : Ky} {qq : Nat} (hk : k_nv kk = false) : ∀ {j : Nat}, (f_X7_moL mi nC nB j).2 kk qq = mi kk qq := by
  intro j
  induction j with
  | zero => rfl
  | succ j ih =>
    rw [f_X7_moL_s]
    dsimp only
    exact (fv_X7_passes hk).trans (ih)
theorem fv_X7_weL {nC : Nat} {nB : Nat} {mi : MemI} {kk : Ky} {qq : Nat} (hk : k_nv kk = false) : ∀ {j : Nat}, (f_X7_weL mi nC nB j) kk qq = mi kk qq := by
  intro j
  induction j with
  | zero => rfl
  | succ j ih =>
    rw [f_X7_weL_s]
    exact (fv_X7_passes hk).trans (ih)
theorem fv_X7_unL {nC : Nat} {nB : Nat} {mi : MemI} {kk : Ky} {qq : Nat} (hk : k_nv kk = false) : ∀ {j : Nat}, (f_X7_unL mi nC nB j).2.2 kk qq = mi kk qq := by
  intro j
  induction j with
  | zero => rfl
  | succ j ih =>
    rw [f_X7_unL_s]
    refine k_ite (P := fun (z : Int32 × Int32 × MemI) => z.2.2 kk qq = mi kk qq) (fun hq0 => ?_) (fun hq0 => ?_)
    · skip
      dsimp only
      exact (fv_X7_passes hk).trans (ih)
    · skip
      refine k_ite (P := fun (z : Int32 × Int32 × MemI) => z.2.2 kk qq = mi kk qq) (fun hq1 => ?_) (fun hq1 => ?_)
      · skip
        dsimp only
        exact (fv_X7_passes hk).trans (ih)
      · skip
        dsimp only
        exact (fv_X7_passes hk).trans (ih)
theorem fv_X7_wrong {mi : MemI} {x : Int32} {kk : Ky} {qq : Nat} (hk : k_nv kk = false) : (f_X7_wrong mi x).2 kk qq = mi kk qq := by
  unfold f_X7_wrong
  dsimp only
  exact (k_frV hk rfl).trans (rfl)
theorem fv_X7_word {mi : MemI} {ml : MemL} {kk : Ky} {qq : Nat} (hk : k_nv kk = false) : (f_X7_word mi ml).2 kk qq = mi kk qq := by
  unfold f_X7_word
  refine k_ite (P := fun (z : Int32 × MemI) => z.2 kk qq = mi kk qq) (fun hq0 => ?_) (fun hq0 => ?_)
  · skip
    dsimp only
    exact (k_frV hk rfl).trans (rfl)
  · skip
    refine k_ite (P := fun (z : Int32 × MemI) => z.2 kk qq = mi kk qq) (fun hq1 => ?_) (fun hq1 => ?_)
    · skip
      dsimp only
      exact (k_frV hk rfl).trans (rfl)
    · skip
      refine k_ite (P := fun (z : Int32 × MemI) => z.2 kk qq = mi kk qq) (fun hq2 => ?_) (fun hq2 => ?_)
      · skip
        dsimp only
        exact (k_frV hk rfl).trans (rfl)
      · skip
        refine k_ite (P := fun (z : Int32 × MemI) => z.2 kk qq = mi kk qq) (fun hq3 => ?_) (fun hq3 => ?_)
        · skip
          dsimp only
          exact (k_frV hk rfl).trans (rfl)
        · skip
          refine k_ite (P := fun (z : Int32 × MemI) => z.2 kk qq = mi kk qq) (fun hq4 => ?_) (fun hq4 => ?_)
          · skip
            dsimp only
            exact (k_frV hk rfl).trans (rfl)
          · skip
            refine k_ite (P := fun (z : Int32 × MemI) => z.2 kk qq = mi kk qq) (fun hq5 => ?_) (fun hq5 => ?_)
            · skip
              dsimp only
              exact (k_frV hk rfl).trans (rfl)
            · skip
              dsimp only
              exact (k_frV hk rfl).trans (rfl)
theorem fv_X7_reads {mi : MemI} {ml : MemL} {kk : Ky} {qq : Nat} (hk : k_nv kk = false) : (f_X7_reads mi ml).2 kk qq = mi kk qq := by
  unfold f_X7_reads
  refine k_ite (P := fun (z : Int32 × MemI) => z.2 kk qq = mi kk qq) (fun hq0 => ?_) (fun hq0 => ?_)
  · skip
    dsimp only
    exact (fv_X7_wrong hk).trans ((k_frV hk rfl).trans (rfl))
  · skip
    refine k_ite (P := fun (z : Int32 × MemI) => z.2 kk qq = mi kk qq) (fun hq1 => ?_) (fun hq1 => ?_)
    · skip
      dsimp only
      exact (k_frV hk rfl).trans ((k_frV hk rfl).trans ((k_frV hk rfl).trans (rfl)))
    · skip
      dsimp only
      exact (k_frV hk rfl).trans ((k_frV hk rfl).trans ((k_frV hk rfl).trans ((k_frV hk rfl).trans ((k_frV hk rfl).trans (rfl)))))
theorem fv_X7_bl {mi : MemI} {ml : MemL} {kk : Ky} {qq : Nat} (hk : k_nv kk = false) : (f_X7_bl mi ml).2 kk qq = mi kk qq := by
  unfold f_X7_bl
  refine k_ite (P := fun (z : Int32 × MemI) => z.2 kk qq = mi kk qq) (fun hq0 => ?_) (fun hq0 => ?_)
  · skip
    dsimp only
    exact (fv_X7_wrong hk).trans (rfl)
  · skip
    refine k_ite (P := fun (z : Int32 × MemI) => z.2 kk qq = mi kk qq) (fun hq1 => ?_) (fun hq1 => ?_)
    · skip
      dsimp only
      exact (k_frV hk rfl).trans (rfl)
    · skip
      dsimp only
      exact (fv_X7_wrong hk).trans (rfl)
theorem fv_X7_rdn {mi : MemI} {ml : MemL} {w : Int32} {x : Int32} {kk : Ky} {qq : Nat} (hk : k_nv kk = false) : (f_X7_rdn mi ml w x).2 kk qq = mi kk qq := by
  unfold f_X7_rdn
  refine k_ite (P := fun (z : Int32 × MemI) => z.2 kk qq = mi kk qq) (fun hq0 => ?_) (fun hq0 => ?_)
  · skip
    dsimp only
    exact (fv_X7_reads hk).trans (rfl)
  · skip
    refine k_ite (P := fun (z : Int32 × MemI) => z.2 kk qq = mi kk qq) (fun hq1 => ?_) (fun hq1 => ?_)
    · skip
      dsimp only
      exact (fv_X7_wrong hk).trans ((fv_X7_reads hk).trans (rfl))
    · skip
      dsimp only
      exact (k_frV hk rfl).trans ((fv_X7_reads hk).trans (rfl))
theorem fv_X7_addsCitizen {mi : MemI} {k : Int32} {a : Int32} {ms : Int32} {h : Int32} {kk : Ky} {qq : Nat} (hk : k_nv kk = false) : (f_X7_addsCitizen mi k a ms h).2 kk qq = mi kk qq := by
  unfold f_X7_addsCitizen
  dsimp only
  exact (k_frV hk rfl).trans ((k_frV hk rfl).trans ((k_frV hk rfl).trans ((k_frV hk rfl).trans ((k_frV hk rfl).trans ((k_frV hk rfl).trans ((k_frV hk rfl).trans ((k_frV hk rfl).trans (rfl))))))))
theorem fv_X7_addsBeggar {mi : MemI} {n : Int32} {r : Int32} {kk : Ky} {qq : Nat} (hk : k_nv kk = false) : (f_X7_addsBeggar mi n r).2 kk qq = mi kk qq := by
  unfold f_X7_addsBeggar
  dsimp only
  exact (k_frV hk rfl).trans ((k_frV hk rfl).trans ((k_frV hk rfl).trans ((k_frV hk rfl).trans ((k_frV hk rfl).trans ((k_frV hk rfl).trans (rfl))))))
theorem fv_X7_item {mi : MemI} {ml : MemL} {kk : Ky} {qq : Nat} (hk : k_nv kk = false) : (f_X7_item mi ml).2 kk qq = mi kk qq := by
  unfold f_X7_item
  refine k_ite (P := fun (z : Int32 × MemI) => z.2 kk qq = mi kk qq) (fun hq0 => ?_) (fun hq0 => ?_)
  · skip
    refine k_ite (P := fun (z : Int32 × MemI) => z.2 kk qq = mi kk qq) (fun hq1 => ?_) (fun hq1 => ?_)
    · skip
      dsimp only
      exact (fv_X7_word hk).trans (rfl)
    · skip
      refine k_ite (P := fun (z : Int32 × MemI) => z.2 kk qq = mi kk qq) (fun hq2 => ?_) (fun hq2 => ?_)
      · skip
        refine k_ite (P := fun (z : Int32 × MemI) => z.2 kk qq = mi kk qq) (fun hq3 => ?_) (fun hq3 => ?_)
        · skip
          dsimp only
          exact (fv_X7_rdn hk).trans ((fv_X7_word hk).trans (rfl))
        · skip
          refine k_ite (P := fun (z : Int32 × MemI) => z.2 kk qq = mi kk qq) (fun hq4 => ?_) (fun hq4 => ?_)
          · skip
            dsimp only
            exact (fv_X7_bl hk).trans ((fv_X7_rdn hk).trans ((fv_X7_word hk).trans (rfl)))
          · skip
            refine k_ite (P := fun (z : Int32 × MemI) => z.2 kk qq = mi kk qq) (fun hq5 => ?_) (fun hq5 => ?_)
            · skip
              dsimp only
              exact (fv_X7_rdn hk).trans ((fv_X7_bl hk).trans ((fv_X7_rdn hk).trans ((fv_X7_word hk).trans (rfl))))
            · skip
              refine k_ite (P := fun (z : Int32 × MemI) => z.2 kk qq = mi kk qq) (fun hq6 => ?_) (fun hq6 => ?_)
              · skip
                dsimp only
                exact (fv_X7_bl hk).trans ((fv_X7_rdn hk).trans ((fv_X7_bl hk).trans ((fv_X7_rdn hk).trans ((fv_X7_word hk).trans (rfl)))))
              · skip
                refine k_ite (P := fun (z : Int32 × MemI) => z.2 kk qq = mi kk qq) (fun hq7 => ?_) (fun hq7 => ?_)
                · skip
                  dsimp only
                  exact (fv_X7_rdn hk).trans ((fv_X7_bl hk).trans ((fv_X7_rdn hk).trans ((fv_X7_bl hk).trans ((fv_X7_rdn hk).trans ((fv_X7_word hk).trans (rfl))))))
                · skip
                  refine k_ite (P := fun (z : Int32 × MemI) => z.2 kk qq = mi kk qq) (fun hq8 => ?_) (fun hq8 => ?_)
                  · skip
                    dsimp only
                    exact (fv_X7_bl hk).trans ((fv_X7_rdn hk).trans ((fv_X7_bl hk).trans ((fv_X7_rdn hk).trans ((fv_X7_bl hk).trans ((fv_X7_rdn hk).trans ((fv_X7_word hk).trans (rfl)))))))
                  · skip
                    refine k_ite (P := fun (z : Int32 × MemI) => z.2 kk qq = mi kk qq) (fun hq9 => ?_) (fun hq9 => ?_)
                    · skip
                      dsimp only
                      exact (fv_X7_rdn hk).trans ((fv_X7_bl hk).trans ((fv_X7_rdn hk).trans ((fv_X7_bl hk).trans ((fv_X7_rdn hk).trans ((fv_X7_bl hk).trans ((fv_X7_rdn hk).trans ((fv_X7_word hk).trans (rfl))))))))
                    · skip
                      dsimp only
                      exact (fv_X7_addsCitizen hk).trans ((fv_X7_rdn hk).trans ((fv_X7_bl hk).trans ((fv_X7_rdn hk).trans ((fv_X7_bl hk).trans ((fv_X7_rdn hk).trans ((fv_X7_bl hk).trans ((fv_X7_rdn hk).trans ((fv_X7_word hk).trans (rfl)))))))))
      · skip
        refine k_ite (P := fun (z : Int32 × MemI) => z.2 kk qq = mi kk qq) (fun hq3 => ?_) (fun hq3 => ?_)
        · skip
          refine k_ite (P := fun (z : Int32 × MemI) => z.2 kk qq = mi kk qq) (fun hq4 => ?_) (fun hq4 => ?_)
          · skip
            dsimp only
            exact (fv_X7_rdn hk).trans ((fv_X7_word hk).trans (rfl))
          · skip
            refine k_ite (P := fun (z : Int32 × MemI) => z.2 kk qq = mi kk qq) (fun hq5 => ?_) (fun hq5 => ?_)
            · skip
              dsimp only
              exact (fv_X7_bl hk).trans ((fv_X7_rdn hk).trans ((fv_X7_word hk).trans (rfl)))
            · skip
              refine k_ite (P := fun (z : Int32 × MemI) => z.2 kk qq = mi kk qq) (fun hq6 => ?_) (fun hq6 => ?_)
              · skip
                dsimp only
                exact (fv_X7_rdn hk).trans ((fv_X7_bl hk).trans ((fv_X7_rdn hk).trans ((fv_X7_word hk).trans (rfl))))
              · skip
                dsimp only
                exact (fv_X7_addsBeggar hk).trans ((fv_X7_rdn hk).trans ((fv_X7_bl hk).trans ((fv_X7_rdn hk).trans ((fv_X7_word hk).trans (rfl)))))
        · skip
          refine k_ite (P := fun (z : Int32 × MemI) => z.2 kk qq = mi kk qq) (fun hq4 => ?_) (fun hq4 => ?_)
          · skip
            refine k_ite (P := fun (z : Int32 × MemI) => z.2 kk qq = mi kk qq) (fun hq5 => ?_) (fun hq5 => ?_)
            · skip
              dsimp only
              exact (fv_X7_rdn hk).trans ((fv_X7_word hk).trans (rfl))
            · skip
              refine k_ite (P := fun (z : Int32 × MemI) => z.2 kk qq = mi kk qq) (fun hq6 => ?_) (fun hq6 => ?_)
              · skip
                dsimp only
                exact (fv_X7_bl hk).trans ((fv_X7_rdn hk).trans ((fv_X7_word hk).trans (rfl)))
              · skip
                refine k_ite (P := fun (z : Int32 × MemI) => z.2 kk qq = mi kk qq) (fun hq7 => ?_) (fun hq7 => ?_)
                · skip
                  dsimp only
                  exact (fv_X7_rdn hk).trans ((fv_X7_bl hk).trans ((fv_X7_rdn hk).trans ((fv_X7_word hk).trans (rfl))))
                · skip
                  dsimp only
                  exact (k_frV hk rfl).trans ((fv_X7_rdn hk).trans ((fv_X7_bl hk).trans ((fv_X7_rdn hk).trans ((fv_X7_word hk).trans (rfl)))))
          · skip
            refine k_ite (P := fun (z : Int32 × MemI) => z.2 kk qq = mi kk qq) (fun hq5 => ?_) (fun hq5 => ?_)
            · skip
              refine k_ite (P := fun (z : Int32 × MemI) => z.2 kk qq = mi kk qq) (fun hq6 => ?_) (fun hq6 => ?_)
              · skip
                dsimp only
                exact (fv_X7_rdn hk).trans ((fv_X7_word hk).trans (rfl))
              · skip
                dsimp only
                exact (k_frV hk rfl).trans ((fv_X7_rdn hk).trans ((fv_X7_word hk).trans (rfl)))
            · skip
              refine k_ite (P := fun (z : Int32 × MemI) => z.2 kk qq = mi kk qq) (fun hq6 => ?_) (fun hq6 => ?_)
              · skip
                refine k_ite (P := fun (z : Int32 × MemI) => z.2 kk qq = mi kk qq) (fun hq7 => ?_) (fun hq7 => ?_)
                · skip
                  dsimp only
                  exact (fv_X7_rdn hk).trans ((fv_X7_word hk).trans (rfl))
                · skip
                  dsimp only
                  exact (k_frV hk rfl).trans ((fv_X7_rdn hk).trans ((fv_X7_word hk).trans (rfl)))
              · skip
                refine k_ite (P := fun (z : Int32 × MemI) => z.2 kk qq = mi kk qq) (fun hq7 => ?_) (fun hq7 => ?_)
                · skip
                  dsimp only
                  exact (fv_X7_rdn hk).trans ((fv_X7_word hk).trans (rfl))
                · skip
                  dsimp only
                  exact (k_frV hk rfl).trans ((fv_X7_rdn hk).trans ((fv_X7_word hk).trans (rfl)))
  · skip
    dsimp only
    exact (fv_X7_wrong hk).trans (rfl)
theorem fv_X7_ctR {ml : MemL} {kk : Ky} {qq : Nat} (hk : k_nv kk = false) : ∀ {u : Nat} {n : Int32} {g : Int32} {m : MemI}, (f_X7_ctR ml u n g m).2.2 kk qq = m kk qq := by
  intro u
  induction u with
  | zero =>
    intro n g m
    show (f_X7_ctR ml 0 n g m).2.2 kk qq = m kk qq
    unfold f_X7_ctR
    exact rfl
  | succ u ih =>
    intro n g m
    rw [f_X7_ctR_s]
    refine k_ite (P := fun (z : Int32 × Int32 × MemI) => z.2.2 kk qq = m kk qq) (fun hq0 => ?_) (fun hq0 => ?_)
    · skip
      exact rfl
    · skip
      refine k_ite (P := fun (z : Int32 × Int32 × MemI) => z.2.2 kk qq = m kk qq) (fun hq1 => ?_) (fun hq1 => ?_)
      · skip
        exact rfl
      · skip
        refine k_ite (P := fun (z : Int32 × Int32 × MemI) => z.2.2 kk qq = m kk qq) (fun hq2 => ?_) (fun hq2 => ?_)
        · skip
          exact ih.trans ((fv_X7_item hk).trans ((k_frV hk rfl).trans (rfl)))
        · skip
          dsimp only
          exact (fv_X7_wrong hk).trans (rfl)
/-- the cores are the same where arrays have places -/
def k_s6 (mj m : MemI) : Prop := (∀ n j, 6 ≤ n → n ≤ 17 → j < 6 → m (8, n, 0) j = mj (8, n, 0) j) ∧ ∀ q, q ≤ 3 → m (7, 0, 0) q = mj (7, 0, 0) q
theorem CR_ext6 {g nC nB : Nat} {mi mj m m' : MemI} (h : k_CR g nC nB mi mj) (h1 : k_sC g mi m) (h2 : k_s6 mj m') : k_CR g nC nB m m' := by
  obtain ⟨⟨a1, a2⟩, ⟨b1, b2, b3, b4⟩, ⟨c1, c2⟩, d, e, f, p, r, z⟩ := h
  obtain ⟨x1, x0, x2⟩ := h1
  obtain ⟨y1, y2⟩ := h2
  refine ⟨⟨a1, a2⟩, ⟨?_, ?_, ?_, ?_⟩, ⟨?_, ?_⟩, fun i hi => ?_, fun i hi => ?_, fun i hi hi6 => ?_, fun i hi => ?_, fun i hi hi6 => ?_, fun i hi => ?_⟩
  · rw [x2 2 (by decide)]; exact b1
  · rw [x2 3 (by decide)]; exact b2
  · rw [y2 0 (by decide)]; exact b3
  · rw [y2 1 (by decide)]; exact b4
  · rw [x2 4 (by decide), y2 2 (by decide)]; exact c1
  · rw [x2 5 (by decide), y2 3 (by decide)]; exact c2
  · rw [x1 i 0 (by decide), x0 i 0 (by decide)]; exact d i hi
  · have he := e i hi
    have h6 : i < 6 := by omega
    unfold k_cz k_cr at he ⊢
    rw [x1 i 1 (by decide), x1 i 2 (by decide), x1 i 3 (by decide), x1 i 4 (by decide), x1 i 5 (by decide), x1 i 6 (by decide), x1 i 7 (by decide), x1 i 8 (by decide), y1 6 i (by decide) (by decide) h6, y1 7 i (by decide) (by decide) h6, y1 8 i (by decide) (by decide) h6, y1 9 i (by decide) (by decide) h6, y1 10 i (by decide) (by decide) h6, y1 11 i (by decide) (by decide) h6, y1 12 i (by decide) (by decide) h6]
    exact he
  · rw [x1 i 1 (by decide)]; exact f i hi hi6
  · have hp := p i hi
    have h6 : i < 6 := by omega
    unfold k_bz k_br at hp ⊢
    rw [x0 i 1 (by decide), x0 i 2 (by decide), x0 i 3 (by decide), x0 i 4 (by decide), x0 i 5 (by decide), x0 i 6 (by decide), y1 13 i (by decide) (by decide) h6, y1 14 i (by decide) (by decide) h6, y1 15 i (by decide) (by decide) h6, y1 16 i (by decide) (by decide) h6, y1 17 i (by decide) (by decide) h6]
    exact hp
  · rw [x0 i 1 (by decide)]; exact r i hi hi6
  · rw [x1 i 2 (by decide), x0 i 2 (by decide)]; exact z i hi
theorem s6_rf {mj : MemI} : k_s6 mj mj := ⟨fun _ _ _ _ _ => rfl, fun _ _ => rfl⟩
theorem s6_tr {a b c : MemI} (h1 : k_s6 a b) (h2 : k_s6 b c) : k_s6 a c :=
  ⟨fun n j x y z => (h2.1 n j x y z).trans (h1.1 n j x y z), fun q h => (h2.2 q h).trans (h1.2 q h)⟩
theorem s6_of {a b : MemI} (h : k_sM a b) : k_s6 a b := ⟨fun n j x y _ => h.1 n j x y, h.2⟩
/-! the class: one city becomes another -/
theorem bX1_at {mi : MemI} {g g2 i : Nat} (hne : g ≠ g2) : f_X1_become mi g i g2 i (1, g, i) 0 = mi (1, g, i) 0 ∧ f_X1_become mi g i g2 i (1, g, i) 1 = mi (1, g2, i) 1 ∧ f_X1_become mi g i g2 i (1, g, i) 2 = mi (1, g2, i) 2 ∧ f_X1_become mi g i g2 i (1, g, i) 3 = mi (1, g2, i) 3 ∧ f_X1_become mi g i g2 i (1, g, i) 4 = mi (1, g2, i) 4 ∧ f_X1_become mi g i g2 i (1, g, i) 5 = mi (1, g2, i) 5 ∧ f_X1_become mi g i g2 i (1, g, i) 6 = mi (1, g2, i) 6 ∧ f_X1_become mi g i g2 i (1, g, i) 7 = mi (1, g2, i) 7 ∧ f_X1_become mi g i g2 i (1, g, i) 8 = mi (1, g2, i) 8 := by
  have hk : ((1, g2, i) : Ky) ≠ (1, g, i) := by simp [Ne.symm hne]
  unfold f_X1_become
  simp only [k_uk hk]
  refine ⟨?_, ?_, ?_, ?_, ?_, ?_, ?_, ?_, ?_⟩
  all_goals repeat first | rw [k_uj (by decide)] | rw [k_uis]
theorem bX0_at {mi : MemI} {g g2 i : Nat} (hne : g ≠ g2) : f_X0_become mi g i g2 i (0, g, i) 0 = mi (0, g, i) 0 ∧ f_X0_become mi g i g2 i (0, g, i) 1 = mi (0, g2, i) 1 ∧ f_X0_become mi g i g2 i (0, g, i) 2 = mi (0, g2, i) 2 ∧ f_X0_become mi g i g2 i (0, g, i) 3 = mi (0, g2, i) 3 ∧ f_X0_become mi g i g2 i (0, g, i) 4 = mi (0, g2, i) 4 ∧ f_X0_become mi g i g2 i (0, g, i) 5 = mi (0, g2, i) 5 ∧ f_X0_become mi g i g2 i (0, g, i) 6 = mi (0, g2, i) 6 := by
  have hk : ((0, g2, i) : Ky) ≠ (0, g, i) := by simp [Ne.symm hne]
  unfold f_X0_become
  simp only [k_uk hk]
  refine ⟨?_, ?_, ?_, ?_, ?_, ?_, ?_⟩
  all_goals repeat first | rw [k_uj (by decide)] | rw [k_uis]
theorem b1_keep {mi : MemI} {g g2 : Nat} : ∀ j i q, j ≤ i → f_X2_bec1 mi g g2 j (1, g, i) q = mi (1, g, i) q := by
  intro j
  induction j with
  | zero => intro i q _; rfl
  | succ j ih =>
    intro i q h
    rw [f_X2_bec1_s, f_X1_become_ne _ (by simp; omega)]
    exact ih i q (by omega)
theorem b2_keep {mi : MemI} {g g2 : Nat} : ∀ j i q, j ≤ i → f_X2_bec2 mi g g2 j (0, g, i) q = mi (0, g, i) q := by
  intro j
  induction j with
  | zero => intro i q _; rfl
  | succ j ih =>
    intro i q h
    rw [f_X2_bec2_s, f_X0_become_ne _ (by simp; omega)]
    exact ih i q (by omega)
theorem b1_at {mi : MemI} {g g2 : Nat} (hne : g ≠ g2) : ∀ j i, i < j → f_X2_bec1 mi g g2 j (1, g, i) 0 = mi (1, g, i) 0 ∧ f_X2_bec1 mi g g2 j (1, g, i) 1 = mi (1, g2, i) 1 ∧ f_X2_bec1 mi g g2 j (1, g, i) 2 = mi (1, g2, i) 2 ∧ f_X2_bec1 mi g g2 j (1, g, i) 3 = mi (1, g2, i) 3 ∧ f_X2_bec1 mi g g2 j (1, g, i) 4 = mi (1, g2, i) 4 ∧ f_X2_bec1 mi g g2 j (1, g, i) 5 = mi (1, g2, i) 5 ∧ f_X2_bec1 mi g g2 j (1, g, i) 6 = mi (1, g2, i) 6 ∧ f_X2_bec1 mi g g2 j (1, g, i) 7 = mi (1, g2, i) 7 ∧ f_X2_bec1 mi g g2 j (1, g, i) 8 = mi (1, g2, i) 8 := by
  intro j
  induction j with
  | zero => intro i h; omega
  | succ j ih =>
    intro i h
    rw [f_X2_bec1_s]
    by_cases e : i = j
    · subst e
      have := bX1_at (mi := f_X2_bec1 mi g g2 i) (i := i) hne
      rw [f_X2_bec1_s2 mi hne, b1_keep i i 0 (Nat.le_refl _)] at this
      exact this
    · rw [f_X1_become_ne _ (by simp [e])]
      exact ih i (by omega)
theorem b2_at {mi : MemI} {g g2 : Nat} (hne : g ≠ g2) : ∀ j i, i < j → f_X2_bec2 (f_X2_bec1 mi g g2 6) g g2 j (0, g, i) 0 = mi (0, g, i) 0 ∧ f_X2_bec2 (f_X2_bec1 mi g g2 6) g g2 j (0, g, i) 1 = mi (0, g2, i) 1 ∧ f_X2_bec2 (f_X2_bec1 mi g g2 6) g g2 j (0, g, i) 2 = mi (0, g2, i) 2 ∧ f_X2_bec2 (f_X2_bec1 mi g g2 6) g g2 j (0, g, i) 3 = mi (0, g2, i) 3 ∧ f_X2_bec2 (f_X2_bec1 mi g g2 6) g g2 j (0, g, i) 4 = mi (0, g2, i) 4 ∧ f_X2_bec2 (f_X2_bec1 mi g g2 6) g g2 j (0, g, i) 5 = mi (0, g2, i) 5 ∧ f_X2_bec2 (f_X2_bec1 mi g g2 6) g g2 j (0, g, i) 6 = mi (0, g2, i) 6 := by
  intro j
  induction j with
  | zero => intro i h; omega
  | succ j ih =>
    intro i h
    rw [f_X2_bec2_s]
    by_cases e : i = j
    · subst e
      have := bX0_at (mi := f_X2_bec2 (f_X2_bec1 mi g g2 6) g g2 i) (i := i) hne
      rw [f_X2_bec2_s2 mi hne, b2_keep i i 0 (Nat.le_refl _), f_X2_bec1_s0] at this
      exact this
    · rw [f_X0_become_ne _ (by simp [e])]
      exact ih i (by omega)
/-- the city g is what g2 was -/
theorem bec_CR {g g2 nC nB : Nat} {mi mj : MemI} (hne : g ≠ g2) (h : k_CR g2 nC nB mi mj) (hn : ∀ i, i < 6 → mi (1, g, i) 0 = nI i ∧ mi (0, g, i) 0 = nI i) : k_CR g nC nB (f_X2_become mi g g2) mj := by
  have hk2 : ((2, g2, 0) : Ky) ≠ (2, g, 0) := by simp [Ne.symm hne]
  have k1 : ∀ i q, i < 6 → f_X2_become mi g g2 (1, g, i) q = f_X2_bec1 mi g g2 6 (1, g, i) q := fun i q hi => by
    unfold f_X2_become
    have n1 : ((1, g, i) : Ky) ≠ (2, g, 0) := by simp
    rw [k_uk n1, k_uk n1, k_uk n1, k_uk n1]
    have : ∀ j, f_X2_bec2 (f_X2_bec1 mi g g2 6) g g2 j (1, g, i) q = f_X2_bec1 mi g g2 6 (1, g, i) q := by
      intro j
      induction j with
      | zero => rfl
      | succ j ih => rw [f_X2_bec2_s, f_X0_become_ne _ (by simp)]; exact ih
    exact this 6
  have k0 : ∀ i q, i < 6 → f_X2_become mi g g2 (0, g, i) q = f_X2_bec2 (f_X2_bec1 mi g g2 6) g g2 6 (0, g, i) q := fun i q hi => by
    unfold f_X2_become
    have n1 : ((0, g, i) : Ky) ≠ (2, g, 0) := by simp
    rw [k_uk n1, k_uk n1, k_uk n1, k_uk n1]
  have kc : f_X2_bec2 (f_X2_bec1 mi g g2 6) g g2 6 (2, g2, 0) = mi (2, g2, 0) := by
    have a1 : ∀ j, f_X2_bec1 mi g g2 j (2, g2, 0) = mi (2, g2, 0) := by
      intro j
      induction j with
      | zero => rfl
      | succ j ih => rw [f_X2_bec1_s, f_X1_become_ne _ (by simp)]; exact ih
    have a2 : ∀ j, f_X2_bec2 (f_X2_bec1 mi g g2 6) g g2 j (2, g2, 0) = mi (2, g2, 0) := by
      intro j
      induction j with
      | zero => exact a1 6
      | succ j ih => rw [f_X2_bec2_s, f_X0_become_ne _ (by simp)]; exact ih
    exact a2 6
  have k2 : f_X2_become mi g g2 (2, g, 0) 2 = mi (2, g2, 0) 2 ∧ f_X2_become mi g g2 (2, g, 0) 3 = mi (2, g2, 0) 3 ∧ f_X2_become mi g g2 (2, g, 0) 4 = mi (2, g2, 0) 4 ∧ f_X2_become mi g g2 (2, g, 0) 5 = mi (2, g2, 0) 5 := by
    unfold f_X2_become
    simp only [k_uk hk2, kc]
    refine ⟨?_, ?_, ?_, ?_⟩
    all_goals repeat first | rw [k_uj (by decide)] | rw [k_uis]
  obtain ⟨a0, ⟨b1, b2, b3, b4⟩, ⟨c1, c2⟩, d, e, f, p, r, z⟩ := h
  refine ⟨a0, ⟨k2.1.trans b1, k2.2.1.trans b2, b3, b4⟩, ⟨k2.2.2.1.trans c1, k2.2.2.2.trans c2⟩, fun i hi => ?_, fun i hi => ?_, fun i hi hi6 => ?_, fun i hi => ?_, fun i hi hi6 => ?_, fun i hi => ?_⟩
  · rw [k1 i 0 hi, k0 i 0 hi, (b1_at hne 6 i hi).1, (b2_at hne 6 i hi).1]; exact hn i hi
  · have h6 : i < 6 := by omega
    obtain ⟨u1, u2⟩ := e i hi
    obtain ⟨-, t1, t2, t3, t4, t5, t6, t7, t8⟩ := b1_at (mi := mi) hne 6 i h6
    refine ⟨?_, u2⟩
    unfold k_cz at u1 ⊢
    rw [k1 i 1 h6, k1 i 2 h6, k1 i 3 h6, k1 i 4 h6, k1 i 5 h6, k1 i 6 h6, k1 i 7 h6, k1 i 8 h6, t1, t2, t3, t4, t5, t6, t7, t8]
    exact u1
  · rw [k1 i 1 hi6, (b1_at hne 6 i hi6).2.1]; exact f i hi hi6
  · have h6 : i < 6 := by omega
    obtain ⟨u1, u2⟩ := p i hi
    obtain ⟨-, t1, t2, t3, t4, t5, t6⟩ := b2_at (mi := mi) hne 6 i h6
    refine ⟨?_, u2⟩
    unfold k_bz at u1 ⊢
    rw [k0 i 1 h6, k0 i 2 h6, k0 i 3 h6, k0 i 4 h6, k0 i 5 h6, k0 i 6 h6, t1, t2, t3, t4, t5, t6]
    exact u1
  · rw [k0 i 1 hi6, (b2_at hne 6 i hi6).2.1]; exact r i hi hi6
  · rw [k1 i 2 hi, k0 i 2 hi, (b1_at hne 6 i hi).2.2.1, (b2_at hne 6 i hi).2.2.1]; exact z i hi
/-! the model: its city saved and brought back -/
theorem crO_at {m : MemI} {fo t f : Nat} (hne : fo ≠ t) (hf : f + 6 ≤ 80) : ∀ j, j ≤ 6 → ∀ p, f_X7_crO m fo t f j (8, t, 0) p = if f ≤ p ∧ p < f + j then m (8, fo, 0) (p - f) else m (8, t, 0) p := by
  intro j
  induction j with
  | zero => intro _ p; rw [if_neg (by omega)]; rfl
  | succ j ih =>
    intro hj p
    have hfo : f_X7_crO m fo t f j (8, fo, 0) j = m (8, fo, 0) j := crO_fr (by simp [hne]) j j
    rw [f_X7_crO_s, nI_add, nI_clamp (by omega), hfo]
    by_cases e : p = f + j
    · subst e
      rw [k_uis, if_pos (by omega), show f + j - f = j by omega]
    · rw [k_uj e, ih (by omega) p]
      by_cases q : f ≤ p ∧ p < f + j
      · rw [if_pos q, if_pos (by omega)]
      · rw [if_neg q, if_neg (by omega)]
theorem crI_fr {m : MemI} {fo t f : Nat} {k : Ky} (h : k ≠ (8, fo, 0)) : ∀ j q, f_X7_crI m fo t f j k q = m k q := by
  intro j q
  induction j with
  | zero => rfl
  | succ j ih => rw [f_X7_crI_s, k_uk h, ih]
theorem crI_at {m : MemI} {fo t f : Nat} (hne : fo ≠ t) (hf : f + 6 ≤ 80) : ∀ j, j ≤ 6 → ∀ i, i < j → f_X7_crI m fo t f j (8, fo, 0) i = m (8, t, 0) (f + i) := by
  intro j
  induction j with
  | zero => intro _ i h; omega
  | succ j ih =>
    intro hj i hi
    have ht : f_X7_crI m fo t f j (8, t, 0) (f + j) = m (8, t, 0) (f + j) := crI_fr (by simp [Ne.symm hne]) j _
    rw [f_X7_crI_s, nI_add, nI_clamp (by omega), ht]
    by_cases e : i = j
    · subst e; rw [k_uis]
    · rw [k_uj e]; exact ih (by omega) i (by omega)
/-- X's array t holds the core of mj -/
def k_sv (t : Nat) (mj X : MemI) : Prop := (∀ n i, n < 12 → i < 6 → X (8, t, 0) (6 * n + i) = mj (8, 6 + n, 0) i) ∧ ∀ q, q ≤ 3 → X (8, t, 0) (72 + q) = mj (7, 0, 0) q

theorem k_lt12 {P : Nat → Prop} (h0 : P 0) (h1 : P 1) (h2 : P 2) (h3 : P 3) (h4 : P 4) (h5 : P 5) (h6 : P 6) (h7 : P 7) (h8 : P 8) (h9 : P 9) (h10 : P 10) (h11 : P 11) : ∀ n, n < 12 → P n := by
  intro n hn
  match n, hn with
  | 0, _ => exact h0
  | 1, _ => exact h1
  | 2, _ => exact h2
  | 3, _ => exact h3
  | 4, _ => exact h4
  | 5, _ => exact h5
  | 6, _ => exact h6
  | 7, _ => exact h7
  | 8, _ => exact h8
  | 9, _ => exact h9
  | 10, _ => exact h10
  | 11, _ => exact h11
theorem sv_all {mj : MemI} {t : Nat} (ht : 17 < t) : k_sv t mj (f_X7_allO mj t) := by
  have hf : ∀ n, n ≤ 17 → ((8, n, 0) : Ky) ≠ (8, t, 0) := fun n hn => by simp; omega
  have h7 : ((7, 0, 0) : Ky) ≠ (8, t, 0) := by simp
  refine (fun (hA : ∀ n, n < 12 → ∀ i, i < 6 → (f_X7_allO mj t) (8, t, 0) (6 * n + i) = mj (8, 6 + n, 0) i) => ⟨fun n i hn hi => hA n hn i hi, fun q hq => ?_⟩) (k_lt12 (P := fun n => ∀ i, i < 6 → (f_X7_allO mj t) (8, t, 0) (6 * n + i) = mj (8, 6 + n, 0) i) ?_ ?_ ?_ ?_ ?_ ?_ ?_ ?_ ?_ ?_ ?_ ?_)
  · intro i hi
    unfold f_X7_allO
    rw [k_uj (by omega), k_uj (by omega), k_uj (by omega), k_uj (by omega)]
    rw [crO_at (by omega) (by decide) 6 (by decide), if_neg (by omega)]
    rw [crO_at (by omega) (by decide) 6 (by decide), if_neg (by omega)]
    rw [crO_at (by omega) (by decide) 6 (by decide), if_neg (by omega)]
    rw [crO_at (by omega) (by decide) 6 (by decide), if_neg (by omega)]
    rw [crO_at (by omega) (by decide) 6 (by decide), if_neg (by omega)]
    rw [crO_at (by omega) (by decide) 6 (by decide), if_neg (by omega)]
    rw [crO_at (by omega) (by decide) 6 (by decide), if_neg (by omega)]
    rw [crO_at (by omega) (by decide) 6 (by decide), if_neg (by omega)]
    rw [crO_at (by omega) (by decide) 6 (by decide), if_neg (by omega)]
    rw [crO_at (by omega) (by decide) 6 (by decide), if_neg (by omega)]
    rw [crO_at (by omega) (by decide) 6 (by decide), if_neg (by omega)]
    rw [crO_at (by omega) (by decide) 6 (by decide), if_pos (by omega), show 6 * 0 + i - 0 = i by omega]
  · intro i hi
    unfold f_X7_allO
    rw [k_uj (by omega), k_uj (by omega), k_uj (by omega), k_uj (by omega)]
    rw [crO_at (by omega) (by decide) 6 (by decide), if_neg (by omega)]
    rw [crO_at (by omega) (by decide) 6 (by decide), if_neg (by omega)]
    rw [crO_at (by omega) (by decide) 6 (by decide), if_neg (by omega)]
    rw [crO_at (by omega) (by decide) 6 (by decide), if_neg (by omega)]
    rw [crO_at (by omega) (by decide) 6 (by decide), if_neg (by omega)]
    rw [crO_at (by omega) (by decide) 6 (by decide), if_neg (by omega)]
    rw [crO_at (by omega) (by decide) 6 (by decide), if_neg (by omega)]
    rw [crO_at (by omega) (by decide) 6 (by decide), if_neg (by omega)]
    rw [crO_at (by omega) (by decide) 6 (by decide), if_neg (by omega)]
    rw [crO_at (by omega) (by decide) 6 (by decide), if_neg (by omega)]
    rw [crO_at (by omega) (by decide) 6 (by decide), if_pos (by omega), show 6 * 1 + i - 6 = i by omega]
    rw [crO_fr (hf 7 (by decide))]
  · intro i hi
    unfold f_X7_allO
    rw [k_uj (by omega), k_uj (by omega), k_uj (by omega), k_uj (by omega)]
    rw [crO_at (by omega) (by decide) 6 (by decide), if_neg (by omega)]
    rw [crO_at (by omega) (by decide) 6 (by decide), if_neg (by omega)]
    rw [crO_at (by omega) (by decide) 6 (by decide), if_neg (by omega)]
    rw [crO_at (by omega) (by decide) 6 (by decide), if_neg (by omega)]
    rw [crO_at (by omega) (by decide) 6 (by decide), if_neg (by omega)]
    rw [crO_at (by omega) (by decide) 6 (by decide), if_neg (by omega)]
    rw [crO_at (by omega) (by decide) 6 (by decide), if_neg (by omega)]
    rw [crO_at (by omega) (by decide) 6 (by decide), if_neg (by omega)]
    rw [crO_at (by omega) (by decide) 6 (by decide), if_neg (by omega)]
    rw [crO_at (by omega) (by decide) 6 (by decide), if_pos (by omega), show 6 * 2 + i - 12 = i by omega]
    rw [crO_fr (hf 8 (by decide))]
    rw [crO_fr (hf 8 (by decide))]
  · intro i hi
    unfold f_X7_allO
    rw [k_uj (by omega), k_uj (by omega), k_uj (by omega), k_uj (by omega)]
    rw [crO_at (by omega) (by decide) 6 (by decide), if_neg (by omega)]
    rw [crO_at (by omega) (by decide) 6 (by decide), if_neg (by omega)]
    rw [crO_at (by omega) (by decide) 6 (by decide), if_neg (by omega)]
    rw [crO_at (by omega) (by decide) 6 (by decide), if_neg (by omega)]
    rw [crO_at (by omega) (by decide) 6 (by decide), if_neg (by omega)]
    rw [crO_at (by omega) (by decide) 6 (by decide), if_neg (by omega)]
    rw [crO_at (by omega) (by decide) 6 (by decide), if_neg (by omega)]
    rw [crO_at (by omega) (by decide) 6 (by decide), if_neg (by omega)]
    rw [crO_at (by omega) (by decide) 6 (by decide), if_pos (by omega), show 6 * 3 + i - 18 = i by omega]
    rw [crO_fr (hf 9 (by decide))]
    rw [crO_fr (hf 9 (by decide))]
    rw [crO_fr (hf 9 (by decide))]
  · intro i hi
    unfold f_X7_allO
    rw [k_uj (by omega), k_uj (by omega), k_uj (by omega), k_uj (by omega)]
    rw [crO_at (by omega) (by decide) 6 (by decide), if_neg (by omega)]
    rw [crO_at (by omega) (by decide) 6 (by decide), if_neg (by omega)]
    rw [crO_at (by omega) (by decide) 6 (by decide), if_neg (by omega)]
    rw [crO_at (by omega) (by decide) 6 (by decide), if_neg (by omega)]
    rw [crO_at (by omega) (by decide) 6 (by decide), if_neg (by omega)]
    rw [crO_at (by omega) (by decide) 6 (by decide), if_neg (by omega)]
    rw [crO_at (by omega) (by decide) 6 (by decide), if_neg (by omega)]
    rw [crO_at (by omega) (by decide) 6 (by decide), if_pos (by omega), show 6 * 4 + i - 24 = i by omega]
    rw [crO_fr (hf 10 (by decide))]
    rw [crO_fr (hf 10 (by decide))]
    rw [crO_fr (hf 10 (by decide))]
    rw [crO_fr (hf 10 (by decide))]
  · intro i hi
    unfold f_X7_allO
    rw [k_uj (by omega), k_uj (by omega), k_uj (by omega), k_uj (by omega)]
    rw [crO_at (by omega) (by decide) 6 (by decide), if_neg (by omega)]
    rw [crO_at (by omega) (by decide) 6 (by decide), if_neg (by omega)]
    rw [crO_at (by omega) (by decide) 6 (by decide), if_neg (by omega)]
    rw [crO_at (by omega) (by decide) 6 (by decide), if_neg (by omega)]
    rw [crO_at (by omega) (by decide) 6 (by decide), if_neg (by omega)]
    rw [crO_at (by omega) (by decide) 6 (by decide), if_neg (by omega)]
    rw [crO_at (by omega) (by decide) 6 (by decide), if_pos (by omega), show 6 * 5 + i - 30 = i by omega]
    rw [crO_fr (hf 11 (by decide))]
    rw [crO_fr (hf 11 (by decide))]
    rw [crO_fr (hf 11 (by decide))]
    rw [crO_fr (hf 11 (by decide))]
    rw [crO_fr (hf 11 (by decide))]
  · intro i hi
    unfold f_X7_allO
    rw [k_uj (by omega), k_uj (by omega), k_uj (by omega), k_uj (by omega)]
    rw [crO_at (by omega) (by decide) 6 (by decide), if_neg (by omega)]
    rw [crO_at (by omega) (by decide) 6 (by decide), if_neg (by omega)]
    rw [crO_at (by omega) (by decide) 6 (by decide), if_neg (by omega)]
    rw [crO_at (by omega) (by decide) 6 (by decide), if_neg (by omega)]
    rw [crO_at (by omega) (by decide) 6 (by decide), if_neg (by omega)]
    rw [crO_at (by omega) (by decide) 6 (by decide), if_pos (by omega), show 6 * 6 + i - 36 = i by omega]
    rw [crO_fr (hf 12 (by decide))]
    rw [crO_fr (hf 12 (by decide))]
    rw [crO_fr (hf 12 (by decide))]
    rw [crO_fr (hf 12 (by decide))]
    rw [crO_fr (hf 12 (by decide))]
    rw [crO_fr (hf 12 (by decide))]
  · intro i hi
    unfold f_X7_allO
    rw [k_uj (by omega), k_uj (by omega), k_uj (by omega), k_uj (by omega)]
    rw [crO_at (by omega) (by decide) 6 (by decide), if_neg (by omega)]
    rw [crO_at (by omega) (by decide) 6 (by decide), if_neg (by omega)]
    rw [crO_at (by omega) (by decide) 6 (by decide), if_neg (by omega)]
    rw [crO_at (by omega) (by decide) 6 (by decide), if_neg (by omega)]
    rw [crO_at (by omega) (by decide) 6 (by decide), if_pos (by omega), show 6 * 7 + i - 42 = i by omega]
    rw [crO_fr (hf 13 (by decide))]
    rw [crO_fr (hf 13 (by decide))]
    rw [crO_fr (hf 13 (by decide))]
    rw [crO_fr (hf 13 (by decide))]
    rw [crO_fr (hf 13 (by decide))]
    rw [crO_fr (hf 13 (by decide))]
    rw [crO_fr (hf 13 (by decide))]
  · intro i hi
    unfold f_X7_allO
    rw [k_uj (by omega), k_uj (by omega), k_uj (by omega), k_uj (by omega)]
    rw [crO_at (by omega) (by decide) 6 (by decide), if_neg (by omega)]
    rw [crO_at (by omega) (by decide) 6 (by decide), if_neg (by omega)]
    rw [crO_at (by omega) (by decide) 6 (by decide), if_neg (by omega)]
    rw [crO_at (by omega) (by decide) 6 (by decide), if_pos (by omega), show 6 * 8 + i - 48 = i by omega]
    rw [crO_fr (hf 14 (by decide))]
    rw [crO_fr (hf 14 (by decide))]
    rw [crO_fr (hf 14 (by decide))]
    rw [crO_fr (hf 14 (by decide))]
    rw [crO_fr (hf 14 (by decide))]
    rw [crO_fr (hf 14 (by decide))]
    rw [crO_fr (hf 14 (by decide))]
    rw [crO_fr (hf 14 (by decide))]
  · intro i hi
    unfold f_X7_allO
    rw [k_uj (by omega), k_uj (by omega), k_uj (by omega), k_uj (by omega)]
    rw [crO_at (by omega) (by decide) 6 (by decide), if_neg (by omega)]
    rw [crO_at (by omega) (by decide) 6 (by decide), if_neg (by omega)]
    rw [crO_at (by omega) (by decide) 6 (by decide), if_pos (by omega), show 6 * 9 + i - 54 = i by omega]
    rw [crO_fr (hf 15 (by decide))]
    rw [crO_fr (hf 15 (by decide))]
    rw [crO_fr (hf 15 (by decide))]
    rw [crO_fr (hf 15 (by decide))]
    rw [crO_fr (hf 15 (by decide))]
    rw [crO_fr (hf 15 (by decide))]
    rw [crO_fr (hf 15 (by decide))]
    rw [crO_fr (hf 15 (by decide))]
    rw [crO_fr (hf 15 (by decide))]
  · intro i hi
    unfold f_X7_allO
    rw [k_uj (by omega), k_uj (by omega), k_uj (by omega), k_uj (by omega)]
    rw [crO_at (by omega) (by decide) 6 (by decide), if_neg (by omega)]
    rw [crO_at (by omega) (by decide) 6 (by decide), if_pos (by omega), show 6 * 10 + i - 60 = i by omega]
    rw [crO_fr (hf 16 (by decide))]
    rw [crO_fr (hf 16 (by decide))]
    rw [crO_fr (hf 16 (by decide))]
    rw [crO_fr (hf 16 (by decide))]
    rw [crO_fr (hf 16 (by decide))]
    rw [crO_fr (hf 16 (by decide))]
    rw [crO_fr (hf 16 (by decide))]
    rw [crO_fr (hf 16 (by decide))]
    rw [crO_fr (hf 16 (by decide))]
    rw [crO_fr (hf 16 (by decide))]
  · intro i hi
    unfold f_X7_allO
    rw [k_uj (by omega), k_uj (by omega), k_uj (by omega), k_uj (by omega)]
    rw [crO_at (by omega) (by decide) 6 (by decide), if_pos (by omega), show 6 * 11 + i - 66 = i by omega]
    rw [crO_fr (hf 17 (by decide))]
    rw [crO_fr (hf 17 (by decide))]
    rw [crO_fr (hf 17 (by decide))]
    rw [crO_fr (hf 17 (by decide))]
    rw [crO_fr (hf 17 (by decide))]
    rw [crO_fr (hf 17 (by decide))]
    rw [crO_fr (hf 17 (by decide))]
    rw [crO_fr (hf 17 (by decide))]
    rw [crO_fr (hf 17 (by decide))]
    rw [crO_fr (hf 17 (by decide))]
    rw [crO_fr (hf 17 (by decide))]
  · rcases (show q = 0 ∨ q = 1 ∨ q = 2 ∨ q = 3 by omega) with rfl | rfl | rfl | rfl
    · unfold f_X7_allO
      rw [k_uj (by decide)]
      rw [k_uj (by decide)]
      rw [k_uj (by decide)]
      rw [k_uis]
      repeat first | rw [k_uk h7] | rw [crO_fr h7]
    · unfold f_X7_allO
      rw [k_uj (by decide)]
      rw [k_uj (by decide)]
      rw [k_uis]
      repeat first | rw [k_uk h7] | rw [crO_fr h7]
    · unfold f_X7_allO
      rw [k_uj (by decide)]
      rw [k_uis]
      repeat first | rw [k_uk h7] | rw [crO_fr h7]
    · unfold f_X7_allO
      rw [k_uis]
      repeat first | rw [k_uk h7] | rw [crO_fr h7]

theorem sv_back {mj X : MemI} {t : Nat} (ht : 17 < t) (h : k_sv t mj X) : k_s6 mj (f_X7_allI X t) := by
  have hf : ∀ n, n ≤ 17 → ((8, t, 0) : Ky) ≠ (8, n, 0) := fun n hn => by simp; omega
  have h7 : ∀ n, ((7, 0, 0) : Ky) ≠ (8, n, 0) := fun n => by simp
  have ht7 : ((8, t, 0) : Ky) ≠ (7, 0, 0) := by simp
  have h12 : ∀ n, n < 12 → ∀ i, i < 6 → (f_X7_allI X t) (8, 6 + n, 0) i = mj (8, 6 + n, 0) i := by
    refine k_lt12 ?_ ?_ ?_ ?_ ?_ ?_ ?_ ?_ ?_ ?_ ?_ ?_
    · intro i hi
      rw [← h.1 0 i (by decide) hi]
      unfold f_X7_allI
      rw [k_uk (by decide), k_uk (by decide), k_uk (by decide), k_uk (by decide)]
      rw [crI_fr (by decide)]
      rw [crI_fr (by decide)]
      rw [crI_fr (by decide)]
      rw [crI_fr (by decide)]
      rw [crI_fr (by decide)]
      rw [crI_fr (by decide)]
      rw [crI_fr (by decide)]
      rw [crI_fr (by decide)]
      rw [crI_fr (by decide)]
      rw [crI_fr (by decide)]
      rw [crI_fr (by decide)]
      rw [crI_at (by omega) (by decide) 6 (by decide) i hi]
    · intro i hi
      rw [← h.1 1 i (by decide) hi]
      unfold f_X7_allI
      rw [k_uk (by decide), k_uk (by decide), k_uk (by decide), k_uk (by decide)]
      rw [crI_fr (by decide)]
      rw [crI_fr (by decide)]
      rw [crI_fr (by decide)]
      rw [crI_fr (by decide)]
      rw [crI_fr (by decide)]
      rw [crI_fr (by decide)]
      rw [crI_fr (by decide)]
      rw [crI_fr (by decide)]
      rw [crI_fr (by decide)]
      rw [crI_fr (by decide)]
      rw [crI_at (by omega) (by decide) 6 (by decide) i hi]
      rw [crI_fr (hf 6 (by decide))]
    · intro i hi
      rw [← h.1 2 i (by decide) hi]
      unfold f_X7_allI
      rw [k_uk (by decide), k_uk (by decide), k_uk (by decide), k_uk (by decide)]
      rw [crI_fr (by decide)]
      rw [crI_fr (by decide)]
      rw [crI_fr (by decide)]
      rw [crI_fr (by decide)]
      rw [crI_fr (by decide)]
      rw [crI_fr (by decide)]
      rw [crI_fr (by decide)]
      rw [crI_fr (by decide)]
      rw [crI_fr (by decide)]
      rw [crI_at (by omega) (by decide) 6 (by decide) i hi]
      rw [crI_fr (hf 7 (by decide))]
      rw [crI_fr (hf 6 (by decide))]
    · intro i hi
      rw [← h.1 3 i (by decide) hi]
      unfold f_X7_allI
      rw [k_uk (by decide), k_uk (by decide), k_uk (by decide), k_uk (by decide)]
      rw [crI_fr (by decide)]
      rw [crI_fr (by decide)]
      rw [crI_fr (by decide)]
      rw [crI_fr (by decide)]
      rw [crI_fr (by decide)]
      rw [crI_fr (by decide)]
      rw [crI_fr (by decide)]
      rw [crI_fr (by decide)]
      rw [crI_at (by omega) (by decide) 6 (by decide) i hi]
      rw [crI_fr (hf 8 (by decide))]
      rw [crI_fr (hf 7 (by decide))]
      rw [crI_fr (hf 6 (by decide))]
    · intro i hi
      rw [← h.1 4 i (by decide) hi]
      unfold f_X7_allI
      rw [k_uk (by decide), k_uk (by decide), k_uk (by decide), k_uk (by decide)]
      rw [crI_fr (by decide)]
      rw [crI_fr (by decide)]
      rw [crI_fr (by decide)]
      rw [crI_fr (by decide)]
      rw [crI_fr (by decide)]
      rw [crI_fr (by decide)]
      rw [crI_fr (by decide)]
      rw [crI_at (by omega) (by decide) 6 (by decide) i hi]
      rw [crI_fr (hf 9 (by decide))]
      rw [crI_fr (hf 8 (by decide))]
      rw [crI_fr (hf 7 (by decide))]
      rw [crI_fr (hf 6 (by decide))]
    · intro i hi
      rw [← h.1 5 i (by decide) hi]
      unfold f_X7_allI
      rw [k_uk (by decide), k_uk (by decide), k_uk (by decide), k_uk (by decide)]
      rw [crI_fr (by decide)]
      rw [crI_fr (by decide)]
      rw [crI_fr (by decide)]
      rw [crI_fr (by decide)]
      rw [crI_fr (by decide)]
      rw [crI_fr (by decide)]
      rw [crI_at (by omega) (by decide) 6 (by decide) i hi]
      rw [crI_fr (hf 10 (by decide))]
      rw [crI_fr (hf 9 (by decide))]
      rw [crI_fr (hf 8 (by decide))]
      rw [crI_fr (hf 7 (by decide))]
      rw [crI_fr (hf 6 (by decide))]
    · intro i hi
      rw [← h.1 6 i (by decide) hi]
      unfold f_X7_allI
      rw [k_uk (by decide), k_uk (by decide), k_uk (by decide), k_uk (by decide)]
      rw [crI_fr (by decide)]
      rw [crI_fr (by decide)]
      rw [crI_fr (by decide)]
      rw [crI_fr (by decide)]
      rw [crI_fr (by decide)]
      rw [crI_at (by omega) (by decide) 6 (by decide) i hi]
      rw [crI_fr (hf 11 (by decide))]
      rw [crI_fr (hf 10 (by decide))]
      rw [crI_fr (hf 9 (by decide))]
      rw [crI_fr (hf 8 (by decide))]
      rw [crI_fr (hf 7 (by decide))]
      rw [crI_fr (hf 6 (by decide))]
    · intro i hi
      rw [← h.1 7 i (by decide) hi]
      unfold f_X7_allI
      rw [k_uk (by decide), k_uk (by decide), k_uk (by decide), k_uk (by decide)]
      rw [crI_fr (by decide)]
      rw [crI_fr (by decide)]
      rw [crI_fr (by decide)]
      rw [crI_fr (by decide)]
      rw [crI_at (by omega) (by decide) 6 (by decide) i hi]
      rw [crI_fr (hf 12 (by decide))]
      rw [crI_fr (hf 11 (by decide))]
      rw [crI_fr (hf 10 (by decide))]
      rw [crI_fr (hf 9 (by decide))]
      rw [crI_fr (hf 8 (by decide))]
      rw [crI_fr (hf 7 (by decide))]
      rw [crI_fr (hf 6 (by decide))]
    · intro i hi
      rw [← h.1 8 i (by decide) hi]
      unfold f_X7_allI
      rw [k_uk (by decide), k_uk (by decide), k_uk (by decide), k_uk (by decide)]
      rw [crI_fr (by decide)]
      rw [crI_fr (by decide)]
      rw [crI_fr (by decide)]
      rw [crI_at (by omega) (by decide) 6 (by decide) i hi]
      rw [crI_fr (hf 13 (by decide))]
      rw [crI_fr (hf 12 (by decide))]
      rw [crI_fr (hf 11 (by decide))]
      rw [crI_fr (hf 10 (by decide))]
      rw [crI_fr (hf 9 (by decide))]
      rw [crI_fr (hf 8 (by decide))]
      rw [crI_fr (hf 7 (by decide))]
      rw [crI_fr (hf 6 (by decide))]
    · intro i hi
      rw [← h.1 9 i (by decide) hi]
      unfold f_X7_allI
      rw [k_uk (by decide), k_uk (by decide), k_uk (by decide), k_uk (by decide)]
      rw [crI_fr (by decide)]
      rw [crI_fr (by decide)]
      rw [crI_at (by omega) (by decide) 6 (by decide) i hi]
      rw [crI_fr (hf 14 (by decide))]
      rw [crI_fr (hf 13 (by decide))]
      rw [crI_fr (hf 12 (by decide))]
      rw [crI_fr (hf 11 (by decide))]
      rw [crI_fr (hf 10 (by decide))]
      rw [crI_fr (hf 9 (by decide))]
      rw [crI_fr (hf 8 (by decide))]
      rw [crI_fr (hf 7 (by decide))]
      rw [crI_fr (hf 6 (by decide))]
    · intro i hi
      rw [← h.1 10 i (by decide) hi]
      unfold f_X7_allI
      rw [k_uk (by decide), k_uk (by decide), k_uk (by decide), k_uk (by decide)]
      rw [crI_fr (by decide)]
      rw [crI_at (by omega) (by decide) 6 (by decide) i hi]
      rw [crI_fr (hf 15 (by decide))]
      rw [crI_fr (hf 14 (by decide))]
      rw [crI_fr (hf 13 (by decide))]
      rw [crI_fr (hf 12 (by decide))]
      rw [crI_fr (hf 11 (by decide))]
      rw [crI_fr (hf 10 (by decide))]
      rw [crI_fr (hf 9 (by decide))]
      rw [crI_fr (hf 8 (by decide))]
      rw [crI_fr (hf 7 (by decide))]
      rw [crI_fr (hf 6 (by decide))]
    · intro i hi
      rw [← h.1 11 i (by decide) hi]
      unfold f_X7_allI
      rw [k_uk (by decide), k_uk (by decide), k_uk (by decide), k_uk (by decide)]
      rw [crI_at (by omega) (by decide) 6 (by decide) i hi]
      rw [crI_fr (hf 16 (by decide))]
      rw [crI_fr (hf 15 (by decide))]
      rw [crI_fr (hf 14 (by decide))]
      rw [crI_fr (hf 13 (by decide))]
      rw [crI_fr (hf 12 (by decide))]
      rw [crI_fr (hf 11 (by decide))]
      rw [crI_fr (hf 10 (by decide))]
      rw [crI_fr (hf 9 (by decide))]
      rw [crI_fr (hf 8 (by decide))]
      rw [crI_fr (hf 7 (by decide))]
      rw [crI_fr (hf 6 (by decide))]
  refine ⟨fun n j h1 h2 h3 => ?_, fun q hq => ?_⟩
  · have := h12 (n - 6) (by omega) j h3
    rw [show 6 + (n - 6) = n by omega] at this
    exact this
  · rcases (show q = 0 ∨ q = 1 ∨ q = 2 ∨ q = 3 by omega) with rfl | rfl | rfl | rfl
    · rw [← h.2 0 (by decide)]
      unfold f_X7_allI
      repeat first | rw [k_uj (by decide)] | rw [k_uis] | rw [k_uk ht7]
      rw [crI_fr (hf 17 (by decide))]
      rw [crI_fr (hf 16 (by decide))]
      rw [crI_fr (hf 15 (by decide))]
      rw [crI_fr (hf 14 (by decide))]
      rw [crI_fr (hf 13 (by decide))]
      rw [crI_fr (hf 12 (by decide))]
      rw [crI_fr (hf 11 (by decide))]
      rw [crI_fr (hf 10 (by decide))]
      rw [crI_fr (hf 9 (by decide))]
      rw [crI_fr (hf 8 (by decide))]
      rw [crI_fr (hf 7 (by decide))]
      rw [crI_fr (hf 6 (by decide))]
    · rw [← h.2 1 (by decide)]
      unfold f_X7_allI
      repeat first | rw [k_uj (by decide)] | rw [k_uis] | rw [k_uk ht7]
      rw [crI_fr (hf 17 (by decide))]
      rw [crI_fr (hf 16 (by decide))]
      rw [crI_fr (hf 15 (by decide))]
      rw [crI_fr (hf 14 (by decide))]
      rw [crI_fr (hf 13 (by decide))]
      rw [crI_fr (hf 12 (by decide))]
      rw [crI_fr (hf 11 (by decide))]
      rw [crI_fr (hf 10 (by decide))]
      rw [crI_fr (hf 9 (by decide))]
      rw [crI_fr (hf 8 (by decide))]
      rw [crI_fr (hf 7 (by decide))]
      rw [crI_fr (hf 6 (by decide))]
    · rw [← h.2 2 (by decide)]
      unfold f_X7_allI
      repeat first | rw [k_uj (by decide)] | rw [k_uis] | rw [k_uk ht7]
      rw [crI_fr (hf 17 (by decide))]
      rw [crI_fr (hf 16 (by decide))]
      rw [crI_fr (hf 15 (by decide))]
      rw [crI_fr (hf 14 (by decide))]
      rw [crI_fr (hf 13 (by decide))]
      rw [crI_fr (hf 12 (by decide))]
      rw [crI_fr (hf 11 (by decide))]
      rw [crI_fr (hf 10 (by decide))]
      rw [crI_fr (hf 9 (by decide))]
      rw [crI_fr (hf 8 (by decide))]
      rw [crI_fr (hf 7 (by decide))]
      rw [crI_fr (hf 6 (by decide))]
    · rw [← h.2 3 (by decide)]
      unfold f_X7_allI
      repeat first | rw [k_uj (by decide)] | rw [k_uis] | rw [k_uk ht7]
      rw [crI_fr (hf 17 (by decide))]
      rw [crI_fr (hf 16 (by decide))]
      rw [crI_fr (hf 15 (by decide))]
      rw [crI_fr (hf 14 (by decide))]
      rw [crI_fr (hf 13 (by decide))]
      rw [crI_fr (hf 12 (by decide))]
      rw [crI_fr (hf 11 (by decide))]
      rw [crI_fr (hf 10 (by decide))]
      rw [crI_fr (hf 9 (by decide))]
      rw [crI_fr (hf 8 (by decide))]
      rw [crI_fr (hf 7 (by decide))]
      rw [crI_fr (hf 6 (by decide))]

