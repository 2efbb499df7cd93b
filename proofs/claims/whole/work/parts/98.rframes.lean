/-! level 2: frames for the reader -/
/-- what the reader leaves -/
def k_rk (k : Ky) : Bool := !(decide (k.1 ≤ 2) && k.2.1 == 1) && !(k.1 == 4) && !(k.1 == 8 && k.2.1 == 101)
theorem k_frR {mi : MemI} {K kk : Ky} {j qq : Nat} {v : Int32} (hk : k_rk kk = true) (hK : k_rk K = false) : k_ui mi K j v kk qq = mi kk qq :=
  if_neg (fun e => by rw [e.1, hK] at hk; cases hk)
theorem k_rk1 {kk : Ky} (hk : k_rk kk = true) : k_gr 1 kk = false := by
  simp only [k_rk, Bool.and_eq_true, Bool.not_eq_true'] at hk
  exact hk.1.1
theorem fr_X2_addCitizen {mi : MemI} {k a ms h : Int32} {kk : Ky} {qq : Nat} (hk : k_rk kk = true) : (f_X2_addCitizen mi 1 k a ms h).2 kk qq = mi kk qq := fg_X2_addCitizen (k_rk1 hk)
theorem fr_X2_addBeggar {mi : MemI} {n r : Int32} {kk : Ky} {qq : Nat} (hk : k_rk kk = true) : (f_X2_addBeggar mi 1 n r).2 kk qq = mi kk qq := fg_X2_addBeggar (k_rk1 hk)
theorem fr_X4_failAt {mi : MemI} {x : Int32} {kk : Ky} {qq : Nat} (hk : k_rk kk = true) : (f_X4_failAt mi x).2 kk qq = mi kk qq := by
  unfold f_X4_failAt
  dsimp only
  exact (k_frR hk rfl).trans (rfl)
theorem fr_X4_readSign {mi : MemI} {x : Int32} {kk : Ky} {qq : Nat} (hk : k_rk kk = true) : (f_X4_readSign mi x).2 kk qq = mi kk qq := by
  unfold f_X4_readSign
  refine k_ite (P := fun (z : Int32 × MemI) => z.2 kk qq = mi kk qq) (fun hq0 => ?_) (fun hq0 => ?_)
  · skip
    dsimp only
    exact (k_frR hk rfl).trans (rfl)
  · skip
    dsimp only
    exact (fr_X4_failAt hk).trans (rfl)
theorem fr_X4_readNumber {mi : MemI} {lo : Int32} {hi0 : Int32} {kk : Ky} {qq : Nat} (hk : k_rk kk = true) : (f_X4_readNumber mi lo hi0).2 kk qq = mi kk qq := by
  unfold f_X4_readNumber
  refine k_ite (P := fun (z : Int32 × MemI) => z.2 kk qq = mi kk qq) (fun hq0 => ?_) (fun hq0 => ?_)
  · skip
    dsimp only
    exact (fr_X4_readSign hk).trans (rfl)
  · skip
    refine k_ite (P := fun (z : Int32 × MemI) => z.2 kk qq = mi kk qq) (fun hq1 => ?_) (fun hq1 => ?_)
    · skip
      dsimp only
      exact (fr_X4_failAt hk).trans ((fr_X4_readSign hk).trans (rfl))
    · skip
      refine k_ite (P := fun (z : Int32 × MemI) => z.2 kk qq = mi kk qq) (fun hq2 => ?_) (fun hq2 => ?_)
      · skip
        refine k_ite (P := fun (z : Int32 × MemI) => z.2 kk qq = mi kk qq) (fun hq3 => ?_) (fun hq3 => ?_)
        · skip
          dsimp only
          exact (k_frR hk rfl).trans ((fr_X4_readSign hk).trans (rfl))
        · skip
          dsimp only
          exact (fr_X4_failAt hk).trans ((k_frR hk rfl).trans ((fr_X4_readSign hk).trans (rfl)))
      · skip
        refine k_ite (P := fun (z : Int32 × MemI) => z.2 kk qq = mi kk qq) (fun hq3 => ?_) (fun hq3 => ?_)
        · skip
          dsimp only
          exact (k_frR hk rfl).trans ((k_frR hk rfl).trans ((fr_X4_readSign hk).trans (rfl)))
        · skip
          dsimp only
          exact (fr_X4_failAt hk).trans ((k_frR hk rfl).trans ((k_frR hk rfl).trans ((fr_X4_readSign hk).trans (rfl))))
theorem fr_X4_hasRoom {mi : MemI} {n : Int32} {x : Int32} {kk : Ky} {qq : Nat} (hk : k_rk kk = true) : (f_X4_hasRoom mi n x).2 kk qq = mi kk qq := by
  unfold f_X4_hasRoom
  refine k_ite (P := fun (z : Int32 × MemI) => z.2 kk qq = mi kk qq) (fun hq0 => ?_) (fun hq0 => ?_)
  · skip
    exact rfl
  · skip
    refine k_ite (P := fun (z : Int32 × MemI) => z.2 kk qq = mi kk qq) (fun hq1 => ?_) (fun hq1 => ?_)
    · skip
      dsimp only
      exact (fr_X4_failAt hk).trans (rfl)
    · skip
      dsimp only
      exact (fr_X4_failAt hk).trans (rfl)
theorem fr_X4_readCitizen {mi : MemI} {kk : Ky} {qq : Nat} (hk : k_rk kk = true) : (f_X4_readCitizen mi).2 kk qq = mi kk qq := by
  unfold f_X4_readCitizen
  refine k_ite (P := fun (z : Int32 × MemI) => z.2 kk qq = mi kk qq) (fun hq0 => ?_) (fun hq0 => ?_)
  · skip
    dsimp only
    exact (fr_X4_readNumber hk).trans (rfl)
  · skip
    refine k_ite (P := fun (z : Int32 × MemI) => z.2 kk qq = mi kk qq) (fun hq1 => ?_) (fun hq1 => ?_)
    · skip
      dsimp only
      exact (fr_X4_readNumber hk).trans ((fr_X4_readNumber hk).trans (rfl))
    · skip
      refine k_ite (P := fun (z : Int32 × MemI) => z.2 kk qq = mi kk qq) (fun hq2 => ?_) (fun hq2 => ?_)
      · skip
        dsimp only
        exact (fr_X4_readNumber hk).trans ((fr_X4_readNumber hk).trans ((fr_X4_readNumber hk).trans (rfl)))
      · skip
        refine k_ite (P := fun (z : Int32 × MemI) => z.2 kk qq = mi kk qq) (fun hq3 => ?_) (fun hq3 => ?_)
        · skip
          dsimp only
          exact (fr_X4_readNumber hk).trans ((fr_X4_readNumber hk).trans ((fr_X4_readNumber hk).trans ((fr_X4_readNumber hk).trans (rfl))))
        · skip
          refine k_ite (P := fun (z : Int32 × MemI) => z.2 kk qq = mi kk qq) (fun hq4 => ?_) (fun hq4 => ?_)
          · skip
            dsimp only
            exact (fr_X2_addCitizen hk).trans ((fr_X4_readNumber hk).trans ((fr_X4_readNumber hk).trans ((fr_X4_readNumber hk).trans ((fr_X4_readNumber hk).trans (rfl)))))
          · skip
            dsimp only
            exact (fr_X2_addCitizen hk).trans ((fr_X4_readNumber hk).trans ((fr_X4_readNumber hk).trans ((fr_X4_readNumber hk).trans ((fr_X4_readNumber hk).trans (rfl)))))
theorem fr_X4_readBeggar {mi : MemI} {kk : Ky} {qq : Nat} (hk : k_rk kk = true) : (f_X4_readBeggar mi).2 kk qq = mi kk qq := by
  unfold f_X4_readBeggar
  refine k_ite (P := fun (z : Int32 × MemI) => z.2 kk qq = mi kk qq) (fun hq0 => ?_) (fun hq0 => ?_)
  · skip
    dsimp only
    exact (fr_X4_readNumber hk).trans (rfl)
  · skip
    refine k_ite (P := fun (z : Int32 × MemI) => z.2 kk qq = mi kk qq) (fun hq1 => ?_) (fun hq1 => ?_)
    · skip
      dsimp only
      exact (fr_X4_readNumber hk).trans ((fr_X4_readNumber hk).trans (rfl))
    · skip
      refine k_ite (P := fun (z : Int32 × MemI) => z.2 kk qq = mi kk qq) (fun hq2 => ?_) (fun hq2 => ?_)
      · skip
        dsimp only
        exact (fr_X2_addBeggar hk).trans ((fr_X4_readNumber hk).trans ((fr_X4_readNumber hk).trans (rfl)))
      · skip
        dsimp only
        exact (fr_X2_addBeggar hk).trans ((fr_X4_readNumber hk).trans ((fr_X4_readNumber hk).trans (rfl)))
theorem fr_X4_readPost {mi : MemI} {kk : Ky} {qq : Nat} (hk : k_rk kk = true) : (f_X4_readPost mi).2 kk qq = mi kk qq := by
  unfold f_X4_readPost
  refine k_ite (P := fun (z : Int32 × MemI) => z.2 kk qq = mi kk qq) (fun hq0 => ?_) (fun hq0 => ?_)
  · skip
    dsimp only
    exact (k_frR hk rfl).trans ((fr_X4_readNumber hk).trans (rfl))
  · skip
    dsimp only
    exact (fr_X4_readNumber hk).trans (rfl)
theorem fr_X4_readOfCitizen {mi : MemI} {w : Int32} {kk : Ky} {qq : Nat} (hk : k_rk kk = true) : (f_X4_readOfCitizen mi w).2 kk qq = mi kk qq := by
  unfold f_X4_readOfCitizen
  refine k_ite (P := fun (z : Int32 × MemI) => z.2 kk qq = mi kk qq) (fun hq0 => ?_) (fun hq0 => ?_)
  · skip
    refine k_ite (P := fun (z : Int32 × MemI) => z.2 kk qq = mi kk qq) (fun hq1 => ?_) (fun hq1 => ?_)
    · skip
      refine k_ite (P := fun (z : Int32 × MemI) => z.2 kk qq = mi kk qq) (fun hq2 => ?_) (fun hq2 => ?_)
      · skip
        dsimp only
        exact (fr_X4_readNumber hk).trans ((fr_X4_readNumber hk).trans (rfl))
      · skip
        dsimp only
        exact (k_frR hk rfl).trans ((fr_X4_readNumber hk).trans ((fr_X4_readNumber hk).trans (rfl)))
    · skip
      refine k_ite (P := fun (z : Int32 × MemI) => z.2 kk qq = mi kk qq) (fun hq2 => ?_) (fun hq2 => ?_)
      · skip
        dsimp only
        exact (k_frR hk rfl).trans ((fr_X4_readNumber hk).trans (rfl))
      · skip
        dsimp only
        exact (k_frR hk rfl).trans ((fr_X4_readNumber hk).trans (rfl))
  · skip
    dsimp only
    exact (fr_X4_readNumber hk).trans (rfl)
theorem fr_X4_rwR {mi : MemI} {kk : Ky} {qq : Nat} (hk : k_rk kk = true) : ∀ {u : Nat} {j : Nat} {fu : Int32}, (f_X4_rwR mi u j fu).2 kk qq = mi kk qq := by
  intro u
  induction u with
  | zero =>
    intro j fu
    show (f_X4_rwR mi 0 j fu).2 kk qq = mi kk qq
    unfold f_X4_rwR
    dsimp only
    exact (fr_X4_failAt hk).trans (rfl)
  | succ u ih =>
    intro j fu
    rw [f_X4_rwR_s]
    refine k_ite (P := fun (z : Int32 × MemI) => z.2 kk qq = mi kk qq) (fun hq0 => ?_) (fun hq0 => ?_)
    · skip
      dsimp only
      exact (k_frR hk rfl).trans (rfl)
    · skip
      exact ih.trans (rfl)
theorem fr_X4_readWord {mi : MemI} {kk : Ky} {qq : Nat} (hk : k_rk kk = true) : (f_X4_readWord mi).2 kk qq = mi kk qq := by
  unfold f_X4_readWord
  exact (fr_X4_rwR hk).trans (rfl)
theorem fr_X4_readItem {mi : MemI} {kk : Ky} {qq : Nat} (hk : k_rk kk = true) : (f_X4_readItem mi).2 kk qq = mi kk qq := by
  unfold f_X4_readItem
  refine k_ite (P := fun (z : Int32 × MemI) => z.2 kk qq = mi kk qq) (fun hq0 => ?_) (fun hq0 => ?_)
  · skip
    refine k_ite (P := fun (z : Int32 × MemI) => z.2 kk qq = mi kk qq) (fun hq1 => ?_) (fun hq1 => ?_)
    · skip
      dsimp only
      exact (fr_X4_hasRoom hk).trans ((fr_X4_readWord hk).trans (rfl))
    · skip
      refine k_ite (P := fun (z : Int32 × MemI) => z.2 kk qq = mi kk qq) (fun hq2 => ?_) (fun hq2 => ?_)
      · skip
        dsimp only
        exact (fr_X4_readCitizen hk).trans ((fr_X4_hasRoom hk).trans ((fr_X4_readWord hk).trans (rfl)))
      · skip
        dsimp only
        exact (fr_X4_readCitizen hk).trans ((fr_X4_hasRoom hk).trans ((fr_X4_readWord hk).trans (rfl)))
  · skip
    refine k_ite (P := fun (z : Int32 × MemI) => z.2 kk qq = mi kk qq) (fun hq1 => ?_) (fun hq1 => ?_)
    · skip
      refine k_ite (P := fun (z : Int32 × MemI) => z.2 kk qq = mi kk qq) (fun hq2 => ?_) (fun hq2 => ?_)
      · skip
        dsimp only
        exact (fr_X4_hasRoom hk).trans ((fr_X4_readWord hk).trans (rfl))
      · skip
        refine k_ite (P := fun (z : Int32 × MemI) => z.2 kk qq = mi kk qq) (fun hq3 => ?_) (fun hq3 => ?_)
        · skip
          dsimp only
          exact (fr_X4_readBeggar hk).trans ((fr_X4_hasRoom hk).trans ((fr_X4_readWord hk).trans (rfl)))
        · skip
          dsimp only
          exact (fr_X4_readBeggar hk).trans ((fr_X4_hasRoom hk).trans ((fr_X4_readWord hk).trans (rfl)))
    · skip
      refine k_ite (P := fun (z : Int32 × MemI) => z.2 kk qq = mi kk qq) (fun hq2 => ?_) (fun hq2 => ?_)
      · skip
        dsimp only
        exact (fr_X4_readPost hk).trans ((fr_X4_readWord hk).trans (rfl))
      · skip
        refine k_ite (P := fun (z : Int32 × MemI) => z.2 kk qq = mi kk qq) (fun hq3 => ?_) (fun hq3 => ?_)
        · skip
          dsimp only
          exact (fr_X4_readWord hk).trans (rfl)
        · skip
          refine k_ite (P := fun (z : Int32 × MemI) => z.2 kk qq = mi kk qq) (fun hq4 => ?_) (fun hq4 => ?_)
          · skip
            dsimp only
            exact (fr_X4_readOfCitizen hk).trans ((fr_X4_readWord hk).trans (rfl))
          · skip
            dsimp only
            exact (fr_X4_readOfCitizen hk).trans ((fr_X4_readWord hk).trans (rfl))
theorem fr_X4_sg {ml : MemL} {i2 : Nat} {mi : MemI} {kk : Ky} {qq : Nat} (hk : k_rk kk = true) : ∀ {j : Nat}, (f_X4_sg mi ml i2 j) kk qq = mi kk qq := by
  intro j
  induction j with
  | zero => rfl
  | succ j ih =>
    rw [f_X4_sg_s]
    exact (k_frR hk rfl).trans (ih)
theorem fr_X4_rdR  {kk : Ky} {qq : Nat} (hk : k_rk kk = true) : ∀ {u : Nat} {j : Nat} {m0 : MemI}, (f_X4_rdR  u j m0).2 kk qq = m0 kk qq := by
  intro u
  induction u with
  | zero =>
    intro j m0
    show (f_X4_rdR  0 j m0).2 kk qq = m0 kk qq
    unfold f_X4_rdR
    exact rfl
  | succ u ih =>
    intro j m0
    rw [f_X4_rdR_s]
    refine k_ite (P := fun (z : Int32 × MemI) => z.2 kk qq = m0 kk qq) (fun hq0 => ?_) (fun hq0 => ?_)
    · skip
      dsimp only
      exact (fr_X4_readItem hk).trans (rfl)
    · skip
      refine k_ite (P := fun (z : Int32 × MemI) => z.2 kk qq = m0 kk qq) (fun hq1 => ?_) (fun hq1 => ?_)
      · skip
        refine k_ite (P := fun (z : Int32 × MemI) => z.2 kk qq = m0 kk qq) (fun hq2 => ?_) (fun hq2 => ?_)
        · skip
          dsimp only
          exact (fr_X4_readSign hk).trans ((fr_X4_readItem hk).trans (rfl))
        · skip
          exact ih.trans ((fr_X4_readSign hk).trans ((fr_X4_readItem hk).trans (rfl)))
      · skip
        dsimp only
        exact (fr_X4_readItem hk).trans (rfl)
theorem fr_X4_read {mi : MemI} {ml : MemL} {i2 : Nat} {kk : Ky} {qq : Nat} (hk : k_rk kk = true) : (f_X4_read mi ml i2).2 kk qq = mi kk qq := by
  unfold f_X4_read
  exact (fr_X4_rdR hk).trans ((k_frR hk rfl).trans ((k_frR hk rfl).trans ((fr_X4_sg hk).trans ((k_frR hk rfl).trans (rfl)))))
theorem fw_X7_wrong {mi : MemI} {x : Int32} {kk : Ky} {qq : Nat} (hk : k_mw kk qq = false) : (f_X7_wrong mi x).2 kk qq = mi kk qq := by
  unfold f_X7_wrong
  dsimp only
  exact (k_frW hk rfl).trans (rfl)
theorem fw_X7_word {mi : MemI} {ml : MemL} {kk : Ky} {qq : Nat} (hk : k_mw kk qq = false) : (f_X7_word mi ml).2 kk qq = mi kk qq := by
  unfold f_X7_word
  refine k_ite (P := fun (z : Int32 × MemI) => z.2 kk qq = mi kk qq) (fun hq0 => ?_) (fun hq0 => ?_)
  · skip
    dsimp only
    exact (k_frW hk rfl).trans (rfl)
  · skip
    refine k_ite (P := fun (z : Int32 × MemI) => z.2 kk qq = mi kk qq) (fun hq1 => ?_) (fun hq1 => ?_)
    · skip
      dsimp only
      exact (k_frW hk rfl).trans (rfl)
    · skip
      refine k_ite (P := fun (z : Int32 × MemI) => z.2 kk qq = mi kk qq) (fun hq2 => ?_) (fun hq2 => ?_)
      · skip
        dsimp only
        exact (k_frW hk rfl).trans (rfl)
      · skip
        refine k_ite (P := fun (z : Int32 × MemI) => z.2 kk qq = mi kk qq) (fun hq3 => ?_) (fun hq3 => ?_)
        · skip
          dsimp only
          exact (k_frW hk rfl).trans (rfl)
        · skip
          refine k_ite (P := fun (z : Int32 × MemI) => z.2 kk qq = mi kk qq) (fun hq4 => ?_) (fun hq4 => ?_)
          · skip
            dsimp only
            exact (k_frW hk rfl).trans (rfl)
          · skip
            refine k_ite (P := fun (z : Int32 × MemI) => z.2 kk qq = mi kk qq) (fun hq5 => ?_) (fun hq5 => ?_)
            · skip
              dsimp only
              exact (k_frW hk rfl).trans (rfl)
            · skip
              dsimp only
              exact (k_frW hk rfl).trans (rfl)
theorem fw_X7_reads {mi : MemI} {ml : MemL} {kk : Ky} {qq : Nat} (hk : k_mw kk qq = false) : (f_X7_reads mi ml).2 kk qq = mi kk qq := by
  unfold f_X7_reads
  refine k_ite (P := fun (z : Int32 × MemI) => z.2 kk qq = mi kk qq) (fun hq0 => ?_) (fun hq0 => ?_)
  · skip
    dsimp only
    exact (fw_X7_wrong hk).trans ((k_frW hk rfl).trans (rfl))
  · skip
    refine k_ite (P := fun (z : Int32 × MemI) => z.2 kk qq = mi kk qq) (fun hq1 => ?_) (fun hq1 => ?_)
    · skip
      dsimp only
      exact (k_frW hk rfl).trans ((k_frW hk rfl).trans ((k_frW hk rfl).trans (rfl)))
    · skip
      dsimp only
      exact (k_frW hk rfl).trans ((k_frW hk rfl).trans ((k_frW hk rfl).trans ((k_frW hk rfl).trans ((k_frW hk rfl).trans (rfl)))))
theorem fw_X7_bl {mi : MemI} {ml : MemL} {kk : Ky} {qq : Nat} (hk : k_mw kk qq = false) : (f_X7_bl mi ml).2 kk qq = mi kk qq := by
  unfold f_X7_bl
  refine k_ite (P := fun (z : Int32 × MemI) => z.2 kk qq = mi kk qq) (fun hq0 => ?_) (fun hq0 => ?_)
  · skip
    dsimp only
    exact (fw_X7_wrong hk).trans (rfl)
  · skip
    refine k_ite (P := fun (z : Int32 × MemI) => z.2 kk qq = mi kk qq) (fun hq1 => ?_) (fun hq1 => ?_)
    · skip
      dsimp only
      exact (k_frW hk rfl).trans (rfl)
    · skip
      dsimp only
      exact (fw_X7_wrong hk).trans (rfl)
theorem fw_X7_rdn {mi : MemI} {ml : MemL} {w : Int32} {x : Int32} {kk : Ky} {qq : Nat} (hk : k_mw kk qq = false) : (f_X7_rdn mi ml w x).2 kk qq = mi kk qq := by
  unfold f_X7_rdn
  refine k_ite (P := fun (z : Int32 × MemI) => z.2 kk qq = mi kk qq) (fun hq0 => ?_) (fun hq0 => ?_)
  · skip
    dsimp only
    exact (fw_X7_reads hk).trans (rfl)
  · skip
    refine k_ite (P := fun (z : Int32 × MemI) => z.2 kk qq = mi kk qq) (fun hq1 => ?_) (fun hq1 => ?_)
    · skip
      dsimp only
      exact (fw_X7_wrong hk).trans ((fw_X7_reads hk).trans (rfl))
    · skip
      dsimp only
      exact (k_frW hk rfl).trans ((fw_X7_reads hk).trans (rfl))
theorem fw_X7_addsCitizen {mi : MemI} {k : Int32} {a : Int32} {ms : Int32} {h : Int32} {kk : Ky} {qq : Nat} (hk : k_mw kk qq = false) : (f_X7_addsCitizen mi k a ms h).2 kk qq = mi kk qq := by
  unfold f_X7_addsCitizen
  dsimp only
  exact (k_frW hk rfl).trans ((k_frW hk rfl).trans ((k_frW hk rfl).trans ((k_frW hk rfl).trans ((k_frW hk rfl).trans ((k_frW hk rfl).trans ((k_frW hk rfl).trans ((k_frW hk rfl).trans (rfl))))))))
theorem fw_X7_addsBeggar {mi : MemI} {n : Int32} {r : Int32} {kk : Ky} {qq : Nat} (hk : k_mw kk qq = false) : (f_X7_addsBeggar mi n r).2 kk qq = mi kk qq := by
  unfold f_X7_addsBeggar
  dsimp only
  exact (k_frW hk rfl).trans ((k_frW hk rfl).trans ((k_frW hk rfl).trans ((k_frW hk rfl).trans ((k_frW hk rfl).trans ((k_frW hk rfl).trans (rfl))))))
theorem fw_X7_item {mi : MemI} {ml : MemL} {kk : Ky} {qq : Nat} (hk : k_mw kk qq = false) : (f_X7_item mi ml).2 kk qq = mi kk qq := by
  unfold f_X7_item
  refine k_ite (P := fun (z : Int32 × MemI) => z.2 kk qq = mi kk qq) (fun hq0 => ?_) (fun hq0 => ?_)
  · skip
    refine k_ite (P := fun (z : Int32 × MemI) => z.2 kk qq = mi kk qq) (fun hq1 => ?_) (fun hq1 => ?_)
    · skip
      dsimp only
      exact (fw_X7_word hk).trans (rfl)
    · skip
      refine k_ite (P := fun (z : Int32 × MemI) => z.2 kk qq = mi kk qq) (fun hq2 => ?_) (fun hq2 => ?_)
      · skip
        refine k_ite (P := fun (z : Int32 × MemI) => z.2 kk qq = mi kk qq) (fun hq3 => ?_) (fun hq3 => ?_)
        · skip
          dsimp only
          exact (fw_X7_rdn hk).trans ((fw_X7_word hk).trans (rfl))
        · skip
          refine k_ite (P := fun (z : Int32 × MemI) => z.2 kk qq = mi kk qq) (fun hq4 => ?_) (fun hq4 => ?_)
          · skip
            dsimp only
            exact (fw_X7_bl hk).trans ((fw_X7_rdn hk).trans ((fw_X7_word hk).trans (rfl)))
          · skip
            refine k_ite (P := fun (z : Int32 × MemI) => z.2 kk qq = mi kk qq) (fun hq5 => ?_) (fun hq5 => ?_)
            · skip
              dsimp only
              exact (fw_X7_rdn hk).trans ((fw_X7_bl hk).trans ((fw_X7_rdn hk).trans ((fw_X7_word hk).trans (rfl))))
            · skip
              refine k_ite (P := fun (z : Int32 × MemI) => z.2 kk qq = mi kk qq) (fun hq6 => ?_) (fun hq6 => ?_)
              · skip
                dsimp only
                exact (fw_X7_bl hk).trans ((fw_X7_rdn hk).trans ((fw_X7_bl hk).trans ((fw_X7_rdn hk).trans ((fw_X7_word hk).trans (rfl)))))
              · skip
                refine k_ite (P := fun (z : Int32 × MemI) => z.2 kk qq = mi kk qq) (fun hq7 => ?_) (fun hq7 => ?_)
                · skip
                  dsimp only
                  exact (fw_X7_rdn hk).trans ((fw_X7_bl hk).trans ((fw_X7_rdn hk).trans ((fw_X7_bl hk).trans ((fw_X7_rdn hk).trans ((fw_X7_word hk).trans (rfl))))))
                · skip
                  refine k_ite (P := fun (z : Int32 × MemI) => z.2 kk qq = mi kk qq) (fun hq8 => ?_) (fun hq8 => ?_)
                  · skip
                    dsimp only
                    exact (fw_X7_bl hk).trans ((fw_X7_rdn hk).trans ((fw_X7_bl hk).trans ((fw_X7_rdn hk).trans ((fw_X7_bl hk).trans ((fw_X7_rdn hk).trans ((fw_X7_word hk).trans (rfl)))))))
                  · skip
                    refine k_ite (P := fun (z : Int32 × MemI) => z.2 kk qq = mi kk qq) (fun hq9 => ?_) (fun hq9 => ?_)
                    · skip
                      dsimp only
                      exact (fw_X7_rdn hk).trans ((fw_X7_bl hk).trans ((fw_X7_rdn hk).trans ((fw_X7_bl hk).trans ((fw_X7_rdn hk).trans ((fw_X7_bl hk).trans ((fw_X7_rdn hk).trans ((fw_X7_word hk).trans (rfl))))))))
                    · skip
                      dsimp only
                      exact (fw_X7_addsCitizen hk).trans ((fw_X7_rdn hk).trans ((fw_X7_bl hk).trans ((fw_X7_rdn hk).trans ((fw_X7_bl hk).trans ((fw_X7_rdn hk).trans ((fw_X7_bl hk).trans ((fw_X7_rdn hk).trans ((fw_X7_word hk).trans (rfl)))))))))
      · skip
        refine k_ite (P := fun (z : Int32 × MemI) => z.2 kk qq = mi kk qq) (fun hq3 => ?_) (fun hq3 => ?_)
        · skip
          refine k_ite (P := fun (z : Int32 × MemI) => z.2 kk qq = mi kk qq) (fun hq4 => ?_) (fun hq4 => ?_)
          · skip
            dsimp only
            exact (fw_X7_rdn hk).trans ((fw_X7_word hk).trans (rfl))
          · skip
            refine k_ite (P := fun (z : Int32 × MemI) => z.2 kk qq = mi kk qq) (fun hq5 => ?_) (fun hq5 => ?_)
            · skip
              dsimp only
              exact (fw_X7_bl hk).trans ((fw_X7_rdn hk).trans ((fw_X7_word hk).trans (rfl)))
            · skip
              refine k_ite (P := fun (z : Int32 × MemI) => z.2 kk qq = mi kk qq) (fun hq6 => ?_) (fun hq6 => ?_)
              · skip
                dsimp only
                exact (fw_X7_rdn hk).trans ((fw_X7_bl hk).trans ((fw_X7_rdn hk).trans ((fw_X7_word hk).trans (rfl))))
              · skip
                dsimp only
                exact (fw_X7_addsBeggar hk).trans ((fw_X7_rdn hk).trans ((fw_X7_bl hk).trans ((fw_X7_rdn hk).trans ((fw_X7_word hk).trans (rfl)))))
        · skip
          refine k_ite (P := fun (z : Int32 × MemI) => z.2 kk qq = mi kk qq) (fun hq4 => ?_) (fun hq4 => ?_)
          · skip
            refine k_ite (P := fun (z : Int32 × MemI) => z.2 kk qq = mi kk qq) (fun hq5 => ?_) (fun hq5 => ?_)
            · skip
              dsimp only
              exact (fw_X7_rdn hk).trans ((fw_X7_word hk).trans (rfl))
            · skip
              refine k_ite (P := fun (z : Int32 × MemI) => z.2 kk qq = mi kk qq) (fun hq6 => ?_) (fun hq6 => ?_)
              · skip
                dsimp only
                exact (fw_X7_bl hk).trans ((fw_X7_rdn hk).trans ((fw_X7_word hk).trans (rfl)))
              · skip
                refine k_ite (P := fun (z : Int32 × MemI) => z.2 kk qq = mi kk qq) (fun hq7 => ?_) (fun hq7 => ?_)
                · skip
                  dsimp only
                  exact (fw_X7_rdn hk).trans ((fw_X7_bl hk).trans ((fw_X7_rdn hk).trans ((fw_X7_word hk).trans (rfl))))
                · skip
                  dsimp only
                  exact (k_frW hk rfl).trans ((fw_X7_rdn hk).trans ((fw_X7_bl hk).trans ((fw_X7_rdn hk).trans ((fw_X7_word hk).trans (rfl)))))
          · skip
            refine k_ite (P := fun (z : Int32 × MemI) => z.2 kk qq = mi kk qq) (fun hq5 => ?_) (fun hq5 => ?_)
            · skip
              refine k_ite (P := fun (z : Int32 × MemI) => z.2 kk qq = mi kk qq) (fun hq6 => ?_) (fun hq6 => ?_)
              · skip
                dsimp only
                exact (fw_X7_rdn hk).trans ((fw_X7_word hk).trans (rfl))
              · skip
                dsimp only
                exact (k_frW hk rfl).trans ((fw_X7_rdn hk).trans ((fw_X7_word hk).trans (rfl)))
            · skip
              refine k_ite (P := fun (z : Int32 × MemI) => z.2 kk qq = mi kk qq) (fun hq6 => ?_) (fun hq6 => ?_)
              · skip
                refine k_ite (P := fun (z : Int32 × MemI) => z.2 kk qq = mi kk qq) (fun hq7 => ?_) (fun hq7 => ?_)
                · skip
                  dsimp only
                  exact (fw_X7_rdn hk).trans ((fw_X7_word hk).trans (rfl))
                · skip
                  dsimp only
                  exact (k_frW hk rfl).trans ((fw_X7_rdn hk).trans ((fw_X7_word hk).trans (rfl)))
              · skip
                refine k_ite (P := fun (z : Int32 × MemI) => z.2 kk qq = mi kk qq) (fun hq7 => ?_) (fun hq7 => ?_)
                · skip
                  dsimp only
                  exact (fw_X7_rdn hk).trans ((fw_X7_word hk).trans (rfl))
                · skip
                  dsimp only
                  exact (k_frW hk rfl).trans ((fw_X7_rdn hk).trans ((fw_X7_word hk).trans (rfl)))
  · skip
    dsimp only
    exact (fw_X7_wrong hk).trans (rfl)
theorem fw_X7_ctR {ml : MemL} {kk : Ky} {qq : Nat} (hk : k_mw kk qq = false) : ∀ {u : Nat} {n : Int32} {g : Int32} {m : MemI}, (f_X7_ctR ml u n g m).2.2 kk qq = m kk qq := by
  intro u
  induction u with
  | zero =>
    intro n g m
    show (f_X7_ctR ml 0 n g m).2.2 kk qq = m kk qq
    unfold f_X7_ctR
    exact rfl
  | succ u ih =>
    intro n g m
    rw [f_X7_ctR_s]
    refine k_ite (P := fun (z : Int32 × Int32 × MemI) => z.2.2 kk qq = m kk qq) (fun hq0 => ?_) (fun hq0 => ?_)
    · skip
      exact rfl
    · skip
      refine k_ite (P := fun (z : Int32 × Int32 × MemI) => z.2.2 kk qq = m kk qq) (fun hq1 => ?_) (fun hq1 => ?_)
      · skip
        exact rfl
      · skip
        refine k_ite (P := fun (z : Int32 × Int32 × MemI) => z.2.2 kk qq = m kk qq) (fun hq2 => ?_) (fun hq2 => ?_)
        · skip
          exact ih.trans ((fw_X7_item hk).trans ((k_frW hk rfl).trans (rfl)))
        · skip
          dsimp only
          exact (fw_X7_wrong hk).trans (rfl)
