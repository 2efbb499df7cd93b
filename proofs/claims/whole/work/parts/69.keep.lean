/-! level 2: frames for the calls -/
/-- the numbers of citizens and beggars -/
def k_nr (k : Ky) (q : Nat) : Bool := decide (k.1 ≤ 1) && q == 0
theorem k_frN {mi : MemI} {K kk : Ky} {j qq : Nat} {v : Int32} (hk : k_nr kk qq = true) (hK : k_nr K j = false) : k_ui mi K j v kk qq = mi kk qq :=
  if_neg (fun e => by rw [e.1, e.2, hK] at hk; cases hk)
theorem k_frW {mi : MemI} {K kk : Ky} {j qq : Nat} {v : Int32} (hk : k_mw kk qq = false) (hK : k_mw K j = true) : k_ui mi K j v kk qq = mi kk qq :=
  if_neg (fun e => by rw [e.1, e.2, hK] at hk; cases hk)
theorem fn_X1_becomes {mi : MemI} {g : Nat} {i : Nat} {w : Int32} {v : Int32} {kk : Ky} {qq : Nat} (hk : k_nr kk qq = true) : (f_X1_becomes mi g i w v).2 kk qq = mi kk qq := by
  unfold f_X1_becomes
  refine k_ite (P := fun (z : Int32 × MemI) => z.2 kk qq = mi kk qq) (fun hq0 => ?_) (fun hq0 => ?_)
  · skip
    refine k_ite (P := fun (z : Int32 × MemI) => z.2 kk qq = mi kk qq) (fun hq1 => ?_) (fun hq1 => ?_)
    · skip
      refine k_ite (P := fun (z : Int32 × MemI) => z.2 kk qq = mi kk qq) (fun hq2 => ?_) (fun hq2 => ?_)
      · skip
        dsimp only
        exact (k_frN hk rfl).trans (rfl)
      · skip
        dsimp only
        exact (k_frN hk rfl).trans (rfl)
    · skip
      refine k_ite (P := fun (z : Int32 × MemI) => z.2 kk qq = mi kk qq) (fun hq2 => ?_) (fun hq2 => ?_)
      · skip
        dsimp only
        exact (k_frN hk rfl).trans (rfl)
      · skip
        dsimp only
        exact (k_frN hk rfl).trans (rfl)
  · skip
    refine k_ite (P := fun (z : Int32 × MemI) => z.2 kk qq = mi kk qq) (fun hq1 => ?_) (fun hq1 => ?_)
    · skip
      dsimp only
      exact (k_frN hk rfl).trans (rfl)
    · skip
      refine k_ite (P := fun (z : Int32 × MemI) => z.2 kk qq = mi kk qq) (fun hq2 => ?_) (fun hq2 => ?_)
      · skip
        dsimp only
        exact (k_frN hk rfl).trans (rfl)
      · skip
        dsimp only
        exact (k_frN hk rfl).trans (rfl)
theorem fn_X1_beginMorning {mi : MemI} {g : Nat} {i : Nat} {kk : Ky} {qq : Nat} (hk : k_nr kk qq = true) : (f_X1_beginMorning mi g i) kk qq = mi kk qq := by
  unfold f_X1_beginMorning
  exact (k_frN hk rfl).trans ((k_frN hk rfl).trans ((k_frN hk rfl).trans ((k_frN hk rfl).trans ((k_frN hk rfl).trans (rfl)))))
theorem fn_X1_keeps {mi : MemI} {g : Nat} {i : Nat} {n : Int32} {kk : Ky} {qq : Nat} (hk : k_nr kk qq = true) : (f_X1_keeps mi g i n).2 kk qq = mi kk qq := by
  unfold f_X1_keeps
  refine k_ite (P := fun (z : Int32 × MemI) => z.2 kk qq = mi kk qq) (fun hq0 => ?_) (fun hq0 => ?_)
  · skip
    refine k_ite (P := fun (z : Int32 × MemI) => z.2 kk qq = mi kk qq) (fun hq1 => ?_) (fun hq1 => ?_)
    · skip
      refine k_ite (P := fun (z : Int32 × MemI) => z.2 kk qq = mi kk qq) (fun hq2 => ?_) (fun hq2 => ?_)
      · skip
        dsimp only
        exact (k_frN hk rfl).trans ((k_frN hk rfl).trans (rfl))
      · skip
        exact rfl
    · skip
      dsimp only
      exact (k_frN hk rfl).trans (rfl)
  · skip
    refine k_ite (P := fun (z : Int32 × MemI) => z.2 kk qq = mi kk qq) (fun hq1 => ?_) (fun hq1 => ?_)
    · skip
      dsimp only
      exact (k_frN hk rfl).trans ((k_frN hk rfl).trans (rfl))
    · skip
      exact rfl
theorem fn_X1_endMorning {mi : MemI} {g : Nat} {i : Nat} {kk : Ky} {qq : Nat} (hk : k_nr kk qq = true) : (f_X1_endMorning mi g i) kk qq = mi kk qq := by
  unfold f_X1_endMorning
  refine k_ite (P := fun (z : MemI) => z kk qq = mi kk qq) (fun hq0 => ?_) (fun hq0 => ?_)
  · skip
    exact rfl
  · skip
    refine k_ite (P := fun (z : MemI) => z kk qq = mi kk qq) (fun hq1 => ?_) (fun hq1 => ?_)
    · skip
      exact (k_frN hk rfl).trans ((k_frN hk rfl).trans (rfl))
    · skip
      exact (k_frN hk rfl).trans ((k_frN hk rfl).trans (rfl))
theorem fn_X1_arrive {mi : MemI} {g : Nat} {i : Nat} {k : Int32} {a : Int32} {ms : Int32} {h : Int32} {kk : Ky} {qq : Nat} (hk : k_nr kk qq = true) : (f_X1_arrive mi g i k a ms h) kk qq = mi kk qq := by
  unfold f_X1_arrive
  exact (k_frN hk rfl).trans ((k_frN hk rfl).trans ((k_frN hk rfl).trans ((k_frN hk rfl).trans ((k_frN hk rfl).trans ((k_frN hk rfl).trans ((k_frN hk rfl).trans ((k_frN hk rfl).trans (rfl))))))))
theorem fn_X1_become {mi : MemI} {g : Nat} {i : Nat} {g2 : Nat} {i2 : Nat} {kk : Ky} {qq : Nat} (hk : k_nr kk qq = true) : (f_X1_become mi g i g2 i2) kk qq = mi kk qq := by
  unfold f_X1_become
  exact (k_frN hk rfl).trans ((k_frN hk rfl).trans ((k_frN hk rfl).trans ((k_frN hk rfl).trans ((k_frN hk rfl).trans ((k_frN hk rfl).trans ((k_frN hk rfl).trans ((k_frN hk rfl).trans (rfl))))))))
theorem fn_X0_arrive {mi : MemI} {g : Nat} {i : Nat} {n : Int32} {r : Int32} {kk : Ky} {qq : Nat} (hk : k_nr kk qq = true) : (f_X0_arrive mi g i n r) kk qq = mi kk qq := by
  unfold f_X0_arrive
  exact (k_frN hk rfl).trans ((k_frN hk rfl).trans ((k_frN hk rfl).trans ((k_frN hk rfl).trans ((k_frN hk rfl).trans ((k_frN hk rfl).trans (rfl))))))
theorem fn_X0_endMorning {mi : MemI} {g : Nat} {i : Nat} {kk : Ky} {qq : Nat} (hk : k_nr kk qq = true) : (f_X0_endMorning mi g i) kk qq = mi kk qq := by
  unfold f_X0_endMorning
  refine k_ite (P := fun (z : MemI) => z kk qq = mi kk qq) (fun hq0 => ?_) (fun hq0 => ?_)
  · skip
    exact rfl
  · skip
    refine k_ite (P := fun (z : MemI) => z kk qq = mi kk qq) (fun hq1 => ?_) (fun hq1 => ?_)
    · skip
      refine k_ite (P := fun (z : MemI) => z kk qq = mi kk qq) (fun hq2 => ?_) (fun hq2 => ?_)
      · skip
        exact (k_frN hk rfl).trans (rfl)
      · skip
        exact (k_frN hk rfl).trans (rfl)
    · skip
      refine k_ite (P := fun (z : MemI) => z kk qq = mi kk qq) (fun hq2 => ?_) (fun hq2 => ?_)
      · skip
        exact (k_frN hk rfl).trans ((k_frN hk rfl).trans (rfl))
      · skip
        exact (k_frN hk rfl).trans ((k_frN hk rfl).trans (rfl))
theorem fn_X0_become {mi : MemI} {g : Nat} {i : Nat} {g2 : Nat} {i2 : Nat} {kk : Ky} {qq : Nat} (hk : k_nr kk qq = true) : (f_X0_become mi g i g2 i2) kk qq = mi kk qq := by
  unfold f_X0_become
  exact (k_frN hk rfl).trans ((k_frN hk rfl).trans ((k_frN hk rfl).trans ((k_frN hk rfl).trans ((k_frN hk rfl).trans ((k_frN hk rfl).trans (rfl))))))
theorem fn_X5_takeCitizen {mi : MemI} {i : Nat} {v : Int32} {kk : Ky} {qq : Nat} (hk : k_nr kk qq = true) : (f_X5_takeCitizen mi i v) kk qq = mi kk qq := by
  unfold f_X5_takeCitizen
  exact (k_frN hk rfl).trans ((k_frN hk rfl).trans ((k_frN hk rfl).trans (rfl)))
theorem fn_X5_takeRow {mi : MemI} {ml : MemL} {i : Nat} {o : Int32} {n : Int32} {kk : Ky} {qq : Nat} (hk : k_nr kk qq = true) : (f_X5_takeRow mi ml i o n).1 kk qq = mi kk qq := by
  unfold f_X5_takeRow
  dsimp only
  exact (k_frN hk rfl).trans ((k_frN hk rfl).trans ((k_frN hk rfl).trans (rfl)))
theorem fn_X6_refuse {mi : MemI} {b0 : Int32} {w : Int32} {kk : Ky} {qq : Nat} (hk : k_nr kk qq = true) : (f_X6_refuse mi b0 w).2 kk qq = mi kk qq := by
  unfold f_X6_refuse
  refine k_ite (P := fun (z : Int32 × MemI) => z.2 kk qq = mi kk qq) (fun hq0 => ?_) (fun hq0 => ?_)
  · skip
    exact rfl
  · skip
    refine k_ite (P := fun (z : Int32 × MemI) => z.2 kk qq = mi kk qq) (fun hq1 => ?_) (fun hq1 => ?_)
    · skip
      exact rfl
    · skip
      dsimp only
      exact (k_frN hk rfl).trans (rfl)
theorem fn_X3_forget {mi : MemI} {kk : Ky} {qq : Nat} (hk : k_nr kk qq = true) : (f_X3_forget mi) kk qq = mi kk qq := by
  unfold f_X3_forget
  exact (k_frN hk rfl).trans (rfl)
theorem fn_X3_begin {mi : MemI} {b0 : Int32} {kk : Ky} {qq : Nat} (hk : k_nr kk qq = true) : (f_X3_begin mi b0) kk qq = mi kk qq := by
  unfold f_X3_begin
  refine k_ite (P := fun (z : MemI) => z kk qq = mi kk qq) (fun hq0 => ?_) (fun hq0 => ?_)
  · skip
    exact (k_frN hk rfl).trans (rfl)
  · skip
    refine k_ite (P := fun (z : MemI) => z kk qq = mi kk qq) (fun hq1 => ?_) (fun hq1 => ?_)
    · skip
      exact (k_frN hk rfl).trans (rfl)
    · skip
      exact (k_frN hk rfl).trans ((k_frN hk rfl).trans (rfl))
theorem fn_X3_answer {Rn : MemI → Int32 → Int32 → Int32 → Int32 → Int32 × MemI} {mi : MemI} {b : Int32} {ab : Int32} {x : Int32} {d : Int32} {kk : Ky} {qq : Nat} (hR : ∀ m a b c d, (Rn m a b c d).2 kk qq = m kk qq) (hk : k_nr kk qq = true) : (f_X3_answer Rn mi b ab x d).2 kk qq = mi kk qq := by
  unfold f_X3_answer
  refine k_ite (P := fun (z : Int32 × MemI) => z.2 kk qq = mi kk qq) (fun hq0 => ?_) (fun hq0 => ?_)
  · skip
    exact rfl
  · skip
    refine k_ite (P := fun (z : Int32 × MemI) => z.2 kk qq = mi kk qq) (fun hq1 => ?_) (fun hq1 => ?_)
    · skip
      dsimp only
      exact (hR _ _ _ _ _).trans (rfl)
    · skip
      refine k_ite (P := fun (z : Int32 × MemI) => z.2 kk qq = mi kk qq) (fun hq2 => ?_) (fun hq2 => ?_)
      · skip
        dsimp only
        exact (hR _ _ _ _ _).trans ((hR _ _ _ _ _).trans (rfl))
      · skip
        refine k_ite (P := fun (z : Int32 × MemI) => z.2 kk qq = mi kk qq) (fun hq3 => ?_) (fun hq3 => ?_)
        · skip
          dsimp only
          exact (hR _ _ _ _ _).trans (rfl)
        · skip
          refine k_ite (P := fun (z : Int32 × MemI) => z.2 kk qq = mi kk qq) (fun hq4 => ?_) (fun hq4 => ?_)
          · skip
            dsimp only
            exact (hR _ _ _ _ _).trans (rfl)
          · skip
            refine k_ite (P := fun (z : Int32 × MemI) => z.2 kk qq = mi kk qq) (fun hq5 => ?_) (fun hq5 => ?_)
            · skip
              dsimp only
              exact (hR _ _ _ _ _).trans (rfl)
            · skip
              refine k_ite (P := fun (z : Int32 × MemI) => z.2 kk qq = mi kk qq) (fun hq6 => ?_) (fun hq6 => ?_)
              · skip
                dsimp only
                exact (hR _ _ _ _ _).trans (rfl)
              · skip
                refine k_ite (P := fun (z : Int32 × MemI) => z.2 kk qq = mi kk qq) (fun hq7 => ?_) (fun hq7 => ?_)
                · skip
                  dsimp only
                  exact (hR _ _ _ _ _).trans (rfl)
                · skip
                  refine k_ite (P := fun (z : Int32 × MemI) => z.2 kk qq = mi kk qq) (fun hq8 => ?_) (fun hq8 => ?_)
                  · skip
                    dsimp only
                    exact (hR _ _ _ _ _).trans (rfl)
                  · skip
                    refine k_ite (P := fun (z : Int32 × MemI) => z.2 kk qq = mi kk qq) (fun hq9 => ?_) (fun hq9 => ?_)
                    · skip
                      dsimp only
                      exact (hR _ _ _ _ _).trans (rfl)
                    · skip
                      refine k_ite (P := fun (z : Int32 × MemI) => z.2 kk qq = mi kk qq) (fun hq10 => ?_) (fun hq10 => ?_)
                      · skip
                        dsimp only
                        exact (hR _ _ _ _ _).trans (rfl)
                      · skip
                        exact rfl
theorem fn_rn {kk : Ky} {qq : Nat} (hk : k_nr kk qq = true) : ∀ {n : Nat} {mi : MemI} {kd mv x d : Int32}, (f_rn n mi kd mv x d).2 kk qq = mi kk qq := by
  intro n
  induction n with
  | zero => intro mi kd mv x d; rfl
  | succ n ih =>
    intro mi kd mv x d
    unfold f_rn
    refine k_ite (P := fun (z : Int32 × MemI) => z.2 kk qq = mi kk qq) (fun _ => ?_) (fun _ => rfl)
    exact (fn_X3_answer (fun _ _ _ _ _ => ih) hk).trans (fn_X3_begin hk)
theorem fn_X3_perform {mi : MemI} {g2 : Nat} {i2 : Nat} {mv : Int32} {x : Int32} {kk : Ky} {qq : Nat} (hk : k_nr kk qq = true) : (f_X3_perform mi g2 i2 mv x).2 kk qq = mi kk qq := by
  unfold f_X3_perform
  dsimp only
  exact (fn_rn hk).trans ((k_frN hk rfl).trans ((k_frN hk rfl).trans ((k_frN hk rfl).trans (rfl))))
theorem fn_X2_addCitizen {mi : MemI} {g : Nat} {k : Int32} {a : Int32} {ms : Int32} {h : Int32} {kk : Ky} {qq : Nat} (hk : k_nr kk qq = true) : (f_X2_addCitizen mi g k a ms h).2 kk qq = mi kk qq := by
  unfold f_X2_addCitizen
  refine k_ite (P := fun (z : Int32 × MemI) => z.2 kk qq = mi kk qq) (fun hq0 => ?_) (fun hq0 => ?_)
  · skip
    exact rfl
  · skip
    refine k_ite (P := fun (z : Int32 × MemI) => z.2 kk qq = mi kk qq) (fun hq1 => ?_) (fun hq1 => ?_)
    · skip
      dsimp only
      exact (k_frN hk rfl).trans ((fn_X1_arrive hk).trans (rfl))
    · skip
      exact rfl
theorem fn_X2_addBeggar {mi : MemI} {g : Nat} {n : Int32} {r : Int32} {kk : Ky} {qq : Nat} (hk : k_nr kk qq = true) : (f_X2_addBeggar mi g n r).2 kk qq = mi kk qq := by
  unfold f_X2_addBeggar
  refine k_ite (P := fun (z : Int32 × MemI) => z.2 kk qq = mi kk qq) (fun hq0 => ?_) (fun hq0 => ?_)
  · skip
    exact rfl
  · skip
    refine k_ite (P := fun (z : Int32 × MemI) => z.2 kk qq = mi kk qq) (fun hq1 => ?_) (fun hq1 => ?_)
    · skip
      dsimp only
      exact (k_frN hk rfl).trans ((fn_X0_arrive hk).trans (rfl))
    · skip
      exact rfl
theorem fn_X1_receive {mi : MemI} {g : Nat} {i : Nat} {g2 : Nat} {i2 : Nat} {kk : Ky} {qq : Nat} (hk : k_nr kk qq = true) : (f_X1_receive mi g i g2 i2) kk qq = mi kk qq := by
  unfold f_X1_receive
  exact (k_frN hk rfl).trans ((fn_X1_keeps hk).trans ((k_frN hk rfl).trans ((k_frN hk rfl).trans ((k_frN hk rfl).trans (rfl)))))
theorem fn_X2_goBy2 {g : Nat} {mi : MemI} {kk : Ky} {qq : Nat} (hk : k_nr kk qq = true) : ∀ {j : Nat}, (f_X2_goBy2 mi g j) kk qq = mi kk qq := by
  intro j
  induction j with
  | zero => rfl
  | succ j ih =>
    rw [f_X2_goBy2_s]
    refine k_ite (P := fun (z : MemI) => z kk qq = mi kk qq) (fun hq0 => ?_) (fun hq0 => ?_)
    · skip
      exact (k_frN hk rfl).trans ((k_frN hk rfl).trans (ih))
    · skip
      refine k_ite (P := fun (z : MemI) => z kk qq = mi kk qq) (fun hq1 => ?_) (fun hq1 => ?_)
      · skip
        exact (fn_X1_receive hk).trans ((k_frN hk rfl).trans ((k_frN hk rfl).trans (ih)))
      · skip
        exact (k_frN hk rfl).trans ((k_frN hk rfl).trans (ih))
theorem fn_X2_goBy1 {g : Nat} {mi : MemI} {kk : Ky} {qq : Nat} (hk : k_nr kk qq = true) : ∀ {j : Nat}, (f_X2_goBy1 mi g j) kk qq = mi kk qq := by
  intro j
  induction j with
  | zero => rfl
  | succ j ih =>
    rw [f_X2_goBy1_s]
    exact (fn_X1_beginMorning hk).trans (ih)
theorem fn_X2_goBy {mi : MemI} {g : Nat} {kk : Ky} {qq : Nat} (hk : k_nr kk qq = true) : (f_X2_goBy mi g) kk qq = mi kk qq := by
  unfold f_X2_goBy
  exact (fn_X2_goBy2 hk).trans ((fn_X2_goBy1 hk).trans (rfl))
theorem fn_X2_pass2 {g : Nat} {mi : MemI} {kk : Ky} {qq : Nat} (hk : k_nr kk qq = true) : ∀ {j : Nat}, (f_X2_pass2 mi g j) kk qq = mi kk qq := by
  intro j
  induction j with
  | zero => rfl
  | succ j ih =>
    rw [f_X2_pass2_s]
    exact (fn_X0_endMorning hk).trans (ih)
theorem fn_X2_pass1 {g : Nat} {mi : MemI} {kk : Ky} {qq : Nat} (hk : k_nr kk qq = true) : ∀ {j : Nat}, (f_X2_pass1 mi g j) kk qq = mi kk qq := by
  intro j
  induction j with
  | zero => rfl
  | succ j ih =>
    rw [f_X2_pass1_s]
    exact (fn_X1_endMorning hk).trans (ih)
theorem fn_X2_passMorning {mi : MemI} {g : Nat} {kk : Ky} {qq : Nat} (hk : k_nr kk qq = true) : (f_X2_passMorning mi g).2 kk qq = mi kk qq := by
  unfold f_X2_passMorning
  dsimp only
  exact (k_frN hk rfl).trans ((fn_X2_pass2 hk).trans ((fn_X2_pass1 hk).trans ((fn_X2_goBy hk).trans (rfl))))
theorem fn_X2_hungryMorning {mi : MemI} {g : Nat} {kk : Ky} {qq : Nat} (hk : k_nr kk qq = true) : (f_X2_hungryMorning mi g).2 kk qq = mi kk qq := by
  unfold f_X2_hungryMorning
  dsimp only
  exact (fn_X2_goBy hk).trans (rfl)
theorem fn_X2_passN {g : Nat} {mi : MemI} {kk : Ky} {qq : Nat} (hk : k_nr kk qq = true) : ∀ {j : Nat}, (f_X2_passN mi g j).2 kk qq = mi kk qq := by
  intro j
  induction j with
  | zero => rfl
  | succ j ih =>
    rw [f_X2_passN_s]
    dsimp only
    exact (fn_X2_passMorning hk).trans (ih)
theorem fn_X2_passMornings {mi : MemI} {g : Nat} {N : Nat} {kk : Ky} {qq : Nat} (hk : k_nr kk qq = true) : (f_X2_passMornings mi g N).2 kk qq = mi kk qq := by
  unfold f_X2_passMornings
  dsimp only
  exact (fn_X2_passN hk).trans (rfl)
theorem fn_X2_draw {mi : MemI} {g : Nat} {n : Int32} {kk : Ky} {qq : Nat} (hk : k_nr kk qq = true) : (f_X2_draw mi g n).2 kk qq = mi kk qq := by
  unfold f_X2_draw
  refine k_ite (P := fun (z : Int32 × MemI) => z.2 kk qq = mi kk qq) (fun hq0 => ?_) (fun hq0 => ?_)
  · skip
    dsimp only
    exact (k_frN hk rfl).trans (rfl)
  · skip
    dsimp only
    exact (k_frN hk rfl).trans (rfl)
theorem fn_X2_drawH {g : Nat} {mi : MemI} {kk : Ky} {qq : Nat} (hk : k_nr kk qq = true) : ∀ {j : Nat}, (f_X2_drawH mi g j) kk qq = mi kk qq := by
  intro j
  induction j with
  | zero => rfl
  | succ j ih =>
    rw [f_X2_drawH_s]
    refine k_ite (P := fun (z : MemI) => z kk qq = mi kk qq) (fun hq0 => ?_) (fun hq0 => ?_)
    · skip
      exact ih
    · skip
      refine k_ite (P := fun (z : MemI) => z kk qq = mi kk qq) (fun hq1 => ?_) (fun hq1 => ?_)
      · skip
        exact (k_frN hk rfl).trans ((fn_X2_draw hk).trans (ih))
      · skip
        exact (k_frN hk rfl).trans ((fn_X2_draw hk).trans (ih))
theorem fn_X2_drawWhoHides {mi : MemI} {g : Nat} {kk : Ky} {qq : Nat} (hk : k_nr kk qq = true) : (f_X2_drawWhoHides mi g) kk qq = mi kk qq := by
  unfold f_X2_drawWhoHides
  exact (fn_X2_drawH hk).trans (rfl)
theorem fn_X2_isPickedWithHeart {mi : MemI} {g : Nat} {cz : Int32} {h : Int32} {kk : Ky} {qq : Nat} (hk : k_nr kk qq = true) : (f_X2_isPickedWithHeart mi g cz h).2 kk qq = mi kk qq := by
  unfold f_X2_isPickedWithHeart
  refine k_ite (P := fun (z : Int32 × MemI) => z.2 kk qq = mi kk qq) (fun hq0 => ?_) (fun hq0 => ?_)
  · skip
    refine k_ite (P := fun (z : Int32 × MemI) => z.2 kk qq = mi kk qq) (fun hq1 => ?_) (fun hq1 => ?_)
    · skip
      dsimp only
      exact (fn_X2_goBy hk).trans ((k_frN hk rfl).trans (rfl))
    · skip
      dsimp only
      exact (fn_X2_goBy hk).trans ((k_frN hk rfl).trans (rfl))
  · skip
    exact rfl
theorem fn_X2_pickByRule {mi : MemI} {g : Nat} {bg : Int32} {r : Int32} {kk : Ky} {qq : Nat} (hk : k_nr kk qq = true) : (f_X2_pickByRule mi g bg r).2 kk qq = mi kk qq := by
  unfold f_X2_pickByRule
  refine k_ite (P := fun (z : Int32 × MemI) => z.2 kk qq = mi kk qq) (fun hq0 => ?_) (fun hq0 => ?_)
  · skip
    dsimp only
    exact (fn_X2_goBy hk).trans ((k_frN hk rfl).trans (rfl))
  · skip
    exact rfl
theorem fn_X2_fhR {g : Nat} {kk : Ky} {qq : Nat} (hk : k_nr kk qq = true) : ∀ {n : Nat} {j : Nat} {m0 : MemI}, (f_X2_fhR g n j m0).2 kk qq = m0 kk qq := by
  intro n
  induction n with
  | zero =>
    intro j m0
    show (f_X2_fhR g 0 j m0).2 kk qq = m0 kk qq
    unfold f_X2_fhR
    exact rfl
  | succ n ih =>
    intro j m0
    rw [f_X2_fhR_s]
    refine k_ite (P := fun (z : Int32 × MemI) => z.2 kk qq = m0 kk qq) (fun hq0 => ?_) (fun hq0 => ?_)
    · skip
      exact ih.trans ((fn_X2_passMorning hk).trans (rfl))
    · skip
      dsimp only
      exact (fn_X2_passMorning hk).trans (rfl)
theorem fn_X2_firstHungryMorning {mi : MemI} {g : Nat} {N : Nat} {kk : Ky} {qq : Nat} (hk : k_nr kk qq = true) : (f_X2_firstHungryMorning mi g N).2 kk qq = mi kk qq := by
  unfold f_X2_firstHungryMorning
  exact (fn_X2_fhR hk).trans (rfl)
theorem fn_X2_moveOne {mi : MemI} {g : Nat} {i2 : Nat} {kk : Ky} {qq : Nat} (hk : k_nr kk qq = true) : (f_X2_moveOne mi g i2).2 kk qq = mi kk qq := by
  unfold f_X2_moveOne
  refine k_ite (P := fun (z : Int32 × MemI) => z.2 kk qq = mi kk qq) (fun hq0 => ?_) (fun hq0 => ?_)
  · skip
    refine k_ite (P := fun (z : Int32 × MemI) => z.2 kk qq = mi kk qq) (fun hq1 => ?_) (fun hq1 => ?_)
    · skip
      exact rfl
    · skip
      dsimp only
      exact (k_frN hk rfl).trans ((k_frN hk rfl).trans ((k_frN hk rfl).trans (rfl)))
  · skip
    exact rfl
theorem fn_X2_mvA {g : Nat} {mi : MemI} {kk : Ky} {qq : Nat} (hk : k_nr kk qq = true) : ∀ {j : Nat}, (f_X2_mvA mi g j).2 kk qq = mi kk qq := by
  intro j
  induction j with
  | zero => rfl
  | succ j ih =>
    rw [f_X2_mvA_s]
    refine k_ite (P := fun (z : Int32 × MemI) => z.2 kk qq = mi kk qq) (fun hq0 => ?_) (fun hq0 => ?_)
    · skip
      dsimp only
      exact ih
    · skip
      refine k_ite (P := fun (z : Int32 × MemI) => z.2 kk qq = mi kk qq) (fun hq1 => ?_) (fun hq1 => ?_)
      · skip
        dsimp only
        exact (fn_X2_moveOne hk).trans (ih)
      · skip
        dsimp only
        exact (fn_X2_moveOne hk).trans (ih)
theorem fn_X2_moveAll {mi : MemI} {g : Nat} {kk : Ky} {qq : Nat} (hk : k_nr kk qq = true) : (f_X2_moveAll mi g).2 kk qq = mi kk qq := by
  unfold f_X2_moveAll
  dsimp only
  exact (fn_X2_mvA hk).trans (rfl)
theorem fn_X2_crR {g : Nat} {kk : Ky} {qq : Nat} (hk : k_nr kk qq = true) : ∀ {u : Nat} {j : Nat} {m0 : MemI}, (f_X2_crR g u j m0).2 kk qq = m0 kk qq := by
  intro u
  induction u with
  | zero =>
    intro j m0
    show (f_X2_crR g 0 j m0).2 kk qq = m0 kk qq
    unfold f_X2_crR
    exact rfl
  | succ u ih =>
    intro j m0
    rw [f_X2_crR_s]
    refine k_ite (P := fun (z : Int32 × MemI) => z.2 kk qq = m0 kk qq) (fun hq0 => ?_) (fun hq0 => ?_)
    · skip
      dsimp only
      exact (fn_X2_moveAll hk).trans (rfl)
    · skip
      exact ih.trans ((fn_X2_moveAll hk).trans (rfl))
theorem fn_X2_cr2 {g : Nat} {w : Nat} {mi : MemI} {kk : Ky} {qq : Nat} (hk : k_nr kk qq = true) : ∀ {j : Nat}, (f_X2_cr2 mi g w j) kk qq = mi kk qq := by
  intro j
  induction j with
  | zero => rfl
  | succ j ih =>
    rw [f_X2_cr2_s]
    refine k_ite (P := fun (z : MemI) => z kk qq = mi kk qq) (fun hq0 => ?_) (fun hq0 => ?_)
    · skip
      exact ih
    · skip
      exact (k_frN hk rfl).trans ((k_frN hk rfl).trans (ih))
theorem fn_X2_cr1 {g : Nat} {mi : MemI} {kk : Ky} {qq : Nat} (hk : k_nr kk qq = true) : ∀ {j : Nat}, (f_X2_cr1 mi g j) kk qq = mi kk qq := by
  intro j
  induction j with
  | zero => rfl
  | succ j ih =>
    rw [f_X2_cr1_s]
    exact (k_frN hk rfl).trans (ih)
theorem fn_X2_comeToRest {mi : MemI} {g : Nat} {kk : Ky} {qq : Nat} (hk : k_nr kk qq = true) : (f_X2_comeToRest mi g).2 kk qq = mi kk qq := by
  unfold f_X2_comeToRest
  refine k_ite (P := fun (z : Int32 × MemI) => z.2 kk qq = mi kk qq) (fun hq0 => ?_) (fun hq0 => ?_)
  · skip
    dsimp only
    exact (fn_X2_crR hk).trans ((fn_X2_cr2 hk).trans ((fn_X2_cr1 hk).trans (rfl)))
  · skip
    exact rfl
theorem fn_X2_np {g : Nat} {mi : MemI} {kk : Ky} {qq : Nat} (hk : k_nr kk qq = true) : ∀ {j : Nat}, (f_X2_np mi g j) kk qq = mi kk qq := by
  intro j
  induction j with
  | zero => rfl
  | succ j ih =>
    rw [f_X2_np_s]
    exact (k_frN hk rfl).trans (ih)
theorem fn_X2_notePart {mi : MemI} {g : Nat} {gr : Int32} {kk : Ky} {qq : Nat} (hk : k_nr kk qq = true) : (f_X2_notePart mi g gr) kk qq = mi kk qq := by
  unfold f_X2_notePart
  exact (fn_X2_np hk).trans ((k_frN hk rfl).trans (rfl))
theorem fn_X2_te {Rn : MemI → Int32 → MemI} {g : Nat} {j : Nat} {gr : Int32} {kk : Ky} {qq : Nat} (hR : ∀ m r, Rn m r kk qq = m kk qq) (hk : k_nr kk qq = true) : ∀ {u : Nat} {i : Nat} {m0 : MemI}, (f_X2_te Rn g j gr u i m0) kk qq = m0 kk qq := by
  intro u
  induction u with
  | zero =>
    intro i m0
    show (f_X2_te Rn g j gr 0 i m0) kk qq = m0 kk qq
    unfold f_X2_te
    exact rfl
  | succ u ih =>
    intro i m0
    rw [f_X2_te_s]
    refine k_ite (P := fun (z : MemI) => z kk qq = m0 kk qq) (fun hq0 => ?_) (fun hq0 => ?_)
    · skip
      exact ih.trans (rfl)
    · skip
      refine k_ite (P := fun (z : MemI) => z kk qq = m0 kk qq) (fun hq1 => ?_) (fun hq1 => ?_)
      · skip
        exact ih.trans (rfl)
      · skip
        refine k_ite (P := fun (z : MemI) => z kk qq = m0 kk qq) (fun hq2 => ?_) (fun hq2 => ?_)
        · skip
          refine k_ite (P := fun (z : MemI) => z kk qq = m0 kk qq) (fun hq3 => ?_) (fun hq3 => ?_)
          · skip
            exact ih.trans ((k_frN hk rfl).trans ((hR _ _).trans ((k_frN hk rfl).trans ((k_frN hk rfl).trans (rfl)))))
          · skip
            exact (k_frN hk rfl).trans ((hR _ _).trans ((k_frN hk rfl).trans ((k_frN hk rfl).trans (rfl))))
        · skip
          exact ih.trans (rfl)
theorem fn_X2_pf {g : Nat} {kk : Ky} {qq : Nat} (hk : k_nr kk qq = true) : ∀ {n j : Nat} {m0 : MemI} {gr : Int32}, f_X2_pf g n j m0 gr kk qq = m0 kk qq := by
  intro n
  induction n with
  | zero => intro j m0 gr; exact fn_X2_notePart hk
  | succ n ih =>
    intro j m0 gr
    rw [f_X2_pf_s]
    refine k_ite (P := fun (z : MemI) => z kk qq = m0 kk qq) (fun _ => ih) (fun _ => ?_)
    exact fn_X2_te (fun _ _ => ih) hk
theorem fn_X2_paL {g : Nat} {mi : MemI} {kk : Ky} {qq : Nat} (hk : k_nr kk qq = true) : ∀ {j : Nat}, (f_X2_paL mi g j) kk qq = mi kk qq := by
  intro j
  induction j with
  | zero => rfl
  | succ j ih =>
    rw [f_X2_paL_s]
    exact (k_frN hk rfl).trans (ih)
theorem fn_X2_partAll {mi : MemI} {g : Nat} {kk : Ky} {qq : Nat} (hk : k_nr kk qq = true) : (f_X2_partAll mi g).2 kk qq = mi kk qq := by
  unfold f_X2_partAll
  refine k_ite (P := fun (z : Int32 × MemI) => z.2 kk qq = mi kk qq) (fun hq0 => ?_) (fun hq0 => ?_)
  · skip
    refine k_ite (P := fun (z : Int32 × MemI) => z.2 kk qq = mi kk qq) (fun hq1 => ?_) (fun hq1 => ?_)
    · skip
      dsimp only
      exact (fn_X2_pf hk).trans ((k_frN hk rfl).trans ((k_frN hk rfl).trans ((fn_X2_paL hk).trans (rfl))))
    · skip
      dsimp only
      exact (fn_X2_pf hk).trans ((k_frN hk rfl).trans ((k_frN hk rfl).trans ((fn_X2_paL hk).trans (rfl))))
  · skip
    refine k_ite (P := fun (z : Int32 × MemI) => z.2 kk qq = mi kk qq) (fun hq1 => ?_) (fun hq1 => ?_)
    · skip
      dsimp only
      exact (fn_X2_pf hk).trans ((k_frN hk rfl).trans ((k_frN hk rfl).trans ((fn_X2_paL hk).trans (rfl))))
    · skip
      dsimp only
      exact (fn_X2_pf hk).trans ((k_frN hk rfl).trans ((k_frN hk rfl).trans ((fn_X2_paL hk).trans (rfl))))
theorem fn_X2_bec2 {g : Nat} {g2 : Nat} {mi : MemI} {kk : Ky} {qq : Nat} (hk : k_nr kk qq = true) : ∀ {j : Nat}, (f_X2_bec2 mi g g2 j) kk qq = mi kk qq := by
  intro j
  induction j with
  | zero => rfl
  | succ j ih =>
    rw [f_X2_bec2_s]
    exact (fn_X0_become hk).trans (ih)
theorem fn_X2_bec1 {g : Nat} {g2 : Nat} {mi : MemI} {kk : Ky} {qq : Nat} (hk : k_nr kk qq = true) : ∀ {j : Nat}, (f_X2_bec1 mi g g2 j) kk qq = mi kk qq := by
  intro j
  induction j with
  | zero => rfl
  | succ j ih =>
    rw [f_X2_bec1_s]
    exact (fn_X1_become hk).trans (ih)
theorem fn_X2_become {mi : MemI} {g : Nat} {g2 : Nat} {kk : Ky} {qq : Nat} (hk : k_nr kk qq = true) : (f_X2_become mi g g2) kk qq = mi kk qq := by
  unfold f_X2_become
  exact (k_frN hk rfl).trans ((k_frN hk rfl).trans ((k_frN hk rfl).trans ((k_frN hk rfl).trans ((fn_X2_bec2 hk).trans ((fn_X2_bec1 hk).trans (rfl))))))
theorem fn_X4_failAt {mi : MemI} {x : Int32} {kk : Ky} {qq : Nat} (hk : k_nr kk qq = true) : (f_X4_failAt mi x).2 kk qq = mi kk qq := by
  unfold f_X4_failAt
  dsimp only
  exact (k_frN hk rfl).trans (rfl)
theorem fn_X4_readSign {mi : MemI} {x : Int32} {kk : Ky} {qq : Nat} (hk : k_nr kk qq = true) : (f_X4_readSign mi x).2 kk qq = mi kk qq := by
  unfold f_X4_readSign
  refine k_ite (P := fun (z : Int32 × MemI) => z.2 kk qq = mi kk qq) (fun hq0 => ?_) (fun hq0 => ?_)
  · skip
    dsimp only
    exact (k_frN hk rfl).trans (rfl)
  · skip
    dsimp only
    exact (fn_X4_failAt hk).trans (rfl)
theorem fn_X4_readNumber {mi : MemI} {lo : Int32} {hi0 : Int32} {kk : Ky} {qq : Nat} (hk : k_nr kk qq = true) : (f_X4_readNumber mi lo hi0).2 kk qq = mi kk qq := by
  unfold f_X4_readNumber
  refine k_ite (P := fun (z : Int32 × MemI) => z.2 kk qq = mi kk qq) (fun hq0 => ?_) (fun hq0 => ?_)
  · skip
    dsimp only
    exact (fn_X4_readSign hk).trans (rfl)
  · skip
    refine k_ite (P := fun (z : Int32 × MemI) => z.2 kk qq = mi kk qq) (fun hq1 => ?_) (fun hq1 => ?_)
    · skip
      dsimp only
      exact (fn_X4_failAt hk).trans ((fn_X4_readSign hk).trans (rfl))
    · skip
      refine k_ite (P := fun (z : Int32 × MemI) => z.2 kk qq = mi kk qq) (fun hq2 => ?_) (fun hq2 => ?_)
      · skip
        refine k_ite (P := fun (z : Int32 × MemI) => z.2 kk qq = mi kk qq) (fun hq3 => ?_) (fun hq3 => ?_)
        · skip
          dsimp only
          exact (k_frN hk rfl).trans ((fn_X4_readSign hk).trans (rfl))
        · skip
          dsimp only
          exact (fn_X4_failAt hk).trans ((k_frN hk rfl).trans ((fn_X4_readSign hk).trans (rfl)))
      · skip
        refine k_ite (P := fun (z : Int32 × MemI) => z.2 kk qq = mi kk qq) (fun hq3 => ?_) (fun hq3 => ?_)
        · skip
          dsimp only
          exact (k_frN hk rfl).trans ((k_frN hk rfl).trans ((fn_X4_readSign hk).trans (rfl)))
        · skip
          dsimp only
          exact (fn_X4_failAt hk).trans ((k_frN hk rfl).trans ((k_frN hk rfl).trans ((fn_X4_readSign hk).trans (rfl))))
theorem fn_X4_hasRoom {mi : MemI} {n : Int32} {x : Int32} {kk : Ky} {qq : Nat} (hk : k_nr kk qq = true) : (f_X4_hasRoom mi n x).2 kk qq = mi kk qq := by
  unfold f_X4_hasRoom
  refine k_ite (P := fun (z : Int32 × MemI) => z.2 kk qq = mi kk qq) (fun hq0 => ?_) (fun hq0 => ?_)
  · skip
    exact rfl
  · skip
    refine k_ite (P := fun (z : Int32 × MemI) => z.2 kk qq = mi kk qq) (fun hq1 => ?_) (fun hq1 => ?_)
    · skip
      dsimp only
      exact (fn_X4_failAt hk).trans (rfl)
    · skip
      dsimp only
      exact (fn_X4_failAt hk).trans (rfl)
theorem fn_X4_readCitizen {mi : MemI} {kk : Ky} {qq : Nat} (hk : k_nr kk qq = true) : (f_X4_readCitizen mi).2 kk qq = mi kk qq := by
  unfold f_X4_readCitizen
  refine k_ite (P := fun (z : Int32 × MemI) => z.2 kk qq = mi kk qq) (fun hq0 => ?_) (fun hq0 => ?_)
  · skip
    dsimp only
    exact (fn_X4_readNumber hk).trans (rfl)
  · skip
    refine k_ite (P := fun (z : Int32 × MemI) => z.2 kk qq = mi kk qq) (fun hq1 => ?_) (fun hq1 => ?_)
    · skip
      dsimp only
      exact (fn_X4_readNumber hk).trans ((fn_X4_readNumber hk).trans (rfl))
    · skip
      refine k_ite (P := fun (z : Int32 × MemI) => z.2 kk qq = mi kk qq) (fun hq2 => ?_) (fun hq2 => ?_)
      · skip
        dsimp only
        exact (fn_X4_readNumber hk).trans ((fn_X4_readNumber hk).trans ((fn_X4_readNumber hk).trans (rfl)))
      · skip
        refine k_ite (P := fun (z : Int32 × MemI) => z.2 kk qq = mi kk qq) (fun hq3 => ?_) (fun hq3 => ?_)
        · skip
          dsimp only
          exact (fn_X4_readNumber hk).trans ((fn_X4_readNumber hk).trans ((fn_X4_readNumber hk).trans ((fn_X4_readNumber hk).trans (rfl))))
        · skip
          refine k_ite (P := fun (z : Int32 × MemI) => z.2 kk qq = mi kk qq) (fun hq4 => ?_) (fun hq4 => ?_)
          · skip
            dsimp only
            exact (fn_X2_addCitizen hk).trans ((fn_X4_readNumber hk).trans ((fn_X4_readNumber hk).trans ((fn_X4_readNumber hk).trans ((fn_X4_readNumber hk).trans (rfl)))))
          · skip
            dsimp only
            exact (fn_X2_addCitizen hk).trans ((fn_X4_readNumber hk).trans ((fn_X4_readNumber hk).trans ((fn_X4_readNumber hk).trans ((fn_X4_readNumber hk).trans (rfl)))))
theorem fn_X4_readBeggar {mi : MemI} {kk : Ky} {qq : Nat} (hk : k_nr kk qq = true) : (f_X4_readBeggar mi).2 kk qq = mi kk qq := by
  unfold f_X4_readBeggar
  refine k_ite (P := fun (z : Int32 × MemI) => z.2 kk qq = mi kk qq) (fun hq0 => ?_) (fun hq0 => ?_)
  · skip
    dsimp only
    exact (fn_X4_readNumber hk).trans (rfl)
  · skip
    refine k_ite (P := fun (z : Int32 × MemI) => z.2 kk qq = mi kk qq) (fun hq1 => ?_) (fun hq1 => ?_)
    · skip
      dsimp only
      exact (fn_X4_readNumber hk).trans ((fn_X4_readNumber hk).trans (rfl))
    · skip
      refine k_ite (P := fun (z : Int32 × MemI) => z.2 kk qq = mi kk qq) (fun hq2 => ?_) (fun hq2 => ?_)
      · skip
        dsimp only
        exact (fn_X2_addBeggar hk).trans ((fn_X4_readNumber hk).trans ((fn_X4_readNumber hk).trans (rfl)))
      · skip
        dsimp only
        exact (fn_X2_addBeggar hk).trans ((fn_X4_readNumber hk).trans ((fn_X4_readNumber hk).trans (rfl)))
theorem fn_X4_readPost {mi : MemI} {kk : Ky} {qq : Nat} (hk : k_nr kk qq = true) : (f_X4_readPost mi).2 kk qq = mi kk qq := by
  unfold f_X4_readPost
  refine k_ite (P := fun (z : Int32 × MemI) => z.2 kk qq = mi kk qq) (fun hq0 => ?_) (fun hq0 => ?_)
  · skip
    dsimp only
    exact (k_frN hk rfl).trans ((fn_X4_readNumber hk).trans (rfl))
  · skip
    dsimp only
    exact (fn_X4_readNumber hk).trans (rfl)
theorem fn_X4_readOfCitizen {mi : MemI} {w : Int32} {kk : Ky} {qq : Nat} (hk : k_nr kk qq = true) : (f_X4_readOfCitizen mi w).2 kk qq = mi kk qq := by
  unfold f_X4_readOfCitizen
  refine k_ite (P := fun (z : Int32 × MemI) => z.2 kk qq = mi kk qq) (fun hq0 => ?_) (fun hq0 => ?_)
  · skip
    refine k_ite (P := fun (z : Int32 × MemI) => z.2 kk qq = mi kk qq) (fun hq1 => ?_) (fun hq1 => ?_)
    · skip
      refine k_ite (P := fun (z : Int32 × MemI) => z.2 kk qq = mi kk qq) (fun hq2 => ?_) (fun hq2 => ?_)
      · skip
        dsimp only
        exact (fn_X4_readNumber hk).trans ((fn_X4_readNumber hk).trans (rfl))
      · skip
        dsimp only
        exact (k_frN hk rfl).trans ((fn_X4_readNumber hk).trans ((fn_X4_readNumber hk).trans (rfl)))
    · skip
      refine k_ite (P := fun (z : Int32 × MemI) => z.2 kk qq = mi kk qq) (fun hq2 => ?_) (fun hq2 => ?_)
      · skip
        dsimp only
        exact (k_frN hk rfl).trans ((fn_X4_readNumber hk).trans (rfl))
      · skip
        dsimp only
        exact (k_frN hk rfl).trans ((fn_X4_readNumber hk).trans (rfl))
  · skip
    dsimp only
    exact (fn_X4_readNumber hk).trans (rfl)
theorem fn_X4_rwR {mi : MemI} {kk : Ky} {qq : Nat} (hk : k_nr kk qq = true) : ∀ {u : Nat} {j : Nat} {fu : Int32}, (f_X4_rwR mi u j fu).2 kk qq = mi kk qq := by
  intro u
  induction u with
  | zero =>
    intro j fu
    show (f_X4_rwR mi 0 j fu).2 kk qq = mi kk qq
    unfold f_X4_rwR
    dsimp only
    exact (fn_X4_failAt hk).trans (rfl)
  | succ u ih =>
    intro j fu
    rw [f_X4_rwR_s]
    refine k_ite (P := fun (z : Int32 × MemI) => z.2 kk qq = mi kk qq) (fun hq0 => ?_) (fun hq0 => ?_)
    · skip
      dsimp only
      exact (k_frN hk rfl).trans (rfl)
    · skip
      exact ih.trans (rfl)
theorem fn_X4_readWord {mi : MemI} {kk : Ky} {qq : Nat} (hk : k_nr kk qq = true) : (f_X4_readWord mi).2 kk qq = mi kk qq := by
  unfold f_X4_readWord
  exact (fn_X4_rwR hk).trans (rfl)
theorem fn_X4_readItem {mi : MemI} {kk : Ky} {qq : Nat} (hk : k_nr kk qq = true) : (f_X4_readItem mi).2 kk qq = mi kk qq := by
  unfold f_X4_readItem
  refine k_ite (P := fun (z : Int32 × MemI) => z.2 kk qq = mi kk qq) (fun hq0 => ?_) (fun hq0 => ?_)
  · skip
    refine k_ite (P := fun (z : Int32 × MemI) => z.2 kk qq = mi kk qq) (fun hq1 => ?_) (fun hq1 => ?_)
    · skip
      dsimp only
      exact (fn_X4_hasRoom hk).trans ((fn_X4_readWord hk).trans (rfl))
    · skip
      refine k_ite (P := fun (z : Int32 × MemI) => z.2 kk qq = mi kk qq) (fun hq2 => ?_) (fun hq2 => ?_)
      · skip
        dsimp only
        exact (fn_X4_readCitizen hk).trans ((fn_X4_hasRoom hk).trans ((fn_X4_readWord hk).trans (rfl)))
      · skip
        dsimp only
        exact (fn_X4_readCitizen hk).trans ((fn_X4_hasRoom hk).trans ((fn_X4_readWord hk).trans (rfl)))
  · skip
    refine k_ite (P := fun (z : Int32 × MemI) => z.2 kk qq = mi kk qq) (fun hq1 => ?_) (fun hq1 => ?_)
    · skip
      refine k_ite (P := fun (z : Int32 × MemI) => z.2 kk qq = mi kk qq) (fun hq2 => ?_) (fun hq2 => ?_)
      · skip
        dsimp only
        exact (fn_X4_hasRoom hk).trans ((fn_X4_readWord hk).trans (rfl))
      · skip
        refine k_ite (P := fun (z : Int32 × MemI) => z.2 kk qq = mi kk qq) (fun hq3 => ?_) (fun hq3 => ?_)
        · skip
          dsimp only
          exact (fn_X4_readBeggar hk).trans ((fn_X4_hasRoom hk).trans ((fn_X4_readWord hk).trans (rfl)))
        · skip
          dsimp only
          exact (fn_X4_readBeggar hk).trans ((fn_X4_hasRoom hk).trans ((fn_X4_readWord hk).trans (rfl)))
    · skip
      refine k_ite (P := fun (z : Int32 × MemI) => z.2 kk qq = mi kk qq) (fun hq2 => ?_) (fun hq2 => ?_)
      · skip
        dsimp only
        exact (fn_X4_readPost hk).trans ((fn_X4_readWord hk).trans (rfl))
      · skip
        refine k_ite (P := fun (z : Int32 × MemI) => z.2 kk qq = mi kk qq) (fun hq3 => ?_) (fun hq3 => ?_)
        · skip
          dsimp only
          exact (fn_X4_readWord hk).trans (rfl)
        · skip
          refine k_ite (P := fun (z : Int32 × MemI) => z.2 kk qq = mi kk qq) (fun hq4 => ?_) (fun hq4 => ?_)
          · skip
            dsimp only
            exact (fn_X4_readOfCitizen hk).trans ((fn_X4_readWord hk).trans (rfl))
          · skip
            dsimp only
            exact (fn_X4_readOfCitizen hk).trans ((fn_X4_readWord hk).trans (rfl))
theorem fn_X4_sg {ml : MemL} {i2 : Nat} {mi : MemI} {kk : Ky} {qq : Nat} (hk : k_nr kk qq = true) : ∀ {j : Nat}, (f_X4_sg mi ml i2 j) kk qq = mi kk qq := by
  intro j
  induction j with
  | zero => rfl
  | succ j ih =>
    rw [f_X4_sg_s]
    exact (k_frN hk rfl).trans (ih)
theorem fn_X4_rdR  {kk : Ky} {qq : Nat} (hk : k_nr kk qq = true) : ∀ {u : Nat} {j : Nat} {m0 : MemI}, (f_X4_rdR  u j m0).2 kk qq = m0 kk qq := by
  intro u
  induction u with
  | zero =>
    intro j m0
    show (f_X4_rdR  0 j m0).2 kk qq = m0 kk qq
    unfold f_X4_rdR
    exact rfl
  | succ u ih =>
    intro j m0
    rw [f_X4_rdR_s]
    refine k_ite (P := fun (z : Int32 × MemI) => z.2 kk qq = m0 kk qq) (fun hq0 => ?_) (fun hq0 => ?_)
    · skip
      dsimp only
      exact (fn_X4_readItem hk).trans (rfl)
    · skip
      refine k_ite (P := fun (z : Int32 × MemI) => z.2 kk qq = m0 kk qq) (fun hq1 => ?_) (fun hq1 => ?_)
      · skip
        refine k_ite (P := fun (z : Int32 × MemI) => z.2 kk qq = m0 kk qq) (fun hq2 => ?_) (fun hq2 => ?_)
        · skip
          dsimp only
          exact (fn_X4_readSign hk).trans ((fn_X4_readItem hk).trans (rfl))
        · skip
          exact ih.trans ((fn_X4_readSign hk).trans ((fn_X4_readItem hk).trans (rfl)))
      · skip
        dsimp only
        exact (fn_X4_readItem hk).trans (rfl)
theorem fn_X4_read {mi : MemI} {ml : MemL} {i2 : Nat} {kk : Ky} {qq : Nat} (hk : k_nr kk qq = true) : (f_X4_read mi ml i2).2 kk qq = mi kk qq := by
  unfold f_X4_read
  exact (fn_X4_rdR hk).trans ((k_frN hk rfl).trans ((k_frN hk rfl).trans ((fn_X4_sg hk).trans ((k_frN hk rfl).trans (rfl)))))
theorem fn_X6_row {mi : MemI} {ml : MemL} {s0 : Int32} {so : Int32} {n : Int32} {kk : Ky} {qq : Nat} (hk : k_nr kk qq = true) : (f_X6_row mi ml s0 so n).2.1 kk qq = mi kk qq := by
  unfold f_X6_row
  refine k_ite (P := fun (z : Int32 × MemI × MemL) => z.2.1 kk qq = mi kk qq) (fun hq0 => ?_) (fun hq0 => ?_)
  · skip
    refine k_ite (P := fun (z : Int32 × MemI × MemL) => z.2.1 kk qq = mi kk qq) (fun hq1 => ?_) (fun hq1 => ?_)
    · skip
      refine k_ite (P := fun (z : Int32 × MemI × MemL) => z.2.1 kk qq = mi kk qq) (fun hq2 => ?_) (fun hq2 => ?_)
      · skip
        dsimp only
        exact (fn_X6_refuse hk).trans (rfl)
      · skip
        refine k_ite (P := fun (z : Int32 × MemI × MemL) => z.2.1 kk qq = mi kk qq) (fun hq3 => ?_) (fun hq3 => ?_)
        · skip
          refine k_ite (P := fun (z : Int32 × MemI × MemL) => z.2.1 kk qq = mi kk qq) (fun hq4 => ?_) (fun hq4 => ?_)
          · skip
            dsimp only
            exact (fn_X5_takeRow hk).trans (rfl)
          · skip
            dsimp only
            exact (fn_X6_refuse hk).trans (rfl)
        · skip
          dsimp only
          exact (fn_X6_refuse hk).trans (rfl)
    · skip
      dsimp only
      exact (fn_X6_refuse hk).trans (rfl)
  · skip
    dsimp only
    exact (fn_X6_refuse hk).trans (rfl)
theorem fn_X6_set {mi : MemI} {ml : MemL} {s0 : Int32} {x : Int32} {v : Int64} {kk : Ky} {qq : Nat} (hk : k_nr kk qq = true) : (f_X6_set mi ml s0 x v).2.1 kk qq = mi kk qq := by
  unfold f_X6_set
  refine k_ite (P := fun (z : Int32 × MemI × MemL) => z.2.1 kk qq = mi kk qq) (fun hq0 => ?_) (fun hq0 => ?_)
  · skip
    refine k_ite (P := fun (z : Int32 × MemI × MemL) => z.2.1 kk qq = mi kk qq) (fun hq1 => ?_) (fun hq1 => ?_)
    · skip
      refine k_ite (P := fun (z : Int32 × MemI × MemL) => z.2.1 kk qq = mi kk qq) (fun hq2 => ?_) (fun hq2 => ?_)
      · skip
        dsimp only
        exact (fn_X6_refuse hk).trans (rfl)
      · skip
        exact rfl
    · skip
      dsimp only
      exact (fn_X6_refuse hk).trans (rfl)
  · skip
    dsimp only
    exact (fn_X6_refuse hk).trans (rfl)
theorem fn_X6_show {mi : MemI} {s0 : Int32} {cz : Int32} {kk : Ky} {qq : Nat} (hk : k_nr kk qq = true) : (f_X6_show mi s0 cz).2 kk qq = mi kk qq := by
  unfold f_X6_show
  refine k_ite (P := fun (z : Int32 × MemI) => z.2 kk qq = mi kk qq) (fun hq0 => ?_) (fun hq0 => ?_)
  · skip
    refine k_ite (P := fun (z : Int32 × MemI) => z.2 kk qq = mi kk qq) (fun hq1 => ?_) (fun hq1 => ?_)
    · skip
      dsimp only
      exact (fn_X5_takeCitizen hk).trans (rfl)
    · skip
      refine k_ite (P := fun (z : Int32 × MemI) => z.2 kk qq = mi kk qq) (fun hq2 => ?_) (fun hq2 => ?_)
      · skip
        dsimp only
        exact (fn_X5_takeCitizen hk).trans (rfl)
      · skip
        dsimp only
        exact (fn_X6_refuse hk).trans (rfl)
  · skip
    dsimp only
    exact (fn_X6_refuse hk).trans (rfl)
theorem fn_X6_says {mi : MemI} {s0 : Int32} {kd : Int32} {kk : Ky} {qq : Nat} (hk : k_nr kk qq = true) : (f_X6_says mi s0 kd).2 kk qq = mi kk qq := by
  unfold f_X6_says
  refine k_ite (P := fun (z : Int32 × MemI) => z.2 kk qq = mi kk qq) (fun hq0 => ?_) (fun hq0 => ?_)
  · skip
    refine k_ite (P := fun (z : Int32 × MemI) => z.2 kk qq = mi kk qq) (fun hq1 => ?_) (fun hq1 => ?_)
    · skip
      dsimp only
      exact (fn_X6_refuse hk).trans (rfl)
    · skip
      refine k_ite (P := fun (z : Int32 × MemI) => z.2 kk qq = mi kk qq) (fun hq2 => ?_) (fun hq2 => ?_)
      · skip
        refine k_ite (P := fun (z : Int32 × MemI) => z.2 kk qq = mi kk qq) (fun hq3 => ?_) (fun hq3 => ?_)
        · skip
          refine k_ite (P := fun (z : Int32 × MemI) => z.2 kk qq = mi kk qq) (fun hq4 => ?_) (fun hq4 => ?_)
          · skip
            refine k_ite (P := fun (z : Int32 × MemI) => z.2 kk qq = mi kk qq) (fun hq5 => ?_) (fun hq5 => ?_)
            · skip
              dsimp only
              exact (fn_X6_refuse hk).trans (rfl)
            · skip
              exact rfl
          · skip
            dsimp only
            exact (fn_X6_refuse hk).trans (rfl)
        · skip
          dsimp only
          exact (fn_X6_refuse hk).trans (rfl)
      · skip
        dsimp only
        exact (fn_X6_refuse hk).trans (rfl)
  · skip
    dsimp only
    exact (fn_X6_refuse hk).trans (rfl)
theorem fn_X6_citizen {mi : MemI} {kd : Int32} {a : Int32} {ms : Int32} {h : Int32} {kk : Ky} {qq : Nat} (hk : k_nr kk qq = true) : (f_X6_citizen mi kd a ms h).2 kk qq = mi kk qq := by
  unfold f_X6_citizen
  refine k_ite (P := fun (z : Int32 × MemI) => z.2 kk qq = mi kk qq) (fun hq0 => ?_) (fun hq0 => ?_)
  · skip
    dsimp only
    exact (fn_X6_refuse hk).trans (rfl)
  · skip
    refine k_ite (P := fun (z : Int32 × MemI) => z.2 kk qq = mi kk qq) (fun hq1 => ?_) (fun hq1 => ?_)
    · skip
      refine k_ite (P := fun (z : Int32 × MemI) => z.2 kk qq = mi kk qq) (fun hq2 => ?_) (fun hq2 => ?_)
      · skip
        refine k_ite (P := fun (z : Int32 × MemI) => z.2 kk qq = mi kk qq) (fun hq3 => ?_) (fun hq3 => ?_)
        · skip
          refine k_ite (P := fun (z : Int32 × MemI) => z.2 kk qq = mi kk qq) (fun hq4 => ?_) (fun hq4 => ?_)
          · skip
            refine k_ite (P := fun (z : Int32 × MemI) => z.2 kk qq = mi kk qq) (fun hq5 => ?_) (fun hq5 => ?_)
            · skip
              dsimp only
              exact (fn_X6_refuse hk).trans ((fn_X2_addCitizen hk).trans (rfl))
            · skip
              dsimp only
              exact (fn_X2_addCitizen hk).trans (rfl)
          · skip
            dsimp only
            exact (fn_X6_refuse hk).trans (rfl)
        · skip
          dsimp only
          exact (fn_X6_refuse hk).trans (rfl)
      · skip
        dsimp only
        exact (fn_X6_refuse hk).trans (rfl)
    · skip
      dsimp only
      exact (fn_X6_refuse hk).trans (rfl)
theorem fn_X6_beggar {mi : MemI} {n : Int32} {r : Int32} {kk : Ky} {qq : Nat} (hk : k_nr kk qq = true) : (f_X6_beggar mi n r).2 kk qq = mi kk qq := by
  unfold f_X6_beggar
  refine k_ite (P := fun (z : Int32 × MemI) => z.2 kk qq = mi kk qq) (fun hq0 => ?_) (fun hq0 => ?_)
  · skip
    refine k_ite (P := fun (z : Int32 × MemI) => z.2 kk qq = mi kk qq) (fun hq1 => ?_) (fun hq1 => ?_)
    · skip
      refine k_ite (P := fun (z : Int32 × MemI) => z.2 kk qq = mi kk qq) (fun hq2 => ?_) (fun hq2 => ?_)
      · skip
        dsimp only
        exact (fn_X6_refuse hk).trans ((fn_X2_addBeggar hk).trans (rfl))
      · skip
        dsimp only
        exact (fn_X2_addBeggar hk).trans (rfl)
    · skip
      dsimp only
      exact (fn_X6_refuse hk).trans (rfl)
  · skip
    dsimp only
    exact (fn_X6_refuse hk).trans (rfl)
theorem fn_X6_post {mi : MemI} {bg : Int32} {is : Int32} {kk : Ky} {qq : Nat} (hk : k_nr kk qq = true) : (f_X6_post mi bg is).2 kk qq = mi kk qq := by
  unfold f_X6_post
  refine k_ite (P := fun (z : Int32 × MemI) => z.2 kk qq = mi kk qq) (fun hq0 => ?_) (fun hq0 => ?_)
  · skip
    refine k_ite (P := fun (z : Int32 × MemI) => z.2 kk qq = mi kk qq) (fun hq1 => ?_) (fun hq1 => ?_)
    · skip
      dsimp only
      exact (k_frN hk rfl).trans (rfl)
    · skip
      dsimp only
      exact (k_frN hk rfl).trans (rfl)
  · skip
    dsimp only
    exact (fn_X6_refuse hk).trans (rfl)
theorem fn_X6_citizenOf {mi : MemI} {cz : Int32} {w : Int32} {kk : Ky} {qq : Nat} (hk : k_nr kk qq = true) : (f_X6_citizenOf mi cz w).2 kk qq = mi kk qq := by
  unfold f_X6_citizenOf
  refine k_ite (P := fun (z : Int32 × MemI) => z.2 kk qq = mi kk qq) (fun hq0 => ?_) (fun hq0 => ?_)
  · skip
    refine k_ite (P := fun (z : Int32 × MemI) => z.2 kk qq = mi kk qq) (fun hq1 => ?_) (fun hq1 => ?_)
    · skip
      exact rfl
    · skip
      refine k_ite (P := fun (z : Int32 × MemI) => z.2 kk qq = mi kk qq) (fun hq2 => ?_) (fun hq2 => ?_)
      · skip
        exact rfl
      · skip
        refine k_ite (P := fun (z : Int32 × MemI) => z.2 kk qq = mi kk qq) (fun hq3 => ?_) (fun hq3 => ?_)
        · skip
          exact rfl
        · skip
          refine k_ite (P := fun (z : Int32 × MemI) => z.2 kk qq = mi kk qq) (fun hq4 => ?_) (fun hq4 => ?_)
          · skip
            exact rfl
          · skip
            refine k_ite (P := fun (z : Int32 × MemI) => z.2 kk qq = mi kk qq) (fun hq5 => ?_) (fun hq5 => ?_)
            · skip
              exact rfl
            · skip
              refine k_ite (P := fun (z : Int32 × MemI) => z.2 kk qq = mi kk qq) (fun hq6 => ?_) (fun hq6 => ?_)
              · skip
                exact rfl
              · skip
                refine k_ite (P := fun (z : Int32 × MemI) => z.2 kk qq = mi kk qq) (fun hq7 => ?_) (fun hq7 => ?_)
                · skip
                  refine k_ite (P := fun (z : Int32 × MemI) => z.2 kk qq = mi kk qq) (fun hq8 => ?_) (fun hq8 => ?_)
                  · skip
                    exact rfl
                  · skip
                    exact rfl
                · skip
                  refine k_ite (P := fun (z : Int32 × MemI) => z.2 kk qq = mi kk qq) (fun hq8 => ?_) (fun hq8 => ?_)
                  · skip
                    exact rfl
                  · skip
                    dsimp only
                    exact (fn_X6_refuse hk).trans (rfl)
  · skip
    dsimp only
    exact (fn_X6_refuse hk).trans (rfl)
theorem fn_X6_beggarOf {mi : MemI} {bg : Int32} {w : Int32} {kk : Ky} {qq : Nat} (hk : k_nr kk qq = true) : (f_X6_beggarOf mi bg w).2 kk qq = mi kk qq := by
  unfold f_X6_beggarOf
  refine k_ite (P := fun (z : Int32 × MemI) => z.2 kk qq = mi kk qq) (fun hq0 => ?_) (fun hq0 => ?_)
  · skip
    refine k_ite (P := fun (z : Int32 × MemI) => z.2 kk qq = mi kk qq) (fun hq1 => ?_) (fun hq1 => ?_)
    · skip
      exact rfl
    · skip
      refine k_ite (P := fun (z : Int32 × MemI) => z.2 kk qq = mi kk qq) (fun hq2 => ?_) (fun hq2 => ?_)
      · skip
        exact rfl
      · skip
        refine k_ite (P := fun (z : Int32 × MemI) => z.2 kk qq = mi kk qq) (fun hq3 => ?_) (fun hq3 => ?_)
        · skip
          exact rfl
        · skip
          refine k_ite (P := fun (z : Int32 × MemI) => z.2 kk qq = mi kk qq) (fun hq4 => ?_) (fun hq4 => ?_)
          · skip
            exact rfl
          · skip
            refine k_ite (P := fun (z : Int32 × MemI) => z.2 kk qq = mi kk qq) (fun hq5 => ?_) (fun hq5 => ?_)
            · skip
              refine k_ite (P := fun (z : Int32 × MemI) => z.2 kk qq = mi kk qq) (fun hq6 => ?_) (fun hq6 => ?_)
              · skip
                exact rfl
              · skip
                exact rfl
            · skip
              dsimp only
              exact (fn_X6_refuse hk).trans (rfl)
  · skip
    dsimp only
    exact (fn_X6_refuse hk).trans (rfl)
theorem fn_X6_picks {mi : MemI} {bg : Int32} {kk : Ky} {qq : Nat} (hk : k_nr kk qq = true) : (f_X6_picks mi bg).2 kk qq = mi kk qq := by
  unfold f_X6_picks
  refine k_ite (P := fun (z : Int32 × MemI) => z.2 kk qq = mi kk qq) (fun hq0 => ?_) (fun hq0 => ?_)
  · skip
    dsimp only
    exact (fn_X2_goBy hk).trans (rfl)
  · skip
    dsimp only
    exact (fn_X6_refuse hk).trans (rfl)
theorem fn_X6_kept {mi : MemI} {kk : Ky} {qq : Nat} (hk : k_nr kk qq = true) : (f_X6_kept mi).2 kk qq = mi kk qq := by
  unfold f_X6_kept
  dsimp only
  exact (fn_X2_goBy hk).trans (rfl)
theorem fn_X6_picked {mi : MemI} {cz : Int32} {w : Int32} {kk : Ky} {qq : Nat} (hk : k_nr kk qq = true) : (f_X6_picked mi cz w).2 kk qq = mi kk qq := by
  unfold f_X6_picked
  refine k_ite (P := fun (z : Int32 × MemI) => z.2 kk qq = mi kk qq) (fun hq0 => ?_) (fun hq0 => ?_)
  · skip
    refine k_ite (P := fun (z : Int32 × MemI) => z.2 kk qq = mi kk qq) (fun hq1 => ?_) (fun hq1 => ?_)
    · skip
      refine k_ite (P := fun (z : Int32 × MemI) => z.2 kk qq = mi kk qq) (fun hq2 => ?_) (fun hq2 => ?_)
      · skip
        dsimp only
        exact (fn_X2_goBy hk).trans (rfl)
      · skip
        dsimp only
        exact (fn_X2_goBy hk).trans (rfl)
    · skip
      dsimp only
      exact (fn_X6_refuse hk).trans (rfl)
  · skip
    dsimp only
    exact (fn_X6_refuse hk).trans (rfl)
theorem fn_X6_parting {mi : MemI} {x : Int32} {kk : Ky} {qq : Nat} (hk : k_nr kk qq = true) : (f_X6_parting mi x).2 kk qq = mi kk qq := by
  unfold f_X6_parting
  refine k_ite (P := fun (z : Int32 × MemI) => z.2 kk qq = mi kk qq) (fun hq0 => ?_) (fun hq0 => ?_)
  · skip
    dsimp only
    exact (fn_X2_partAll hk).trans (rfl)
  · skip
    refine k_ite (P := fun (z : Int32 × MemI) => z.2 kk qq = mi kk qq) (fun hq1 => ?_) (fun hq1 => ?_)
    · skip
      dsimp only
      exact (fn_X6_refuse hk).trans (rfl)
    · skip
      refine k_ite (P := fun (z : Int32 × MemI) => z.2 kk qq = mi kk qq) (fun hq2 => ?_) (fun hq2 => ?_)
      · skip
        refine k_ite (P := fun (z : Int32 × MemI) => z.2 kk qq = mi kk qq) (fun hq3 => ?_) (fun hq3 => ?_)
        · skip
          dsimp only
          exact (fn_X2_partAll hk).trans (rfl)
        · skip
          refine k_ite (P := fun (z : Int32 × MemI) => z.2 kk qq = mi kk qq) (fun hq4 => ?_) (fun hq4 => ?_)
          · skip
            dsimp only
            exact (fn_X2_partAll hk).trans (rfl)
          · skip
            dsimp only
            exact (fn_X2_partAll hk).trans (rfl)
      · skip
        dsimp only
        exact (fn_X6_refuse hk).trans (rfl)
theorem fn_X6_rests {mi : MemI} {bg : Int32} {kk : Ky} {qq : Nat} (hk : k_nr kk qq = true) : (f_X6_rests mi bg).2 kk qq = mi kk qq := by
  unfold f_X6_rests
  refine k_ite (P := fun (z : Int32 × MemI) => z.2 kk qq = mi kk qq) (fun hq0 => ?_) (fun hq0 => ?_)
  · skip
    refine k_ite (P := fun (z : Int32 × MemI) => z.2 kk qq = mi kk qq) (fun hq1 => ?_) (fun hq1 => ?_)
    · skip
      refine k_ite (P := fun (z : Int32 × MemI) => z.2 kk qq = mi kk qq) (fun hq2 => ?_) (fun hq2 => ?_)
      · skip
        dsimp only
        exact (fn_X2_comeToRest hk).trans (rfl)
      · skip
        dsimp only
        exact (fn_X2_comeToRest hk).trans (rfl)
    · skip
      refine k_ite (P := fun (z : Int32 × MemI) => z.2 kk qq = mi kk qq) (fun hq2 => ?_) (fun hq2 => ?_)
      · skip
        refine k_ite (P := fun (z : Int32 × MemI) => z.2 kk qq = mi kk qq) (fun hq3 => ?_) (fun hq3 => ?_)
        · skip
          dsimp only
          exact (fn_X2_comeToRest hk).trans (rfl)
        · skip
          dsimp only
          exact (fn_X2_comeToRest hk).trans (rfl)
      · skip
        dsimp only
        exact (fn_X6_refuse hk).trans (rfl)
  · skip
    refine k_ite (P := fun (z : Int32 × MemI) => z.2 kk qq = mi kk qq) (fun hq1 => ?_) (fun hq1 => ?_)
    · skip
      dsimp only
      exact (fn_X2_comeToRest hk).trans (rfl)
    · skip
      dsimp only
      exact (fn_X6_refuse hk).trans (rfl)
theorem fn_X6_hide {mi : MemI} {kk : Ky} {qq : Nat} (hk : k_nr kk qq = true) : (f_X6_hide mi).2 kk qq = mi kk qq := by
  unfold f_X6_hide
  dsimp only
  exact (fn_X2_goBy hk).trans (rfl)
theorem fn_X6_judge {mi : MemI} {ml : MemL} {s0 : Int32} {n : Int32} {kk : Ky} {qq : Nat} (hk : k_nr kk qq = true) : (f_X6_judge mi ml s0 n).2 kk qq = mi kk qq := by
  unfold f_X6_judge
  refine k_ite (P := fun (z : Int32 × MemI) => z.2 kk qq = mi kk qq) (fun hq0 => ?_) (fun hq0 => ?_)
  · skip
    refine k_ite (P := fun (z : Int32 × MemI) => z.2 kk qq = mi kk qq) (fun hq1 => ?_) (fun hq1 => ?_)
    · skip
      refine k_ite (P := fun (z : Int32 × MemI) => z.2 kk qq = mi kk qq) (fun hq2 => ?_) (fun hq2 => ?_)
      · skip
        refine k_ite (P := fun (z : Int32 × MemI) => z.2 kk qq = mi kk qq) (fun hq3 => ?_) (fun hq3 => ?_)
        · skip
          refine k_ite (P := fun (z : Int32 × MemI) => z.2 kk qq = mi kk qq) (fun hq4 => ?_) (fun hq4 => ?_)
          · skip
            dsimp only
            exact (fn_X2_goBy hk).trans (rfl)
          · skip
            dsimp only
            exact (fn_X6_refuse hk).trans (rfl)
        · skip
          dsimp only
          exact (fn_X6_refuse hk).trans (rfl)
      · skip
        dsimp only
        exact (fn_X6_refuse hk).trans (rfl)
    · skip
      dsimp only
      exact (fn_X6_refuse hk).trans (rfl)
  · skip
    dsimp only
    exact (fn_X6_refuse hk).trans (rfl)
theorem fn_X6_seed {mi : MemI} {v : Int32} {kk : Ky} {qq : Nat} (hk : k_nr kk qq = true) : (f_X6_seed mi v).2 kk qq = mi kk qq := by
  unfold f_X6_seed
  dsimp only
  exact (k_frN hk rfl).trans (rfl)
theorem fn_X6_act {mi : MemI} {cz : Int32} {mv : Int32} {x : Int32} {kk : Ky} {qq : Nat} (hk : k_nr kk qq = true) : (f_X6_act mi cz mv x).2 kk qq = mi kk qq := by
  unfold f_X6_act
  refine k_ite (P := fun (z : Int32 × MemI) => z.2 kk qq = mi kk qq) (fun hq0 => ?_) (fun hq0 => ?_)
  · skip
    refine k_ite (P := fun (z : Int32 × MemI) => z.2 kk qq = mi kk qq) (fun hq1 => ?_) (fun hq1 => ?_)
    · skip
      dsimp only
      exact (fn_X3_forget hk).trans (rfl)
    · skip
      refine k_ite (P := fun (z : Int32 × MemI) => z.2 kk qq = mi kk qq) (fun hq2 => ?_) (fun hq2 => ?_)
      · skip
        dsimp only
        exact (fn_X3_perform hk).trans ((fn_X3_forget hk).trans (rfl))
      · skip
        dsimp only
        exact (fn_X3_forget hk).trans (rfl)
  · skip
    dsimp only
    exact (fn_X3_forget hk).trans (rfl)
theorem fn_X6_tell {mi : MemI} {cz : Int32} {w : Int32} {v : Int32} {kk : Ky} {qq : Nat} (hk : k_nr kk qq = true) : (f_X6_tell mi cz w v).2 kk qq = mi kk qq := by
  unfold f_X6_tell
  refine k_ite (P := fun (z : Int32 × MemI) => z.2 kk qq = mi kk qq) (fun hq0 => ?_) (fun hq0 => ?_)
  · skip
    refine k_ite (P := fun (z : Int32 × MemI) => z.2 kk qq = mi kk qq) (fun hq1 => ?_) (fun hq1 => ?_)
    · skip
      dsimp only
      exact (fn_X1_becomes hk).trans (rfl)
    · skip
      dsimp only
      exact (fn_X6_refuse hk).trans (rfl)
  · skip
    dsimp only
    exact (fn_X6_refuse hk).trans (rfl)
theorem fn_X6_copy {mi : MemI} {ml : MemL} {p0 : Int32} {q0 : Int32} {x : Int32} {y : Int32} {n : Int32} {kk : Ky} {qq : Nat} (hk : k_nr kk qq = true) : (f_X6_copy mi ml p0 q0 x y n).2.1 kk qq = mi kk qq := by
  unfold f_X6_copy
  refine k_ite (P := fun (z : Int32 × MemI × MemL) => z.2.1 kk qq = mi kk qq) (fun hq0 => ?_) (fun hq0 => ?_)
  · skip
    refine k_ite (P := fun (z : Int32 × MemI × MemL) => z.2.1 kk qq = mi kk qq) (fun hq1 => ?_) (fun hq1 => ?_)
    · skip
      refine k_ite (P := fun (z : Int32 × MemI × MemL) => z.2.1 kk qq = mi kk qq) (fun hq2 => ?_) (fun hq2 => ?_)
      · skip
        refine k_ite (P := fun (z : Int32 × MemI × MemL) => z.2.1 kk qq = mi kk qq) (fun hq3 => ?_) (fun hq3 => ?_)
        · skip
          refine k_ite (P := fun (z : Int32 × MemI × MemL) => z.2.1 kk qq = mi kk qq) (fun hq4 => ?_) (fun hq4 => ?_)
          · skip
            refine k_ite (P := fun (z : Int32 × MemI × MemL) => z.2.1 kk qq = mi kk qq) (fun hq5 => ?_) (fun hq5 => ?_)
            · skip
              dsimp only
              exact (fn_X6_refuse hk).trans (rfl)
            · skip
              refine k_ite (P := fun (z : Int32 × MemI × MemL) => z.2.1 kk qq = mi kk qq) (fun hq6 => ?_) (fun hq6 => ?_)
              · skip
                dsimp only
                exact (fn_X6_refuse hk).trans (rfl)
              · skip
                refine k_ite (P := fun (z : Int32 × MemI × MemL) => z.2.1 kk qq = mi kk qq) (fun hq7 => ?_) (fun hq7 => ?_)
                · skip
                  refine k_ite (P := fun (z : Int32 × MemI × MemL) => z.2.1 kk qq = mi kk qq) (fun hq8 => ?_) (fun hq8 => ?_)
                  · skip
                    dsimp only
                    exact (fn_X6_refuse hk).trans (rfl)
                  · skip
                    refine k_ite (P := fun (z : Int32 × MemI × MemL) => z.2.1 kk qq = mi kk qq) (fun hq9 => ?_) (fun hq9 => ?_)
                    · skip
                      dsimp only
                      exact (fn_X6_refuse hk).trans (rfl)
                    · skip
                      exact rfl
                · skip
                  dsimp only
                  exact (fn_X6_refuse hk).trans (rfl)
          · skip
            dsimp only
            exact (fn_X6_refuse hk).trans (rfl)
        · skip
          dsimp only
          exact (fn_X6_refuse hk).trans (rfl)
      · skip
        dsimp only
        exact (fn_X6_refuse hk).trans (rfl)
    · skip
      dsimp only
      exact (fn_X6_refuse hk).trans (rfl)
  · skip
    refine k_ite (P := fun (z : Int32 × MemI × MemL) => z.2.1 kk qq = mi kk qq) (fun hq1 => ?_) (fun hq1 => ?_)
    · skip
      dsimp only
      exact (fn_X6_refuse hk).trans (rfl)
    · skip
      dsimp only
      exact (fn_X6_refuse hk).trans (rfl)
theorem fn_X6_wear {mi : MemI} {cz : Int32} {n : Int32} {kk : Ky} {qq : Nat} (hk : k_nr kk qq = true) : (f_X6_wear mi cz n).2 kk qq = mi kk qq := by
  unfold f_X6_wear
  refine k_ite (P := fun (z : Int32 × MemI) => z.2 kk qq = mi kk qq) (fun hq0 => ?_) (fun hq0 => ?_)
  · skip
    refine k_ite (P := fun (z : Int32 × MemI) => z.2 kk qq = mi kk qq) (fun hq1 => ?_) (fun hq1 => ?_)
    · skip
      refine k_ite (P := fun (z : Int32 × MemI) => z.2 kk qq = mi kk qq) (fun hq2 => ?_) (fun hq2 => ?_)
      · skip
        dsimp only
        exact (fn_X2_passMornings hk).trans ((fn_X2_become hk).trans (rfl))
      · skip
        dsimp only
        exact (fn_X2_passMornings hk).trans ((fn_X2_become hk).trans (rfl))
    · skip
      dsimp only
      exact (fn_X6_refuse hk).trans (rfl)
  · skip
    dsimp only
    exact (fn_X6_refuse hk).trans (rfl)
theorem fn_X6_unkept {mi : MemI} {n : Int32} {w : Int32} {kk : Ky} {qq : Nat} (hk : k_nr kk qq = true) : (f_X6_unkept mi n w).2 kk qq = mi kk qq := by
  unfold f_X6_unkept
  refine k_ite (P := fun (z : Int32 × MemI) => z.2 kk qq = mi kk qq) (fun hq0 => ?_) (fun hq0 => ?_)
  · skip
    refine k_ite (P := fun (z : Int32 × MemI) => z.2 kk qq = mi kk qq) (fun hq1 => ?_) (fun hq1 => ?_)
    · skip
      refine k_ite (P := fun (z : Int32 × MemI) => z.2 kk qq = mi kk qq) (fun hq2 => ?_) (fun hq2 => ?_)
      · skip
        dsimp only
        exact (fn_X2_passMornings hk).trans ((fn_X2_become hk).trans (rfl))
      · skip
        dsimp only
        exact (fn_X2_firstHungryMorning hk).trans ((fn_X2_become hk).trans (rfl))
    · skip
      dsimp only
      exact (fn_X6_refuse hk).trans (rfl)
  · skip
    dsimp only
    exact (fn_X6_refuse hk).trans (rfl)
theorem fn_X6_mornings {mi : MemI} {n : Int32} {kk : Ky} {qq : Nat} (hk : k_nr kk qq = true) : (f_X6_mornings mi n).2 kk qq = mi kk qq := by
  unfold f_X6_mornings
  refine k_ite (P := fun (z : Int32 × MemI) => z.2 kk qq = mi kk qq) (fun hq0 => ?_) (fun hq0 => ?_)
  · skip
    dsimp only
    exact (fn_X2_passMornings hk).trans (rfl)
  · skip
    dsimp only
    exact (fn_X6_refuse hk).trans (rfl)
theorem fn_X6_lose {mi : MemI} {cz : Int32} {kk : Ky} {qq : Nat} (hk : k_nr kk qq = true) : (f_X6_lose mi cz).2 kk qq = mi kk qq := by
  unfold f_X6_lose
  refine k_ite (P := fun (z : Int32 × MemI) => z.2 kk qq = mi kk qq) (fun hq0 => ?_) (fun hq0 => ?_)
  · skip
    refine k_ite (P := fun (z : Int32 × MemI) => z.2 kk qq = mi kk qq) (fun hq1 => ?_) (fun hq1 => ?_)
    · skip
      refine k_ite (P := fun (z : Int32 × MemI) => z.2 kk qq = mi kk qq) (fun hq2 => ?_) (fun hq2 => ?_)
      · skip
        dsimp only
        exact (fn_X2_hungryMorning hk).trans ((k_frN hk rfl).trans ((fn_X2_hungryMorning hk).trans ((fn_X2_become hk).trans (rfl))))
      · skip
        dsimp only
        exact (fn_X2_hungryMorning hk).trans ((fn_X2_hungryMorning hk).trans ((fn_X2_become hk).trans (rfl)))
    · skip
      dsimp only
      exact (fn_X6_refuse hk).trans (rfl)
  · skip
    dsimp only
    exact (fn_X6_refuse hk).trans (rfl)
theorem fn_X6_image {mi : MemI} {kk : Ky} {qq : Nat} (hk : k_nr kk qq = true) : (f_X6_image mi).2 kk qq = mi kk qq := by
  unfold f_X6_image
  dsimp only
  exact (k_frN hk rfl).trans ((fn_X2_become hk).trans (rfl))
theorem fn_X6_city {mi : MemI} {ml : MemL} {s0 : Int32} {kk : Ky} {qq : Nat} (hk : k_nr kk qq = true) : (f_X6_city mi ml s0).2 kk qq = mi kk qq := by
  unfold f_X6_city
  refine k_ite (P := fun (z : Int32 × MemI) => z.2 kk qq = mi kk qq) (fun hq0 => ?_) (fun hq0 => ?_)
  · skip
    refine k_ite (P := fun (z : Int32 × MemI) => z.2 kk qq = mi kk qq) (fun hq1 => ?_) (fun hq1 => ?_)
    · skip
      refine k_ite (P := fun (z : Int32 × MemI) => z.2 kk qq = mi kk qq) (fun hq2 => ?_) (fun hq2 => ?_)
      · skip
        dsimp only
        exact (fn_X6_refuse hk).trans ((fn_X4_read hk).trans ((fn_X2_become hk).trans (rfl)))
      · skip
        dsimp only
        exact (fn_X2_become hk).trans ((fn_X4_read hk).trans ((fn_X2_become hk).trans (rfl)))
    · skip
      dsimp only
      exact (fn_X6_refuse hk).trans (rfl)
  · skip
    dsimp only
    exact (fn_X6_refuse hk).trans (rfl)
theorem fn_X6_bestL  {mi : MemI} {kk : Ky} {qq : Nat} (hk : k_nr kk qq = true) : ∀ {j : Nat}, (f_X6_bestL mi j).2.2 kk qq = mi kk qq := by
  intro j
  induction j with
  | zero => rfl
  | succ j ih =>
    rw [f_X6_bestL_s]
    refine k_ite (P := fun (z : Int32 × Int32 × MemI) => z.2.2 kk qq = mi kk qq) (fun hq0 => ?_) (fun hq0 => ?_)
    · skip
      dsimp only
      exact ih
    · skip
      refine k_ite (P := fun (z : Int32 × Int32 × MemI) => z.2.2 kk qq = mi kk qq) (fun hq1 => ?_) (fun hq1 => ?_)
      · skip
        dsimp only
        exact (k_frN hk rfl).trans ((fn_X2_hungryMorning hk).trans ((k_frN hk rfl).trans (ih)))
      · skip
        refine k_ite (P := fun (z : Int32 × Int32 × MemI) => z.2.2 kk qq = mi kk qq) (fun hq2 => ?_) (fun hq2 => ?_)
        · skip
          dsimp only
          exact (k_frN hk rfl).trans ((fn_X2_hungryMorning hk).trans ((k_frN hk rfl).trans (ih)))
        · skip
          dsimp only
          exact (k_frN hk rfl).trans ((fn_X2_hungryMorning hk).trans ((k_frN hk rfl).trans (ih)))
theorem fn_X6_best {mi : MemI} {kk : Ky} {qq : Nat} (hk : k_nr kk qq = true) : (f_X6_best mi).2 kk qq = mi kk qq := by
  unfold f_X6_best
  dsimp only
  exact (fn_X6_bestL hk).trans ((fn_X2_become hk).trans (rfl))
theorem fn_X6_rulesL {bg : Int32} {cz : Int32} {mi : MemI} {kk : Ky} {qq : Nat} (hk : k_nr kk qq = true) : ∀ {j : Nat}, (f_X6_rulesL mi bg cz j).2 kk qq = mi kk qq := by
  intro j
  induction j with
  | zero => rfl
  | succ j ih =>
    rw [f_X6_rulesL_s]
    refine k_ite (P := fun (z : Int32 × MemI) => z.2 kk qq = mi kk qq) (fun hq0 => ?_) (fun hq0 => ?_)
    · skip
      dsimp only
      exact (fn_X2_pickByRule hk).trans (ih)
    · skip
      dsimp only
      exact (fn_X2_pickByRule hk).trans (ih)
theorem fn_X6_rules {mi : MemI} {bg : Int32} {cz : Int32} {kk : Ky} {qq : Nat} (hk : k_nr kk qq = true) : (f_X6_rules mi bg cz).2 kk qq = mi kk qq := by
  unfold f_X6_rules
  refine k_ite (P := fun (z : Int32 × MemI) => z.2 kk qq = mi kk qq) (fun hq0 => ?_) (fun hq0 => ?_)
  · skip
    refine k_ite (P := fun (z : Int32 × MemI) => z.2 kk qq = mi kk qq) (fun hq1 => ?_) (fun hq1 => ?_)
    · skip
      refine k_ite (P := fun (z : Int32 × MemI) => z.2 kk qq = mi kk qq) (fun hq2 => ?_) (fun hq2 => ?_)
      · skip
        dsimp only
        exact (fn_X6_rulesL hk).trans ((fn_X2_become hk).trans (rfl))
      · skip
        dsimp only
        exact (fn_X6_refuse hk).trans (rfl)
    · skip
      dsimp only
      exact (fn_X6_refuse hk).trans (rfl)
  · skip
    dsimp only
    exact (fn_X6_refuse hk).trans (rfl)
theorem fn_X6_restL  {mi : MemI} {kk : Ky} {qq : Nat} (hk : k_nr kk qq = true) : ∀ {j : Nat}, (f_X6_restL mi j) kk qq = mi kk qq := by
  intro j
  induction j with
  | zero => rfl
  | succ j ih =>
    rw [f_X6_restL_s]
    refine k_ite (P := fun (z : MemI) => z kk qq = mi kk qq) (fun hq0 => ?_) (fun hq0 => ?_)
    · skip
      exact ih
    · skip
      refine k_ite (P := fun (z : MemI) => z kk qq = mi kk qq) (fun hq1 => ?_) (fun hq1 => ?_)
      · skip
        exact ih
      · skip
        exact (fn_X5_takeCitizen hk).trans (ih)
theorem fn_X6_restore {mi : MemI} {kk : Ky} {qq : Nat} (hk : k_nr kk qq = true) : (f_X6_restore mi).2 kk qq = mi kk qq := by
  unfold f_X6_restore
  refine k_ite (P := fun (z : Int32 × MemI) => z.2 kk qq = mi kk qq) (fun hq0 => ?_) (fun hq0 => ?_)
  · skip
    dsimp only
    exact (fn_X6_refuse hk).trans (rfl)
  · skip
    dsimp only
    exact (fn_X6_restL hk).trans ((fn_X2_become hk).trans (rfl))
theorem fn_X6_wintL {N : Nat} {mi : MemI} {kk : Ky} {qq : Nat} (hk : k_nr kk qq = true) : ∀ {j : Nat}, (f_X6_wintL mi N j).2 kk qq = mi kk qq := by
  intro j
  induction j with
  | zero => rfl
  | succ j ih =>
    rw [f_X6_wintL_s]
    dsimp only
    exact (fn_X2_passMorning hk).trans ((fn_X2_drawWhoHides hk).trans (ih))
theorem fn_X6_wintersI {mi : MemI} {N : Nat} {kk : Ky} {qq : Nat} (hk : k_nr kk qq = true) : (f_X6_wintersI mi N).2 kk qq = mi kk qq := by
  unfold f_X6_wintersI
  dsimp only
  exact (fn_X6_wintL hk).trans (rfl)
theorem fn_X6_winters {mi : MemI} {n : Int32} {kk : Ky} {qq : Nat} (hk : k_nr kk qq = true) : (f_X6_winters mi n).2 kk qq = mi kk qq := by
  unfold f_X6_winters
  refine k_ite (P := fun (z : Int32 × MemI) => z.2 kk qq = mi kk qq) (fun hq0 => ?_) (fun hq0 => ?_)
  · skip
    exact (fn_X6_wintersI hk).trans (rfl)
  · skip
    exact (fn_X6_refuse hk).trans (rfl)
theorem fn_X6_shR {cz : Int32} {w : Int32} {kk : Ky} {qq : Nat} (hk : k_nr kk qq = true) : ∀ {u : Nat} {j : Nat} {m0 : MemI}, (f_X6_shR cz w u j m0).2 kk qq = m0 kk qq := by
  intro u
  induction u with
  | zero =>
    intro j m0
    show (f_X6_shR cz w 0 j m0).2 kk qq = m0 kk qq
    unfold f_X6_shR
    exact rfl
  | succ u ih =>
    intro j m0
    rw [f_X6_shR_s]
    refine k_ite (P := fun (z : Int32 × MemI) => z.2 kk qq = m0 kk qq) (fun hq0 => ?_) (fun hq0 => ?_)
    · skip
      refine k_ite (P := fun (z : Int32 × MemI) => z.2 kk qq = m0 kk qq) (fun hq1 => ?_) (fun hq1 => ?_)
      · skip
        refine k_ite (P := fun (z : Int32 × MemI) => z.2 kk qq = m0 kk qq) (fun hq2 => ?_) (fun hq2 => ?_)
        · skip
          dsimp only
          exact (fn_X2_isPickedWithHeart hk).trans (rfl)
        · skip
          exact ih.trans ((fn_X2_isPickedWithHeart hk).trans (rfl))
      · skip
        refine k_ite (P := fun (z : Int32 × MemI) => z.2 kk qq = m0 kk qq) (fun hq2 => ?_) (fun hq2 => ?_)
        · skip
          dsimp only
          exact (fn_X2_isPickedWithHeart hk).trans (rfl)
        · skip
          exact ih.trans ((fn_X2_isPickedWithHeart hk).trans (rfl))
    · skip
      refine k_ite (P := fun (z : Int32 × MemI) => z.2 kk qq = m0 kk qq) (fun hq1 => ?_) (fun hq1 => ?_)
      · skip
        refine k_ite (P := fun (z : Int32 × MemI) => z.2 kk qq = m0 kk qq) (fun hq2 => ?_) (fun hq2 => ?_)
        · skip
          dsimp only
          exact (fn_X2_isPickedWithHeart hk).trans (rfl)
        · skip
          exact ih.trans ((fn_X2_isPickedWithHeart hk).trans (rfl))
      · skip
        refine k_ite (P := fun (z : Int32 × MemI) => z.2 kk qq = m0 kk qq) (fun hq2 => ?_) (fun hq2 => ?_)
        · skip
          dsimp only
          exact (fn_X2_isPickedWithHeart hk).trans (rfl)
        · skip
          exact ih.trans ((fn_X2_isPickedWithHeart hk).trans (rfl))
theorem fn_X6_shun {mi : MemI} {cz : Int32} {w : Int32} {kk : Ky} {qq : Nat} (hk : k_nr kk qq = true) : (f_X6_shun mi cz w).2 kk qq = mi kk qq := by
  unfold f_X6_shun
  refine k_ite (P := fun (z : Int32 × MemI) => z.2 kk qq = mi kk qq) (fun hq0 => ?_) (fun hq0 => ?_)
  · skip
    refine k_ite (P := fun (z : Int32 × MemI) => z.2 kk qq = mi kk qq) (fun hq1 => ?_) (fun hq1 => ?_)
    · skip
      refine k_ite (P := fun (z : Int32 × MemI) => z.2 kk qq = mi kk qq) (fun hq2 => ?_) (fun hq2 => ?_)
      · skip
        exact (fn_X6_shR hk).trans ((fn_X2_become hk).trans (rfl))
      · skip
        dsimp only
        exact (fn_X6_refuse hk).trans (rfl)
    · skip
      dsimp only
      exact (fn_X6_refuse hk).trans (rfl)
  · skip
    dsimp only
    exact (fn_X6_refuse hk).trans (rfl)
theorem fw_X7_allO {mi : MemI} {kk : Ky} {qq : Nat} (hk : k_mw kk qq = false) : f_X7_allO mi 35 kk qq = mi kk qq := allO_fr (fun e => by subst e; cases hk) qq
theorem fw_crI {mi : MemI} {fo t f : Nat} {kk : Ky} {qq : Nat} (hk : k_mw kk qq = false) (hf : ∀ q, k_mw (8, fo, 0) q = true) : ∀ j, f_X7_crI mi fo t f j kk qq = mi kk qq := fun j => crI_fr (fun e => by subst e; rw [hf qq] at hk; cases hk) j qq
theorem fw_X7_allI {mi : MemI} {t : Nat} {kk : Ky} {qq : Nat} (hk : k_mw kk qq = false) : f_X7_allI mi t kk qq = mi kk qq := by
  unfold f_X7_allI
  rw [k_frW hk rfl, k_frW hk rfl, k_frW hk rfl, k_frW hk rfl]
  rw [fw_crI hk (fun _ => rfl), fw_crI hk (fun _ => rfl), fw_crI hk (fun _ => rfl), fw_crI hk (fun _ => rfl), fw_crI hk (fun _ => rfl), fw_crI hk (fun _ => rfl), fw_crI hk (fun _ => rfl), fw_crI hk (fun _ => rfl), fw_crI hk (fun _ => rfl), fw_crI hk (fun _ => rfl), fw_crI hk (fun _ => rfl), fw_crI hk (fun _ => rfl)]
theorem fw_X7_go1  {mi : MemI} {kk : Ky} {qq : Nat} (hk : k_mw kk qq = false) : ∀ {j : Nat}, (f_X7_go1 mi j) kk qq = mi kk qq := by
  intro j
  induction j with
  | zero => rfl
  | succ j ih =>
    rw [f_X7_go1_s]
    exact (k_frW hk rfl).trans ((k_frW hk rfl).trans ((k_frW hk rfl).trans ((k_frW hk rfl).trans (ih))))
theorem fw_X7_go2 {nC : Nat} {mi : MemI} {kk : Ky} {qq : Nat} (hk : k_mw kk qq = false) : ∀ {j : Nat}, (f_X7_go2 mi nC j) kk qq = mi kk qq := by
  intro j
  induction j with
  | zero => rfl
  | succ j ih =>
    rw [f_X7_go2_s]
    refine k_ite (P := fun (z : MemI) => z kk qq = mi kk qq) (fun hq0 => ?_) (fun hq0 => ?_)
    · skip
      exact (k_frW hk rfl).trans ((k_frW hk rfl).trans (ih))
    · skip
      refine k_ite (P := fun (z : MemI) => z kk qq = mi kk qq) (fun hq1 => ?_) (fun hq1 => ?_)
      · skip
        refine k_ite (P := fun (z : MemI) => z kk qq = mi kk qq) (fun hq2 => ?_) (fun hq2 => ?_)
        · skip
          refine k_ite (P := fun (z : MemI) => z kk qq = mi kk qq) (fun hq3 => ?_) (fun hq3 => ?_)
          · skip
            refine k_ite (P := fun (z : MemI) => z kk qq = mi kk qq) (fun hq4 => ?_) (fun hq4 => ?_)
            · skip
              exact (k_frW hk rfl).trans ((k_frW hk rfl).trans ((k_frW hk rfl).trans ((k_frW hk rfl).trans ((k_frW hk rfl).trans (ih)))))
            · skip
              exact (k_frW hk rfl).trans ((k_frW hk rfl).trans ((k_frW hk rfl).trans ((k_frW hk rfl).trans ((k_frW hk rfl).trans ((k_frW hk rfl).trans ((k_frW hk rfl).trans ((k_frW hk rfl).trans ((k_frW hk rfl).trans (ih)))))))))
          · skip
            exact (k_frW hk rfl).trans ((k_frW hk rfl).trans ((k_frW hk rfl).trans ((k_frW hk rfl).trans ((k_frW hk rfl).trans ((k_frW hk rfl).trans ((k_frW hk rfl).trans ((k_frW hk rfl).trans (ih))))))))
        · skip
          refine k_ite (P := fun (z : MemI) => z kk qq = mi kk qq) (fun hq3 => ?_) (fun hq3 => ?_)
          · skip
            exact (k_frW hk rfl).trans ((k_frW hk rfl).trans ((k_frW hk rfl).trans ((k_frW hk rfl).trans ((k_frW hk rfl).trans (ih)))))
          · skip
            exact (k_frW hk rfl).trans ((k_frW hk rfl).trans ((k_frW hk rfl).trans ((k_frW hk rfl).trans ((k_frW hk rfl).trans ((k_frW hk rfl).trans ((k_frW hk rfl).trans ((k_frW hk rfl).trans ((k_frW hk rfl).trans (ih)))))))))
      · skip
        exact (k_frW hk rfl).trans ((k_frW hk rfl).trans ((k_frW hk rfl).trans ((k_frW hk rfl).trans (ih))))
theorem fw_X7_goes {mi : MemI} {nC : Nat} {nB : Nat} {kk : Ky} {qq : Nat} (hk : k_mw kk qq = false) : (f_X7_goes mi nC nB) kk qq = mi kk qq := by
  unfold f_X7_goes
  exact (fw_X7_go2 hk).trans ((fw_X7_go1 hk).trans ((k_frW hk rfl).trans ((k_frW hk rfl).trans (rfl))))
theorem fw_X7_ps1  {mi : MemI} {kk : Ky} {qq : Nat} (hk : k_mw kk qq = false) : ∀ {j : Nat}, (f_X7_ps1 mi j) kk qq = mi kk qq := by
  intro j
  induction j with
  | zero => rfl
  | succ j ih =>
    rw [f_X7_ps1_s]
    refine k_ite (P := fun (z : MemI) => z kk qq = mi kk qq) (fun hq0 => ?_) (fun hq0 => ?_)
    · skip
      refine k_ite (P := fun (z : MemI) => z kk qq = mi kk qq) (fun hq1 => ?_) (fun hq1 => ?_)
      · skip
        refine k_ite (P := fun (z : MemI) => z kk qq = mi kk qq) (fun hq2 => ?_) (fun hq2 => ?_)
        · skip
          exact (k_frW hk rfl).trans ((k_frW hk rfl).trans (ih))
        · skip
          exact (k_frW hk rfl).trans ((k_frW hk rfl).trans (ih))
      · skip
        refine k_ite (P := fun (z : MemI) => z kk qq = mi kk qq) (fun hq2 => ?_) (fun hq2 => ?_)
        · skip
          exact (k_frW hk rfl).trans ((k_frW hk rfl).trans (ih))
        · skip
          exact (k_frW hk rfl).trans ((k_frW hk rfl).trans (ih))
    · skip
      refine k_ite (P := fun (z : MemI) => z kk qq = mi kk qq) (fun hq1 => ?_) (fun hq1 => ?_)
      · skip
        exact (k_frW hk rfl).trans ((k_frW hk rfl).trans (ih))
      · skip
        exact (k_frW hk rfl).trans ((k_frW hk rfl).trans (ih))
theorem fw_X7_ps2  {mi : MemI} {kk : Ky} {qq : Nat} (hk : k_mw kk qq = false) : ∀ {j : Nat}, (f_X7_ps2 mi j) kk qq = mi kk qq := by
  intro j
  induction j with
  | zero => rfl
  | succ j ih =>
    rw [f_X7_ps2_s]
    refine k_ite (P := fun (z : MemI) => z kk qq = mi kk qq) (fun hq0 => ?_) (fun hq0 => ?_)
    · skip
      exact ih
    · skip
      refine k_ite (P := fun (z : MemI) => z kk qq = mi kk qq) (fun hq1 => ?_) (fun hq1 => ?_)
      · skip
        refine k_ite (P := fun (z : MemI) => z kk qq = mi kk qq) (fun hq2 => ?_) (fun hq2 => ?_)
        · skip
          exact (k_frW hk rfl).trans (ih)
        · skip
          refine k_ite (P := fun (z : MemI) => z kk qq = mi kk qq) (fun hq3 => ?_) (fun hq3 => ?_)
          · skip
            exact (k_frW hk rfl).trans (ih)
          · skip
            exact (k_frW hk rfl).trans (ih)
      · skip
        refine k_ite (P := fun (z : MemI) => z kk qq = mi kk qq) (fun hq2 => ?_) (fun hq2 => ?_)
        · skip
          exact (k_frW hk rfl).trans ((k_frW hk rfl).trans (ih))
        · skip
          refine k_ite (P := fun (z : MemI) => z kk qq = mi kk qq) (fun hq3 => ?_) (fun hq3 => ?_)
          · skip
            exact (k_frW hk rfl).trans ((k_frW hk rfl).trans (ih))
          · skip
            exact (k_frW hk rfl).trans ((k_frW hk rfl).trans (ih))
theorem fw_X7_passes {mi : MemI} {nC : Nat} {nB : Nat} {kk : Ky} {qq : Nat} (hk : k_mw kk qq = false) : (f_X7_passes mi nC nB) kk qq = mi kk qq := by
  unfold f_X7_passes
  exact (k_frW hk rfl).trans ((fw_X7_ps2 hk).trans ((fw_X7_ps1 hk).trans ((fw_X7_goes hk).trans (rfl))))
theorem fw_X7_moL {nC : Nat} {nB : Nat} {mi : MemI} {kk : Ky} {qq : Nat} (hk : k_mw kk qq = false) : ∀ {j : Nat}, (f_X7_moL mi nC nB j).2 kk qq = mi kk qq := by
  intro j
  induction j with
  | zero => rfl
  | succ j ih =>
    rw [f_X7_moL_s]
    dsimp only
    exact (fw_X7_passes hk).trans (ih)
theorem fw_X7_weL {nC : Nat} {nB : Nat} {mi : MemI} {kk : Ky} {qq : Nat} (hk : k_mw kk qq = false) : ∀ {j : Nat}, (f_X7_weL mi nC nB j) kk qq = mi kk qq := by
  intro j
  induction j with
  | zero => rfl
  | succ j ih =>
    rw [f_X7_weL_s]
    exact (fw_X7_passes hk).trans (ih)
theorem fw_X7_unL {nC : Nat} {nB : Nat} {mi : MemI} {kk : Ky} {qq : Nat} (hk : k_mw kk qq = false) : ∀ {j : Nat}, (f_X7_unL mi nC nB j).2.2 kk qq = mi kk qq := by
  intro j
  induction j with
  | zero => rfl
  | succ j ih =>
    rw [f_X7_unL_s]
    refine k_ite (P := fun (z : Int32 × Int32 × MemI) => z.2.2 kk qq = mi kk qq) (fun hq0 => ?_) (fun hq0 => ?_)
    · skip
      dsimp only
      exact (fw_X7_passes hk).trans (ih)
    · skip
      refine k_ite (P := fun (z : Int32 × Int32 × MemI) => z.2.2 kk qq = mi kk qq) (fun hq1 => ?_) (fun hq1 => ?_)
      · skip
        dsimp only
        exact (fw_X7_passes hk).trans (ih)
      · skip
        dsimp only
        exact (fw_X7_passes hk).trans (ih)
theorem fw_X7_shL {cz : Int32} {nC : Nat} {nB : Nat} {mi : MemI} {kk : Ky} {qq : Nat} (hk : k_mw kk qq = false) : ∀ {j : Nat}, (f_X7_shL mi cz nC nB j).2.2 kk qq = mi kk qq := by
  intro j
  induction j with
  | zero => rfl
  | succ j ih =>
    rw [f_X7_shL_s]
    refine k_ite (P := fun (z : Int32 × Int32 × MemI) => z.2.2 kk qq = mi kk qq) (fun hq0 => ?_) (fun hq0 => ?_)
    · skip
      dsimp only
      exact (fw_X7_goes hk).trans ((k_frW hk rfl).trans (ih))
    · skip
      refine k_ite (P := fun (z : Int32 × Int32 × MemI) => z.2.2 kk qq = mi kk qq) (fun hq1 => ?_) (fun hq1 => ?_)
      · skip
        dsimp only
        exact (fw_X7_goes hk).trans ((k_frW hk rfl).trans (ih))
      · skip
        dsimp only
        exact (fw_X7_goes hk).trans ((k_frW hk rfl).trans (ih))
theorem fw_X7_ruL {bg : Int32} {cz : Int32} {nC : Nat} {nB : Nat} {mi : MemI} {kk : Ky} {qq : Nat} (hk : k_mw kk qq = false) : ∀ {j : Nat}, (f_X7_ruL mi bg cz nC nB j).2 kk qq = mi kk qq := by
  intro j
  induction j with
  | zero => rfl
  | succ j ih =>
    rw [f_X7_ruL_s]
    refine k_ite (P := fun (z : Int32 × MemI) => z.2 kk qq = mi kk qq) (fun hq0 => ?_) (fun hq0 => ?_)
    · skip
      dsimp only
      exact (fw_X7_goes hk).trans ((k_frW hk rfl).trans (ih))
    · skip
      dsimp only
      exact (fw_X7_goes hk).trans ((k_frW hk rfl).trans (ih))
theorem fw_X7_beL {nC : Nat} {nB : Nat} {mi : MemI} {kk : Ky} {qq : Nat} (hk : k_mw kk qq = false) : ∀ {j : Nat}, (f_X7_beL mi nC nB j).2.2 kk qq = mi kk qq := by
  intro j
  induction j with
  | zero => rfl
  | succ j ih =>
    rw [f_X7_beL_s]
    refine k_ite (P := fun (z : Nat × Int32 × MemI) => z.2.2 kk qq = mi kk qq) (fun hq0 => ?_) (fun hq0 => ?_)
    · skip
      refine k_ite (P := fun (z : Nat × Int32 × MemI) => z.2.2 kk qq = mi kk qq) (fun hq1 => ?_) (fun hq1 => ?_)
      · skip
        dsimp only
        exact ih
      · skip
        refine k_ite (P := fun (z : Nat × Int32 × MemI) => z.2.2 kk qq = mi kk qq) (fun hq2 => ?_) (fun hq2 => ?_)
        · skip
          dsimp only
          exact (k_frW hk rfl).trans ((fw_X7_goes hk).trans ((k_frW hk rfl).trans (ih)))
        · skip
          dsimp only
          exact (k_frW hk rfl).trans ((fw_X7_goes hk).trans ((k_frW hk rfl).trans (ih)))
    · skip
      refine k_ite (P := fun (z : Nat × Int32 × MemI) => z.2.2 kk qq = mi kk qq) (fun hq1 => ?_) (fun hq1 => ?_)
      · skip
        dsimp only
        exact ih
      · skip
        dsimp only
        exact (k_frW hk rfl).trans ((fw_X7_goes hk).trans ((k_frW hk rfl).trans (ih)))
theorem fw_X7_draw {mi : MemI} {n : Int32} {kk : Ky} {qq : Nat} (hk : k_mw kk qq = false) : (f_X7_draw mi n).2 kk qq = mi kk qq := by
  unfold f_X7_draw
  dsimp only
  exact (k_frW hk rfl).trans (rfl)
theorem fw_X7_wiC  {mi : MemI} {kk : Ky} {qq : Nat} (hk : k_mw kk qq = false) : ∀ {c2 : Nat}, (f_X7_wiC mi c2) kk qq = mi kk qq := by
  intro c2
  induction c2 with
  | zero => rfl
  | succ c2 ih =>
    rw [f_X7_wiC_s]
    refine k_ite (P := fun (z : MemI) => z kk qq = mi kk qq) (fun hq0 => ?_) (fun hq0 => ?_)
    · skip
      exact (k_frW hk rfl).trans ((fw_X7_draw hk).trans (ih))
    · skip
      exact (k_frW hk rfl).trans ((fw_X7_draw hk).trans (ih))
theorem fw_X7_wiL {nC : Nat} {nB : Nat} {mi : MemI} {kk : Ky} {qq : Nat} (hk : k_mw kk qq = false) : ∀ {j : Nat}, (f_X7_wiL mi nC nB j).2 kk qq = mi kk qq := by
  intro j
  induction j with
  | zero => rfl
  | succ j ih =>
    rw [f_X7_wiL_s]
    dsimp only
    exact (fw_X7_passes hk).trans ((fw_X7_wiC hk).trans (ih))
theorem fw_X7_fi  {mi : MemI} {kk : Ky} {qq : Nat} (hk : k_mw kk qq = false) : ∀ {j : Nat}, (f_X7_fi mi j) kk qq = mi kk qq := by
  intro j
  induction j with
  | zero => rfl
  | succ j ih =>
    rw [f_X7_fi_s]
    refine k_ite (P := fun (z : MemI) => z kk qq = mi kk qq) (fun hq0 => ?_) (fun hq0 => ?_)
    · skip
      exact (k_frW hk rfl).trans ((k_frW hk rfl).trans (ih))
    · skip
      exact ih
theorem fw_X7_files {mi : MemI} {nB : Nat} {kk : Ky} {qq : Nat} (hk : k_mw kk qq = false) : (f_X7_files mi nB) kk qq = mi kk qq := by
  unfold f_X7_files
  exact (fw_X7_fi hk).trans ((k_frW hk rfl).trans (rfl))
theorem kp_g1 {mi m : MemI} (hg : ∀ kk qq, k_gr 1 kk = false → m kk qq = mi kk qq) (hn : ∀ kk qq, k_nr kk qq = true → m kk qq = mi kk qq) : ∀ kk qq, k_kp kk qq = true → m kk qq = mi kk qq := by
  intro kk qq h
  by_cases q : k_gr 1 kk = false
  · exact hg kk qq q
  · refine hn kk qq ?_
    have q2 : k_gr 1 kk = true := by revert q; cases k_gr 1 kk <;> simp
    simp only [k_kp, q2] at h
    simpa [k_nr] using h
theorem kp_tr {mi m : MemI} (hg : ∀ kk qq, k_tr kk qq = false → m kk qq = mi kk qq) : ∀ kk qq, k_kp kk qq = true → m kk qq = mi kk qq := by
  intro kk qq h
  refine hg kk qq ?_
  simp only [k_kp, Bool.or_eq_true, Bool.and_eq_true] at h
  rcases h with h | h
  · have := h.1.1.1
    revert this; cases k_tr kk qq <;> simp
  · obtain ⟨h1, h2⟩ := h
    simp at h1 h2
    simp [k_tr]
    omega
theorem mw_sc {mj m : MemI} (h : ∀ kk qq, k_sc kk qq = false → m kk qq = mj kk qq) : ∀ kk qq, k_mw kk qq = false → m kk qq = mj kk qq := by
  intro kk qq hk
  refine h kk qq ?_
  simp only [k_mw, Bool.or_eq_false_iff] at hk
  exact hk.1.1
theorem kp_tr2 {a b c : MemI} (h1 : ∀ kk qq, k_kp kk qq = true → b kk qq = a kk qq) (h2 : ∀ kk qq, k_kp kk qq = true → c kk qq = b kk qq) : ∀ kk qq, k_kp kk qq = true → c kk qq = a kk qq := fun kk qq h => (h2 kk qq h).trans (h1 kk qq h)
/-- a look at the morning, on both sides -/
theorem R_look {nC nB : Nat} {mi mj : MemI} {ml mlj : MemL} (h : k_R nC nB mi ml mj mlj) : k_R nC nB (f_X2_goBy mi 0) ml (f_X7_goes mj nC nB) mlj :=
  R_ext h (kp_tr (fun kk qq hk => ft_X2_goBy hk)) (mw_sc (fun kk qq hk => fz_X7_goes hk)) (s6_of sM_goes)
theorem isC_iff {nC nB : Nat} {mi mj : MemI} (h : k_CR 0 nC nB mi mj) (x : Int32) : f_X7_isCitizen mj x = 0 ↔ ¬ vp_in x nC := by
  have h6 := h.1.1
  unfold f_X7_isCitizen
  rw [h.2.1.2.2.1]
  constructor
  · intro q w
    obtain ⟨j, hj, rfl⟩ := vp_in_of w (by omega)
    rw [if_neg (nI_pos (by omega)), if_neg (nI_ge hj (by omega))] at q
    exact absurd q (by decide)
  · intro q
    split
    · rfl
    · rename_i a
      split
      · rfl
      · rename_i b
        exact absurd (k_vin a b (nI_toInt (by omega))) q
theorem isB_iff {nC nB : Nat} {mi mj : MemI} (h : k_CR 0 nC nB mi mj) (x : Int32) : f_X7_isBeggar mj x = 0 ↔ ¬ vp_in x nB := by
  have h6 := h.1.2
  unfold f_X7_isBeggar
  rw [h.2.1.2.2.2]
  constructor
  · intro q w
    obtain ⟨j, hj, rfl⟩ := vp_in_of w (by omega)
    rw [if_neg (nI_pos (by omega)), if_neg (nI_ge hj (by omega))] at q
    exact absurd q (by decide)
  · intro q
    split
    · rfl
    · rename_i a
      split
      · rfl
      · rename_i b
        exact absurd (k_vin a b (nI_toInt (by omega))) q
theorem k_iO (v lo hi : Int32) : f_X6_isOutside v lo hi = 0 ↔ ¬ f_X7_isFrom v lo hi = 0 := by
  unfold f_X6_isOutside f_X7_isFrom
  by_cases a : v < lo
  · rw [if_pos a, if_pos a]; decide
  · rw [if_neg a, if_neg a]
    by_cases b : v ≤ hi
    · rw [if_pos b, if_neg (Int32.not_lt.mpr b)]; decide
    · rw [if_neg b, if_pos (Int32.not_le.mp b)]; decide
theorem k_iO2 (v : Int32) (hi : Int32) : f_X6_isOutside v 0 hi = 0 ↔ ¬ v < 0 ∧ v ≤ hi := by
  unfold f_X6_isOutside
  by_cases a : v < 0
  · rw [if_pos a]; simp [a]
  · rw [if_neg a]
    by_cases b : v ≤ hi
    · rw [if_pos b]; simp [a, b]
    · rw [if_neg b]; simp [b]

