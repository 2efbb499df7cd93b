/-! finer: what only a look at a morning writes; one city; the model's scratch -/
/-- what a look at a morning, a parting, a rest write of the class -/
def k_tr (k : Ky) (q : Nat) : Bool := (k.1 == 1 && decide (9 ≤ q)) || (k.1 == 0 && decide (7 ≤ q)) || (k.1 == 2 && decide (6 ≤ q))
theorem k_frT {mi : MemI} {K kk : Ky} {j qq : Nat} {v : Int32} (hk : k_tr kk qq = false) (hK : k_tr K j = true) : k_ui mi K j v kk qq = mi kk qq :=
  if_neg (fun e => by rw [e.1, e.2, hK] at hk; cases hk)
/-- the cells of one city -/
def k_gr (g : Nat) (k : Ky) : Bool := decide (k.1 ≤ 2) && k.2.1 == g
theorem k_frG {g : Nat} {mi : MemI} {K kk : Ky} {j qq : Nat} {v : Int32} (hk : k_gr g kk = false) (hK : k_gr g K = true) : k_ui mi K j v kk qq = mi kk qq :=
  k_uk (fun e => by rw [e, hK] at hk; cases hk)
/-- the model's scratch -/
def k_sc (k : Ky) (q : Nat) : Bool := (k.1 == 7 && ((decide (28 ≤ q) && decide (q ≤ 32)) || q == 42 || q == 43 || q == 48 || q == 49)) || (k.1 == 8 && (k.2.1 == 27 || k.2.1 == 33 || k.2.1 == 35 || (decide (36 ≤ k.2.1) && decide (k.2.1 ≤ 41)) || (decide (44 ≤ k.2.1) && decide (k.2.1 ≤ 47))))
theorem k_frZ {mi : MemI} {K kk : Ky} {j qq : Nat} {v : Int32} (hk : k_sc kk qq = false) (hK : k_sc K j = true) : k_ui mi K j v kk qq = mi kk qq :=
  if_neg (fun e => by rw [e.1, e.2, hK] at hk; cases hk)
theorem ft_X1_beginMorning {mi : MemI} {g : Nat} {i : Nat} {kk : Ky} {qq : Nat} (hk : k_tr kk qq = false) : (f_X1_beginMorning mi g i) kk qq = mi kk qq := by
  unfold f_X1_beginMorning
  exact (k_frT hk rfl).trans ((k_frT hk rfl).trans ((k_frT hk rfl).trans ((k_frT hk rfl).trans ((k_frT hk rfl).trans (rfl)))))
theorem ft_X1_keeps {mi : MemI} {g : Nat} {i : Nat} {n : Int32} {kk : Ky} {qq : Nat} (hk : k_tr kk qq = false) : (f_X1_keeps mi g i n).2 kk qq = mi kk qq := by
  unfold f_X1_keeps
  refine k_ite (P := fun (z : Int32 × MemI) => z.2 kk qq = mi kk qq) (fun hq0 => ?_) (fun hq0 => ?_)
  · skip
    refine k_ite (P := fun (z : Int32 × MemI) => z.2 kk qq = mi kk qq) (fun hq1 => ?_) (fun hq1 => ?_)
    · skip
      refine k_ite (P := fun (z : Int32 × MemI) => z.2 kk qq = mi kk qq) (fun hq2 => ?_) (fun hq2 => ?_)
      · skip
        dsimp only
        exact (k_frT hk rfl).trans ((k_frT hk rfl).trans (rfl))
      · skip
        exact rfl
    · skip
      dsimp only
      exact (k_frT hk rfl).trans (rfl)
  · skip
    refine k_ite (P := fun (z : Int32 × MemI) => z.2 kk qq = mi kk qq) (fun hq1 => ?_) (fun hq1 => ?_)
    · skip
      dsimp only
      exact (k_frT hk rfl).trans ((k_frT hk rfl).trans (rfl))
    · skip
      exact rfl
theorem ft_X1_receive {mi : MemI} {g : Nat} {i : Nat} {g2 : Nat} {i2 : Nat} {kk : Ky} {qq : Nat} (hk : k_tr kk qq = false) : (f_X1_receive mi g i g2 i2) kk qq = mi kk qq := by
  unfold f_X1_receive
  exact (k_frT hk rfl).trans ((ft_X1_keeps hk).trans ((k_frT hk rfl).trans ((k_frT hk rfl).trans ((k_frT hk rfl).trans (rfl)))))
theorem ft_X2_goBy2 {g : Nat} {mi : MemI} {kk : Ky} {qq : Nat} (hk : k_tr kk qq = false) : ∀ {j : Nat}, (f_X2_goBy2 mi g j) kk qq = mi kk qq := by
  intro j
  induction j with
  | zero => rfl
  | succ j ih =>
    rw [f_X2_goBy2_s]
    refine k_ite (P := fun (z : MemI) => z kk qq = mi kk qq) (fun hq0 => ?_) (fun hq0 => ?_)
    · skip
      exact (k_frT hk rfl).trans ((k_frT hk rfl).trans (ih))
    · skip
      refine k_ite (P := fun (z : MemI) => z kk qq = mi kk qq) (fun hq1 => ?_) (fun hq1 => ?_)
      · skip
        exact (ft_X1_receive hk).trans ((k_frT hk rfl).trans ((k_frT hk rfl).trans (ih)))
      · skip
        exact (k_frT hk rfl).trans ((k_frT hk rfl).trans (ih))
theorem ft_X2_goBy1 {g : Nat} {mi : MemI} {kk : Ky} {qq : Nat} (hk : k_tr kk qq = false) : ∀ {j : Nat}, (f_X2_goBy1 mi g j) kk qq = mi kk qq := by
  intro j
  induction j with
  | zero => rfl
  | succ j ih =>
    rw [f_X2_goBy1_s]
    exact (ft_X1_beginMorning hk).trans (ih)
theorem ft_X2_goBy {mi : MemI} {g : Nat} {kk : Ky} {qq : Nat} (hk : k_tr kk qq = false) : (f_X2_goBy mi g) kk qq = mi kk qq := by
  unfold f_X2_goBy
  exact (ft_X2_goBy2 hk).trans ((ft_X2_goBy1 hk).trans (rfl))
theorem ft_X2_hungryMorning {mi : MemI} {g : Nat} {kk : Ky} {qq : Nat} (hk : k_tr kk qq = false) : (f_X2_hungryMorning mi g).2 kk qq = mi kk qq := by
  unfold f_X2_hungryMorning
  dsimp only
  exact (ft_X2_goBy hk).trans (rfl)
theorem ft_X2_moveOne {mi : MemI} {g : Nat} {i2 : Nat} {kk : Ky} {qq : Nat} (hk : k_tr kk qq = false) : (f_X2_moveOne mi g i2).2 kk qq = mi kk qq := by
  unfold f_X2_moveOne
  refine k_ite (P := fun (z : Int32 × MemI) => z.2 kk qq = mi kk qq) (fun hq0 => ?_) (fun hq0 => ?_)
  · skip
    refine k_ite (P := fun (z : Int32 × MemI) => z.2 kk qq = mi kk qq) (fun hq1 => ?_) (fun hq1 => ?_)
    · skip
      exact rfl
    · skip
      dsimp only
      exact (k_frT hk rfl).trans ((k_frT hk rfl).trans ((k_frT hk rfl).trans (rfl)))
  · skip
    exact rfl
theorem ft_X2_mvA {g : Nat} {mi : MemI} {kk : Ky} {qq : Nat} (hk : k_tr kk qq = false) : ∀ {j : Nat}, (f_X2_mvA mi g j).2 kk qq = mi kk qq := by
  intro j
  induction j with
  | zero => rfl
  | succ j ih =>
    rw [f_X2_mvA_s]
    refine k_ite (P := fun (z : Int32 × MemI) => z.2 kk qq = mi kk qq) (fun hq0 => ?_) (fun hq0 => ?_)
    · skip
      dsimp only
      exact ih
    · skip
      refine k_ite (P := fun (z : Int32 × MemI) => z.2 kk qq = mi kk qq) (fun hq1 => ?_) (fun hq1 => ?_)
      · skip
        dsimp only
        exact (ft_X2_moveOne hk).trans (ih)
      · skip
        dsimp only
        exact (ft_X2_moveOne hk).trans (ih)
theorem ft_X2_moveAll {mi : MemI} {g : Nat} {kk : Ky} {qq : Nat} (hk : k_tr kk qq = false) : (f_X2_moveAll mi g).2 kk qq = mi kk qq := by
  unfold f_X2_moveAll
  dsimp only
  exact (ft_X2_mvA hk).trans (rfl)
theorem ft_X2_crR {g : Nat} {kk : Ky} {qq : Nat} (hk : k_tr kk qq = false) : ∀ {u : Nat} {j : Nat} {m0 : MemI}, (f_X2_crR g u j m0).2 kk qq = m0 kk qq := by
  intro u
  induction u with
  | zero =>
    intro j m0
    show (f_X2_crR g 0 j m0).2 kk qq = m0 kk qq
    unfold f_X2_crR
    exact rfl
  | succ u ih =>
    intro j m0
    rw [f_X2_crR_s]
    refine k_ite (P := fun (z : Int32 × MemI) => z.2 kk qq = m0 kk qq) (fun hq0 => ?_) (fun hq0 => ?_)
    · skip
      dsimp only
      exact (ft_X2_moveAll hk).trans (rfl)
    · skip
      exact ih.trans ((ft_X2_moveAll hk).trans (rfl))
theorem ft_X2_cr2 {g : Nat} {w : Nat} {mi : MemI} {kk : Ky} {qq : Nat} (hk : k_tr kk qq = false) : ∀ {j : Nat}, (f_X2_cr2 mi g w j) kk qq = mi kk qq := by
  intro j
  induction j with
  | zero => rfl
  | succ j ih =>
    rw [f_X2_cr2_s]
    refine k_ite (P := fun (z : MemI) => z kk qq = mi kk qq) (fun hq0 => ?_) (fun hq0 => ?_)
    · skip
      exact ih
    · skip
      exact (k_frT hk rfl).trans ((k_frT hk rfl).trans (ih))
theorem ft_X2_cr1 {g : Nat} {mi : MemI} {kk : Ky} {qq : Nat} (hk : k_tr kk qq = false) : ∀ {j : Nat}, (f_X2_cr1 mi g j) kk qq = mi kk qq := by
  intro j
  induction j with
  | zero => rfl
  | succ j ih =>
    rw [f_X2_cr1_s]
    exact (k_frT hk rfl).trans (ih)
theorem ft_X2_comeToRest {mi : MemI} {g : Nat} {kk : Ky} {qq : Nat} (hk : k_tr kk qq = false) : (f_X2_comeToRest mi g).2 kk qq = mi kk qq := by
  unfold f_X2_comeToRest
  refine k_ite (P := fun (z : Int32 × MemI) => z.2 kk qq = mi kk qq) (fun hq0 => ?_) (fun hq0 => ?_)
  · skip
    dsimp only
    exact (ft_X2_crR hk).trans ((ft_X2_cr2 hk).trans ((ft_X2_cr1 hk).trans (rfl)))
  · skip
    exact rfl
theorem ft_X2_np {g : Nat} {mi : MemI} {kk : Ky} {qq : Nat} (hk : k_tr kk qq = false) : ∀ {j : Nat}, (f_X2_np mi g j) kk qq = mi kk qq := by
  intro j
  induction j with
  | zero => rfl
  | succ j ih =>
    rw [f_X2_np_s]
    exact (k_frT hk rfl).trans (ih)
theorem ft_X2_notePart {mi : MemI} {g : Nat} {gr : Int32} {kk : Ky} {qq : Nat} (hk : k_tr kk qq = false) : (f_X2_notePart mi g gr) kk qq = mi kk qq := by
  unfold f_X2_notePart
  exact (ft_X2_np hk).trans ((k_frT hk rfl).trans (rfl))
theorem ft_X2_te {Rn : MemI → Int32 → MemI} {g : Nat} {j : Nat} {gr : Int32} {kk : Ky} {qq : Nat} (hR : ∀ m r, Rn m r kk qq = m kk qq) (hk : k_tr kk qq = false) : ∀ {u : Nat} {i : Nat} {m0 : MemI}, (f_X2_te Rn g j gr u i m0) kk qq = m0 kk qq := by
  intro u
  induction u with
  | zero =>
    intro i m0
    show (f_X2_te Rn g j gr 0 i m0) kk qq = m0 kk qq
    unfold f_X2_te
    exact rfl
  | succ u ih =>
    intro i m0
    rw [f_X2_te_s]
    refine k_ite (P := fun (z : MemI) => z kk qq = m0 kk qq) (fun hq0 => ?_) (fun hq0 => ?_)
    · skip
      exact ih.trans (rfl)
    · skip
      refine k_ite (P := fun (z : MemI) => z kk qq = m0 kk qq) (fun hq1 => ?_) (fun hq1 => ?_)
      · skip
        exact ih.trans (rfl)
      · skip
        refine k_ite (P := fun (z : MemI) => z kk qq = m0 kk qq) (fun hq2 => ?_) (fun hq2 => ?_)
        · skip
          refine k_ite (P := fun (z : MemI) => z kk qq = m0 kk qq) (fun hq3 => ?_) (fun hq3 => ?_)
          · skip
            exact ih.trans ((k_frT hk rfl).trans ((hR _ _).trans ((k_frT hk rfl).trans ((k_frT hk rfl).trans (rfl)))))
          · skip
            exact (k_frT hk rfl).trans ((hR _ _).trans ((k_frT hk rfl).trans ((k_frT hk rfl).trans (rfl))))
        · skip
          exact ih.trans (rfl)
theorem ft_X2_pf {g : Nat} {kk : Ky} {qq : Nat} (hk : k_tr kk qq = false) : ∀ {n j : Nat} {m0 : MemI} {gr : Int32}, f_X2_pf g n j m0 gr kk qq = m0 kk qq := by
  intro n
  induction n with
  | zero => intro j m0 gr; exact ft_X2_notePart hk
  | succ n ih =>
    intro j m0 gr
    rw [f_X2_pf_s]
    refine k_ite (P := fun (z : MemI) => z kk qq = m0 kk qq) (fun _ => ih) (fun _ => ?_)
    exact ft_X2_te (fun _ _ => ih) hk
theorem ft_X2_paL {g : Nat} {mi : MemI} {kk : Ky} {qq : Nat} (hk : k_tr kk qq = false) : ∀ {j : Nat}, (f_X2_paL mi g j) kk qq = mi kk qq := by
  intro j
  induction j with
  | zero => rfl
  | succ j ih =>
    rw [f_X2_paL_s]
    exact (k_frT hk rfl).trans (ih)
theorem ft_X2_partAll {mi : MemI} {g : Nat} {kk : Ky} {qq : Nat} (hk : k_tr kk qq = false) : (f_X2_partAll mi g).2 kk qq = mi kk qq := by
  unfold f_X2_partAll
  refine k_ite (P := fun (z : Int32 × MemI) => z.2 kk qq = mi kk qq) (fun hq0 => ?_) (fun hq0 => ?_)
  · skip
    refine k_ite (P := fun (z : Int32 × MemI) => z.2 kk qq = mi kk qq) (fun hq1 => ?_) (fun hq1 => ?_)
    · skip
      dsimp only
      exact (ft_X2_pf hk).trans ((k_frT hk rfl).trans ((k_frT hk rfl).trans ((ft_X2_paL hk).trans (rfl))))
    · skip
      dsimp only
      exact (ft_X2_pf hk).trans ((k_frT hk rfl).trans ((k_frT hk rfl).trans ((ft_X2_paL hk).trans (rfl))))
  · skip
    refine k_ite (P := fun (z : Int32 × MemI) => z.2 kk qq = mi kk qq) (fun hq1 => ?_) (fun hq1 => ?_)
    · skip
      dsimp only
      exact (ft_X2_pf hk).trans ((k_frT hk rfl).trans ((k_frT hk rfl).trans ((ft_X2_paL hk).trans (rfl))))
    · skip
      dsimp only
      exact (ft_X2_pf hk).trans ((k_frT hk rfl).trans ((k_frT hk rfl).trans ((ft_X2_paL hk).trans (rfl))))
theorem fg_X1_becomes {mi : MemI} {g : Nat} {i : Nat} {w : Int32} {v : Int32} {kk : Ky} {qq : Nat} (hk : k_gr g kk = false) : (f_X1_becomes mi g i w v).2 kk qq = mi kk qq := by
  unfold f_X1_becomes
  refine k_ite (P := fun (z : Int32 × MemI) => z.2 kk qq = mi kk qq) (fun hq0 => ?_) (fun hq0 => ?_)
  · skip
    refine k_ite (P := fun (z : Int32 × MemI) => z.2 kk qq = mi kk qq) (fun hq1 => ?_) (fun hq1 => ?_)
    · skip
      refine k_ite (P := fun (z : Int32 × MemI) => z.2 kk qq = mi kk qq) (fun hq2 => ?_) (fun hq2 => ?_)
      · skip
        dsimp only
        exact (k_frG hk (by simp [k_gr])).trans (rfl)
      · skip
        dsimp only
        exact (k_frG hk (by simp [k_gr])).trans (rfl)
    · skip
      refine k_ite (P := fun (z : Int32 × MemI) => z.2 kk qq = mi kk qq) (fun hq2 => ?_) (fun hq2 => ?_)
      · skip
        dsimp only
        exact (k_frG hk (by simp [k_gr])).trans (rfl)
      · skip
        dsimp only
        exact (k_frG hk (by simp [k_gr])).trans (rfl)
  · skip
    refine k_ite (P := fun (z : Int32 × MemI) => z.2 kk qq = mi kk qq) (fun hq1 => ?_) (fun hq1 => ?_)
    · skip
      dsimp only
      exact (k_frG hk (by simp [k_gr])).trans (rfl)
    · skip
      refine k_ite (P := fun (z : Int32 × MemI) => z.2 kk qq = mi kk qq) (fun hq2 => ?_) (fun hq2 => ?_)
      · skip
        dsimp only
        exact (k_frG hk (by simp [k_gr])).trans (rfl)
      · skip
        dsimp only
        exact (k_frG hk (by simp [k_gr])).trans (rfl)
theorem fg_X1_beginMorning {mi : MemI} {g : Nat} {i : Nat} {kk : Ky} {qq : Nat} (hk : k_gr g kk = false) : (f_X1_beginMorning mi g i) kk qq = mi kk qq := by
  unfold f_X1_beginMorning
  exact (k_frG hk (by simp [k_gr])).trans ((k_frG hk (by simp [k_gr])).trans ((k_frG hk (by simp [k_gr])).trans ((k_frG hk (by simp [k_gr])).trans ((k_frG hk (by simp [k_gr])).trans (rfl)))))
theorem fg_X1_keeps {mi : MemI} {g : Nat} {i : Nat} {n : Int32} {kk : Ky} {qq : Nat} (hk : k_gr g kk = false) : (f_X1_keeps mi g i n).2 kk qq = mi kk qq := by
  unfold f_X1_keeps
  refine k_ite (P := fun (z : Int32 × MemI) => z.2 kk qq = mi kk qq) (fun hq0 => ?_) (fun hq0 => ?_)
  · skip
    refine k_ite (P := fun (z : Int32 × MemI) => z.2 kk qq = mi kk qq) (fun hq1 => ?_) (fun hq1 => ?_)
    · skip
      refine k_ite (P := fun (z : Int32 × MemI) => z.2 kk qq = mi kk qq) (fun hq2 => ?_) (fun hq2 => ?_)
      · skip
        dsimp only
        exact (k_frG hk (by simp [k_gr])).trans ((k_frG hk (by simp [k_gr])).trans (rfl))
      · skip
        exact rfl
    · skip
      dsimp only
      exact (k_frG hk (by simp [k_gr])).trans (rfl)
  · skip
    refine k_ite (P := fun (z : Int32 × MemI) => z.2 kk qq = mi kk qq) (fun hq1 => ?_) (fun hq1 => ?_)
    · skip
      dsimp only
      exact (k_frG hk (by simp [k_gr])).trans ((k_frG hk (by simp [k_gr])).trans (rfl))
    · skip
      exact rfl
theorem fg_X1_endMorning {mi : MemI} {g : Nat} {i : Nat} {kk : Ky} {qq : Nat} (hk : k_gr g kk = false) : (f_X1_endMorning mi g i) kk qq = mi kk qq := by
  unfold f_X1_endMorning
  refine k_ite (P := fun (z : MemI) => z kk qq = mi kk qq) (fun hq0 => ?_) (fun hq0 => ?_)
  · skip
    exact rfl
  · skip
    refine k_ite (P := fun (z : MemI) => z kk qq = mi kk qq) (fun hq1 => ?_) (fun hq1 => ?_)
    · skip
      exact (k_frG hk (by simp [k_gr])).trans ((k_frG hk (by simp [k_gr])).trans (rfl))
    · skip
      exact (k_frG hk (by simp [k_gr])).trans ((k_frG hk (by simp [k_gr])).trans (rfl))
theorem fg_X1_arrive {mi : MemI} {g : Nat} {i : Nat} {k : Int32} {a : Int32} {ms : Int32} {h : Int32} {kk : Ky} {qq : Nat} (hk : k_gr g kk = false) : (f_X1_arrive mi g i k a ms h) kk qq = mi kk qq := by
  unfold f_X1_arrive
  exact (k_frG hk (by simp [k_gr])).trans ((k_frG hk (by simp [k_gr])).trans ((k_frG hk (by simp [k_gr])).trans ((k_frG hk (by simp [k_gr])).trans ((k_frG hk (by simp [k_gr])).trans ((k_frG hk (by simp [k_gr])).trans ((k_frG hk (by simp [k_gr])).trans ((k_frG hk (by simp [k_gr])).trans (rfl))))))))
theorem fg_X1_become {mi : MemI} {g : Nat} {i : Nat} {g2 : Nat} {i2 : Nat} {kk : Ky} {qq : Nat} (hk : k_gr g kk = false) : (f_X1_become mi g i g2 i2) kk qq = mi kk qq := by
  unfold f_X1_become
  exact (k_frG hk (by simp [k_gr])).trans ((k_frG hk (by simp [k_gr])).trans ((k_frG hk (by simp [k_gr])).trans ((k_frG hk (by simp [k_gr])).trans ((k_frG hk (by simp [k_gr])).trans ((k_frG hk (by simp [k_gr])).trans ((k_frG hk (by simp [k_gr])).trans ((k_frG hk (by simp [k_gr])).trans (rfl))))))))
theorem fg_X0_arrive {mi : MemI} {g : Nat} {i : Nat} {n : Int32} {r : Int32} {kk : Ky} {qq : Nat} (hk : k_gr g kk = false) : (f_X0_arrive mi g i n r) kk qq = mi kk qq := by
  unfold f_X0_arrive
  exact (k_frG hk (by simp [k_gr])).trans ((k_frG hk (by simp [k_gr])).trans ((k_frG hk (by simp [k_gr])).trans ((k_frG hk (by simp [k_gr])).trans ((k_frG hk (by simp [k_gr])).trans ((k_frG hk (by simp [k_gr])).trans (rfl))))))
theorem fg_X0_endMorning {mi : MemI} {g : Nat} {i : Nat} {kk : Ky} {qq : Nat} (hk : k_gr g kk = false) : (f_X0_endMorning mi g i) kk qq = mi kk qq := by
  unfold f_X0_endMorning
  refine k_ite (P := fun (z : MemI) => z kk qq = mi kk qq) (fun hq0 => ?_) (fun hq0 => ?_)
  · skip
    exact rfl
  · skip
    refine k_ite (P := fun (z : MemI) => z kk qq = mi kk qq) (fun hq1 => ?_) (fun hq1 => ?_)
    · skip
      refine k_ite (P := fun (z : MemI) => z kk qq = mi kk qq) (fun hq2 => ?_) (fun hq2 => ?_)
      · skip
        exact (k_frG hk (by simp [k_gr])).trans (rfl)
      · skip
        exact (k_frG hk (by simp [k_gr])).trans (rfl)
    · skip
      refine k_ite (P := fun (z : MemI) => z kk qq = mi kk qq) (fun hq2 => ?_) (fun hq2 => ?_)
      · skip
        exact (k_frG hk (by simp [k_gr])).trans ((k_frG hk (by simp [k_gr])).trans (rfl))
      · skip
        exact (k_frG hk (by simp [k_gr])).trans ((k_frG hk (by simp [k_gr])).trans (rfl))
theorem fg_X0_become {mi : MemI} {g : Nat} {i : Nat} {g2 : Nat} {i2 : Nat} {kk : Ky} {qq : Nat} (hk : k_gr g kk = false) : (f_X0_become mi g i g2 i2) kk qq = mi kk qq := by
  unfold f_X0_become
  exact (k_frG hk (by simp [k_gr])).trans ((k_frG hk (by simp [k_gr])).trans ((k_frG hk (by simp [k_gr])).trans ((k_frG hk (by simp [k_gr])).trans ((k_frG hk (by simp [k_gr])).trans ((k_frG hk (by simp [k_gr])).trans (rfl))))))
theorem fg_X2_addCitizen {mi : MemI} {g : Nat} {k : Int32} {a : Int32} {ms : Int32} {h : Int32} {kk : Ky} {qq : Nat} (hk : k_gr g kk = false) : (f_X2_addCitizen mi g k a ms h).2 kk qq = mi kk qq := by
  unfold f_X2_addCitizen
  refine k_ite (P := fun (z : Int32 × MemI) => z.2 kk qq = mi kk qq) (fun hq0 => ?_) (fun hq0 => ?_)
  · skip
    exact rfl
  · skip
    refine k_ite (P := fun (z : Int32 × MemI) => z.2 kk qq = mi kk qq) (fun hq1 => ?_) (fun hq1 => ?_)
    · skip
      dsimp only
      exact (k_frG hk (by simp [k_gr])).trans ((fg_X1_arrive hk).trans (rfl))
    · skip
      exact rfl
theorem fg_X2_addBeggar {mi : MemI} {g : Nat} {n : Int32} {r : Int32} {kk : Ky} {qq : Nat} (hk : k_gr g kk = false) : (f_X2_addBeggar mi g n r).2 kk qq = mi kk qq := by
  unfold f_X2_addBeggar
  refine k_ite (P := fun (z : Int32 × MemI) => z.2 kk qq = mi kk qq) (fun hq0 => ?_) (fun hq0 => ?_)
  · skip
    exact rfl
  · skip
    refine k_ite (P := fun (z : Int32 × MemI) => z.2 kk qq = mi kk qq) (fun hq1 => ?_) (fun hq1 => ?_)
    · skip
      dsimp only
      exact (k_frG hk (by simp [k_gr])).trans ((fg_X0_arrive hk).trans (rfl))
    · skip
      exact rfl
theorem fg_X1_receive {mi : MemI} {g : Nat} {i : Nat} {g2 : Nat} {i2 : Nat} {kk : Ky} {qq : Nat} (hk2 : k_gr g2 kk = false) (hk : k_gr g kk = false) : (f_X1_receive mi g i g2 i2) kk qq = mi kk qq := by
  unfold f_X1_receive
  exact (k_frG hk2 (by simp [k_gr])).trans ((fg_X1_keeps hk).trans ((k_frG hk (by simp [k_gr])).trans ((k_frG hk (by simp [k_gr])).trans ((k_frG hk2 (by simp [k_gr])).trans (rfl)))))
theorem fg_X2_goBy2 {g : Nat} {mi : MemI} {kk : Ky} {qq : Nat} (hk : k_gr g kk = false) : ∀ {j : Nat}, (f_X2_goBy2 mi g j) kk qq = mi kk qq := by
  intro j
  induction j with
  | zero => rfl
  | succ j ih =>
    rw [f_X2_goBy2_s]
    refine k_ite (P := fun (z : MemI) => z kk qq = mi kk qq) (fun hq0 => ?_) (fun hq0 => ?_)
    · skip
      exact (k_frG hk (by simp [k_gr])).trans ((k_frG hk (by simp [k_gr])).trans (ih))
    · skip
      refine k_ite (P := fun (z : MemI) => z kk qq = mi kk qq) (fun hq1 => ?_) (fun hq1 => ?_)
      · skip
        exact (fg_X1_receive hk hk).trans ((k_frG hk (by simp [k_gr])).trans ((k_frG hk (by simp [k_gr])).trans (ih)))
      · skip
        exact (k_frG hk (by simp [k_gr])).trans ((k_frG hk (by simp [k_gr])).trans (ih))
theorem fg_X2_goBy1 {g : Nat} {mi : MemI} {kk : Ky} {qq : Nat} (hk : k_gr g kk = false) : ∀ {j : Nat}, (f_X2_goBy1 mi g j) kk qq = mi kk qq := by
  intro j
  induction j with
  | zero => rfl
  | succ j ih =>
    rw [f_X2_goBy1_s]
    exact (fg_X1_beginMorning hk).trans (ih)
theorem fg_X2_goBy {mi : MemI} {g : Nat} {kk : Ky} {qq : Nat} (hk : k_gr g kk = false) : (f_X2_goBy mi g) kk qq = mi kk qq := by
  unfold f_X2_goBy
  exact (fg_X2_goBy2 hk).trans ((fg_X2_goBy1 hk).trans (rfl))
theorem fg_X2_pass2 {g : Nat} {mi : MemI} {kk : Ky} {qq : Nat} (hk : k_gr g kk = false) : ∀ {j : Nat}, (f_X2_pass2 mi g j) kk qq = mi kk qq := by
  intro j
  induction j with
  | zero => rfl
  | succ j ih =>
    rw [f_X2_pass2_s]
    exact (fg_X0_endMorning hk).trans (ih)
theorem fg_X2_pass1 {g : Nat} {mi : MemI} {kk : Ky} {qq : Nat} (hk : k_gr g kk = false) : ∀ {j : Nat}, (f_X2_pass1 mi g j) kk qq = mi kk qq := by
  intro j
  induction j with
  | zero => rfl
  | succ j ih =>
    rw [f_X2_pass1_s]
    exact (fg_X1_endMorning hk).trans (ih)
theorem fg_X2_passMorning {mi : MemI} {g : Nat} {kk : Ky} {qq : Nat} (hk : k_gr g kk = false) : (f_X2_passMorning mi g).2 kk qq = mi kk qq := by
  unfold f_X2_passMorning
  dsimp only
  exact (k_frG hk (by simp [k_gr])).trans ((fg_X2_pass2 hk).trans ((fg_X2_pass1 hk).trans ((fg_X2_goBy hk).trans (rfl))))
theorem fg_X2_hungryMorning {mi : MemI} {g : Nat} {kk : Ky} {qq : Nat} (hk : k_gr g kk = false) : (f_X2_hungryMorning mi g).2 kk qq = mi kk qq := by
  unfold f_X2_hungryMorning
  dsimp only
  exact (fg_X2_goBy hk).trans (rfl)
theorem fg_X2_passN {g : Nat} {mi : MemI} {kk : Ky} {qq : Nat} (hk : k_gr g kk = false) : ∀ {j : Nat}, (f_X2_passN mi g j).2 kk qq = mi kk qq := by
  intro j
  induction j with
  | zero => rfl
  | succ j ih =>
    rw [f_X2_passN_s]
    dsimp only
    exact (fg_X2_passMorning hk).trans (ih)
theorem fg_X2_passMornings {mi : MemI} {g : Nat} {N : Nat} {kk : Ky} {qq : Nat} (hk : k_gr g kk = false) : (f_X2_passMornings mi g N).2 kk qq = mi kk qq := by
  unfold f_X2_passMornings
  dsimp only
  exact (fg_X2_passN hk).trans (rfl)
theorem fg_X2_draw {mi : MemI} {g : Nat} {n : Int32} {kk : Ky} {qq : Nat} (hk : k_gr g kk = false) : (f_X2_draw mi g n).2 kk qq = mi kk qq := by
  unfold f_X2_draw
  refine k_ite (P := fun (z : Int32 × MemI) => z.2 kk qq = mi kk qq) (fun hq0 => ?_) (fun hq0 => ?_)
  · skip
    dsimp only
    exact (k_frG hk (by simp [k_gr])).trans (rfl)
  · skip
    dsimp only
    exact (k_frG hk (by simp [k_gr])).trans (rfl)
theorem fg_X2_drawH {g : Nat} {mi : MemI} {kk : Ky} {qq : Nat} (hk : k_gr g kk = false) : ∀ {j : Nat}, (f_X2_drawH mi g j) kk qq = mi kk qq := by
  intro j
  induction j with
  | zero => rfl
  | succ j ih =>
    rw [f_X2_drawH_s]
    refine k_ite (P := fun (z : MemI) => z kk qq = mi kk qq) (fun hq0 => ?_) (fun hq0 => ?_)
    · skip
      exact ih
    · skip
      refine k_ite (P := fun (z : MemI) => z kk qq = mi kk qq) (fun hq1 => ?_) (fun hq1 => ?_)
      · skip
        exact (k_frG hk (by simp [k_gr])).trans ((fg_X2_draw hk).trans (ih))
      · skip
        exact (k_frG hk (by simp [k_gr])).trans ((fg_X2_draw hk).trans (ih))
theorem fg_X2_drawWhoHides {mi : MemI} {g : Nat} {kk : Ky} {qq : Nat} (hk : k_gr g kk = false) : (f_X2_drawWhoHides mi g) kk qq = mi kk qq := by
  unfold f_X2_drawWhoHides
  exact (fg_X2_drawH hk).trans (rfl)
theorem fg_X2_isPickedWithHeart {mi : MemI} {g : Nat} {cz : Int32} {h : Int32} {kk : Ky} {qq : Nat} (hk : k_gr g kk = false) : (f_X2_isPickedWithHeart mi g cz h).2 kk qq = mi kk qq := by
  unfold f_X2_isPickedWithHeart
  refine k_ite (P := fun (z : Int32 × MemI) => z.2 kk qq = mi kk qq) (fun hq0 => ?_) (fun hq0 => ?_)
  · skip
    refine k_ite (P := fun (z : Int32 × MemI) => z.2 kk qq = mi kk qq) (fun hq1 => ?_) (fun hq1 => ?_)
    · skip
      dsimp only
      exact (fg_X2_goBy hk).trans ((k_frG hk (by simp [k_gr])).trans (rfl))
    · skip
      dsimp only
      exact (fg_X2_goBy hk).trans ((k_frG hk (by simp [k_gr])).trans (rfl))
  · skip
    exact rfl
theorem fg_X2_pickByRule {mi : MemI} {g : Nat} {bg : Int32} {r : Int32} {kk : Ky} {qq : Nat} (hk : k_gr g kk = false) : (f_X2_pickByRule mi g bg r).2 kk qq = mi kk qq := by
  unfold f_X2_pickByRule
  refine k_ite (P := fun (z : Int32 × MemI) => z.2 kk qq = mi kk qq) (fun hq0 => ?_) (fun hq0 => ?_)
  · skip
    dsimp only
    exact (fg_X2_goBy hk).trans ((k_frG hk (by simp [k_gr])).trans (rfl))
  · skip
    exact rfl
theorem fg_X2_fhR {g : Nat} {kk : Ky} {qq : Nat} (hk : k_gr g kk = false) : ∀ {n : Nat} {j : Nat} {m0 : MemI}, (f_X2_fhR g n j m0).2 kk qq = m0 kk qq := by
  intro n
  induction n with
  | zero =>
    intro j m0
    show (f_X2_fhR g 0 j m0).2 kk qq = m0 kk qq
    unfold f_X2_fhR
    exact rfl
  | succ n ih =>
    intro j m0
    rw [f_X2_fhR_s]
    refine k_ite (P := fun (z : Int32 × MemI) => z.2 kk qq = m0 kk qq) (fun hq0 => ?_) (fun hq0 => ?_)
    · skip
      exact ih.trans ((fg_X2_passMorning hk).trans (rfl))
    · skip
      dsimp only
      exact (fg_X2_passMorning hk).trans (rfl)
theorem fg_X2_firstHungryMorning {mi : MemI} {g : Nat} {N : Nat} {kk : Ky} {qq : Nat} (hk : k_gr g kk = false) : (f_X2_firstHungryMorning mi g N).2 kk qq = mi kk qq := by
  unfold f_X2_firstHungryMorning
  exact (fg_X2_fhR hk).trans (rfl)
theorem fg_X2_moveOne {mi : MemI} {g : Nat} {i2 : Nat} {kk : Ky} {qq : Nat} (hk : k_gr g kk = false) : (f_X2_moveOne mi g i2).2 kk qq = mi kk qq := by
  unfold f_X2_moveOne
  refine k_ite (P := fun (z : Int32 × MemI) => z.2 kk qq = mi kk qq) (fun hq0 => ?_) (fun hq0 => ?_)
  · skip
    refine k_ite (P := fun (z : Int32 × MemI) => z.2 kk qq = mi kk qq) (fun hq1 => ?_) (fun hq1 => ?_)
    · skip
      exact rfl
    · skip
      dsimp only
      exact (k_frG hk (by simp [k_gr])).trans ((k_frG hk (by simp [k_gr])).trans ((k_frG hk (by simp [k_gr])).trans (rfl)))
  · skip
    exact rfl
theorem fg_X2_mvA {g : Nat} {mi : MemI} {kk : Ky} {qq : Nat} (hk : k_gr g kk = false) : ∀ {j : Nat}, (f_X2_mvA mi g j).2 kk qq = mi kk qq := by
  intro j
  induction j with
  | zero => rfl
  | succ j ih =>
    rw [f_X2_mvA_s]
    refine k_ite (P := fun (z : Int32 × MemI) => z.2 kk qq = mi kk qq) (fun hq0 => ?_) (fun hq0 => ?_)
    · skip
      dsimp only
      exact ih
    · skip
      refine k_ite (P := fun (z : Int32 × MemI) => z.2 kk qq = mi kk qq) (fun hq1 => ?_) (fun hq1 => ?_)
      · skip
        dsimp only
        exact (fg_X2_moveOne hk).trans (ih)
      · skip
        dsimp only
        exact (fg_X2_moveOne hk).trans (ih)
theorem fg_X2_moveAll {mi : MemI} {g : Nat} {kk : Ky} {qq : Nat} (hk : k_gr g kk = false) : (f_X2_moveAll mi g).2 kk qq = mi kk qq := by
  unfold f_X2_moveAll
  dsimp only
  exact (fg_X2_mvA hk).trans (rfl)
theorem fg_X2_crR {g : Nat} {kk : Ky} {qq : Nat} (hk : k_gr g kk = false) : ∀ {u : Nat} {j : Nat} {m0 : MemI}, (f_X2_crR g u j m0).2 kk qq = m0 kk qq := by
  intro u
  induction u with
  | zero =>
    intro j m0
    show (f_X2_crR g 0 j m0).2 kk qq = m0 kk qq
    unfold f_X2_crR
    exact rfl
  | succ u ih =>
    intro j m0
    rw [f_X2_crR_s]
    refine k_ite (P := fun (z : Int32 × MemI) => z.2 kk qq = m0 kk qq) (fun hq0 => ?_) (fun hq0 => ?_)
    · skip
      dsimp only
      exact (fg_X2_moveAll hk).trans (rfl)
    · skip
      exact ih.trans ((fg_X2_moveAll hk).trans (rfl))
theorem fg_X2_cr2 {g : Nat} {w : Nat} {mi : MemI} {kk : Ky} {qq : Nat} (hk : k_gr g kk = false) : ∀ {j : Nat}, (f_X2_cr2 mi g w j) kk qq = mi kk qq := by
  intro j
  induction j with
  | zero => rfl
  | succ j ih =>
    rw [f_X2_cr2_s]
    refine k_ite (P := fun (z : MemI) => z kk qq = mi kk qq) (fun hq0 => ?_) (fun hq0 => ?_)
    · skip
      exact ih
    · skip
      exact (k_frG hk (by simp [k_gr])).trans ((k_frG hk (by simp [k_gr])).trans (ih))
theorem fg_X2_cr1 {g : Nat} {mi : MemI} {kk : Ky} {qq : Nat} (hk : k_gr g kk = false) : ∀ {j : Nat}, (f_X2_cr1 mi g j) kk qq = mi kk qq := by
  intro j
  induction j with
  | zero => rfl
  | succ j ih =>
    rw [f_X2_cr1_s]
    exact (k_frG hk (by simp [k_gr])).trans (ih)
theorem fg_X2_comeToRest {mi : MemI} {g : Nat} {kk : Ky} {qq : Nat} (hk : k_gr g kk = false) : (f_X2_comeToRest mi g).2 kk qq = mi kk qq := by
  unfold f_X2_comeToRest
  refine k_ite (P := fun (z : Int32 × MemI) => z.2 kk qq = mi kk qq) (fun hq0 => ?_) (fun hq0 => ?_)
  · skip
    dsimp only
    exact (fg_X2_crR hk).trans ((fg_X2_cr2 hk).trans ((fg_X2_cr1 hk).trans (rfl)))
  · skip
    exact rfl
theorem fg_X2_np {g : Nat} {mi : MemI} {kk : Ky} {qq : Nat} (hk : k_gr g kk = false) : ∀ {j : Nat}, (f_X2_np mi g j) kk qq = mi kk qq := by
  intro j
  induction j with
  | zero => rfl
  | succ j ih =>
    rw [f_X2_np_s]
    exact (k_frG hk (by simp [k_gr])).trans (ih)
theorem fg_X2_notePart {mi : MemI} {g : Nat} {gr : Int32} {kk : Ky} {qq : Nat} (hk : k_gr g kk = false) : (f_X2_notePart mi g gr) kk qq = mi kk qq := by
  unfold f_X2_notePart
  exact (fg_X2_np hk).trans ((k_frG hk (by simp [k_gr])).trans (rfl))
theorem fg_X2_te {Rn : MemI → Int32 → MemI} {g : Nat} {j : Nat} {gr : Int32} {kk : Ky} {qq : Nat} (hR : ∀ m r, Rn m r kk qq = m kk qq) (hk : k_gr g kk = false) : ∀ {u : Nat} {i : Nat} {m0 : MemI}, (f_X2_te Rn g j gr u i m0) kk qq = m0 kk qq := by
  intro u
  induction u with
  | zero =>
    intro i m0
    show (f_X2_te Rn g j gr 0 i m0) kk qq = m0 kk qq
    unfold f_X2_te
    exact rfl
  | succ u ih =>
    intro i m0
    rw [f_X2_te_s]
    refine k_ite (P := fun (z : MemI) => z kk qq = m0 kk qq) (fun hq0 => ?_) (fun hq0 => ?_)
    · skip
      exact ih.trans (rfl)
    · skip
      refine k_ite (P := fun (z : MemI) => z kk qq = m0 kk qq) (fun hq1 => ?_) (fun hq1 => ?_)
      · skip
        exact ih.trans (rfl)
      · skip
        refine k_ite (P := fun (z : MemI) => z kk qq = m0 kk qq) (fun hq2 => ?_) (fun hq2 => ?_)
        · skip
          refine k_ite (P := fun (z : MemI) => z kk qq = m0 kk qq) (fun hq3 => ?_) (fun hq3 => ?_)
          · skip
            exact ih.trans ((k_frG hk (by simp [k_gr])).trans ((hR _ _).trans ((k_frG hk (by simp [k_gr])).trans ((k_frG hk (by simp [k_gr])).trans (rfl)))))
          · skip
            exact (k_frG hk (by simp [k_gr])).trans ((hR _ _).trans ((k_frG hk (by simp [k_gr])).trans ((k_frG hk (by simp [k_gr])).trans (rfl))))
        · skip
          exact ih.trans (rfl)
theorem fg_X2_pf {g : Nat} {kk : Ky} {qq : Nat} (hk : k_gr g kk = false) : ∀ {n j : Nat} {m0 : MemI} {gr : Int32}, f_X2_pf g n j m0 gr kk qq = m0 kk qq := by
  intro n
  induction n with
  | zero => intro j m0 gr; exact fg_X2_notePart hk
  | succ n ih =>
    intro j m0 gr
    rw [f_X2_pf_s]
    refine k_ite (P := fun (z : MemI) => z kk qq = m0 kk qq) (fun _ => ih) (fun _ => ?_)
    exact fg_X2_te (fun _ _ => ih) hk
theorem fg_X2_paL {g : Nat} {mi : MemI} {kk : Ky} {qq : Nat} (hk : k_gr g kk = false) : ∀ {j : Nat}, (f_X2_paL mi g j) kk qq = mi kk qq := by
  intro j
  induction j with
  | zero => rfl
  | succ j ih =>
    rw [f_X2_paL_s]
    exact (k_frG hk (by simp [k_gr])).trans (ih)
theorem fg_X2_partAll {mi : MemI} {g : Nat} {kk : Ky} {qq : Nat} (hk : k_gr g kk = false) : (f_X2_partAll mi g).2 kk qq = mi kk qq := by
  unfold f_X2_partAll
  refine k_ite (P := fun (z : Int32 × MemI) => z.2 kk qq = mi kk qq) (fun hq0 => ?_) (fun hq0 => ?_)
  · skip
    refine k_ite (P := fun (z : Int32 × MemI) => z.2 kk qq = mi kk qq) (fun hq1 => ?_) (fun hq1 => ?_)
    · skip
      dsimp only
      exact (fg_X2_pf hk).trans ((k_frG hk (by simp [k_gr])).trans ((k_frG hk (by simp [k_gr])).trans ((fg_X2_paL hk).trans (rfl))))
    · skip
      dsimp only
      exact (fg_X2_pf hk).trans ((k_frG hk (by simp [k_gr])).trans ((k_frG hk (by simp [k_gr])).trans ((fg_X2_paL hk).trans (rfl))))
  · skip
    refine k_ite (P := fun (z : Int32 × MemI) => z.2 kk qq = mi kk qq) (fun hq1 => ?_) (fun hq1 => ?_)
    · skip
      dsimp only
      exact (fg_X2_pf hk).trans ((k_frG hk (by simp [k_gr])).trans ((k_frG hk (by simp [k_gr])).trans ((fg_X2_paL hk).trans (rfl))))
    · skip
      dsimp only
      exact (fg_X2_pf hk).trans ((k_frG hk (by simp [k_gr])).trans ((k_frG hk (by simp [k_gr])).trans ((fg_X2_paL hk).trans (rfl))))
theorem fg_X2_bec2 {g : Nat} {g2 : Nat} {mi : MemI} {kk : Ky} {qq : Nat} (hk : k_gr g kk = false) : ∀ {j : Nat}, (f_X2_bec2 mi g g2 j) kk qq = mi kk qq := by
  intro j
  induction j with
  | zero => rfl
  | succ j ih =>
    rw [f_X2_bec2_s]
    exact (fg_X0_become hk).trans (ih)
theorem fg_X2_bec1 {g : Nat} {g2 : Nat} {mi : MemI} {kk : Ky} {qq : Nat} (hk : k_gr g kk = false) : ∀ {j : Nat}, (f_X2_bec1 mi g g2 j) kk qq = mi kk qq := by
  intro j
  induction j with
  | zero => rfl
  | succ j ih =>
    rw [f_X2_bec1_s]
    exact (fg_X1_become hk).trans (ih)
theorem fg_X2_become {mi : MemI} {g : Nat} {g2 : Nat} {kk : Ky} {qq : Nat} (hk : k_gr g kk = false) : (f_X2_become mi g g2) kk qq = mi kk qq := by
  unfold f_X2_become
  exact (k_frG hk (by simp [k_gr])).trans ((k_frG hk (by simp [k_gr])).trans ((k_frG hk (by simp [k_gr])).trans ((k_frG hk (by simp [k_gr])).trans ((fg_X2_bec2 hk).trans ((fg_X2_bec1 hk).trans (rfl))))))
theorem fz_X7_wrong {mi : MemI} {x : Int32} {kk : Ky} {qq : Nat} (hk : k_sc kk qq = false) : (f_X7_wrong mi x).2 kk qq = mi kk qq := by
  unfold f_X7_wrong
  dsimp only
  exact (k_frZ hk rfl).trans (rfl)
theorem fz_X7_go1  {mi : MemI} {kk : Ky} {qq : Nat} (hk : k_sc kk qq = false) : ∀ {j : Nat}, (f_X7_go1 mi j) kk qq = mi kk qq := by
  intro j
  induction j with
  | zero => rfl
  | succ j ih =>
    rw [f_X7_go1_s]
    exact (k_frZ hk rfl).trans ((k_frZ hk rfl).trans ((k_frZ hk rfl).trans ((k_frZ hk rfl).trans (ih))))
theorem fz_X7_go2 {nC : Nat} {mi : MemI} {kk : Ky} {qq : Nat} (hk : k_sc kk qq = false) : ∀ {j : Nat}, (f_X7_go2 mi nC j) kk qq = mi kk qq := by
  intro j
  induction j with
  | zero => rfl
  | succ j ih =>
    rw [f_X7_go2_s]
    refine k_ite (P := fun (z : MemI) => z kk qq = mi kk qq) (fun hq0 => ?_) (fun hq0 => ?_)
    · skip
      exact (k_frZ hk rfl).trans ((k_frZ hk rfl).trans (ih))
    · skip
      refine k_ite (P := fun (z : MemI) => z kk qq = mi kk qq) (fun hq1 => ?_) (fun hq1 => ?_)
      · skip
        refine k_ite (P := fun (z : MemI) => z kk qq = mi kk qq) (fun hq2 => ?_) (fun hq2 => ?_)
        · skip
          refine k_ite (P := fun (z : MemI) => z kk qq = mi kk qq) (fun hq3 => ?_) (fun hq3 => ?_)
          · skip
            refine k_ite (P := fun (z : MemI) => z kk qq = mi kk qq) (fun hq4 => ?_) (fun hq4 => ?_)
            · skip
              exact (k_frZ hk rfl).trans ((k_frZ hk rfl).trans ((k_frZ hk rfl).trans ((k_frZ hk rfl).trans ((k_frZ hk rfl).trans (ih)))))
            · skip
              exact (k_frZ hk rfl).trans ((k_frZ hk rfl).trans ((k_frZ hk rfl).trans ((k_frZ hk rfl).trans ((k_frZ hk rfl).trans ((k_frZ hk rfl).trans ((k_frZ hk rfl).trans ((k_frZ hk rfl).trans ((k_frZ hk rfl).trans (ih)))))))))
          · skip
            exact (k_frZ hk rfl).trans ((k_frZ hk rfl).trans ((k_frZ hk rfl).trans ((k_frZ hk rfl).trans ((k_frZ hk rfl).trans ((k_frZ hk rfl).trans ((k_frZ hk rfl).trans ((k_frZ hk rfl).trans (ih))))))))
        · skip
          refine k_ite (P := fun (z : MemI) => z kk qq = mi kk qq) (fun hq3 => ?_) (fun hq3 => ?_)
          · skip
            exact (k_frZ hk rfl).trans ((k_frZ hk rfl).trans ((k_frZ hk rfl).trans ((k_frZ hk rfl).trans ((k_frZ hk rfl).trans (ih)))))
          · skip
            exact (k_frZ hk rfl).trans ((k_frZ hk rfl).trans ((k_frZ hk rfl).trans ((k_frZ hk rfl).trans ((k_frZ hk rfl).trans ((k_frZ hk rfl).trans ((k_frZ hk rfl).trans ((k_frZ hk rfl).trans ((k_frZ hk rfl).trans (ih)))))))))
      · skip
        exact (k_frZ hk rfl).trans ((k_frZ hk rfl).trans ((k_frZ hk rfl).trans ((k_frZ hk rfl).trans (ih))))
theorem fz_X7_goes {mi : MemI} {nC : Nat} {nB : Nat} {kk : Ky} {qq : Nat} (hk : k_sc kk qq = false) : (f_X7_goes mi nC nB) kk qq = mi kk qq := by
  unfold f_X7_goes
  exact (fz_X7_go2 hk).trans ((fz_X7_go1 hk).trans ((k_frZ hk rfl).trans ((k_frZ hk rfl).trans (rfl))))
theorem fz_X7_fi  {mi : MemI} {kk : Ky} {qq : Nat} (hk : k_sc kk qq = false) : ∀ {j : Nat}, (f_X7_fi mi j) kk qq = mi kk qq := by
  intro j
  induction j with
  | zero => rfl
  | succ j ih =>
    rw [f_X7_fi_s]
    refine k_ite (P := fun (z : MemI) => z kk qq = mi kk qq) (fun hq0 => ?_) (fun hq0 => ?_)
    · skip
      exact (k_frZ hk rfl).trans ((k_frZ hk rfl).trans (ih))
    · skip
      exact ih
theorem fz_X7_files {mi : MemI} {nB : Nat} {kk : Ky} {qq : Nat} (hk : k_sc kk qq = false) : (f_X7_files mi nB) kk qq = mi kk qq := by
  unfold f_X7_files
  exact (fz_X7_fi hk).trans ((k_frZ hk rfl).trans (rfl))
theorem fz_X7_ptG  {mi : MemI} {kk : Ky} {qq : Nat} (hk : k_sc kk qq = false) : ∀ {j : Nat}, (f_X7_ptG mi j) kk qq = mi kk qq := by
  intro j
  induction j with
  | zero => rfl
  | succ j ih =>
    rw [f_X7_ptG_s]
    exact (k_frZ hk rfl).trans (ih)
theorem fz_X7_ptE {mi : MemI} {i : Nat} {nC : Nat} {cm : Nat} {kk : Ky} {qq : Nat} (hk : k_sc kk qq = false) : (f_X7_ptE mi i nC cm) kk qq = mi kk qq := by
  unfold f_X7_ptE
  refine k_ite (P := fun (z : MemI) => z kk qq = mi kk qq) (fun hq0 => ?_) (fun hq0 => ?_)
  · skip
    exact (fz_X7_ptG hk).trans ((k_frZ hk rfl).trans (rfl))
  · skip
    refine k_ite (P := fun (z : MemI) => z kk qq = mi kk qq) (fun hq1 => ?_) (fun hq1 => ?_)
    · skip
      exact (fz_X7_ptG hk).trans ((k_frZ hk rfl).trans (rfl))
    · skip
      exact rfl
theorem fz_X7_pl {Rn : MemI → MemI} {i : Nat} {w : Int32} {kk : Ky} {qq : Nat} (hR : ∀ m, Rn m kk qq = m kk qq) (hk : k_sc kk qq = false) : ∀ {u : Nat} {c2 : Nat} {m0 : MemI}, (f_X7_pl Rn i w u c2 m0) kk qq = m0 kk qq := by
  intro u
  induction u with
  | zero =>
    intro c2 m0
    show (f_X7_pl Rn i w 0 c2 m0) kk qq = m0 kk qq
    unfold f_X7_pl
    exact rfl
  | succ u ih =>
    intro c2 m0
    rw [f_X7_pl_s]
    refine k_ite (P := fun (z : MemI) => z kk qq = m0 kk qq) (fun hq0 => ?_) (fun hq0 => ?_)
    · skip
      exact ih.trans (rfl)
    · skip
      refine k_ite (P := fun (z : MemI) => z kk qq = m0 kk qq) (fun hq1 => ?_) (fun hq1 => ?_)
      · skip
        exact ih.trans ((k_frZ hk rfl).trans ((hR _).trans ((k_frZ hk rfl).trans ((k_frZ hk rfl).trans (rfl)))))
      · skip
        exact ih.trans (rfl)
theorem fz_X7_pt {nC cm : Nat} {kk : Ky} {qq : Nat} (hk : k_sc kk qq = false) : ∀ {n i : Nat} {m0 : MemI}, f_X7_pt nC cm n i m0 kk qq = m0 kk qq := by
  intro n
  induction n with
  | zero => intro i m0; exact fz_X7_ptE hk
  | succ n ih => intro i m0; exact fz_X7_pl (fun _ => ih) hk
theorem fz_X7_paL  {mi : MemI} {kk : Ky} {qq : Nat} (hk : k_sc kk qq = false) : ∀ {j : Nat}, (f_X7_paL mi j) kk qq = mi kk qq := by
  intro j
  induction j with
  | zero => rfl
  | succ j ih =>
    rw [f_X7_paL_s]
    exact (k_frZ hk rfl).trans (ih)
theorem fz_X7_drL {nC : Nat} {mi : MemI} {kk : Ky} {qq : Nat} (hk : k_sc kk qq = false) : ∀ {j : Nat}, (f_X7_drL mi nC j).2 kk qq = mi kk qq := by
  intro j
  induction j with
  | zero => rfl
  | succ j ih =>
    rw [f_X7_drL_s]
    refine k_ite (P := fun (z : Int32 × MemI) => z.2 kk qq = mi kk qq) (fun hq0 => ?_) (fun hq0 => ?_)
    · skip
      dsimp only
      exact ih
    · skip
      dsimp only
      exact (k_frZ hk rfl).trans ((k_frZ hk rfl).trans ((k_frZ hk rfl).trans (ih)))
theorem fz_X7_doesRound {mi : MemI} {nC : Nat} {cm : Nat} {kk : Ky} {qq : Nat} (hk : k_sc kk qq = false) : (f_X7_doesRound mi nC cm).2 kk qq = mi kk qq := by
  unfold f_X7_doesRound
  dsimp only
  exact (fz_X7_drL hk).trans (rfl)
theorem fz_X7_ra2 {w : Nat} {mi : MemI} {kk : Ky} {qq : Nat} (hk : k_sc kk qq = false) : ∀ {j : Nat}, (f_X7_ra2 mi w j) kk qq = mi kk qq := by
  intro j
  induction j with
  | zero => rfl
  | succ j ih =>
    rw [f_X7_ra2_s]
    refine k_ite (P := fun (z : MemI) => z kk qq = mi kk qq) (fun hq0 => ?_) (fun hq0 => ?_)
    · skip
      exact (k_frZ hk rfl).trans (ih)
    · skip
      exact (k_frZ hk rfl).trans (ih)
theorem fz_X7_ra3 {w : Nat} {mi : MemI} {kk : Ky} {qq : Nat} (hk : k_sc kk qq = false) : ∀ {j : Nat}, (f_X7_ra3 mi w j) kk qq = mi kk qq := by
  intro j
  induction j with
  | zero => rfl
  | succ j ih =>
    rw [f_X7_ra3_s]
    exact (k_frZ hk rfl).trans (ih)
theorem fz_X7_raR {nC : Nat} {cm : Nat} {kk : Ky} {qq : Nat} (hk : k_sc kk qq = false) : ∀ {u : Nat} {j : Nat} {m0 : MemI}, (f_X7_raR nC cm u j m0).2 kk qq = m0 kk qq := by
  intro u
  induction u with
  | zero =>
    intro j m0
    show (f_X7_raR nC cm 0 j m0).2 kk qq = m0 kk qq
    unfold f_X7_raR
    exact rfl
  | succ u ih =>
    intro j m0
    rw [f_X7_raR_s]
    refine k_ite (P := fun (z : Int32 × MemI) => z.2 kk qq = m0 kk qq) (fun hq0 => ?_) (fun hq0 => ?_)
    · skip
      dsimp only
      exact (fz_X7_doesRound hk).trans (rfl)
    · skip
      exact ih.trans ((fz_X7_doesRound hk).trans (rfl))
theorem fz_X7_restsAfter {mi : MemI} {nC : Nat} {cm : Nat} {kk : Ky} {qq : Nat} (hk : k_sc kk qq = false) : (f_X7_restsAfter mi nC cm).2 kk qq = mi kk qq := by
  unfold f_X7_restsAfter
  refine k_ite (P := fun (z : Int32 × MemI) => z.2 kk qq = mi kk qq) (fun hq0 => ?_) (fun hq0 => ?_)
  · skip
    exact (fz_X7_raR hk).trans ((fz_X7_ra3 hk).trans ((fz_X7_ra2 hk).trans (rfl)))
  · skip
    exact rfl
theorem fz_X7_word {mi : MemI} {ml : MemL} {kk : Ky} {qq : Nat} (hk : k_sc kk qq = false) : (f_X7_word mi ml).2 kk qq = mi kk qq := by
  unfold f_X7_word
  refine k_ite (P := fun (z : Int32 × MemI) => z.2 kk qq = mi kk qq) (fun hq0 => ?_) (fun hq0 => ?_)
  · skip
    dsimp only
    exact (k_frZ hk rfl).trans (rfl)
  · skip
    refine k_ite (P := fun (z : Int32 × MemI) => z.2 kk qq = mi kk qq) (fun hq1 => ?_) (fun hq1 => ?_)
    · skip
      dsimp only
      exact (k_frZ hk rfl).trans (rfl)
    · skip
      refine k_ite (P := fun (z : Int32 × MemI) => z.2 kk qq = mi kk qq) (fun hq2 => ?_) (fun hq2 => ?_)
      · skip
        dsimp only
        exact (k_frZ hk rfl).trans (rfl)
      · skip
        refine k_ite (P := fun (z : Int32 × MemI) => z.2 kk qq = mi kk qq) (fun hq3 => ?_) (fun hq3 => ?_)
        · skip
          dsimp only
          exact (k_frZ hk rfl).trans (rfl)
        · skip
          refine k_ite (P := fun (z : Int32 × MemI) => z.2 kk qq = mi kk qq) (fun hq4 => ?_) (fun hq4 => ?_)
          · skip
            dsimp only
            exact (k_frZ hk rfl).trans (rfl)
          · skip
            refine k_ite (P := fun (z : Int32 × MemI) => z.2 kk qq = mi kk qq) (fun hq5 => ?_) (fun hq5 => ?_)
            · skip
              dsimp only
              exact (k_frZ hk rfl).trans (rfl)
            · skip
              dsimp only
              exact (k_frZ hk rfl).trans (rfl)
theorem fz_X7_reads {mi : MemI} {ml : MemL} {kk : Ky} {qq : Nat} (hk : k_sc kk qq = false) : (f_X7_reads mi ml).2 kk qq = mi kk qq := by
  unfold f_X7_reads
  refine k_ite (P := fun (z : Int32 × MemI) => z.2 kk qq = mi kk qq) (fun hq0 => ?_) (fun hq0 => ?_)
  · skip
    dsimp only
    exact (fz_X7_wrong hk).trans ((k_frZ hk rfl).trans (rfl))
  · skip
    refine k_ite (P := fun (z : Int32 × MemI) => z.2 kk qq = mi kk qq) (fun hq1 => ?_) (fun hq1 => ?_)
    · skip
      dsimp only
      exact (k_frZ hk rfl).trans ((k_frZ hk rfl).trans ((k_frZ hk rfl).trans (rfl)))
    · skip
      dsimp only
      exact (k_frZ hk rfl).trans ((k_frZ hk rfl).trans ((k_frZ hk rfl).trans ((k_frZ hk rfl).trans ((k_frZ hk rfl).trans (rfl)))))
theorem fz_X7_bl {mi : MemI} {ml : MemL} {kk : Ky} {qq : Nat} (hk : k_sc kk qq = false) : (f_X7_bl mi ml).2 kk qq = mi kk qq := by
  unfold f_X7_bl
  refine k_ite (P := fun (z : Int32 × MemI) => z.2 kk qq = mi kk qq) (fun hq0 => ?_) (fun hq0 => ?_)
  · skip
    dsimp only
    exact (fz_X7_wrong hk).trans (rfl)
  · skip
    refine k_ite (P := fun (z : Int32 × MemI) => z.2 kk qq = mi kk qq) (fun hq1 => ?_) (fun hq1 => ?_)
    · skip
      dsimp only
      exact (k_frZ hk rfl).trans (rfl)
    · skip
      dsimp only
      exact (fz_X7_wrong hk).trans (rfl)
theorem fz_X7_rdn {mi : MemI} {ml : MemL} {w : Int32} {x : Int32} {kk : Ky} {qq : Nat} (hk : k_sc kk qq = false) : (f_X7_rdn mi ml w x).2 kk qq = mi kk qq := by
  unfold f_X7_rdn
  refine k_ite (P := fun (z : Int32 × MemI) => z.2 kk qq = mi kk qq) (fun hq0 => ?_) (fun hq0 => ?_)
  · skip
    dsimp only
    exact (fz_X7_reads hk).trans (rfl)
  · skip
    refine k_ite (P := fun (z : Int32 × MemI) => z.2 kk qq = mi kk qq) (fun hq1 => ?_) (fun hq1 => ?_)
    · skip
      dsimp only
      exact (fz_X7_wrong hk).trans ((fz_X7_reads hk).trans (rfl))
    · skip
      dsimp only
      exact (k_frZ hk rfl).trans ((fz_X7_reads hk).trans (rfl))
