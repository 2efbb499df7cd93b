/-! the booleans of the city read stay booleans -/
def k_n4 (k : Ky) : Bool := !(k.1 == 4)
theorem k_frP {mi : MemI} {K kk : Ky} {j qq : Nat} {v : Int32} (hk : k_n4 kk = true) (hK : k_n4 K = false) : k_ui mi K j v kk qq = mi kk qq :=
  if_neg (fun e => by rw [e.1, hK] at hk; cases hk)
theorem fp_X4_failAt {mi : MemI} {x : Int32} {kk : Ky} {qq : Nat} (hk : k_n4 kk = true) : (f_X4_failAt mi x).2 kk qq = mi kk qq := by
  unfold f_X4_failAt
  dsimp only
  exact (k_frP hk rfl).trans (rfl)
theorem fp_X4_readSign {mi : MemI} {x : Int32} {kk : Ky} {qq : Nat} (hk : k_n4 kk = true) : (f_X4_readSign mi x).2 kk qq = mi kk qq := by
  unfold f_X4_readSign
  refine k_ite (P := fun (z : Int32 × MemI) => z.2 kk qq = mi kk qq) (fun hq0 => ?_) (fun hq0 => ?_)
  · skip
    dsimp only
    exact (k_frP hk rfl).trans (rfl)
  · skip
    dsimp only
    exact (fp_X4_failAt hk).trans (rfl)
theorem fp_X4_readNumber {mi : MemI} {lo : Int32} {hi0 : Int32} {kk : Ky} {qq : Nat} (hk : k_n4 kk = true) : (f_X4_readNumber mi lo hi0).2 kk qq = mi kk qq := by
  unfold f_X4_readNumber
  refine k_ite (P := fun (z : Int32 × MemI) => z.2 kk qq = mi kk qq) (fun hq0 => ?_) (fun hq0 => ?_)
  · skip
    dsimp only
    exact (fp_X4_readSign hk).trans (rfl)
  · skip
    refine k_ite (P := fun (z : Int32 × MemI) => z.2 kk qq = mi kk qq) (fun hq1 => ?_) (fun hq1 => ?_)
    · skip
      dsimp only
      exact (fp_X4_failAt hk).trans ((fp_X4_readSign hk).trans (rfl))
    · skip
      refine k_ite (P := fun (z : Int32 × MemI) => z.2 kk qq = mi kk qq) (fun hq2 => ?_) (fun hq2 => ?_)
      · skip
        refine k_ite (P := fun (z : Int32 × MemI) => z.2 kk qq = mi kk qq) (fun hq3 => ?_) (fun hq3 => ?_)
        · skip
          dsimp only
          exact (k_frP hk rfl).trans ((fp_X4_readSign hk).trans (rfl))
        · skip
          dsimp only
          exact (fp_X4_failAt hk).trans ((k_frP hk rfl).trans ((fp_X4_readSign hk).trans (rfl)))
      · skip
        refine k_ite (P := fun (z : Int32 × MemI) => z.2 kk qq = mi kk qq) (fun hq3 => ?_) (fun hq3 => ?_)
        · skip
          dsimp only
          exact (k_frP hk rfl).trans ((k_frP hk rfl).trans ((fp_X4_readSign hk).trans (rfl)))
        · skip
          dsimp only
          exact (fp_X4_failAt hk).trans ((k_frP hk rfl).trans ((k_frP hk rfl).trans ((fp_X4_readSign hk).trans (rfl))))
theorem fp_X4_hasRoom {mi : MemI} {n : Int32} {x : Int32} {kk : Ky} {qq : Nat} (hk : k_n4 kk = true) : (f_X4_hasRoom mi n x).2 kk qq = mi kk qq := by
  unfold f_X4_hasRoom
  refine k_ite (P := fun (z : Int32 × MemI) => z.2 kk qq = mi kk qq) (fun hq0 => ?_) (fun hq0 => ?_)
  · skip
    exact rfl
  · skip
    refine k_ite (P := fun (z : Int32 × MemI) => z.2 kk qq = mi kk qq) (fun hq1 => ?_) (fun hq1 => ?_)
    · skip
      dsimp only
      exact (fp_X4_failAt hk).trans (rfl)
    · skip
      dsimp only
      exact (fp_X4_failAt hk).trans (rfl)
theorem fp_X4_rwR {mi : MemI} {kk : Ky} {qq : Nat} (hk : k_n4 kk = true) : ∀ {u : Nat} {j : Nat} {fu : Int32}, (f_X4_rwR mi u j fu).2 kk qq = mi kk qq := by
  intro u
  induction u with
  | zero =>
    intro j fu
    show (f_X4_rwR mi 0 j fu).2 kk qq = mi kk qq
    unfold f_X4_rwR
    dsimp only
    exact (fp_X4_failAt hk).trans (rfl)
  | succ u ih =>
    intro j fu
    rw [f_X4_rwR_s]
    refine k_ite (P := fun (z : Int32 × MemI) => z.2 kk qq = mi kk qq) (fun hq0 => ?_) (fun hq0 => ?_)
    · skip
      dsimp only
      exact (k_frP hk rfl).trans (rfl)
    · skip
      exact ih.trans (rfl)
theorem fp_X4_readWord {mi : MemI} {kk : Ky} {qq : Nat} (hk : k_n4 kk = true) : (f_X4_readWord mi).2 kk qq = mi kk qq := by
  unfold f_X4_readWord
  exact (fp_X4_rwR hk).trans (rfl)
theorem zo_4 {m m2 : MemI} (h : k_zo 1 m) (hf : ∀ kk qq, k_n4 kk = true → m2 kk qq = m kk qq) : k_zo 1 m2 := fun i hi => by
  rw [hf (1, 1, i) 1 rfl, hf (1, 1, i) 2 rfl, hf (0, 1, i) 1 rfl, hf (0, 1, i) 2 rfl]; exact h i hi
theorem zo_v {m : MemI} {K : Ky} {j : Nat} {v : Int32} (h : k_zo 1 m) (hv : v = 0 ∨ v = 1) : k_zo 1 (k_ui m K j v) := fun i hi => by
  have a : ∀ kk q, (m kk q = 0 ∨ m kk q = 1) → (k_ui m K j v kk q = 0 ∨ k_ui m K j v kk q = 1) := fun kk q y => by
    by_cases e : kk = K ∧ q = j
    · rw [e.1, e.2, k_uis]; exact hv
    · rw [k_ufr e]; exact y
  obtain ⟨⟨b1, b2⟩, b3, b4⟩ := h i hi
  exact ⟨⟨a _ _ b1, a _ _ b2⟩, a _ _ b3, a _ _ b4⟩
theorem zo_q {m : MemI} {K : Ky} {j : Nat} {v : Int32} (h : k_zo 1 m) (hq : j ≠ 1 ∧ j ≠ 2) : k_zo 1 (k_ui m K j v) := fun i hi => by
  rw [k_ufr (fun z => hq.1 z.2.symm), k_ufr (fun z => hq.2 z.2.symm), k_ufr (fun z => hq.1 z.2.symm), k_ufr (fun z => hq.2 z.2.symm)]; exact h i hi
theorem zo_k {m : MemI} {K : Ky} {j : Nat} {v : Int32} (h : k_zo 1 m) (hk : 2 ≤ K.1) : k_zo 1 (k_ui m K j v) := fun i hi => by
  have n1 : ((1, 1, i) : Ky) ≠ K := fun e => by rw [← e] at hk; exact absurd hk (show ¬ 2 ≤ 1 by decide)
  have n0 : ((0, 1, i) : Ky) ≠ K := fun e => by rw [← e] at hk; exact absurd hk (show ¬ 2 ≤ 0 by decide)
  rw [k_uk n1, k_uk n1, k_uk n0, k_uk n0]; exact h i hi
theorem zo_num {m : MemI} {lo hi : Int32} (h : k_zo 1 m) : k_zo 1 (f_X4_readNumber m lo hi).2 := zo_4 h (fun _ _ hk => fp_X4_readNumber hk)
theorem zo_aC {m : MemI} {k a ms hh : Int32} (h : k_zo 1 m) : k_zo 1 (f_X2_addCitizen m 1 k a ms hh).2 := by
  unfold f_X2_addCitizen
  refine k_ite (P := fun z : Int32 × MemI => k_zo 1 z.2) (fun _ => h) (fun _ => ?_)
  refine k_ite (P := fun z : Int32 × MemI => k_zo 1 z.2) (fun _ => ?_) (fun _ => h)
  refine zo_k ?_ (by decide)
  unfold f_X1_arrive
  repeat first | exact h | refine zo_q ?_ (by decide) | refine zo_v ?_ (Or.inl rfl) | refine zo_v ?_ (Or.inr rfl)
theorem zo_aB {m : MemI} {k a : Int32} (h : k_zo 1 m) : k_zo 1 (f_X2_addBeggar m 1 k a).2 := by
  unfold f_X2_addBeggar
  refine k_ite (P := fun z : Int32 × MemI => k_zo 1 z.2) (fun _ => h) (fun _ => ?_)
  refine k_ite (P := fun z : Int32 × MemI => k_zo 1 z.2) (fun _ => ?_) (fun _ => h)
  refine zo_k ?_ (by decide)
  unfold f_X0_arrive
  repeat first | exact h | refine zo_q ?_ (by decide) | refine zo_v ?_ (Or.inl rfl) | refine zo_v ?_ (Or.inr rfl)
theorem zo_rC {m : MemI} (h : k_zo 1 m) : k_zo 1 (f_X4_readCitizen m).2 := by
  have h0 := zo_num (lo := 0) (hi := 6) h
  unfold f_X4_readCitizen
  generalize f_X4_readNumber m 0 6 = A0 at h0 ⊢
  have h1 := zo_num (lo := 0) (hi := 9) h0
  generalize f_X4_readNumber A0.2 0 9 = A1 at h1 ⊢
  have h2 := zo_num (lo := 0) (hi := 99) h1
  generalize f_X4_readNumber A1.2 0 99 = A2 at h2 ⊢
  have h3 := zo_num (lo := 0) (hi := 20) h2
  generalize f_X4_readNumber A2.2 0 20 = A3 at h3 ⊢
  have h4 := zo_aC (k := A0.1) (a := A1.1) (ms := A2.1) (hh := A3.1) h3
  generalize f_X2_addCitizen A3.2 1 A0.1 A1.1 A2.1 A3.1 = A4 at h4 ⊢
  repeat' split
  · exact h0
  · exact h1
  · exact h2
  · exact h3
  · exact h4
  · exact h4
theorem zo_rB {m : MemI} (h : k_zo 1 m) : k_zo 1 (f_X4_readBeggar m).2 := by
  have h0 := zo_num (lo := 1) (hi := 9) h
  unfold f_X4_readBeggar
  generalize f_X4_readNumber m 1 9 = A0 at h0 ⊢
  have h1 := zo_num (lo := 0) (hi := 4) h0
  generalize f_X4_readNumber A0.2 0 4 = A1 at h1 ⊢
  have h4 := zo_aB (k := A0.1) (a := A1.1) h1
  generalize f_X2_addBeggar A1.2 1 A0.1 A1.1 = A4 at h4 ⊢
  repeat' split
  · exact h0
  · exact h1
  · exact h4
  · exact h4
theorem zo_rP {m : MemI} (h : k_zo 1 m) : k_zo 1 (f_X4_readPost m).2 := by
  have h0 := zo_num (lo := 0) (hi := m (2, 1, 0) 3 - 1) h
  unfold f_X4_readPost
  generalize f_X4_readNumber m 0 (m (2, 1, 0) 3 - 1) = A0 at h0 ⊢
  split
  · exact zo_v h0 (Or.inr rfl)
  · exact h0
theorem zo_rO {m : MemI} {w : Int32} (h : k_zo 1 m) : k_zo 1 (f_X4_readOfCitizen m w).2 := by
  have h0 := zo_num (lo := 0) (hi := m (2, 1, 0) 2 - 1) h
  unfold f_X4_readOfCitizen
  generalize f_X4_readNumber m 0 (m (2, 1, 0) 2 - 1) = A0 at h0 ⊢
  have h1 := zo_num (lo := 0) (hi := 99) h0
  generalize f_X4_readNumber A0.2 0 99 = A1 at h1 ⊢
  repeat' split
  · exact h1
  · exact zo_q h1 (by decide)
  · exact zo_v h0 (Or.inr rfl)
  · exact zo_v h0 (Or.inl rfl)
  · exact h0
theorem zo_item {m : MemI} (h : k_zo 1 m) : k_zo 1 (f_X4_readItem m).2 := by
  have hw : k_zo 1 (f_X4_readWord m).2 := zo_4 h (fun _ _ hk => fp_X4_readWord hk)
  unfold f_X4_readItem
  generalize f_X4_readWord m = W at hw ⊢
  have r0 : k_zo 1 (f_X4_hasRoom W.2 (W.2 (2, 1, 0) 2) (m (4, 0, 0) 2)).2 := zo_4 hw (fun _ _ hk => fp_X4_hasRoom hk)
  have r1 : k_zo 1 (f_X4_hasRoom W.2 (W.2 (2, 1, 0) 3) (m (4, 0, 0) 2)).2 := zo_4 hw (fun _ _ hk => fp_X4_hasRoom hk)
  generalize f_X4_hasRoom W.2 (W.2 (2, 1, 0) 2) (m (4, 0, 0) 2) = A at r0 ⊢
  generalize f_X4_hasRoom W.2 (W.2 (2, 1, 0) 3) (m (4, 0, 0) 2) = B at r1 ⊢
  have c0 := zo_rC r0
  have c1 := zo_rB r1
  have c2 := zo_rP hw
  have c3 := zo_rO (w := W.1) hw
  generalize f_X4_readCitizen A.2 = A' at c0 ⊢
  generalize f_X4_readBeggar B.2 = B' at c1 ⊢
  generalize f_X4_readPost W.2 = P' at c2 ⊢
  generalize f_X4_readOfCitizen W.2 W.1 = O' at c3 ⊢
  repeat' split
  all_goals first | exact r0 | exact c0 | exact r1 | exact c1 | exact c2 | exact hw | exact c3
theorem zo_rdR : ∀ u j m, k_zo 1 m → k_zo 1 (f_X4_rdR u j m).2 := by
  intro u
  induction u with
  | zero => intro j m h; exact h
  | succ u ih =>
    intro j m h
    have hi := zo_item h
    rw [f_X4_rdR_s]
    generalize f_X4_readItem m = X at hi ⊢
    have hs : k_zo 1 (f_X4_readSign X.2 59).2 := zo_4 hi (fun _ _ hk => fp_X4_readSign hk)
    generalize f_X4_readSign X.2 59 = S at hs ⊢
    by_cases c1 : X.1 = 0
    · rw [if_pos c1]; exact hi
    · rw [if_neg c1]
      by_cases c2 : X.2 (4, 0, 0) 2 < X.2 (4, 0, 0) 1
      · rw [if_pos c2]
        by_cases c3 : S.1 = 0
        · rw [if_pos c3]; exact hs
        · rw [if_neg c3]; exact ih _ _ hs
      · rw [if_neg c2]; exact hi
theorem zo_read {m : MemI} {ml : MemL} {s : Nat} (h : k_zo 1 m) : k_zo 1 (f_X4_read m ml s).2 := by
  unfold f_X4_read
  refine zo_rdR 160 0 _ (zo_k (zo_k ?_ (by decide)) (by decide))
  have h1 : k_zo 1 (k_ui m (4, 0, 0) 1 (m (5, 0, s) 2)) := zo_k h (by decide)
  have : ∀ j, k_zo 1 (f_X4_sg (k_ui m (4, 0, 0) 1 (m (5, 0, s) 2)) ml s j) := by
    intro j
    induction j with
    | zero => exact h1
    | succ j ih => rw [f_X4_sg_s]; exact zo_k ih (by decide)
  exact this 160
theorem hy_zo1 {nC nB : Nat} {mi mj : MemI} {ml mlj : MemL} (h : k_R nC nB mi ml mj mlj) (s : Nat) : k_zo 1 (f_X4_read (f_X2_become mi 1 0) ml s).2 := zo_read (hy_zo (R_trial h))
