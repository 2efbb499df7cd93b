/-! City: parting; become -/
/-- the beggars' numbers stand -/
def k_num (g : Nat) (mi : MemI) : Prop := ∀ i, i < 6 → mi (0, g, i) 0 = nI i
theorem k_num_ui {g : Nat} {mi : MemI} {k : Ky} {j : Nat} {v : Int32} (hn : ¬ (k.1 = 0 ∧ j = 0)) (h : k_num g mi) : k_num g (k_ui mi k j v) := by
  intro i hi
  rw [← h i hi]
  simp only [k_ui]
  split
  · rename_i hc
    exact absurd ⟨by rw [← hc.1], hc.2.symm⟩ hn
  · rfl
def f_X2_np (mi : MemI) (g : Nat) : Nat → MemI
  | 0 => mi
  | j + 1 =>
    k_ui (f_X2_np mi g j) (0, g, j) 10 ((f_X2_np mi g j) (0, g, j) 9)
theorem f_X2_np_s (mi : MemI) (g : Nat) (j : Nat) : f_X2_np mi g (j + 1) =
    k_ui (f_X2_np mi g j) (0, g, j) 10 ((f_X2_np mi g j) (0, g, j) 9) := rfl
def f_X2_notePart (mi : MemI) (g : Nat) (gr : Int32) : MemI :=
  f_X2_np (k_ui mi (2, g, 0) 6 gr) g 6
set_option maxRecDepth 100000 in
set_option maxHeartbeats 4000000 in
theorem ct_X2_notePart {mi : MemI} {ml : MemL} {g : Nat} {gr : Int32} (hg : g < 3) : k_Ct k_KS k_R0 Mt_X2_notePart 0 [vR (2, g, 0), vI gr] mi ml (k_rt none (f_X2_notePart mi g gr) ml) := by
  refine k_ofV (L0 := [vR (2, g, 0), vI gr, vU, vU, vU, vU]) (by decide +kernel) (Nat.le_of_ble_eq_true rfl) rfl rfl ?_
  intro p l e s m args below meth c D cy ad bs C
  refine k_aload_n (pc := 0) C dX2_notePart_0 rfl ?_
  refine k_iload_n (pc := 1) C dX2_notePart_1 rfl ?_
  refine k_putI (pc := 2) C pl_X2_184 (k_in2 hg) rfl rfl dX2_notePart_2 ?_
  refine k_aload_n (pc := 5) C dX2_notePart_5 rfl ?_
  refine k_getR (pc := 6) (r := some (10, g, 0)) C fl_X2_19 (k_in2 hg) rfl rfl rfl dX2_notePart_6 ?_
  refine k_astore_2 (pc := 9) C dX2_notePart_9 rfl ?_
  refine k_aload_n (pc := 10) C dX2_notePart_10 rfl ?_
  refine k_alen (pc := 11) (v := 6) C (k_in10 hg) ⟨Nat.le_of_ble_eq_true rfl, Nat.le_of_ble_eq_true rfl⟩ rfl dX2_notePart_11 ?_
  refine k_istore_3 (pc := 12) C dX2_notePart_12 rfl ?_
  refine k_iconst (pc := 13) (v := 0) C dX2_notePart_13 (by decide) ?_
  refine k_istore_4 (pc := 14) C dX2_notePart_14 rfl ?_
  refine k_cast (L' := [vR (2, g, 0), vI gr, vR (10, g, 0), vI 6, vI (nI 0), vU]) (mi' := f_X2_np (k_ui mi (2, g, 0) 6 gr) g 0) rfl rfl rfl ?_
  refine k_down (P := fun j => k_V p l e (k_rm 0) s m args below meth c D cy ad bs k_KS k_R0 0 0 (k_End below D cy ad bs k_KS k_R0 (k_rt none (f_X2_notePart mi g gr) ml) args s) (f_X2_np (k_ui mi (2, g, 0) 6 gr) g j) ml 16 [vR (2, g, 0), vI gr, vR (10, g, 0), vI 6, vI (nI j), vU] []) 6 ?_ (fun j hj hk => ?_)
  · skip
    refine k_iload (pc := 16) C dX2_notePart_16 rfl ?_
    refine k_iload_n (pc := 18) C dX2_notePart_18 rfl ?_
    refine k_icmp_geT (pc := 19) C 44 dX2_notePart_19 (by decide) (by decide) ?_
    exact k_vret (pc := 44) C rfl (k_fm rfl) dX2_notePart_44
  · skip
    try dsimp only at hk
    refine k_iload (pc := 16) C dX2_notePart_16 rfl ?_
    refine k_iload_n (pc := 18) C dX2_notePart_18 rfl ?_
    refine k_icmp_geF (pc := 19) C 44 dX2_notePart_19 (by decide) (k_nge (n := 6) rfl (by decide) hj) ?_
    refine k_aload_n (pc := 22) C dX2_notePart_22 rfl ?_
    refine k_iload (pc := 23) C dX2_notePart_23 rfl ?_
    refine k_aaldX (pc := 25) (j := j) (kr := (0, g, j)) C (nI_clamp (by omega)) (k_in10 hg) (Or.inl rfl) (vp_in_nI (show _ < (6 : Nat) by omega) (show (6 : Nat) < 2 ^ 31 by decide)) rfl dX2_notePart_25 ?_
    refine k_astore_5 (pc := 26) C dX2_notePart_26 rfl ?_
    refine k_aload (pc := 28) C dX2_notePart_28 rfl ?_
    refine k_aload (pc := 30) C dX2_notePart_30 rfl ?_
    refine k_getI (pc := 32) C fl_X2_206 (k_in0 hg hj) rfl rfl dX2_notePart_32 ?_
    refine k_putI (pc := 35) C pl_X2_209 (k_in0 hg hj) rfl rfl dX2_notePart_35 ?_
    refine k_iinc_4 (pc := 38) (v := nI (j + 1)) C dX2_notePart_38 (k_inc j) rfl ?_
    refine k_goto (pc := 41) C 16 dX2_notePart_41 (by decide) ?_
    refine k_drop_5 ?_
    exact k_cast rfl (by rw [f_X2_np_s]) rfl hk
theorem k_num_np {g : Nat} {mi : MemI} (h : k_num g mi) (gr : Int32) : k_num g (f_X2_notePart mi g gr) := by
  have h2 : ∀ j, k_num g (f_X2_np (k_ui mi (2, g, 0) 6 gr) g j) := by
    intro j
    induction j with
    | zero => exact k_num_ui (by simp) h
    | succ j ih => exact k_num_ui (by simp) ih
  exact h2 6
def f_X2_te (Rn : MemI → Int32 → MemI) (g j : Nat) (gr : Int32) : Nat → Nat → MemI → MemI
  | 0, _, m0 => m0
  | u + 1, i, m0 => if f_X1_isOpen m0 g i = 0 then f_X2_te Rn g j gr u (i + 1) m0 else if m0 (1, g, i) 5 < m0 (1, g, i) 14 + m0 (0, g, j) 3 then f_X2_te Rn g j gr u (i + 1) m0 else if (k_mx gr (m0 (1, g, i) 14 + m0 (0, g, j) 3)) < m0 (2, g, 0) 6 then (if (k_ui (Rn (k_ui (k_ui m0 (1, g, i) 14 (m0 (1, g, i) 14 + m0 (0, g, j) 3)) (0, g, j) 9 (k_ui m0 (1, g, i) 14 (m0 (1, g, i) 14 + m0 (0, g, j) 3) (1, g, i) 0)) (k_mx gr (m0 (1, g, i) 14 + m0 (0, g, j) 3))) (1, g, i) 14 ((m0 (1, g, i) 14 + m0 (0, g, j) 3) - (Rn (k_ui (k_ui m0 (1, g, i) 14 (m0 (1, g, i) 14 + m0 (0, g, j) 3)) (0, g, j) 9 (k_ui m0 (1, g, i) 14 (m0 (1, g, i) 14 + m0 (0, g, j) 3) (1, g, i) 0)) (k_mx gr (m0 (1, g, i) 14 + m0 (0, g, j) 3))) (0, g, j) 3)) (2, g, 0) 7 < (k_ui (Rn (k_ui (k_ui m0 (1, g, i) 14 (m0 (1, g, i) 14 + m0 (0, g, j) 3)) (0, g, j) 9 (k_ui m0 (1, g, i) 14 (m0 (1, g, i) 14 + m0 (0, g, j) 3) (1, g, i) 0)) (k_mx gr (m0 (1, g, i) 14 + m0 (0, g, j) 3))) (1, g, i) 14 ((m0 (1, g, i) 14 + m0 (0, g, j) 3) - (Rn (k_ui (k_ui m0 (1, g, i) 14 (m0 (1, g, i) 14 + m0 (0, g, j) 3)) (0, g, j) 9 (k_ui m0 (1, g, i) 14 (m0 (1, g, i) 14 + m0 (0, g, j) 3) (1, g, i) 0)) (k_mx gr (m0 (1, g, i) 14 + m0 (0, g, j) 3))) (0, g, j) 3)) (2, g, 0) 6 then f_X2_te Rn g j gr u (i + 1) (k_ui (Rn (k_ui (k_ui m0 (1, g, i) 14 (m0 (1, g, i) 14 + m0 (0, g, j) 3)) (0, g, j) 9 (k_ui m0 (1, g, i) 14 (m0 (1, g, i) 14 + m0 (0, g, j) 3) (1, g, i) 0)) (k_mx gr (m0 (1, g, i) 14 + m0 (0, g, j) 3))) (1, g, i) 14 ((m0 (1, g, i) 14 + m0 (0, g, j) 3) - (Rn (k_ui (k_ui m0 (1, g, i) 14 (m0 (1, g, i) 14 + m0 (0, g, j) 3)) (0, g, j) 9 (k_ui m0 (1, g, i) 14 (m0 (1, g, i) 14 + m0 (0, g, j) 3) (1, g, i) 0)) (k_mx gr (m0 (1, g, i) 14 + m0 (0, g, j) 3))) (0, g, j) 3)) else (k_ui (Rn (k_ui (k_ui m0 (1, g, i) 14 (m0 (1, g, i) 14 + m0 (0, g, j) 3)) (0, g, j) 9 (k_ui m0 (1, g, i) 14 (m0 (1, g, i) 14 + m0 (0, g, j) 3) (1, g, i) 0)) (k_mx gr (m0 (1, g, i) 14 + m0 (0, g, j) 3))) (1, g, i) 14 ((m0 (1, g, i) 14 + m0 (0, g, j) 3) - (Rn (k_ui (k_ui m0 (1, g, i) 14 (m0 (1, g, i) 14 + m0 (0, g, j) 3)) (0, g, j) 9 (k_ui m0 (1, g, i) 14 (m0 (1, g, i) 14 + m0 (0, g, j) 3) (1, g, i) 0)) (k_mx gr (m0 (1, g, i) 14 + m0 (0, g, j) 3))) (0, g, j) 3))) else f_X2_te Rn g j gr u (i + 1) m0
theorem f_X2_te_s (Rn : MemI → Int32 → MemI) (g j : Nat) (gr : Int32) (u i : Nat) (m0 : MemI) : f_X2_te Rn g j gr (u + 1) i m0 = if f_X1_isOpen m0 g i = 0 then f_X2_te Rn g j gr u (i + 1) m0 else if m0 (1, g, i) 5 < m0 (1, g, i) 14 + m0 (0, g, j) 3 then f_X2_te Rn g j gr u (i + 1) m0 else if (k_mx gr (m0 (1, g, i) 14 + m0 (0, g, j) 3)) < m0 (2, g, 0) 6 then (if (k_ui (Rn (k_ui (k_ui m0 (1, g, i) 14 (m0 (1, g, i) 14 + m0 (0, g, j) 3)) (0, g, j) 9 (k_ui m0 (1, g, i) 14 (m0 (1, g, i) 14 + m0 (0, g, j) 3) (1, g, i) 0)) (k_mx gr (m0 (1, g, i) 14 + m0 (0, g, j) 3))) (1, g, i) 14 ((m0 (1, g, i) 14 + m0 (0, g, j) 3) - (Rn (k_ui (k_ui m0 (1, g, i) 14 (m0 (1, g, i) 14 + m0 (0, g, j) 3)) (0, g, j) 9 (k_ui m0 (1, g, i) 14 (m0 (1, g, i) 14 + m0 (0, g, j) 3) (1, g, i) 0)) (k_mx gr (m0 (1, g, i) 14 + m0 (0, g, j) 3))) (0, g, j) 3)) (2, g, 0) 7 < (k_ui (Rn (k_ui (k_ui m0 (1, g, i) 14 (m0 (1, g, i) 14 + m0 (0, g, j) 3)) (0, g, j) 9 (k_ui m0 (1, g, i) 14 (m0 (1, g, i) 14 + m0 (0, g, j) 3) (1, g, i) 0)) (k_mx gr (m0 (1, g, i) 14 + m0 (0, g, j) 3))) (1, g, i) 14 ((m0 (1, g, i) 14 + m0 (0, g, j) 3) - (Rn (k_ui (k_ui m0 (1, g, i) 14 (m0 (1, g, i) 14 + m0 (0, g, j) 3)) (0, g, j) 9 (k_ui m0 (1, g, i) 14 (m0 (1, g, i) 14 + m0 (0, g, j) 3) (1, g, i) 0)) (k_mx gr (m0 (1, g, i) 14 + m0 (0, g, j) 3))) (0, g, j) 3)) (2, g, 0) 6 then f_X2_te Rn g j gr u (i + 1) (k_ui (Rn (k_ui (k_ui m0 (1, g, i) 14 (m0 (1, g, i) 14 + m0 (0, g, j) 3)) (0, g, j) 9 (k_ui m0 (1, g, i) 14 (m0 (1, g, i) 14 + m0 (0, g, j) 3) (1, g, i) 0)) (k_mx gr (m0 (1, g, i) 14 + m0 (0, g, j) 3))) (1, g, i) 14 ((m0 (1, g, i) 14 + m0 (0, g, j) 3) - (Rn (k_ui (k_ui m0 (1, g, i) 14 (m0 (1, g, i) 14 + m0 (0, g, j) 3)) (0, g, j) 9 (k_ui m0 (1, g, i) 14 (m0 (1, g, i) 14 + m0 (0, g, j) 3) (1, g, i) 0)) (k_mx gr (m0 (1, g, i) 14 + m0 (0, g, j) 3))) (0, g, j) 3)) else (k_ui (Rn (k_ui (k_ui m0 (1, g, i) 14 (m0 (1, g, i) 14 + m0 (0, g, j) 3)) (0, g, j) 9 (k_ui m0 (1, g, i) 14 (m0 (1, g, i) 14 + m0 (0, g, j) 3) (1, g, i) 0)) (k_mx gr (m0 (1, g, i) 14 + m0 (0, g, j) 3))) (1, g, i) 14 ((m0 (1, g, i) 14 + m0 (0, g, j) 3) - (Rn (k_ui (k_ui m0 (1, g, i) 14 (m0 (1, g, i) 14 + m0 (0, g, j) 3)) (0, g, j) 9 (k_ui m0 (1, g, i) 14 (m0 (1, g, i) 14 + m0 (0, g, j) 3) (1, g, i) 0)) (k_mx gr (m0 (1, g, i) 14 + m0 (0, g, j) 3))) (0, g, j) 3))) else f_X2_te Rn g j gr u (i + 1) m0 := rfl
def f_X2_pf (g : Nat) : Nat → Nat → MemI → Int32 → MemI
  | 0, _, m0, gr => f_X2_notePart m0 g gr
  | n + 1, j, m0, gr => if f_X0_comes m0 g j = 0 then f_X2_pf g n (j + 1) m0 gr else f_X2_te (f_X2_pf g n (j + 1)) g j gr 6 0 m0
theorem f_X2_pf_s (g n j : Nat) (m0 : MemI) (gr : Int32) : f_X2_pf g (n + 1) j m0 gr = if f_X0_comes m0 g j = 0 then f_X2_pf g n (j + 1) m0 gr else f_X2_te (f_X2_pf g n (j + 1)) g j gr 6 0 m0 := rfl
theorem k_num_te {Rn : MemI → Int32 → MemI} {g j : Nat} (hR : ∀ m gr, k_num g m → k_num g (Rn m gr)) (gr : Int32) : ∀ (u i : Nat) (m0 : MemI), k_num g m0 → k_num g (f_X2_te Rn g j gr u i m0) := by
  intro u
  induction u with
  | zero => intro i m0 h; exact h
  | succ u ih =>
    intro i m0 h
    rw [f_X2_te_s]
    have h4 : k_num g (k_ui (Rn (k_ui (k_ui m0 (1, g, i) 14 (m0 (1, g, i) 14 + m0 (0, g, j) 3)) (0, g, j) 9 (k_ui m0 (1, g, i) 14 (m0 (1, g, i) 14 + m0 (0, g, j) 3) (1, g, i) 0)) (k_mx gr (m0 (1, g, i) 14 + m0 (0, g, j) 3))) (1, g, i) 14 ((m0 (1, g, i) 14 + m0 (0, g, j) 3) - (Rn (k_ui (k_ui m0 (1, g, i) 14 (m0 (1, g, i) 14 + m0 (0, g, j) 3)) (0, g, j) 9 (k_ui m0 (1, g, i) 14 (m0 (1, g, i) 14 + m0 (0, g, j) 3) (1, g, i) 0)) (k_mx gr (m0 (1, g, i) 14 + m0 (0, g, j) 3))) (0, g, j) 3)) := k_num_ui (by simp) (hR _ _ (k_num_ui (by simp) (k_num_ui (by simp) h)))
    repeat' split
    all_goals first | exact ih _ _ h | exact ih _ _ h4 | exact h4
theorem k_num_pf {g : Nat} : ∀ (n j : Nat) (m0 : MemI) (gr : Int32), k_num g m0 → k_num g (f_X2_pf g n j m0 gr) := by
  intro n
  induction n with
  | zero => intro j m0 gr h; exact k_num_np h gr
  | succ n ih =>
    intro j m0 gr h
    rw [f_X2_pf_s]
    split
    · exact ih _ _ _ h
    · exact k_num_te (fun m gr hm => ih (j + 1) m gr hm) gr 6 0 m0 h
set_option maxRecDepth 100000 in
set_option maxHeartbeats 4000000 in
theorem ct_X2_tryEach {Rn : MemI → Int32 → MemI} {nr : Nat} {mi : MemI} {ml : MemL} {g j : Nat} {gr : Int32} (hnr : 1 ≤ nr) (hg : g < 3) (hj : j < 6) (hm0 : k_num g mi) (hRn : ∀ m gr, k_num g m → k_num g (Rn m gr)) (hR : ∀ (mi : MemI) (ml : MemL) (gr : Int32), k_num g mi → k_Ct k_KS k_R0 Mt_X2_partFrom nr [vR (2, g, 0), vI (nI (j + 1)), vI gr] mi ml (k_rt none (Rn mi gr) ml)) : k_Ct k_KS k_R0 Mt_X2_tryEach (nr + 1) [vR (2, g, 0), vR (0, g, j), vI gr] mi ml (k_rt none (f_X2_te Rn g j gr 6 0 mi) ml) := by
  refine k_ofV (L0 := [vR (2, g, 0), vR (0, g, j), vI gr, vU, vU, vU, vU, vU]) (by decide +kernel) (Nat.le_of_ble_eq_true rfl) rfl rfl ?_
  intro p l e s m args below meth c D cy ad bs C
  refine k_aload_n (pc := 0) C dX2_tryEach_0 rfl ?_
  refine k_getR (pc := 1) (r := some (11, g, 0)) C fl_X2_11 (k_in2 hg) rfl rfl rfl dX2_tryEach_1 ?_
  refine k_astore_3 (pc := 4) C dX2_tryEach_4 rfl ?_
  refine k_aload_n (pc := 5) C dX2_tryEach_5 rfl ?_
  refine k_alen (pc := 6) (v := 6) C (k_in11 hg) ⟨Nat.le_of_ble_eq_true rfl, Nat.le_of_ble_eq_true rfl⟩ rfl dX2_tryEach_6 ?_
  refine k_istore_4 (pc := 7) C dX2_tryEach_7 rfl ?_
  refine k_iconst (pc := 9) (v := 0) C dX2_tryEach_9 (by decide) ?_
  refine k_istore_5 (pc := 10) C dX2_tryEach_10 rfl ?_
  have hloop : ∀ (u i : Nat) (m0 : MemI), i + u = 6 → k_num g m0 → f_X2_te Rn g j gr u i m0 = f_X2_te Rn g j gr 6 0 mi → k_V p l e (k_rm (nr + 1)) s m args below meth c D cy ad bs k_KS k_R0 0 0 (k_End below D cy ad bs k_KS k_R0 (k_rt none (f_X2_te Rn g j gr 6 0 mi) ml) args s) m0 ml 12 [vR (2, g, 0), vR (0, g, j), vI gr, vR (11, g, 0), vI 6, vI (nI i), vU, vU] [] := by
    intro u
    induction u with
    | zero =>
      intro i m0 hin hm hres
      refine k_iload (pc := 12) C dX2_tryEach_12 rfl ?_
      refine k_iload (pc := 14) C dX2_tryEach_14 rfl ?_
      refine k_icmp_geT (pc := 16) C 133 dX2_tryEach_16 (by decide) (nI_le (a := 6) (show 6 ≤ i by omega) (by omega)) ?_
      exact k_vret (pc := 133) C rfl (k_fm (by rw [← hres]; rfl)) dX2_tryEach_133
    | succ u ih =>
      intro i m0 hin hm hres
      have hi : i < 6 := by omega
      refine k_iload (pc := 12) C dX2_tryEach_12 rfl ?_
      refine k_iload (pc := 14) C dX2_tryEach_14 rfl ?_
      refine k_icmp_geF (pc := 16) C 133 dX2_tryEach_16 (by decide) (k_nge (n := 6) rfl (by decide) hi) ?_
      refine k_aload_n (pc := 19) C dX2_tryEach_19 rfl ?_
      refine k_iload (pc := 20) C dX2_tryEach_20 rfl ?_
      refine k_aaldX (pc := 22) (j := i) (kr := (1, g, i)) C (nI_clamp (by omega)) (k_in11 hg) (Or.inr (Or.inl rfl)) (vp_in_nI (show _ < (6 : Nat) by omega) (show (6 : Nat) < 2 ^ 31 by decide)) rfl dX2_tryEach_22 ?_
      refine k_astore_6 (pc := 23) C dX2_tryEach_23 rfl ?_
      refine k_aload (pc := 25) C dX2_tryEach_25 rfl ?_
      refine k_getI (pc := 27) C fl_X2_178 (k_in1 hg hi) rfl rfl dX2_tryEach_27 ?_
      refine k_aload_n (pc := 30) C dX2_tryEach_30 rfl ?_
      refine k_getI (pc := 31) C fl_X2_175 (k_in0 hg hj) rfl rfl dX2_tryEach_31 ?_
      refine k_iadd (pc := 34) C dX2_tryEach_34 ?_
      refine k_istore_7 (pc := 35) C dX2_tryEach_35 rfl ?_
      refine k_aload (pc := 37) C dX2_tryEach_37 rfl ?_
      refine k_call0 (pc := 39) C cv_X2_54 (ct_X1_isOpen hg hi) (k_in1 hg hi) rfl (by omega) rfl (Nat.le_of_ble_eq_true rfl) dX2_tryEach_39 ?_
      refine k_if_eq (pc := 42) C 127 dX2_tryEach_42 (by decide) (fun c42 => ?_) (fun c42 => ?_)
      · skip
        refine k_iinc_5 (pc := 127) (v := nI (i + 1)) C dX2_tryEach_127 (k_inc i) rfl ?_
        refine k_goto (pc := 130) C 12 dX2_tryEach_130 (by decide) ?_
        refine k_drop_6 ?_
        refine k_drop_7 ?_
        exact ih (i + 1) m0 (by omega) hm (by rw [← hres, f_X2_te_s, if_pos c42])
      · skip
        refine k_iload (pc := 45) C dX2_tryEach_45 rfl ?_
        refine k_aload (pc := 47) C dX2_tryEach_47 rfl ?_
        refine k_getI (pc := 49) C fl_X2_197 (k_in1 hg hi) rfl rfl dX2_tryEach_49 ?_
        refine k_icmp_gt (pc := 52) C 127 dX2_tryEach_52 (by decide) (fun c52 => ?_) (fun c52 => ?_)
        · skip
          refine k_iinc_5 (pc := 127) (v := nI (i + 1)) C dX2_tryEach_127 (k_inc i) rfl ?_
          refine k_goto (pc := 130) C 12 dX2_tryEach_130 (by decide) ?_
          refine k_drop_6 ?_
          refine k_drop_7 ?_
          exact ih (i + 1) m0 (by omega) hm (by rw [← hres, f_X2_te_s, if_neg c42, if_pos c52])
        · skip
          refine k_iload_n (pc := 55) C dX2_tryEach_55 rfl ?_
          refine k_iload (pc := 56) C dX2_tryEach_56 rfl ?_
          refine k_mmax (pc := 58) C cm_X2_200 cm_max_s cm_i cm_max_c (by omega) rfl (Nat.le_of_ble_eq_true rfl) dX2_tryEach_58 ?_
          refine k_aload_n (pc := 61) C dX2_tryEach_61 rfl ?_
          refine k_getI (pc := 62) C fl_X2_184 (k_in2 hg) rfl rfl dX2_tryEach_62 ?_
          refine k_icmp_lt (pc := 65) C 71 dX2_tryEach_65 (by decide) (fun c65 => ?_) (fun c65 => ?_)
          · skip
            refine k_aload (pc := 71) C dX2_tryEach_71 rfl ?_
            refine k_iload (pc := 73) C dX2_tryEach_73 rfl ?_
            refine k_putI (pc := 75) C pl_X2_178 (k_in1 hg hi) rfl rfl dX2_tryEach_75 ?_
            refine k_aload_n (pc := 78) C dX2_tryEach_78 rfl ?_
            refine k_aload (pc := 79) C dX2_tryEach_79 rfl ?_
            refine k_getI (pc := 81) C fl_X2_169 (k_in1 hg hi) rfl rfl dX2_tryEach_81 ?_
            refine k_putI (pc := 84) C pl_X2_206 (k_in0 hg hj) rfl rfl dX2_tryEach_84 ?_
            refine k_aload_n (pc := 87) C dX2_tryEach_87 rfl ?_
            refine k_aload_n (pc := 88) C dX2_tryEach_88 rfl ?_
            refine k_getI (pc := 89) C fl_X2_132 (k_in0 hg hj) rfl rfl dX2_tryEach_89 ?_
            refine k_iconst (pc := 92) (v := 1) C dX2_tryEach_92 (by decide) ?_
            refine k_iadd (pc := 93) C dX2_tryEach_93 ?_
            refine k_iload_n (pc := 94) C dX2_tryEach_94 rfl ?_
            refine k_iload (pc := 95) C dX2_tryEach_95 rfl ?_
            refine k_mmax (pc := 97) C cm_X2_200 cm_max_s cm_i cm_max_c (by omega) rfl (Nat.le_of_ble_eq_true rfl) dX2_tryEach_97 ?_
            have hm2 : k_num g (k_ui (k_ui m0 (1, g, i) 14 ((m0 (1, g, i) 14) + (m0 (0, g, j) 3))) (0, g, j) 9 ((k_ui m0 (1, g, i) 14 ((m0 (1, g, i) 14) + (m0 (0, g, j) 3))) (1, g, i) 0)) := k_num_ui (by simp) (k_num_ui (by simp) hm)
            have hm4 : k_num g (k_ui (Rn (k_ui (k_ui m0 (1, g, i) 14 ((m0 (1, g, i) 14) + (m0 (0, g, j) 3))) (0, g, j) 9 ((k_ui m0 (1, g, i) 14 ((m0 (1, g, i) 14) + (m0 (0, g, j) 3))) (1, g, i) 0)) (k_mx gr (m0 (1, g, i) 14 + m0 (0, g, j) 3))) (1, g, i) 14 ((m0 (1, g, i) 14 + m0 (0, g, j) 3) - (Rn (k_ui (k_ui m0 (1, g, i) 14 ((m0 (1, g, i) 14) + (m0 (0, g, j) 3))) (0, g, j) 9 ((k_ui m0 (1, g, i) 14 ((m0 (1, g, i) 14) + (m0 (0, g, j) 3))) (1, g, i) 0)) (k_mx gr (m0 (1, g, i) 14 + m0 (0, g, j) 3))) (0, g, j) 3)) := k_num_ui (by simp) (hRn _ _ hm2)
            refine k_castS (st' := [vI (k_mx gr ((m0 (1, g, i) 14) + (m0 (0, g, j) 3))), vI (nI (j + 1)), vR (2, g, 0)]) (by rw [hm2 j hj]; rw [nI_1]) ?_
            refine k_callv2 (pc := 100) C cv_X2_187 (hR _ _ _ hm2) (k_in2 hg) rfl (by omega) rfl (Nat.le_of_ble_eq_true rfl) dX2_tryEach_100 ?_
            refine k_aload (pc := 103) C dX2_tryEach_103 rfl ?_
            refine k_iload (pc := 105) C dX2_tryEach_105 rfl ?_
            refine k_aload_n (pc := 107) C dX2_tryEach_107 rfl ?_
            refine k_getI (pc := 108) C fl_X2_175 (k_in0 hg hj) rfl rfl dX2_tryEach_108 ?_
            refine k_isub (pc := 111) C dX2_tryEach_111 ?_
            refine k_putI (pc := 112) C pl_X2_178 (k_in1 hg hi) rfl rfl dX2_tryEach_112 ?_
            refine k_aload_n (pc := 115) C dX2_tryEach_115 rfl ?_
            refine k_getI (pc := 116) C fl_X2_184 (k_in2 hg) rfl rfl dX2_tryEach_116 ?_
            refine k_aload_n (pc := 119) C dX2_tryEach_119 rfl ?_
            refine k_getI (pc := 120) C fl_X2_181 (k_in2 hg) rfl rfl dX2_tryEach_120 ?_
            refine k_icmp_gt (pc := 123) C 127 dX2_tryEach_123 (by decide) (fun c123 => ?_) (fun c123 => ?_)
            · skip
              refine k_iinc_5 (pc := 127) (v := nI (i + 1)) C dX2_tryEach_127 (k_inc i) rfl ?_
              refine k_goto (pc := 130) C 12 dX2_tryEach_130 (by decide) ?_
              refine k_drop_6 ?_
              refine k_drop_7 ?_
              exact ih (i + 1) (k_ui (Rn (k_ui (k_ui m0 (1, g, i) 14 ((m0 (1, g, i) 14) + (m0 (0, g, j) 3))) (0, g, j) 9 ((k_ui m0 (1, g, i) 14 ((m0 (1, g, i) 14) + (m0 (0, g, j) 3))) (1, g, i) 0)) (k_mx gr ((m0 (1, g, i) 14) + (m0 (0, g, j) 3)))) (1, g, i) 14 (((m0 (1, g, i) 14) + (m0 (0, g, j) 3)) - ((Rn (k_ui (k_ui m0 (1, g, i) 14 ((m0 (1, g, i) 14) + (m0 (0, g, j) 3))) (0, g, j) 9 ((k_ui m0 (1, g, i) 14 ((m0 (1, g, i) 14) + (m0 (0, g, j) 3))) (1, g, i) 0)) (k_mx gr ((m0 (1, g, i) 14) + (m0 (0, g, j) 3)))) (0, g, j) 3))) (by omega) hm4 (by rw [← hres, f_X2_te_s, if_neg c42, if_neg c52, if_pos c65, if_pos c123])
            · skip
              exact k_vret (pc := 126) C rfl (k_fm (by rw [← hres, f_X2_te_s, if_neg c42, if_neg c52, if_pos c65, if_neg c123])) dX2_tryEach_126
          · skip
            refine k_goto (pc := 68) C 127 dX2_tryEach_68 (by decide) ?_
            refine k_iinc_5 (pc := 127) (v := nI (i + 1)) C dX2_tryEach_127 (k_inc i) rfl ?_
            refine k_goto (pc := 130) C 12 dX2_tryEach_130 (by decide) ?_
            refine k_drop_6 ?_
            refine k_drop_7 ?_
            exact ih (i + 1) m0 (by omega) hm (by rw [← hres, f_X2_te_s, if_neg c42, if_neg c52, if_neg c65])
  exact hloop 6 0 mi (by omega) hm0 rfl
set_option maxRecDepth 100000 in
set_option maxHeartbeats 4000000 in
theorem ct_X2_partFrom {g : Nat} (hg : g < 3) : ∀ (n j : Nat) {mi : MemI} {ml : MemL} {gr : Int32}, j + n = 6 → k_num g mi → k_Ct k_KS k_R0 Mt_X2_partFrom (2 * n + 3) [vR (2, g, 0), vI (nI j), vI gr] mi ml (k_rt none (f_X2_pf g n j mi gr) ml) := by
  intro n
  induction n with
  | zero =>
    intro j mi ml gr hjn hm
    refine k_ofV (L0 := [vR (2, g, 0), vI (nI j), vI gr]) (by decide +kernel) (Nat.le_of_ble_eq_true rfl) rfl rfl ?_
    intro p l e s m args below meth c D cy ad bs C
    refine k_iload_n (pc := 0) C dX2_partFrom_0 rfl ?_
    refine k_if_ltF (pc := 1) C 13 dX2_partFrom_1 (by decide) (nI_pos (by omega)) ?_
    refine k_iload_n (pc := 4) C dX2_partFrom_4 rfl ?_
    refine k_aload_n (pc := 5) C dX2_partFrom_5 rfl ?_
    refine k_getR (pc := 6) (r := some (10, g, 0)) C fl_X2_19 (k_in2 hg) rfl rfl rfl dX2_partFrom_6 ?_
    refine k_alen (pc := 9) (v := 6) C (k_in10 hg) ⟨Nat.le_of_ble_eq_true rfl, Nat.le_of_ble_eq_true rfl⟩ rfl dX2_partFrom_9 ?_
    refine k_icmp_ltF (pc := 10) C 19 dX2_partFrom_10 (by decide) (by rw [show j = 6 by omega]; decide) ?_
    refine k_aload_n (pc := 13) C dX2_partFrom_13 rfl ?_
    refine k_iload_n (pc := 14) C dX2_partFrom_14 rfl ?_
    refine k_callv1 (pc := 15) C cv_X2_190 (ct_X2_notePart hg) (k_in2 hg) rfl (by omega) rfl (Nat.le_of_ble_eq_true rfl) dX2_partFrom_15 ?_
    exact k_vret (pc := 18) C rfl (k_fm rfl) dX2_partFrom_18
  | succ n ih =>
    intro j mi ml gr hjn hm
    have hj : j < 6 := by omega
    refine k_ofV (L0 := [vR (2, g, 0), vI (nI j), vI gr]) (by decide +kernel) (Nat.le_of_ble_eq_true rfl) rfl rfl ?_
    intro p l e s m args below meth c D cy ad bs C
    refine k_iload_n (pc := 0) C dX2_partFrom_0 rfl ?_
    refine k_if_ltF (pc := 1) C 13 dX2_partFrom_1 (by decide) (nI_pos (by omega)) ?_
    refine k_iload_n (pc := 4) C dX2_partFrom_4 rfl ?_
    refine k_aload_n (pc := 5) C dX2_partFrom_5 rfl ?_
    refine k_getR (pc := 6) (r := some (10, g, 0)) C fl_X2_19 (k_in2 hg) rfl rfl rfl dX2_partFrom_6 ?_
    refine k_alen (pc := 9) (v := 6) C (k_in10 hg) ⟨Nat.le_of_ble_eq_true rfl, Nat.le_of_ble_eq_true rfl⟩ rfl dX2_partFrom_9 ?_
    refine k_icmp_ltT (pc := 10) C 19 dX2_partFrom_10 (by decide) (nI_lt (b := 6) hj (by decide)) ?_
    refine k_aload_n (pc := 19) C dX2_partFrom_19 rfl ?_
    refine k_getR (pc := 20) (r := some (10, g, 0)) C fl_X2_19 (k_in2 hg) rfl rfl rfl dX2_partFrom_20 ?_
    refine k_iload_n (pc := 23) C dX2_partFrom_23 rfl ?_
    refine k_aaldX (pc := 24) (j := j) (kr := (0, g, j)) C (nI_clamp (by omega)) (k_in10 hg) (Or.inl rfl) (vp_in_nI (show _ < (6 : Nat) by omega) (show (6 : Nat) < 2 ^ 31 by decide)) rfl dX2_partFrom_24 ?_
    refine k_call0 (pc := 25) C cv_X2_62 (ct_X0_comes hg hj) (k_in0 hg hj) rfl (by omega) rfl (Nat.le_of_ble_eq_true rfl) dX2_partFrom_25 ?_
    refine k_if_eq (pc := 28) C 45 dX2_partFrom_28 (by decide) (fun c28 => ?_) (fun c28 => ?_)
    · skip
      refine k_aload_n (pc := 45) C dX2_partFrom_45 rfl ?_
      refine k_iload_n (pc := 46) C dX2_partFrom_46 rfl ?_
      refine k_iconst (pc := 47) (v := 1) C dX2_partFrom_47 (by decide) ?_
      refine k_iadd (pc := 48) C dX2_partFrom_48 ?_
      refine k_iload_n (pc := 49) C dX2_partFrom_49 rfl ?_
      refine k_castS (st' := [vI gr, vI (nI (j + 1)), vR (2, g, 0)]) (by rw [nI_1]) ?_
      refine k_callv2 (pc := 50) C cv_X2_187 (ih (j + 1) (by omega) hm) (k_in2 hg) rfl (by omega) rfl (Nat.le_of_ble_eq_true rfl) dX2_partFrom_50 ?_
      exact k_vret (pc := 53) C rfl (k_fm (by rw [f_X2_pf_s, if_pos c28])) dX2_partFrom_53
    · skip
      refine k_aload_n (pc := 31) C dX2_partFrom_31 rfl ?_
      refine k_aload_n (pc := 32) C dX2_partFrom_32 rfl ?_
      refine k_getR (pc := 33) (r := some (10, g, 0)) C fl_X2_19 (k_in2 hg) rfl rfl rfl dX2_partFrom_33 ?_
      refine k_iload_n (pc := 36) C dX2_partFrom_36 rfl ?_
      refine k_aaldX (pc := 37) (j := j) (kr := (0, g, j)) C (nI_clamp (by omega)) (k_in10 hg) (Or.inl rfl) (vp_in_nI (show _ < (6 : Nat) by omega) (show (6 : Nat) < 2 ^ 31 by decide)) rfl dX2_partFrom_37 ?_
      refine k_iload_n (pc := 38) C dX2_partFrom_38 rfl ?_
      refine k_callv2 (pc := 39) C cv_X2_193 (ct_X2_tryEach (nr := 2 * n + 3) (by omega) hg hj hm (fun m gr h => k_num_pf n (j + 1) m gr h) (fun mi ml gr h => ih (j + 1) (by omega) h)) (k_in2 hg) rfl (by omega) rfl (Nat.le_of_ble_eq_true rfl) dX2_partFrom_39 ?_
      refine k_goto (pc := 42) C 53 dX2_partFrom_42 (by decide) ?_
      exact k_vret (pc := 53) C rfl (k_fm (by rw [f_X2_pf_s, if_neg c28])) dX2_partFrom_53
def f_X2_paL (mi : MemI) (g : Nat) : Nat → MemI
  | 0 => mi
  | j + 1 =>
    k_ui (f_X2_paL mi g j) (1, g, j) 14 0
theorem f_X2_paL_s (mi : MemI) (g : Nat) (j : Nat) : f_X2_paL mi g (j + 1) =
    k_ui (f_X2_paL mi g j) (1, g, j) 14 0 := rfl
def f_X2_paS (mi : MemI) (g : Nat) : Nat → Int32
  | 0 => 0
  | j + 1 =>
    if (f_X0_comes mi g j) = 0 then (f_X2_paS mi g j) + 0
    else (f_X2_paS mi g j) + (mi (0, g, j) 3)
theorem f_X2_paS_s (mi : MemI) (g : Nat) (j : Nat) : f_X2_paS mi g (j + 1) =
    if (f_X0_comes mi g j) = 0 then (f_X2_paS mi g j) + 0
    else (f_X2_paS mi g j) + (mi (0, g, j) 3) := rfl
theorem k_num_pa {g : Nat} {mi : MemI} (h : k_num g mi) : ∀ j, k_num g (f_X2_paL mi g j) := by
  intro j
  induction j with
  | zero => exact h
  | succ j ih => exact k_num_ui (by simp) ih
def f_X2_partAll (mi : MemI) (g : Nat) : Int32 × MemI :=
  if (nI <| f_X2_countOpen (f_X2_paL mi g 6) g 6) ≤ 0 then if ((f_X2_pf g 6 0 (k_ui (k_ui (f_X2_paL mi g 6) (2, g, 0) 7 0) (2, g, 0) 6 1000) 0) (2, g, 0) 6) = 1000 then ((-1), f_X2_pf g 6 0 (k_ui (k_ui (f_X2_paL mi g 6) (2, g, 0) 7 0) (2, g, 0) 6 1000) 0)
    else ((f_X2_pf g 6 0 (k_ui (k_ui (f_X2_paL mi g 6) (2, g, 0) 7 0) (2, g, 0) 6 1000) 0) (2, g, 0) 6, f_X2_pf g 6 0 (k_ui (k_ui (f_X2_paL mi g 6) (2, g, 0) 7 0) (2, g, 0) 6 1000) 0)
  else if ((f_X2_pf g 6 0 (k_ui (k_ui (f_X2_paL mi g 6) (2, g, 0) 7 ((((f_X2_paS mi g 6) + (nI <| f_X2_countOpen (f_X2_paL mi g 6) g 6)) - 1) / (nI <| f_X2_countOpen (f_X2_paL mi g 6) g 6))) (2, g, 0) 6 1000) 0) (2, g, 0) 6) = 1000 then ((-1), f_X2_pf g 6 0 (k_ui (k_ui (f_X2_paL mi g 6) (2, g, 0) 7 ((((f_X2_paS mi g 6) + (nI <| f_X2_countOpen (f_X2_paL mi g 6) g 6)) - 1) / (nI <| f_X2_countOpen (f_X2_paL mi g 6) g 6))) (2, g, 0) 6 1000) 0)
    else ((f_X2_pf g 6 0 (k_ui (k_ui (f_X2_paL mi g 6) (2, g, 0) 7 ((((f_X2_paS mi g 6) + (nI <| f_X2_countOpen (f_X2_paL mi g 6) g 6)) - 1) / (nI <| f_X2_countOpen (f_X2_paL mi g 6) g 6))) (2, g, 0) 6 1000) 0) (2, g, 0) 6, f_X2_pf g 6 0 (k_ui (k_ui (f_X2_paL mi g 6) (2, g, 0) 7 ((((f_X2_paS mi g 6) + (nI <| f_X2_countOpen (f_X2_paL mi g 6) g 6)) - 1) / (nI <| f_X2_countOpen (f_X2_paL mi g 6) g 6))) (2, g, 0) 6 1000) 0)
set_option maxRecDepth 100000 in
set_option maxHeartbeats 4000000 in
theorem ct_X2_partAll {mi : MemI} {ml : MemL} {g : Nat} (hg : g < 3) (hm : k_num g mi) : k_Ct k_KS k_R0 Mt_X2_partAll 16 [vR (2, g, 0)] mi ml (k_rt (some (vI (f_X2_partAll mi g).1)) (f_X2_partAll mi g).2 ml) := by
  refine k_ofV (L0 := [vR (2, g, 0), vU, vU, vU, vU, vU]) (by decide +kernel) (Nat.le_of_ble_eq_true rfl) rfl rfl ?_
  intro p l e s m args below meth c D cy ad bs C
  refine k_iconst (pc := 0) (v := 0) C dX2_partAll_0 (by decide) ?_
  refine k_istore_1 (pc := 1) C dX2_partAll_1 rfl ?_
  refine k_aload_n (pc := 2) C dX2_partAll_2 rfl ?_
  refine k_getR (pc := 3) (r := some (10, g, 0)) C fl_X2_19 (k_in2 hg) rfl rfl rfl dX2_partAll_3 ?_
  refine k_astore_2 (pc := 6) C dX2_partAll_6 rfl ?_
  refine k_aload_n (pc := 7) C dX2_partAll_7 rfl ?_
  refine k_alen (pc := 8) (v := 6) C (k_in10 hg) ⟨Nat.le_of_ble_eq_true rfl, Nat.le_of_ble_eq_true rfl⟩ rfl dX2_partAll_8 ?_
  refine k_istore_3 (pc := 9) C dX2_partAll_9 rfl ?_
  refine k_iconst (pc := 10) (v := 0) C dX2_partAll_10 (by decide) ?_
  refine k_istore_4 (pc := 11) C dX2_partAll_11 rfl ?_
  refine k_cast (L' := [vR (2, g, 0), vI (f_X2_paS mi g 0), vR (10, g, 0), vI 6, vI (nI 0), vU]) (mi' := mi) rfl rfl rfl ?_
  refine k_down (P := fun j => k_V p l e (k_rm 16) s m args below meth c D cy ad bs k_KS k_R0 0 0 (k_End below D cy ad bs k_KS k_R0 (k_rt (some (vI (f_X2_partAll mi g).1)) (f_X2_partAll mi g).2 ml) args s) mi ml 13 [vR (2, g, 0), vI (f_X2_paS mi g j), vR (10, g, 0), vI 6, vI (nI j), vU] []) 6 ?_ (fun j hj hk => ?_)
  · skip
    refine k_iload (pc := 13) C dX2_partAll_13 rfl ?_
    refine k_iload_n (pc := 15) C dX2_partAll_15 rfl ?_
    refine k_icmp_geT (pc := 16) C 51 dX2_partAll_16 (by decide) (by decide) ?_
    refine k_aload_n (pc := 51) C dX2_partAll_51 rfl ?_
    refine k_getR (pc := 52) (r := some (11, g, 0)) C fl_X2_11 (k_in2 hg) rfl rfl rfl dX2_partAll_52 ?_
    refine k_astore_2 (pc := 55) C dX2_partAll_55 rfl ?_
    refine k_aload_n (pc := 56) C dX2_partAll_56 rfl ?_
    refine k_alen (pc := 57) (v := 6) C (k_in11 hg) ⟨Nat.le_of_ble_eq_true rfl, Nat.le_of_ble_eq_true rfl⟩ rfl dX2_partAll_57 ?_
    refine k_istore_3 (pc := 58) C dX2_partAll_58 rfl ?_
    refine k_iconst (pc := 59) (v := 0) C dX2_partAll_59 (by decide) ?_
    refine k_istore_4 (pc := 60) C dX2_partAll_60 rfl ?_
    refine k_cast (L' := [vR (2, g, 0), vI (f_X2_paS mi g 6), vR (11, g, 0), vI 6, vI (nI 0), vU]) (mi' := f_X2_paL mi g 0) rfl rfl rfl ?_
    refine k_down (P := fun j => k_V p l e (k_rm 16) s m args below meth c D cy ad bs k_KS k_R0 0 0 (k_End below D cy ad bs k_KS k_R0 (k_rt (some (vI (f_X2_partAll mi g).1)) (f_X2_partAll mi g).2 ml) args s) (f_X2_paL mi g j) ml 62 [vR (2, g, 0), vI (f_X2_paS mi g 6), vR (11, g, 0), vI 6, vI (nI j), vU] []) 6 ?_ (fun j hj hk => ?_)
    · skip
      refine k_iload (pc := 62) C dX2_partAll_62 rfl ?_
      refine k_iload_n (pc := 64) C dX2_partAll_64 rfl ?_
      refine k_icmp_geT (pc := 65) C 86 dX2_partAll_65 (by decide) (by decide) ?_
      refine k_aload_n (pc := 86) C dX2_partAll_86 rfl ?_
      refine k_call0 (pc := 87) C cv_X2_58 (ct_X2_countOpen hg) (k_in2 hg) rfl (by decide) rfl (Nat.le_of_ble_eq_true rfl) dX2_partAll_87 ?_
      refine k_istore_2 (pc := 90) C dX2_partAll_90 rfl ?_
      refine k_aload_n (pc := 91) C dX2_partAll_91 rfl ?_
      refine k_iload_n (pc := 92) C dX2_partAll_92 rfl ?_
      refine k_if_le (pc := 93) C 106 dX2_partAll_93 (by decide) (fun c93 => ?_) (fun c93 => ?_)
      · skip
        refine k_iconst (pc := 106) (v := 0) C dX2_partAll_106 (by decide) ?_
        refine k_putI (pc := 107) C pl_X2_181 (k_in2 hg) rfl rfl dX2_partAll_107 ?_
        refine k_aload_n (pc := 110) C dX2_partAll_110 rfl ?_
        refine k_sipush (pc := 111) (v := 1000) C dX2_partAll_111 (by decide) ?_
        refine k_putI (pc := 114) C pl_X2_184 (k_in2 hg) rfl rfl dX2_partAll_114 ?_
        refine k_aload_n (pc := 117) C dX2_partAll_117 rfl ?_
        refine k_iconst (pc := 118) (v := 0) C dX2_partAll_118 (by decide) ?_
        refine k_iconst (pc := 119) (v := 0) C dX2_partAll_119 (by decide) ?_
        refine k_callv2 (pc := 120) C cv_X2_187 (ct_X2_partFrom hg 6 0 (by omega) (k_num_ui (by simp) (k_num_ui (by simp) (k_num_pa hm 6)))) (k_in2 hg) rfl (by decide) rfl (Nat.le_of_ble_eq_true rfl) dX2_partAll_120 ?_
        refine k_aload_n (pc := 123) C dX2_partAll_123 rfl ?_
        refine k_getI (pc := 124) C fl_X2_184 (k_in2 hg) rfl rfl dX2_partAll_124 ?_
        refine k_sipush (pc := 127) (v := 1000) C dX2_partAll_127 (by decide) ?_
        refine k_icmp_ne (pc := 130) C 137 dX2_partAll_130 (by decide) (fun c130 => ?_) (fun c130 => ?_)
        · skip
          refine k_aload_n (pc := 137) C dX2_partAll_137 rfl ?_
          refine k_getI (pc := 138) C fl_X2_184 (k_in2 hg) rfl rfl dX2_partAll_138 ?_
          exact k_iret (pc := 141) C rfl  (k_fIm (by unfold f_X2_partAll; rw [if_pos c93, if_neg c130]; try rfl)) dX2_partAll_141
        · skip
          refine k_iconst (pc := 133) (v := (-1)) C dX2_partAll_133 (by decide) ?_
          refine k_goto (pc := 134) C 141 dX2_partAll_134 (by decide) ?_
          exact k_iret (pc := 141) C rfl  (k_fIm (by unfold f_X2_partAll; rw [if_pos c93, if_pos c130]; try rfl)) dX2_partAll_141
      · skip
        refine k_iload_n (pc := 96) C dX2_partAll_96 rfl ?_
        refine k_iload_n (pc := 97) C dX2_partAll_97 rfl ?_
        refine k_iadd (pc := 98) C dX2_partAll_98 ?_
        refine k_iconst (pc := 99) (v := 1) C dX2_partAll_99 (by decide) ?_
        refine k_isub (pc := 100) C dX2_partAll_100 ?_
        refine k_iload_n (pc := 101) C dX2_partAll_101 rfl ?_
        refine k_idiv (pc := 102) C dX2_partAll_102 (by first | assumption | exact k_ne0 (by assumption)) ?_
        refine k_goto (pc := 103) C 107 dX2_partAll_103 (by decide) ?_
        refine k_putI (pc := 107) C pl_X2_181 (k_in2 hg) rfl rfl dX2_partAll_107 ?_
        refine k_aload_n (pc := 110) C dX2_partAll_110 rfl ?_
        refine k_sipush (pc := 111) (v := 1000) C dX2_partAll_111 (by decide) ?_
        refine k_putI (pc := 114) C pl_X2_184 (k_in2 hg) rfl rfl dX2_partAll_114 ?_
        refine k_aload_n (pc := 117) C dX2_partAll_117 rfl ?_
        refine k_iconst (pc := 118) (v := 0) C dX2_partAll_118 (by decide) ?_
        refine k_iconst (pc := 119) (v := 0) C dX2_partAll_119 (by decide) ?_
        refine k_callv2 (pc := 120) C cv_X2_187 (ct_X2_partFrom hg 6 0 (by omega) (k_num_ui (by simp) (k_num_ui (by simp) (k_num_pa hm 6)))) (k_in2 hg) rfl (by decide) rfl (Nat.le_of_ble_eq_true rfl) dX2_partAll_120 ?_
        refine k_aload_n (pc := 123) C dX2_partAll_123 rfl ?_
        refine k_getI (pc := 124) C fl_X2_184 (k_in2 hg) rfl rfl dX2_partAll_124 ?_
        refine k_sipush (pc := 127) (v := 1000) C dX2_partAll_127 (by decide) ?_
        refine k_icmp_ne (pc := 130) C 137 dX2_partAll_130 (by decide) (fun c130 => ?_) (fun c130 => ?_)
        · skip
          refine k_aload_n (pc := 137) C dX2_partAll_137 rfl ?_
          refine k_getI (pc := 138) C fl_X2_184 (k_in2 hg) rfl rfl dX2_partAll_138 ?_
          exact k_iret (pc := 141) C rfl  (k_fIm (by unfold f_X2_partAll; rw [if_neg c93, if_neg c130]; try rfl)) dX2_partAll_141
        · skip
          refine k_iconst (pc := 133) (v := (-1)) C dX2_partAll_133 (by decide) ?_
          refine k_goto (pc := 134) C 141 dX2_partAll_134 (by decide) ?_
          exact k_iret (pc := 141) C rfl  (k_fIm (by unfold f_X2_partAll; rw [if_neg c93, if_pos c130]; try rfl)) dX2_partAll_141
    · skip
      try dsimp only at hk
      refine k_iload (pc := 62) C dX2_partAll_62 rfl ?_
      refine k_iload_n (pc := 64) C dX2_partAll_64 rfl ?_
      refine k_icmp_geF (pc := 65) C 86 dX2_partAll_65 (by decide) (k_nge (n := 6) rfl (by decide) hj) ?_
      refine k_aload_n (pc := 68) C dX2_partAll_68 rfl ?_
      refine k_iload (pc := 69) C dX2_partAll_69 rfl ?_
      refine k_aaldX (pc := 71) (j := j) (kr := (1, g, j)) C (nI_clamp (by omega)) (k_in11 hg) (Or.inr (Or.inl rfl)) (vp_in_nI (show _ < (6 : Nat) by omega) (show (6 : Nat) < 2 ^ 31 by decide)) rfl dX2_partAll_71 ?_
      refine k_astore_5 (pc := 72) C dX2_partAll_72 rfl ?_
      refine k_aload (pc := 74) C dX2_partAll_74 rfl ?_
      refine k_iconst (pc := 76) (v := 0) C dX2_partAll_76 (by decide) ?_
      refine k_putI (pc := 77) C pl_X2_178 (k_in1 hg hj) rfl rfl dX2_partAll_77 ?_
      refine k_iinc_4 (pc := 80) (v := nI (j + 1)) C dX2_partAll_80 (k_inc j) rfl ?_
      refine k_goto (pc := 83) C 62 dX2_partAll_83 (by decide) ?_
      refine k_drop_5 ?_
      exact k_cast rfl (by rw [f_X2_paL_s]) rfl hk
  · skip
    try dsimp only at hk
    refine k_iload (pc := 13) C dX2_partAll_13 rfl ?_
    refine k_iload_n (pc := 15) C dX2_partAll_15 rfl ?_
    refine k_icmp_geF (pc := 16) C 51 dX2_partAll_16 (by decide) (k_nge (n := 6) rfl (by decide) hj) ?_
    refine k_aload_n (pc := 19) C dX2_partAll_19 rfl ?_
    refine k_iload (pc := 20) C dX2_partAll_20 rfl ?_
    refine k_aaldX (pc := 22) (j := j) (kr := (0, g, j)) C (nI_clamp (by omega)) (k_in10 hg) (Or.inl rfl) (vp_in_nI (show _ < (6 : Nat) by omega) (show (6 : Nat) < 2 ^ 31 by decide)) rfl dX2_partAll_22 ?_
    refine k_astore_5 (pc := 23) C dX2_partAll_23 rfl ?_
    refine k_iload_n (pc := 25) C dX2_partAll_25 rfl ?_
    refine k_aload (pc := 26) C dX2_partAll_26 rfl ?_
    refine k_call0 (pc := 28) C cv_X2_62 (ct_X0_comes hg hj) (k_in0 hg hj) rfl (by decide) rfl (Nat.le_of_ble_eq_true rfl) dX2_partAll_28 ?_
    refine k_if_eq (pc := 31) C 42 dX2_partAll_31 (by decide) (fun c31 => ?_) (fun c31 => ?_)
    · skip
      refine k_iconst (pc := 42) (v := 0) C dX2_partAll_42 (by decide) ?_
      refine k_iadd (pc := 43) C dX2_partAll_43 ?_
      refine k_istore_1 (pc := 44) C dX2_partAll_44 rfl ?_
      refine k_iinc_4 (pc := 45) (v := nI (j + 1)) C dX2_partAll_45 (k_inc j) rfl ?_
      refine k_goto (pc := 48) C 13 dX2_partAll_48 (by decide) ?_
      refine k_drop_5 ?_
      exact k_cast (by rw [f_X2_paS_s, if_pos c31]) rfl rfl hk
    · skip
      refine k_aload (pc := 34) C dX2_partAll_34 rfl ?_
      refine k_getI (pc := 36) C fl_X2_175 (k_in0 hg hj) rfl rfl dX2_partAll_36 ?_
      refine k_goto (pc := 39) C 43 dX2_partAll_39 (by decide) ?_
      refine k_iadd (pc := 43) C dX2_partAll_43 ?_
      refine k_istore_1 (pc := 44) C dX2_partAll_44 rfl ?_
      refine k_iinc_4 (pc := 45) (v := nI (j + 1)) C dX2_partAll_45 (k_inc j) rfl ?_
      refine k_goto (pc := 48) C 13 dX2_partAll_48 (by decide) ?_
      refine k_drop_5 ?_
      exact k_cast (by rw [f_X2_paS_s, if_neg c31]) rfl rfl hk
