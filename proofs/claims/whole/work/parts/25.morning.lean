/-! City: a morning -/
def f_X2_openAtR (mi : MemI) (g : Nat) : Nat → Nat → Int32 → Nat
  | 0, _, _ => 6
  | n + 1, j, x => if f_X1_isOpen mi g j = 0 then f_X2_openAtR mi g n (j + 1) x else if x = 0 then j else f_X2_openAtR mi g n (j + 1) (x + (-1))
theorem f_X2_openAtR_s (mi : MemI) (g n j : Nat) (x : Int32) : f_X2_openAtR mi g (n + 1) j x = if f_X1_isOpen mi g j = 0 then f_X2_openAtR mi g n (j + 1) x else if x = 0 then j else f_X2_openAtR mi g n (j + 1) (x + (-1)) := rfl
def f_X2_openAt (mi : MemI) (g : Nat) (x : Int32) : Nat := f_X2_openAtR mi g 6 0 x
set_option maxRecDepth 100000 in
set_option maxHeartbeats 4000000 in
theorem ct_X2_openAt_s {mi : MemI} {ml : MemL} {g : Nat} {x : Int32} (hg : g < 3) (h : f_X2_openAt mi g x < 6) : k_Ct k_KS k_R0 Mt_X2_openAt 1 [vR (2, g, 0), vI x] mi ml (k_rt (some (vR (1, g, (f_X2_openAt mi g x)))) mi ml) := by
  refine k_ofV (L0 := [vR (2, g, 0), vI x, vU, vU, vU, vU, vU]) (by decide +kernel) (Nat.le_of_ble_eq_true rfl) rfl rfl ?_
  intro p l e s m args below meth c D cy ad bs C
  refine k_iload_n (pc := 0) C dX2_openAt_0 rfl ?_
  refine k_istore_2 (pc := 1) C dX2_openAt_1 rfl ?_
  refine k_aload_n (pc := 2) C dX2_openAt_2 rfl ?_
  refine k_getR (pc := 3) (r := some (11, g, 0)) C fl_X2_11 (k_in2 hg) rfl rfl rfl dX2_openAt_3 ?_
  refine k_astore_3 (pc := 6) C dX2_openAt_6 rfl ?_
  refine k_aload_n (pc := 7) C dX2_openAt_7 rfl ?_
  refine k_alen (pc := 8) (v := 6) C (k_in11 hg) ⟨Nat.le_of_ble_eq_true rfl, Nat.le_of_ble_eq_true rfl⟩ rfl dX2_openAt_8 ?_
  refine k_istore_4 (pc := 9) C dX2_openAt_9 rfl ?_
  refine k_iconst (pc := 11) (v := 0) C dX2_openAt_11 (by decide) ?_
  refine k_istore_5 (pc := 12) C dX2_openAt_12 rfl ?_
  have hloop : ∀ (n j : Nat) (lf : Int32), j + n = 6 → f_X2_openAtR mi g n j lf = f_X2_openAt mi g x → k_V p l e (k_rm 1) s m args below meth c D cy ad bs k_KS k_R0 0 0 (k_End below D cy ad bs k_KS k_R0 (k_rt (some (vR (1, g, (f_X2_openAt mi g x)))) mi ml) args s) mi ml 14 [vR (2, g, 0), vI x, vI lf, vR (11, g, 0), vI 6, vI (nI j), vU] [] := by
    intro n
    induction n with
    | zero =>
      intro j lf hjn hres
      obtain rfl : j = 6 := by omega
      refine k_iload (pc := 14) C dX2_openAt_14 rfl ?_
      refine k_iload (pc := 16) C dX2_openAt_16 rfl ?_
      refine k_icmp_geT (pc := 18) C 51 dX2_openAt_18 (by decide) (by decide) ?_
      refine k_null (pc := 51) C dX2_openAt_51 ?_
      exact absurd h (by rw [← hres]; exact Nat.lt_irrefl 6)
    | succ n ih =>
      intro j lf hjn hres
      have hj : j < 6 := by omega
      refine k_iload (pc := 14) C dX2_openAt_14 rfl ?_
      refine k_iload (pc := 16) C dX2_openAt_16 rfl ?_
      refine k_icmp_geF (pc := 18) C 51 dX2_openAt_18 (by decide) (k_nge (n := 6) rfl (by decide) hj) ?_
      refine k_aload_n (pc := 21) C dX2_openAt_21 rfl ?_
      refine k_iload (pc := 22) C dX2_openAt_22 rfl ?_
      refine k_aaldX (pc := 24) (j := j) (kr := (1, g, j)) C (nI_clamp (by omega)) (k_in11 hg) (Or.inr (Or.inl rfl)) (vp_in_nI (show _ < (6 : Nat) by omega) (show (6 : Nat) < 2 ^ 31 by decide)) rfl dX2_openAt_24 ?_
      refine k_astore_6 (pc := 25) C dX2_openAt_25 rfl ?_
      refine k_aload (pc := 27) C dX2_openAt_27 rfl ?_
      refine k_call0 (pc := 29) C cv_X2_54 (ct_X1_isOpen hg hj) (k_in1 hg hj) rfl (by decide) rfl (Nat.le_of_ble_eq_true rfl) dX2_openAt_29 ?_
      refine k_if_eq (pc := 32) C 45 dX2_openAt_32 (by decide) (fun c32 => ?_) (fun c32 => ?_)
      · skip
        refine k_iinc_5 (pc := 45) (v := nI (j + 1)) C dX2_openAt_45 (k_inc j) rfl ?_
        refine k_goto (pc := 48) C 14 dX2_openAt_48 (by decide) ?_
        refine k_drop_6 ?_
        exact ih (j + 1) lf (by omega) (by rw [← hres, f_X2_openAtR_s, if_pos c32])
      · skip
        refine k_iload_n (pc := 35) C dX2_openAt_35 rfl ?_
        refine k_if_ne (pc := 36) C 42 dX2_openAt_36 (by decide) (fun c36 => ?_) (fun c36 => ?_)
        · skip
          refine k_iinc_2 (pc := 42) (v := lf + (-1)) C dX2_openAt_42 rfl rfl ?_
          refine k_iinc_5 (pc := 45) (v := nI (j + 1)) C dX2_openAt_45 (k_inc j) rfl ?_
          refine k_goto (pc := 48) C 14 dX2_openAt_48 (by decide) ?_
          refine k_drop_6 ?_
          exact ih (j + 1) (lf + (-1)) (by omega) (by rw [← hres, f_X2_openAtR_s, if_neg c32, if_neg c36])
        · skip
          refine k_aload (pc := 39) C dX2_openAt_39 rfl ?_
          exact k_aret (pc := 41) (x := some (1, g, j)) C rfl (Or.inl ⟨_, rfl⟩) (k_fR (by rw [← hres, f_X2_openAtR_s, if_neg c32, if_pos c36])) dX2_openAt_41
  exact hloop 6 0 x rfl rfl
set_option maxRecDepth 100000 in
set_option maxHeartbeats 4000000 in
theorem ct_X2_openAt_n {mi : MemI} {ml : MemL} {g : Nat} {x : Int32} (hg : g < 3) (h : ¬ f_X2_openAt mi g x < 6) : k_Ct k_KS k_R0 Mt_X2_openAt 1 [vR (2, g, 0), vI x] mi ml (k_rt (some vN) mi ml) := by
  refine k_ofV (L0 := [vR (2, g, 0), vI x, vU, vU, vU, vU, vU]) (by decide +kernel) (Nat.le_of_ble_eq_true rfl) rfl rfl ?_
  intro p l e s m args below meth c D cy ad bs C
  refine k_iload_n (pc := 0) C dX2_openAt_0 rfl ?_
  refine k_istore_2 (pc := 1) C dX2_openAt_1 rfl ?_
  refine k_aload_n (pc := 2) C dX2_openAt_2 rfl ?_
  refine k_getR (pc := 3) (r := some (11, g, 0)) C fl_X2_11 (k_in2 hg) rfl rfl rfl dX2_openAt_3 ?_
  refine k_astore_3 (pc := 6) C dX2_openAt_6 rfl ?_
  refine k_aload_n (pc := 7) C dX2_openAt_7 rfl ?_
  refine k_alen (pc := 8) (v := 6) C (k_in11 hg) ⟨Nat.le_of_ble_eq_true rfl, Nat.le_of_ble_eq_true rfl⟩ rfl dX2_openAt_8 ?_
  refine k_istore_4 (pc := 9) C dX2_openAt_9 rfl ?_
  refine k_iconst (pc := 11) (v := 0) C dX2_openAt_11 (by decide) ?_
  refine k_istore_5 (pc := 12) C dX2_openAt_12 rfl ?_
  have hloop : ∀ (n j : Nat) (lf : Int32), j + n = 6 → f_X2_openAtR mi g n j lf = f_X2_openAt mi g x → k_V p l e (k_rm 1) s m args below meth c D cy ad bs k_KS k_R0 0 0 (k_End below D cy ad bs k_KS k_R0 (k_rt (some vN) mi ml) args s) mi ml 14 [vR (2, g, 0), vI x, vI lf, vR (11, g, 0), vI 6, vI (nI j), vU] [] := by
    intro n
    induction n with
    | zero =>
      intro j lf hjn hres
      obtain rfl : j = 6 := by omega
      refine k_iload (pc := 14) C dX2_openAt_14 rfl ?_
      refine k_iload (pc := 16) C dX2_openAt_16 rfl ?_
      refine k_icmp_geT (pc := 18) C 51 dX2_openAt_18 (by decide) (by decide) ?_
      refine k_null (pc := 51) C dX2_openAt_51 ?_
      exact k_aret (pc := 52) (x := none) C rfl (Or.inl ⟨_, rfl⟩) k_rt_rf dX2_openAt_52
    | succ n ih =>
      intro j lf hjn hres
      have hj : j < 6 := by omega
      refine k_iload (pc := 14) C dX2_openAt_14 rfl ?_
      refine k_iload (pc := 16) C dX2_openAt_16 rfl ?_
      refine k_icmp_geF (pc := 18) C 51 dX2_openAt_18 (by decide) (k_nge (n := 6) rfl (by decide) hj) ?_
      refine k_aload_n (pc := 21) C dX2_openAt_21 rfl ?_
      refine k_iload (pc := 22) C dX2_openAt_22 rfl ?_
      refine k_aaldX (pc := 24) (j := j) (kr := (1, g, j)) C (nI_clamp (by omega)) (k_in11 hg) (Or.inr (Or.inl rfl)) (vp_in_nI (show _ < (6 : Nat) by omega) (show (6 : Nat) < 2 ^ 31 by decide)) rfl dX2_openAt_24 ?_
      refine k_astore_6 (pc := 25) C dX2_openAt_25 rfl ?_
      refine k_aload (pc := 27) C dX2_openAt_27 rfl ?_
      refine k_call0 (pc := 29) C cv_X2_54 (ct_X1_isOpen hg hj) (k_in1 hg hj) rfl (by decide) rfl (Nat.le_of_ble_eq_true rfl) dX2_openAt_29 ?_
      refine k_if_eq (pc := 32) C 45 dX2_openAt_32 (by decide) (fun c32 => ?_) (fun c32 => ?_)
      · skip
        refine k_iinc_5 (pc := 45) (v := nI (j + 1)) C dX2_openAt_45 (k_inc j) rfl ?_
        refine k_goto (pc := 48) C 14 dX2_openAt_48 (by decide) ?_
        refine k_drop_6 ?_
        exact ih (j + 1) lf (by omega) (by rw [← hres, f_X2_openAtR_s, if_pos c32])
      · skip
        refine k_iload_n (pc := 35) C dX2_openAt_35 rfl ?_
        refine k_if_ne (pc := 36) C 42 dX2_openAt_36 (by decide) (fun c36 => ?_) (fun c36 => ?_)
        · skip
          refine k_iinc_2 (pc := 42) (v := lf + (-1)) C dX2_openAt_42 rfl rfl ?_
          refine k_iinc_5 (pc := 45) (v := nI (j + 1)) C dX2_openAt_45 (k_inc j) rfl ?_
          refine k_goto (pc := 48) C 14 dX2_openAt_48 (by decide) ?_
          refine k_drop_6 ?_
          exact ih (j + 1) (lf + (-1)) (by omega) (by rw [← hres, f_X2_openAtR_s, if_neg c32, if_neg c36])
        · skip
          refine k_aload (pc := 39) C dX2_openAt_39 rfl ?_
          exact absurd (by rw [← hres, f_X2_openAtR_s, if_neg c32, if_pos c36]; exact hj) h
  exact hloop 6 0 x rfl rfl
def f_X2_comingAtR (mi : MemI) (g : Nat) : Nat → Nat → Int32 → Nat
  | 0, _, _ => 6
  | n + 1, j, x => if f_X0_comes mi g j = 0 then f_X2_comingAtR mi g n (j + 1) x else if x = 0 then j else f_X2_comingAtR mi g n (j + 1) (x + (-1))
theorem f_X2_comingAtR_s (mi : MemI) (g n j : Nat) (x : Int32) : f_X2_comingAtR mi g (n + 1) j x = if f_X0_comes mi g j = 0 then f_X2_comingAtR mi g n (j + 1) x else if x = 0 then j else f_X2_comingAtR mi g n (j + 1) (x + (-1)) := rfl
def f_X2_comingAt (mi : MemI) (g : Nat) (x : Int32) : Nat := f_X2_comingAtR mi g 6 0 x
set_option maxRecDepth 100000 in
set_option maxHeartbeats 4000000 in
theorem ct_X2_comingAt_s {mi : MemI} {ml : MemL} {g : Nat} {x : Int32} (hg : g < 3) (h : f_X2_comingAt mi g x < 6) : k_Ct k_KS k_R0 Mt_X2_comingAt 1 [vR (2, g, 0), vI x] mi ml (k_rt (some (vR (0, g, (f_X2_comingAt mi g x)))) mi ml) := by
  refine k_ofV (L0 := [vR (2, g, 0), vI x, vU, vU, vU, vU, vU]) (by decide +kernel) (Nat.le_of_ble_eq_true rfl) rfl rfl ?_
  intro p l e s m args below meth c D cy ad bs C
  refine k_iload_n (pc := 0) C dX2_comingAt_0 rfl ?_
  refine k_istore_2 (pc := 1) C dX2_comingAt_1 rfl ?_
  refine k_aload_n (pc := 2) C dX2_comingAt_2 rfl ?_
  refine k_getR (pc := 3) (r := some (10, g, 0)) C fl_X2_19 (k_in2 hg) rfl rfl rfl dX2_comingAt_3 ?_
  refine k_astore_3 (pc := 6) C dX2_comingAt_6 rfl ?_
  refine k_aload_n (pc := 7) C dX2_comingAt_7 rfl ?_
  refine k_alen (pc := 8) (v := 6) C (k_in10 hg) ⟨Nat.le_of_ble_eq_true rfl, Nat.le_of_ble_eq_true rfl⟩ rfl dX2_comingAt_8 ?_
  refine k_istore_4 (pc := 9) C dX2_comingAt_9 rfl ?_
  refine k_iconst (pc := 11) (v := 0) C dX2_comingAt_11 (by decide) ?_
  refine k_istore_5 (pc := 12) C dX2_comingAt_12 rfl ?_
  have hloop : ∀ (n j : Nat) (lf : Int32), j + n = 6 → f_X2_comingAtR mi g n j lf = f_X2_comingAt mi g x → k_V p l e (k_rm 1) s m args below meth c D cy ad bs k_KS k_R0 0 0 (k_End below D cy ad bs k_KS k_R0 (k_rt (some (vR (0, g, (f_X2_comingAt mi g x)))) mi ml) args s) mi ml 14 [vR (2, g, 0), vI x, vI lf, vR (10, g, 0), vI 6, vI (nI j), vU] [] := by
    intro n
    induction n with
    | zero =>
      intro j lf hjn hres
      obtain rfl : j = 6 := by omega
      refine k_iload (pc := 14) C dX2_comingAt_14 rfl ?_
      refine k_iload (pc := 16) C dX2_comingAt_16 rfl ?_
      refine k_icmp_geT (pc := 18) C 51 dX2_comingAt_18 (by decide) (by decide) ?_
      refine k_null (pc := 51) C dX2_comingAt_51 ?_
      exact absurd h (by rw [← hres]; exact Nat.lt_irrefl 6)
    | succ n ih =>
      intro j lf hjn hres
      have hj : j < 6 := by omega
      refine k_iload (pc := 14) C dX2_comingAt_14 rfl ?_
      refine k_iload (pc := 16) C dX2_comingAt_16 rfl ?_
      refine k_icmp_geF (pc := 18) C 51 dX2_comingAt_18 (by decide) (k_nge (n := 6) rfl (by decide) hj) ?_
      refine k_aload_n (pc := 21) C dX2_comingAt_21 rfl ?_
      refine k_iload (pc := 22) C dX2_comingAt_22 rfl ?_
      refine k_aaldX (pc := 24) (j := j) (kr := (0, g, j)) C (nI_clamp (by omega)) (k_in10 hg) (Or.inl rfl) (vp_in_nI (show _ < (6 : Nat) by omega) (show (6 : Nat) < 2 ^ 31 by decide)) rfl dX2_comingAt_24 ?_
      refine k_astore_6 (pc := 25) C dX2_comingAt_25 rfl ?_
      refine k_aload (pc := 27) C dX2_comingAt_27 rfl ?_
      refine k_call0 (pc := 29) C cv_X2_62 (ct_X0_comes hg hj) (k_in0 hg hj) rfl (by decide) rfl (Nat.le_of_ble_eq_true rfl) dX2_comingAt_29 ?_
      refine k_if_eq (pc := 32) C 45 dX2_comingAt_32 (by decide) (fun c32 => ?_) (fun c32 => ?_)
      · skip
        refine k_iinc_5 (pc := 45) (v := nI (j + 1)) C dX2_comingAt_45 (k_inc j) rfl ?_
        refine k_goto (pc := 48) C 14 dX2_comingAt_48 (by decide) ?_
        refine k_drop_6 ?_
        exact ih (j + 1) lf (by omega) (by rw [← hres, f_X2_comingAtR_s, if_pos c32])
      · skip
        refine k_iload_n (pc := 35) C dX2_comingAt_35 rfl ?_
        refine k_if_ne (pc := 36) C 42 dX2_comingAt_36 (by decide) (fun c36 => ?_) (fun c36 => ?_)
        · skip
          refine k_iinc_2 (pc := 42) (v := lf + (-1)) C dX2_comingAt_42 rfl rfl ?_
          refine k_iinc_5 (pc := 45) (v := nI (j + 1)) C dX2_comingAt_45 (k_inc j) rfl ?_
          refine k_goto (pc := 48) C 14 dX2_comingAt_48 (by decide) ?_
          refine k_drop_6 ?_
          exact ih (j + 1) (lf + (-1)) (by omega) (by rw [← hres, f_X2_comingAtR_s, if_neg c32, if_neg c36])
        · skip
          refine k_aload (pc := 39) C dX2_comingAt_39 rfl ?_
          exact k_aret (pc := 41) (x := some (0, g, j)) C rfl (Or.inl ⟨_, rfl⟩) (k_fR (by rw [← hres, f_X2_comingAtR_s, if_neg c32, if_pos c36])) dX2_comingAt_41
  exact hloop 6 0 x rfl rfl
set_option maxRecDepth 100000 in
set_option maxHeartbeats 4000000 in
theorem ct_X2_comingAt_n {mi : MemI} {ml : MemL} {g : Nat} {x : Int32} (hg : g < 3) (h : ¬ f_X2_comingAt mi g x < 6) : k_Ct k_KS k_R0 Mt_X2_comingAt 1 [vR (2, g, 0), vI x] mi ml (k_rt (some vN) mi ml) := by
  refine k_ofV (L0 := [vR (2, g, 0), vI x, vU, vU, vU, vU, vU]) (by decide +kernel) (Nat.le_of_ble_eq_true rfl) rfl rfl ?_
  intro p l e s m args below meth c D cy ad bs C
  refine k_iload_n (pc := 0) C dX2_comingAt_0 rfl ?_
  refine k_istore_2 (pc := 1) C dX2_comingAt_1 rfl ?_
  refine k_aload_n (pc := 2) C dX2_comingAt_2 rfl ?_
  refine k_getR (pc := 3) (r := some (10, g, 0)) C fl_X2_19 (k_in2 hg) rfl rfl rfl dX2_comingAt_3 ?_
  refine k_astore_3 (pc := 6) C dX2_comingAt_6 rfl ?_
  refine k_aload_n (pc := 7) C dX2_comingAt_7 rfl ?_
  refine k_alen (pc := 8) (v := 6) C (k_in10 hg) ⟨Nat.le_of_ble_eq_true rfl, Nat.le_of_ble_eq_true rfl⟩ rfl dX2_comingAt_8 ?_
  refine k_istore_4 (pc := 9) C dX2_comingAt_9 rfl ?_
  refine k_iconst (pc := 11) (v := 0) C dX2_comingAt_11 (by decide) ?_
  refine k_istore_5 (pc := 12) C dX2_comingAt_12 rfl ?_
  have hloop : ∀ (n j : Nat) (lf : Int32), j + n = 6 → f_X2_comingAtR mi g n j lf = f_X2_comingAt mi g x → k_V p l e (k_rm 1) s m args below meth c D cy ad bs k_KS k_R0 0 0 (k_End below D cy ad bs k_KS k_R0 (k_rt (some vN) mi ml) args s) mi ml 14 [vR (2, g, 0), vI x, vI lf, vR (10, g, 0), vI 6, vI (nI j), vU] [] := by
    intro n
    induction n with
    | zero =>
      intro j lf hjn hres
      obtain rfl : j = 6 := by omega
      refine k_iload (pc := 14) C dX2_comingAt_14 rfl ?_
      refine k_iload (pc := 16) C dX2_comingAt_16 rfl ?_
      refine k_icmp_geT (pc := 18) C 51 dX2_comingAt_18 (by decide) (by decide) ?_
      refine k_null (pc := 51) C dX2_comingAt_51 ?_
      exact k_aret (pc := 52) (x := none) C rfl (Or.inl ⟨_, rfl⟩) k_rt_rf dX2_comingAt_52
    | succ n ih =>
      intro j lf hjn hres
      have hj : j < 6 := by omega
      refine k_iload (pc := 14) C dX2_comingAt_14 rfl ?_
      refine k_iload (pc := 16) C dX2_comingAt_16 rfl ?_
      refine k_icmp_geF (pc := 18) C 51 dX2_comingAt_18 (by decide) (k_nge (n := 6) rfl (by decide) hj) ?_
      refine k_aload_n (pc := 21) C dX2_comingAt_21 rfl ?_
      refine k_iload (pc := 22) C dX2_comingAt_22 rfl ?_
      refine k_aaldX (pc := 24) (j := j) (kr := (0, g, j)) C (nI_clamp (by omega)) (k_in10 hg) (Or.inl rfl) (vp_in_nI (show _ < (6 : Nat) by omega) (show (6 : Nat) < 2 ^ 31 by decide)) rfl dX2_comingAt_24 ?_
      refine k_astore_6 (pc := 25) C dX2_comingAt_25 rfl ?_
      refine k_aload (pc := 27) C dX2_comingAt_27 rfl ?_
      refine k_call0 (pc := 29) C cv_X2_62 (ct_X0_comes hg hj) (k_in0 hg hj) rfl (by decide) rfl (Nat.le_of_ble_eq_true rfl) dX2_comingAt_29 ?_
      refine k_if_eq (pc := 32) C 45 dX2_comingAt_32 (by decide) (fun c32 => ?_) (fun c32 => ?_)
      · skip
        refine k_iinc_5 (pc := 45) (v := nI (j + 1)) C dX2_comingAt_45 (k_inc j) rfl ?_
        refine k_goto (pc := 48) C 14 dX2_comingAt_48 (by decide) ?_
        refine k_drop_6 ?_
        exact ih (j + 1) lf (by omega) (by rw [← hres, f_X2_comingAtR_s, if_pos c32])
      · skip
        refine k_iload_n (pc := 35) C dX2_comingAt_35 rfl ?_
        refine k_if_ne (pc := 36) C 42 dX2_comingAt_36 (by decide) (fun c36 => ?_) (fun c36 => ?_)
        · skip
          refine k_iinc_2 (pc := 42) (v := lf + (-1)) C dX2_comingAt_42 rfl rfl ?_
          refine k_iinc_5 (pc := 45) (v := nI (j + 1)) C dX2_comingAt_45 (k_inc j) rfl ?_
          refine k_goto (pc := 48) C 14 dX2_comingAt_48 (by decide) ?_
          refine k_drop_6 ?_
          exact ih (j + 1) (lf + (-1)) (by omega) (by rw [← hres, f_X2_comingAtR_s, if_neg c32, if_neg c36])
        · skip
          refine k_aload (pc := 39) C dX2_comingAt_39 rfl ?_
          exact absurd (by rw [← hres, f_X2_comingAtR_s, if_neg c32, if_pos c36]; exact hj) h
  exact hloop 6 0 x rfl rfl
def f_X2_addCitizen (mi : MemI) (g : Nat) (k : Int32) (a : Int32) (ms : Int32) (h : Int32) : Int32 × MemI :=
  if (mi (2, g, 0) 2) < 0 then ((-1), mi)
  else if (mi (2, g, 0) 2) < 6 then (mi (2, g, 0) 2, k_ui (f_X1_arrive mi g ((mi (2, g, 0) 2).toNatClampNeg) k a ms h) (2, g, 0) 2 (((f_X1_arrive mi g ((mi (2, g, 0) 2).toNatClampNeg) k a ms h) (2, g, 0) 2) + 1))
    else ((-1), mi)
set_option maxRecDepth 100000 in
set_option maxHeartbeats 4000000 in
theorem ct_X2_addCitizen {mi : MemI} {ml : MemL} {g : Nat} {k : Int32} {a : Int32} {ms : Int32} {h : Int32} (hg : g < 3) : k_Ct k_KS k_R0 Mt_X2_addCitizen 1 [vR (2, g, 0), vI k, vI a, vI ms, vI h] mi ml (k_rt (some (vI (f_X2_addCitizen mi g k a ms h).1)) (f_X2_addCitizen mi g k a ms h).2 ml) := by
  refine k_ofV (L0 := [vR (2, g, 0), vI k, vI a, vI ms, vI h, vU]) (by decide +kernel) (Nat.le_of_ble_eq_true rfl) rfl rfl ?_
  intro p l e s m args below meth c D cy ad bs C
  refine k_aload_n (pc := 0) C dX2_addCitizen_0 rfl ?_
  refine k_getI (pc := 1) C fl_X2_38 (k_in2 hg) rfl rfl dX2_addCitizen_1 ?_
  refine k_istore_5 (pc := 4) C dX2_addCitizen_4 rfl ?_
  refine k_iload (pc := 6) C dX2_addCitizen_6 rfl ?_
  refine k_if_lt (pc := 8) C 21 dX2_addCitizen_8 (by decide) (fun c8 => ?_) (fun c8 => ?_)
  · skip
    refine k_iconst (pc := 21) (v := (-1)) C dX2_addCitizen_21 (by decide) ?_
    exact k_iret (pc := 22) C rfl (k_fIm (by unfold f_X2_addCitizen; rw [if_pos c8]; try rfl)) dX2_addCitizen_22
  · skip
    refine k_iload (pc := 11) C dX2_addCitizen_11 rfl ?_
    refine k_aload_n (pc := 13) C dX2_addCitizen_13 rfl ?_
    refine k_getR (pc := 14) (r := some (11, g, 0)) C fl_X2_11 (k_in2 hg) rfl rfl rfl dX2_addCitizen_14 ?_
    refine k_alen (pc := 17) (v := 6) C (k_in11 hg) ⟨Nat.le_of_ble_eq_true rfl, Nat.le_of_ble_eq_true rfl⟩ rfl dX2_addCitizen_17 ?_
    refine k_icmp_lt (pc := 18) C 23 dX2_addCitizen_18 (by decide) (fun c18 => ?_) (fun c18 => ?_)
    · skip
      refine k_aload_n (pc := 23) C dX2_addCitizen_23 rfl ?_
      refine k_getR (pc := 24) (r := some (11, g, 0)) C fl_X2_11 (k_in2 hg) rfl rfl rfl dX2_addCitizen_24 ?_
      refine k_iload (pc := 27) C dX2_addCitizen_27 rfl ?_
      refine k_aaldX (pc := 29) (j := (mi (2, g, 0) 2).toNatClampNeg) (kr := (1, g, (mi (2, g, 0) 2).toNatClampNeg)) C rfl (k_in11 hg) (Or.inr (Or.inl rfl)) (k_vin3 (N := 6) (n := 6) c8 c18 (by decide)) rfl dX2_addCitizen_29 ?_
      refine k_iload_n (pc := 30) C dX2_addCitizen_30 rfl ?_
      refine k_iload_n (pc := 31) C dX2_addCitizen_31 rfl ?_
      refine k_iload_n (pc := 32) C dX2_addCitizen_32 rfl ?_
      refine k_iload (pc := 33) C dX2_addCitizen_33 rfl ?_
      refine k_callv4 (pc := 35) C cv_X2_47 (ct_X1_arrive hg (k_clamp (k_vin3 (N := 6) (n := 6) c8 c18 (by decide)))) (k_in1 hg (k_clamp (k_vin3 (N := 6) (n := 6) c8 c18 (by decide)))) rfl (by decide) rfl (Nat.le_of_ble_eq_true rfl) dX2_addCitizen_35 ?_
      refine k_aload_n (pc := 38) C dX2_addCitizen_38 rfl ?_
      refine k_dup (pc := 39) C dX2_addCitizen_39 rfl ?_
      refine k_getI (pc := 40) C fl_X2_38 (k_in2 hg) rfl rfl dX2_addCitizen_40 ?_
      refine k_iconst (pc := 43) (v := 1) C dX2_addCitizen_43 (by decide) ?_
      refine k_iadd (pc := 44) C dX2_addCitizen_44 ?_
      refine k_putI (pc := 45) C pl_X2_38 (k_in2 hg) rfl rfl dX2_addCitizen_45 ?_
      refine k_iload (pc := 48) C dX2_addCitizen_48 rfl ?_
      exact k_iret (pc := 50) C rfl (k_fIm (by unfold f_X2_addCitizen; rw [if_neg c8, if_pos c18]; try rfl)) dX2_addCitizen_50
    · skip
      refine k_iconst (pc := 21) (v := (-1)) C dX2_addCitizen_21 (by decide) ?_
      exact k_iret (pc := 22) C rfl (k_fIm (by unfold f_X2_addCitizen; rw [if_neg c8, if_neg c18]; try rfl)) dX2_addCitizen_22
def f_X2_addBeggar (mi : MemI) (g : Nat) (n : Int32) (r : Int32) : Int32 × MemI :=
  if (mi (2, g, 0) 3) < 0 then ((-1), mi)
  else if (mi (2, g, 0) 3) < 6 then (mi (2, g, 0) 3, k_ui (f_X0_arrive mi g ((mi (2, g, 0) 3).toNatClampNeg) n r) (2, g, 0) 3 (((f_X0_arrive mi g ((mi (2, g, 0) 3).toNatClampNeg) n r) (2, g, 0) 3) + 1))
    else ((-1), mi)
set_option maxRecDepth 100000 in
set_option maxHeartbeats 4000000 in
theorem ct_X2_addBeggar {mi : MemI} {ml : MemL} {g : Nat} {n : Int32} {r : Int32} (hg : g < 3) : k_Ct k_KS k_R0 Mt_X2_addBeggar 1 [vR (2, g, 0), vI n, vI r] mi ml (k_rt (some (vI (f_X2_addBeggar mi g n r).1)) (f_X2_addBeggar mi g n r).2 ml) := by
  refine k_ofV (L0 := [vR (2, g, 0), vI n, vI r, vU]) (by decide +kernel) (Nat.le_of_ble_eq_true rfl) rfl rfl ?_
  intro p l e s m args below meth c D cy ad bs C
  refine k_aload_n (pc := 0) C dX2_addBeggar_0 rfl ?_
  refine k_getI (pc := 1) C fl_X2_41 (k_in2 hg) rfl rfl dX2_addBeggar_1 ?_
  refine k_istore_3 (pc := 4) C dX2_addBeggar_4 rfl ?_
  refine k_iload_n (pc := 5) C dX2_addBeggar_5 rfl ?_
  refine k_if_lt (pc := 6) C 18 dX2_addBeggar_6 (by decide) (fun c6 => ?_) (fun c6 => ?_)
  · skip
    refine k_iconst (pc := 18) (v := (-1)) C dX2_addBeggar_18 (by decide) ?_
    exact k_iret (pc := 19) C rfl (k_fIm (by unfold f_X2_addBeggar; rw [if_pos c6]; try rfl)) dX2_addBeggar_19
  · skip
    refine k_iload_n (pc := 9) C dX2_addBeggar_9 rfl ?_
    refine k_aload_n (pc := 10) C dX2_addBeggar_10 rfl ?_
    refine k_getR (pc := 11) (r := some (10, g, 0)) C fl_X2_19 (k_in2 hg) rfl rfl rfl dX2_addBeggar_11 ?_
    refine k_alen (pc := 14) (v := 6) C (k_in10 hg) ⟨Nat.le_of_ble_eq_true rfl, Nat.le_of_ble_eq_true rfl⟩ rfl dX2_addBeggar_14 ?_
    refine k_icmp_lt (pc := 15) C 20 dX2_addBeggar_15 (by decide) (fun c15 => ?_) (fun c15 => ?_)
    · skip
      refine k_aload_n (pc := 20) C dX2_addBeggar_20 rfl ?_
      refine k_getR (pc := 21) (r := some (10, g, 0)) C fl_X2_19 (k_in2 hg) rfl rfl rfl dX2_addBeggar_21 ?_
      refine k_iload_n (pc := 24) C dX2_addBeggar_24 rfl ?_
      refine k_aaldX (pc := 25) (j := (mi (2, g, 0) 3).toNatClampNeg) (kr := (0, g, (mi (2, g, 0) 3).toNatClampNeg)) C rfl (k_in10 hg) (Or.inl rfl) (k_vin3 (N := 6) (n := 6) c6 c15 (by decide)) rfl dX2_addBeggar_25 ?_
      refine k_iload_n (pc := 26) C dX2_addBeggar_26 rfl ?_
      refine k_iload_n (pc := 27) C dX2_addBeggar_27 rfl ?_
      refine k_callv2 (pc := 28) C cv_X2_51 (ct_X0_arrive hg (k_clamp (k_vin3 (N := 6) (n := 6) c6 c15 (by decide)))) (k_in0 hg (k_clamp (k_vin3 (N := 6) (n := 6) c6 c15 (by decide)))) rfl (by decide) rfl (Nat.le_of_ble_eq_true rfl) dX2_addBeggar_28 ?_
      refine k_aload_n (pc := 31) C dX2_addBeggar_31 rfl ?_
      refine k_dup (pc := 32) C dX2_addBeggar_32 rfl ?_
      refine k_getI (pc := 33) C fl_X2_41 (k_in2 hg) rfl rfl dX2_addBeggar_33 ?_
      refine k_iconst (pc := 36) (v := 1) C dX2_addBeggar_36 (by decide) ?_
      refine k_iadd (pc := 37) C dX2_addBeggar_37 ?_
      refine k_putI (pc := 38) C pl_X2_41 (k_in2 hg) rfl rfl dX2_addBeggar_38 ?_
      refine k_iload_n (pc := 41) C dX2_addBeggar_41 rfl ?_
      exact k_iret (pc := 42) C rfl (k_fIm (by unfold f_X2_addBeggar; rw [if_neg c6, if_pos c15]; try rfl)) dX2_addBeggar_42
    · skip
      refine k_iconst (pc := 18) (v := (-1)) C dX2_addBeggar_18 (by decide) ?_
      exact k_iret (pc := 19) C rfl (k_fIm (by unfold f_X2_addBeggar; rw [if_neg c6, if_neg c15]; try rfl)) dX2_addBeggar_19
def f_X2_countHidden (mi : MemI) (g : Nat) : Int32 :=
  ((mi (2, g, 0) 2) - (nI <| f_X2_countOpen mi g 6))
set_option maxRecDepth 100000 in
set_option maxHeartbeats 4000000 in
theorem ct_X2_countHidden {mi : MemI} {ml : MemL} {g : Nat} (hg : g < 3) : k_Ct k_KS k_R0 Mt_X2_countHidden 2 [vR (2, g, 0)] mi ml (k_rt (some (vI (f_X2_countHidden mi g))) mi ml) := by
  refine k_ofV (L0 := [vR (2, g, 0)]) (by decide +kernel) (Nat.le_of_ble_eq_true rfl) rfl rfl ?_
  intro p l e s m args below meth c D cy ad bs C
  refine k_aload_n (pc := 0) C dX2_countHidden_0 rfl ?_
  refine k_getI (pc := 1) C fl_X2_38 (k_in2 hg) rfl rfl dX2_countHidden_1 ?_
  refine k_aload_n (pc := 4) C dX2_countHidden_4 rfl ?_
  refine k_call0 (pc := 5) C cv_X2_58 (ct_X2_countOpen hg) (k_in2 hg) rfl (by decide) rfl (Nat.le_of_ble_eq_true rfl) dX2_countHidden_5 ?_
  refine k_isub (pc := 8) C dX2_countHidden_8 ?_
  exact k_iret (pc := 9) C rfl (k_fI rfl) dX2_countHidden_9
def f_X2_countPosts (mi : MemI) (g : Nat) : Int32 :=
  ((mi (2, g, 0) 3) - (nI <| f_X2_countComing mi g 6))
set_option maxRecDepth 100000 in
set_option maxHeartbeats 4000000 in
theorem ct_X2_countPosts {mi : MemI} {ml : MemL} {g : Nat} (hg : g < 3) : k_Ct k_KS k_R0 Mt_X2_countPosts 2 [vR (2, g, 0)] mi ml (k_rt (some (vI (f_X2_countPosts mi g))) mi ml) := by
  refine k_ofV (L0 := [vR (2, g, 0)]) (by decide +kernel) (Nat.le_of_ble_eq_true rfl) rfl rfl ?_
  intro p l e s m args below meth c D cy ad bs C
  refine k_aload_n (pc := 0) C dX2_countPosts_0 rfl ?_
  refine k_getI (pc := 1) C fl_X2_41 (k_in2 hg) rfl rfl dX2_countPosts_1 ?_
  refine k_aload_n (pc := 4) C dX2_countPosts_4 rfl ?_
  refine k_call0 (pc := 5) C cv_X2_65 (ct_X2_countComing hg) (k_in2 hg) rfl (by decide) rfl (Nat.le_of_ble_eq_true rfl) dX2_countPosts_5 ?_
  refine k_isub (pc := 8) C dX2_countPosts_8 ?_
  exact k_iret (pc := 9) C rfl (k_fI rfl) dX2_countPosts_9
def f_X2_blindPlace (mi : MemI) (g : Nat) (i2 : Nat) (op : Int32) : Int32 :=
  if op ≤ 0 then (-1)
  else (((mi (0, g, i2) 0) + (mi (2, g, 0) 4)) - ((mi (0, g, i2) 0) + (mi (2, g, 0) 4)) / op * op)
set_option maxRecDepth 100000 in
set_option maxHeartbeats 4000000 in
theorem ct_X2_blindPlace {mi : MemI} {ml : MemL} {g : Nat} {i2 : Nat} {op : Int32} (hg : g < 3) (hi2 : i2 < 6) : k_Ct k_KS k_R0 Mt_X2_blindPlace 0 [vR (2, g, 0), vR (0, g, i2), vI op] mi ml (k_rt (some (vI (f_X2_blindPlace mi g i2 op))) mi ml) := by
  refine k_ofV (L0 := [vR (2, g, 0), vR (0, g, i2), vI op]) (by decide +kernel) (Nat.le_of_ble_eq_true rfl) rfl rfl ?_
  intro p l e s m args below meth c D cy ad bs C
  refine k_iload_n (pc := 0) C dX2_blindPlace_0 rfl ?_
  refine k_if_le (pc := 1) C 18 dX2_blindPlace_1 (by decide) (fun c1 => ?_) (fun c1 => ?_)
  · skip
    refine k_iconst (pc := 18) (v := (-1)) C dX2_blindPlace_18 (by decide) ?_
    exact k_iret (pc := 19) C rfl (k_fI (by unfold f_X2_blindPlace; rw [if_pos c1]; try rfl)) dX2_blindPlace_19
  · skip
    refine k_aload_n (pc := 4) C dX2_blindPlace_4 rfl ?_
    refine k_getI (pc := 5) C fl_X2_132 (k_in0 hg hi2) rfl rfl dX2_blindPlace_5 ?_
    refine k_aload_n (pc := 8) C dX2_blindPlace_8 rfl ?_
    refine k_getI (pc := 9) C fl_X2_44 (k_in2 hg) rfl rfl dX2_blindPlace_9 ?_
    refine k_iadd (pc := 12) C dX2_blindPlace_12 ?_
    refine k_iload_n (pc := 13) C dX2_blindPlace_13 rfl ?_
    refine k_irem (pc := 14) C dX2_blindPlace_14 (by first | assumption | exact k_ne0 (by assumption)) ?_
    refine k_goto (pc := 15) C 19 dX2_blindPlace_15 (by decide) ?_
    exact k_iret (pc := 19) C rfl (k_fI (by unfold f_X2_blindPlace; rw [if_neg c1]; try rfl)) dX2_blindPlace_19
def f_X2_canStay (mi : MemI) (g : Nat) (i2 : Nat) : Int32 :=
  if f_X2_citizenAt mi g (mi (0, g, i2) 5) < 6 then if (f_X1_isOpen mi g (f_X2_citizenAt mi g (mi (0, g, i2) 5))) = 0 then 0
    else 1
  else 0
theorem z_X2_canStay {mi : MemI} {g : Nat} {i2 : Nat}  : (f_X2_canStay mi g i2) = 0 ∨ (f_X2_canStay mi g i2) = 1 := by
  unfold f_X2_canStay
  by_cases zh1 : f_X2_citizenAt mi g (mi (0, g, i2) 5) < 6
  · rw [if_pos zh1]
    by_cases zh2 : (f_X1_isOpen mi g (f_X2_citizenAt mi g (mi (0, g, i2) 5))) = 0
    · rw [if_pos zh2]
      exact (Or.inl rfl)
    · rw [if_neg zh2]
      exact (Or.inr rfl)
  · rw [if_neg zh1]
    exact (Or.inl rfl)
set_option maxRecDepth 100000 in
set_option maxHeartbeats 4000000 in
theorem ct_X2_canStay {mi : MemI} {ml : MemL} {g : Nat} {i2 : Nat} (hg : g < 3) (hi2 : i2 < 6) : k_Ct k_KS k_R0 Mt_X2_canStay 1 [vR (2, g, 0), vR (0, g, i2)] mi ml (k_rt (some (vI (f_X2_canStay mi g i2))) mi ml) := by
  refine k_ofV (L0 := [vR (2, g, 0), vR (0, g, i2), vU]) (by decide +kernel) (Nat.le_of_ble_eq_true rfl) rfl rfl ?_
  intro p l e s m args below meth c D cy ad bs C
  refine k_aload_n (pc := 0) C dX2_canStay_0 rfl ?_
  refine k_aload_n (pc := 1) C dX2_canStay_1 rfl ?_
  refine k_getI (pc := 2) C fl_X2_120 (k_in0 hg hi2) rfl rfl dX2_canStay_2 ?_
  by_cases c5 : f_X2_citizenAt mi g (mi (0, g, i2) 5) < 6
  · skip
    refine k_call1 (pc := 5) C cv_X2_123 (ct_X2_citizenAt_s hg c5) (k_in2 hg) rfl (by decide) rfl (Nat.le_of_ble_eq_true rfl) dX2_canStay_5 ?_
    refine k_astore_2 (pc := 8) C dX2_canStay_8 rfl ?_
    refine k_aload_n (pc := 9) C dX2_canStay_9 rfl ?_
    refine k_ifnullR (pc := 10) C dX2_canStay_10 ?_
    refine k_aload_n (pc := 13) C dX2_canStay_13 rfl ?_
    refine k_call0 (pc := 14) C cv_X2_54 (ct_X1_isOpen hg c5) (k_in1 hg c5) rfl (by decide) rfl (Nat.le_of_ble_eq_true rfl) dX2_canStay_14 ?_
    refine k_if_eq (pc := 17) C 24 dX2_canStay_17 (by decide) (fun c17 => ?_) (fun c17 => ?_)
    · skip
      refine k_iconst (pc := 24) (v := 0) C dX2_canStay_24 (by decide) ?_
      exact k_zret (pc := 25) C rfl (Or.inl rfl) (k_fI (by unfold f_X2_canStay; rw [if_pos c5, if_pos c17]; try rfl)) dX2_canStay_25
    · skip
      refine k_iconst (pc := 20) (v := 1) C dX2_canStay_20 (by decide) ?_
      refine k_goto (pc := 21) C 25 dX2_canStay_21 (by decide) ?_
      exact k_zret (pc := 25) C rfl (Or.inr rfl) (k_fI (by unfold f_X2_canStay; rw [if_pos c5, if_neg c17]; try rfl)) dX2_canStay_25
  · skip
    refine k_call1 (pc := 5) C cv_X2_123 (ct_X2_citizenAt_n hg c5) (k_in2 hg) rfl (by decide) rfl (Nat.le_of_ble_eq_true rfl) dX2_canStay_5 ?_
    refine k_astore_2 (pc := 8) C dX2_canStay_8 rfl ?_
    refine k_aload_n (pc := 9) C dX2_canStay_9 rfl ?_
    refine k_ifnullN (pc := 10) C 24 dX2_canStay_10 (by decide) ?_
    refine k_iconst (pc := 24) (v := 0) C dX2_canStay_24 (by decide) ?_
    exact k_zret (pc := 25) C rfl (Or.inl rfl) (k_fI (by unfold f_X2_canStay; rw [if_neg c5]; try rfl)) dX2_canStay_25
def f_X1_receive (mi : MemI) (g : Nat) (i : Nat) (g2 : Nat) (i2 : Nat) : MemI :=
  (k_ui ((f_X1_keeps (k_ui (k_ui (k_ui mi (0, g2, i2) 7 (mi (1, g, i) 0)) (1, g, i) 10 (((k_ui mi (0, g2, i2) 7 (mi (1, g, i) 0)) (1, g, i) 10) ||| (1 <<< (((k_ui mi (0, g2, i2) 7 (mi (1, g, i) 0)) (0, g2, i2) 0) &&& 31)))) (1, g, i) 11 (((k_ui (k_ui mi (0, g2, i2) 7 (mi (1, g, i) 0)) (1, g, i) 10 (((k_ui mi (0, g2, i2) 7 (mi (1, g, i) 0)) (1, g, i) 10) ||| (1 <<< (((k_ui mi (0, g2, i2) 7 (mi (1, g, i) 0)) (0, g2, i2) 0) &&& 31)))) (1, g, i) 11) + 1)) g i ((k_ui (k_ui (k_ui mi (0, g2, i2) 7 (mi (1, g, i) 0)) (1, g, i) 10 (((k_ui mi (0, g2, i2) 7 (mi (1, g, i) 0)) (1, g, i) 10) ||| (1 <<< (((k_ui mi (0, g2, i2) 7 (mi (1, g, i) 0)) (0, g2, i2) 0) &&& 31)))) (1, g, i) 11 (((k_ui (k_ui mi (0, g2, i2) 7 (mi (1, g, i) 0)) (1, g, i) 10 (((k_ui mi (0, g2, i2) 7 (mi (1, g, i) 0)) (1, g, i) 10) ||| (1 <<< (((k_ui mi (0, g2, i2) 7 (mi (1, g, i) 0)) (0, g2, i2) 0) &&& 31)))) (1, g, i) 11) + 1)) (0, g2, i2) 3)).2) (0, g2, i2) 8 ((f_X1_keeps (k_ui (k_ui (k_ui mi (0, g2, i2) 7 (mi (1, g, i) 0)) (1, g, i) 10 (((k_ui mi (0, g2, i2) 7 (mi (1, g, i) 0)) (1, g, i) 10) ||| (1 <<< (((k_ui mi (0, g2, i2) 7 (mi (1, g, i) 0)) (0, g2, i2) 0) &&& 31)))) (1, g, i) 11 (((k_ui (k_ui mi (0, g2, i2) 7 (mi (1, g, i) 0)) (1, g, i) 10 (((k_ui mi (0, g2, i2) 7 (mi (1, g, i) 0)) (1, g, i) 10) ||| (1 <<< (((k_ui mi (0, g2, i2) 7 (mi (1, g, i) 0)) (0, g2, i2) 0) &&& 31)))) (1, g, i) 11) + 1)) g i ((k_ui (k_ui (k_ui mi (0, g2, i2) 7 (mi (1, g, i) 0)) (1, g, i) 10 (((k_ui mi (0, g2, i2) 7 (mi (1, g, i) 0)) (1, g, i) 10) ||| (1 <<< (((k_ui mi (0, g2, i2) 7 (mi (1, g, i) 0)) (0, g2, i2) 0) &&& 31)))) (1, g, i) 11 (((k_ui (k_ui mi (0, g2, i2) 7 (mi (1, g, i) 0)) (1, g, i) 10 (((k_ui mi (0, g2, i2) 7 (mi (1, g, i) 0)) (1, g, i) 10) ||| (1 <<< (((k_ui mi (0, g2, i2) 7 (mi (1, g, i) 0)) (0, g2, i2) 0) &&& 31)))) (1, g, i) 11) + 1)) (0, g2, i2) 3)).1))
set_option maxRecDepth 100000 in
set_option maxHeartbeats 4000000 in
theorem ct_X1_receive {mi : MemI} {ml : MemL} {g : Nat} {i : Nat} {g2 : Nat} {i2 : Nat} (hg : g < 3) (hi : i < 6) (hg2 : g2 < 3) (hi2 : i2 < 6) : k_Ct k_KS k_R0 Mt_X1_receive 1 [vR (1, g, i), vR (0, g2, i2)] mi ml (k_rt none (f_X1_receive mi g i g2 i2) ml) := by
  refine k_ofV (L0 := [vR (1, g, i), vR (0, g2, i2)]) (by decide +kernel) (Nat.le_of_ble_eq_true rfl) rfl rfl ?_
  intro p l e s m args below meth c D cy ad bs C
  refine k_aload_n (pc := 0) C dX1_receive_0 rfl ?_
  refine k_aload_n (pc := 1) C dX1_receive_1 rfl ?_
  refine k_getI (pc := 2) C fl_X1_9 (k_in1 hg hi) rfl rfl dX1_receive_2 ?_
  refine k_putI (pc := 5) C pl_X1_71 (k_in0 hg2 hi2) rfl rfl dX1_receive_5 ?_
  refine k_aload_n (pc := 8) C dX1_receive_8 rfl ?_
  refine k_dup (pc := 9) C dX1_receive_9 rfl ?_
  refine k_getI (pc := 10) C fl_X1_59 (k_in1 hg hi) rfl rfl dX1_receive_10 ?_
  refine k_iconst (pc := 13) (v := 1) C dX1_receive_13 (by decide) ?_
  refine k_aload_n (pc := 14) C dX1_receive_14 rfl ?_
  refine k_getI (pc := 15) C fl_X1_76 (k_in0 hg2 hi2) rfl rfl dX1_receive_15 ?_
  refine k_ishl (pc := 18) C dX1_receive_18 ?_
  refine k_ior (pc := 19) C dX1_receive_19 ?_
  refine k_putI (pc := 20) C pl_X1_59 (k_in1 hg hi) rfl rfl dX1_receive_20 ?_
  refine k_aload_n (pc := 23) C dX1_receive_23 rfl ?_
  refine k_dup (pc := 24) C dX1_receive_24 rfl ?_
  refine k_getI (pc := 25) C fl_X1_62 (k_in1 hg hi) rfl rfl dX1_receive_25 ?_
  refine k_iconst (pc := 28) (v := 1) C dX1_receive_28 (by decide) ?_
  refine k_iadd (pc := 29) C dX1_receive_29 ?_
  refine k_putI (pc := 30) C pl_X1_62 (k_in1 hg hi) rfl rfl dX1_receive_30 ?_
  refine k_aload_n (pc := 33) C dX1_receive_33 rfl ?_
  refine k_aload_n (pc := 34) C dX1_receive_34 rfl ?_
  refine k_aload_n (pc := 35) C dX1_receive_35 rfl ?_
  refine k_getI (pc := 36) C fl_X1_77 (k_in0 hg2 hi2) rfl rfl dX1_receive_36 ?_
  refine k_call1 (pc := 39) C cv_X1_80 (ct_X1_keeps hg hi) (k_in1 hg hi) rfl (by decide) rfl (Nat.le_of_ble_eq_true rfl) dX1_receive_39 ?_
  refine k_putZ (pc := 42) C z_X1_keeps pl_X1_84 (k_in0 hg2 hi2) rfl rfl dX1_receive_42 ?_
  exact k_vret (pc := 45) C rfl (k_fm rfl) dX1_receive_45
