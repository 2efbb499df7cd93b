/-! City: counts and picks -/
def f_X2_citizenAt (mi : MemI) (g : Nat) (x : Int32) : Nat :=
  if x < 0 then 6
  else if 6 ≤ x then 6
    else if (mi (2, g, 0) 2) ≤ x then 6
      else x.toNatClampNeg
set_option maxRecDepth 100000 in
set_option maxHeartbeats 4000000 in
theorem ct_X2_citizenAt_s {mi : MemI} {ml : MemL} {g : Nat} {x : Int32} (hg : g < 3) (h : (f_X2_citizenAt mi g x) < 6) : k_Ct k_KS k_R0 Mt_X2_citizenAt 0 [vR (2, g, 0), vI x] mi ml (k_rt (some (vR (1, g, (f_X2_citizenAt mi g x)))) mi ml) := by
  refine k_ofV (L0 := [vR (2, g, 0), vI x]) (by decide +kernel) (Nat.le_of_ble_eq_true rfl) rfl rfl ?_
  intro p l e s m args below meth c D cy ad bs C
  refine k_iload_n (pc := 0) C dX2_citizenAt_0 rfl ?_
  refine k_if_lt (pc := 1) C 30 dX2_citizenAt_1 (by decide) (fun c1 => ?_) (fun c1 => ?_)
  · skip
    refine k_null (pc := 30) C dX2_citizenAt_30 ?_
    exact absurd h (by unfold f_X2_citizenAt; rw [if_pos c1]; decide)
  · skip
    refine k_iload_n (pc := 4) C dX2_citizenAt_4 rfl ?_
    refine k_aload_n (pc := 5) C dX2_citizenAt_5 rfl ?_
    refine k_getR (pc := 6) (r := some (11, g, 0)) C fl_X2_11 (k_in2 hg) rfl rfl rfl dX2_citizenAt_6 ?_
    refine k_alen (pc := 9) (v := 6) C (k_in11 hg) ⟨Nat.le_of_ble_eq_true rfl, Nat.le_of_ble_eq_true rfl⟩ rfl dX2_citizenAt_9 ?_
    refine k_icmp_ge (pc := 10) C 30 dX2_citizenAt_10 (by decide) (fun c10 => ?_) (fun c10 => ?_)
    · skip
      refine k_null (pc := 30) C dX2_citizenAt_30 ?_
      exact absurd h (by unfold f_X2_citizenAt; rw [if_neg c1, if_pos c10]; decide)
    · skip
      refine k_iload_n (pc := 13) C dX2_citizenAt_13 rfl ?_
      refine k_aload_n (pc := 14) C dX2_citizenAt_14 rfl ?_
      refine k_getI (pc := 15) C fl_X2_38 (k_in2 hg) rfl rfl dX2_citizenAt_15 ?_
      refine k_icmp_ge (pc := 18) C 30 dX2_citizenAt_18 (by decide) (fun c18 => ?_) (fun c18 => ?_)
      · skip
        refine k_null (pc := 30) C dX2_citizenAt_30 ?_
        exact absurd h (by unfold f_X2_citizenAt; rw [if_neg c1, if_neg c10, if_pos c18]; decide)
      · skip
        refine k_aload_n (pc := 21) C dX2_citizenAt_21 rfl ?_
        refine k_getR (pc := 22) (r := some (11, g, 0)) C fl_X2_11 (k_in2 hg) rfl rfl rfl dX2_citizenAt_22 ?_
        refine k_iload_n (pc := 25) C dX2_citizenAt_25 rfl ?_
        refine k_aaldX (pc := 26) (j := x.toNatClampNeg) (kr := (1, g, x.toNatClampNeg)) C rfl (k_in11 hg) (Or.inr (Or.inl rfl)) (k_vin (N := 6) (n := 6) c1 c10 (by decide)) rfl dX2_citizenAt_26 ?_
        refine k_goto (pc := 27) C 31 dX2_citizenAt_27 (by decide) ?_
        exact k_aret (pc := 31) (x := some (1, g, x.toNatClampNeg)) C rfl (Or.inl ⟨_, rfl⟩) (k_fR (by unfold f_X2_citizenAt; rw [if_neg c1, if_neg c10, if_neg c18])) dX2_citizenAt_31
set_option maxRecDepth 100000 in
set_option maxHeartbeats 4000000 in
theorem ct_X2_citizenAt_n {mi : MemI} {ml : MemL} {g : Nat} {x : Int32} (hg : g < 3) (h : ¬ (f_X2_citizenAt mi g x) < 6) : k_Ct k_KS k_R0 Mt_X2_citizenAt 0 [vR (2, g, 0), vI x] mi ml (k_rt (some vN) mi ml) := by
  refine k_ofV (L0 := [vR (2, g, 0), vI x]) (by decide +kernel) (Nat.le_of_ble_eq_true rfl) rfl rfl ?_
  intro p l e s m args below meth c D cy ad bs C
  refine k_iload_n (pc := 0) C dX2_citizenAt_0 rfl ?_
  refine k_if_lt (pc := 1) C 30 dX2_citizenAt_1 (by decide) (fun c1 => ?_) (fun c1 => ?_)
  · skip
    refine k_null (pc := 30) C dX2_citizenAt_30 ?_
    exact k_aret (pc := 31) (x := none) C rfl (Or.inl ⟨_, rfl⟩) k_rt_rf dX2_citizenAt_31
  · skip
    refine k_iload_n (pc := 4) C dX2_citizenAt_4 rfl ?_
    refine k_aload_n (pc := 5) C dX2_citizenAt_5 rfl ?_
    refine k_getR (pc := 6) (r := some (11, g, 0)) C fl_X2_11 (k_in2 hg) rfl rfl rfl dX2_citizenAt_6 ?_
    refine k_alen (pc := 9) (v := 6) C (k_in11 hg) ⟨Nat.le_of_ble_eq_true rfl, Nat.le_of_ble_eq_true rfl⟩ rfl dX2_citizenAt_9 ?_
    refine k_icmp_ge (pc := 10) C 30 dX2_citizenAt_10 (by decide) (fun c10 => ?_) (fun c10 => ?_)
    · skip
      refine k_null (pc := 30) C dX2_citizenAt_30 ?_
      exact k_aret (pc := 31) (x := none) C rfl (Or.inl ⟨_, rfl⟩) k_rt_rf dX2_citizenAt_31
    · skip
      refine k_iload_n (pc := 13) C dX2_citizenAt_13 rfl ?_
      refine k_aload_n (pc := 14) C dX2_citizenAt_14 rfl ?_
      refine k_getI (pc := 15) C fl_X2_38 (k_in2 hg) rfl rfl dX2_citizenAt_15 ?_
      refine k_icmp_ge (pc := 18) C 30 dX2_citizenAt_18 (by decide) (fun c18 => ?_) (fun c18 => ?_)
      · skip
        refine k_null (pc := 30) C dX2_citizenAt_30 ?_
        exact k_aret (pc := 31) (x := none) C rfl (Or.inl ⟨_, rfl⟩) k_rt_rf dX2_citizenAt_31
      · skip
        refine k_aload_n (pc := 21) C dX2_citizenAt_21 rfl ?_
        refine k_getR (pc := 22) (r := some (11, g, 0)) C fl_X2_11 (k_in2 hg) rfl rfl rfl dX2_citizenAt_22 ?_
        refine k_iload_n (pc := 25) C dX2_citizenAt_25 rfl ?_
        refine k_aaldX (pc := 26) (j := x.toNatClampNeg) (kr := (1, g, x.toNatClampNeg)) C rfl (k_in11 hg) (Or.inr (Or.inl rfl)) (k_vin (N := 6) (n := 6) c1 c10 (by decide)) rfl dX2_citizenAt_26 ?_
        refine k_goto (pc := 27) C 31 dX2_citizenAt_27 (by decide) ?_
        exact absurd (by unfold f_X2_citizenAt; rw [if_neg c1, if_neg c10, if_neg c18]; exact k_clamp (k_vin (N := 6) (by assumption) (by assumption) (by decide))) h
def f_X2_beggarAt (mi : MemI) (g : Nat) (x : Int32) : Nat :=
  if x < 0 then 6
  else if 6 ≤ x then 6
    else if (mi (2, g, 0) 3) ≤ x then 6
      else x.toNatClampNeg
set_option maxRecDepth 100000 in
set_option maxHeartbeats 4000000 in
theorem ct_X2_beggarAt_s {mi : MemI} {ml : MemL} {g : Nat} {x : Int32} (hg : g < 3) (h : (f_X2_beggarAt mi g x) < 6) : k_Ct k_KS k_R0 Mt_X2_beggarAt 0 [vR (2, g, 0), vI x] mi ml (k_rt (some (vR (0, g, (f_X2_beggarAt mi g x)))) mi ml) := by
  refine k_ofV (L0 := [vR (2, g, 0), vI x]) (by decide +kernel) (Nat.le_of_ble_eq_true rfl) rfl rfl ?_
  intro p l e s m args below meth c D cy ad bs C
  refine k_iload_n (pc := 0) C dX2_beggarAt_0 rfl ?_
  refine k_if_lt (pc := 1) C 30 dX2_beggarAt_1 (by decide) (fun c1 => ?_) (fun c1 => ?_)
  · skip
    refine k_null (pc := 30) C dX2_beggarAt_30 ?_
    exact absurd h (by unfold f_X2_beggarAt; rw [if_pos c1]; decide)
  · skip
    refine k_iload_n (pc := 4) C dX2_beggarAt_4 rfl ?_
    refine k_aload_n (pc := 5) C dX2_beggarAt_5 rfl ?_
    refine k_getR (pc := 6) (r := some (10, g, 0)) C fl_X2_19 (k_in2 hg) rfl rfl rfl dX2_beggarAt_6 ?_
    refine k_alen (pc := 9) (v := 6) C (k_in10 hg) ⟨Nat.le_of_ble_eq_true rfl, Nat.le_of_ble_eq_true rfl⟩ rfl dX2_beggarAt_9 ?_
    refine k_icmp_ge (pc := 10) C 30 dX2_beggarAt_10 (by decide) (fun c10 => ?_) (fun c10 => ?_)
    · skip
      refine k_null (pc := 30) C dX2_beggarAt_30 ?_
      exact absurd h (by unfold f_X2_beggarAt; rw [if_neg c1, if_pos c10]; decide)
    · skip
      refine k_iload_n (pc := 13) C dX2_beggarAt_13 rfl ?_
      refine k_aload_n (pc := 14) C dX2_beggarAt_14 rfl ?_
      refine k_getI (pc := 15) C fl_X2_41 (k_in2 hg) rfl rfl dX2_beggarAt_15 ?_
      refine k_icmp_ge (pc := 18) C 30 dX2_beggarAt_18 (by decide) (fun c18 => ?_) (fun c18 => ?_)
      · skip
        refine k_null (pc := 30) C dX2_beggarAt_30 ?_
        exact absurd h (by unfold f_X2_beggarAt; rw [if_neg c1, if_neg c10, if_pos c18]; decide)
      · skip
        refine k_aload_n (pc := 21) C dX2_beggarAt_21 rfl ?_
        refine k_getR (pc := 22) (r := some (10, g, 0)) C fl_X2_19 (k_in2 hg) rfl rfl rfl dX2_beggarAt_22 ?_
        refine k_iload_n (pc := 25) C dX2_beggarAt_25 rfl ?_
        refine k_aaldX (pc := 26) (j := x.toNatClampNeg) (kr := (0, g, x.toNatClampNeg)) C rfl (k_in10 hg) (Or.inl rfl) (k_vin (N := 6) (n := 6) c1 c10 (by decide)) rfl dX2_beggarAt_26 ?_
        refine k_goto (pc := 27) C 31 dX2_beggarAt_27 (by decide) ?_
        exact k_aret (pc := 31) (x := some (0, g, x.toNatClampNeg)) C rfl (Or.inl ⟨_, rfl⟩) (k_fR (by unfold f_X2_beggarAt; rw [if_neg c1, if_neg c10, if_neg c18])) dX2_beggarAt_31
set_option maxRecDepth 100000 in
set_option maxHeartbeats 4000000 in
theorem ct_X2_beggarAt_n {mi : MemI} {ml : MemL} {g : Nat} {x : Int32} (hg : g < 3) (h : ¬ (f_X2_beggarAt mi g x) < 6) : k_Ct k_KS k_R0 Mt_X2_beggarAt 0 [vR (2, g, 0), vI x] mi ml (k_rt (some vN) mi ml) := by
  refine k_ofV (L0 := [vR (2, g, 0), vI x]) (by decide +kernel) (Nat.le_of_ble_eq_true rfl) rfl rfl ?_
  intro p l e s m args below meth c D cy ad bs C
  refine k_iload_n (pc := 0) C dX2_beggarAt_0 rfl ?_
  refine k_if_lt (pc := 1) C 30 dX2_beggarAt_1 (by decide) (fun c1 => ?_) (fun c1 => ?_)
  · skip
    refine k_null (pc := 30) C dX2_beggarAt_30 ?_
    exact k_aret (pc := 31) (x := none) C rfl (Or.inl ⟨_, rfl⟩) k_rt_rf dX2_beggarAt_31
  · skip
    refine k_iload_n (pc := 4) C dX2_beggarAt_4 rfl ?_
    refine k_aload_n (pc := 5) C dX2_beggarAt_5 rfl ?_
    refine k_getR (pc := 6) (r := some (10, g, 0)) C fl_X2_19 (k_in2 hg) rfl rfl rfl dX2_beggarAt_6 ?_
    refine k_alen (pc := 9) (v := 6) C (k_in10 hg) ⟨Nat.le_of_ble_eq_true rfl, Nat.le_of_ble_eq_true rfl⟩ rfl dX2_beggarAt_9 ?_
    refine k_icmp_ge (pc := 10) C 30 dX2_beggarAt_10 (by decide) (fun c10 => ?_) (fun c10 => ?_)
    · skip
      refine k_null (pc := 30) C dX2_beggarAt_30 ?_
      exact k_aret (pc := 31) (x := none) C rfl (Or.inl ⟨_, rfl⟩) k_rt_rf dX2_beggarAt_31
    · skip
      refine k_iload_n (pc := 13) C dX2_beggarAt_13 rfl ?_
      refine k_aload_n (pc := 14) C dX2_beggarAt_14 rfl ?_
      refine k_getI (pc := 15) C fl_X2_41 (k_in2 hg) rfl rfl dX2_beggarAt_15 ?_
      refine k_icmp_ge (pc := 18) C 30 dX2_beggarAt_18 (by decide) (fun c18 => ?_) (fun c18 => ?_)
      · skip
        refine k_null (pc := 30) C dX2_beggarAt_30 ?_
        exact k_aret (pc := 31) (x := none) C rfl (Or.inl ⟨_, rfl⟩) k_rt_rf dX2_beggarAt_31
      · skip
        refine k_aload_n (pc := 21) C dX2_beggarAt_21 rfl ?_
        refine k_getR (pc := 22) (r := some (10, g, 0)) C fl_X2_19 (k_in2 hg) rfl rfl rfl dX2_beggarAt_22 ?_
        refine k_iload_n (pc := 25) C dX2_beggarAt_25 rfl ?_
        refine k_aaldX (pc := 26) (j := x.toNatClampNeg) (kr := (0, g, x.toNatClampNeg)) C rfl (k_in10 hg) (Or.inl rfl) (k_vin (N := 6) (n := 6) c1 c10 (by decide)) rfl dX2_beggarAt_26 ?_
        refine k_goto (pc := 27) C 31 dX2_beggarAt_27 (by decide) ?_
        exact absurd (by unfold f_X2_beggarAt; rw [if_neg c1, if_neg c10, if_neg c18]; exact k_clamp (k_vin (N := 6) (by assumption) (by assumption) (by decide))) h
def f_X2_countOpen (mi : MemI) (g : Nat) : Nat → Nat
  | 0 => 0
  | j + 1 =>
    if (f_X1_isOpen mi g j) = 0 then (f_X2_countOpen mi g j)
    else (f_X2_countOpen mi g j) + 1
theorem f_X2_countOpen_s (mi : MemI) (g : Nat) (j : Nat) : f_X2_countOpen mi g (j + 1) =
    if (f_X1_isOpen mi g j) = 0 then (f_X2_countOpen mi g j)
    else (f_X2_countOpen mi g j) + 1 := rfl
set_option maxRecDepth 100000 in
set_option maxHeartbeats 4000000 in
theorem ct_X2_countOpen {mi : MemI} {ml : MemL} {g : Nat} (hg : g < 3) : k_Ct k_KS k_R0 Mt_X2_countOpen 1 [vR (2, g, 0)] mi ml (k_rt (some (vI (nI (f_X2_countOpen mi g 6)))) mi ml) := by
  refine k_ofV (L0 := [vR (2, g, 0), vU, vU, vU, vU, vU]) (by decide +kernel) (Nat.le_of_ble_eq_true rfl) rfl rfl ?_
  intro p l e s m args below meth c D cy ad bs C
  refine k_iconst (pc := 0) (v := 0) C dX2_countOpen_0 (by decide) ?_
  refine k_istore_1 (pc := 1) C dX2_countOpen_1 rfl ?_
  refine k_aload_n (pc := 2) C dX2_countOpen_2 rfl ?_
  refine k_getR (pc := 3) (r := some (11, g, 0)) C fl_X2_11 (k_in2 hg) rfl rfl rfl dX2_countOpen_3 ?_
  refine k_astore_2 (pc := 6) C dX2_countOpen_6 rfl ?_
  refine k_aload_n (pc := 7) C dX2_countOpen_7 rfl ?_
  refine k_alen (pc := 8) (v := 6) C (k_in11 hg) ⟨Nat.le_of_ble_eq_true rfl, Nat.le_of_ble_eq_true rfl⟩ rfl dX2_countOpen_8 ?_
  refine k_istore_3 (pc := 9) C dX2_countOpen_9 rfl ?_
  refine k_iconst (pc := 10) (v := 0) C dX2_countOpen_10 (by decide) ?_
  refine k_istore_4 (pc := 11) C dX2_countOpen_11 rfl ?_
  refine k_cast (L' := [vR (2, g, 0), vI (nI (f_X2_countOpen mi g 0)), vR (11, g, 0), vI 6, vI (nI 0), vU]) (mi' := mi) rfl rfl rfl ?_
  refine k_down (P := fun j => k_V p l e (k_rm 1) s m args below meth c D cy ad bs k_KS k_R0 0 0 (k_End below D cy ad bs k_KS k_R0 (k_rt (some (vI (nI (f_X2_countOpen mi g 6)))) mi ml) args s) mi ml 13 [vR (2, g, 0), vI (nI (f_X2_countOpen mi g j)), vR (11, g, 0), vI 6, vI (nI j), vU] []) 6 ?_ (fun j hj hk => ?_)
  · skip
    refine k_iload (pc := 13) C dX2_countOpen_13 rfl ?_
    refine k_iload_n (pc := 15) C dX2_countOpen_15 rfl ?_
    refine k_icmp_geT (pc := 16) C 42 dX2_countOpen_16 (by decide) (by decide) ?_
    refine k_iload_n (pc := 42) C dX2_countOpen_42 rfl ?_
    exact k_iret (pc := 43) C rfl k_rt_rf dX2_countOpen_43
  · skip
    try dsimp only at hk
    refine k_iload (pc := 13) C dX2_countOpen_13 rfl ?_
    refine k_iload_n (pc := 15) C dX2_countOpen_15 rfl ?_
    refine k_icmp_geF (pc := 16) C 42 dX2_countOpen_16 (by decide) (k_nge (n := 6) rfl (by decide) hj) ?_
    refine k_aload_n (pc := 19) C dX2_countOpen_19 rfl ?_
    refine k_iload (pc := 20) C dX2_countOpen_20 rfl ?_
    refine k_aaldX (pc := 22) (j := j) (kr := (1, g, j)) C (nI_clamp (by omega)) (k_in11 hg) (Or.inr (Or.inl rfl)) (vp_in_nI (show _ < (6 : Nat) by omega) (show (6 : Nat) < 2 ^ 31 by decide)) rfl dX2_countOpen_22 ?_
    refine k_astore_5 (pc := 23) C dX2_countOpen_23 rfl ?_
    refine k_aload (pc := 25) C dX2_countOpen_25 rfl ?_
    refine k_call0 (pc := 27) C cv_X2_54 (ct_X1_isOpen hg hj) (k_in1 hg hj) rfl (by decide) rfl (Nat.le_of_ble_eq_true rfl) dX2_countOpen_27 ?_
    refine k_if_eq (pc := 30) C 36 dX2_countOpen_30 (by decide) (fun c30 => ?_) (fun c30 => ?_)
    · skip
      refine k_iinc_4 (pc := 36) (v := nI (j + 1)) C dX2_countOpen_36 (k_inc j) rfl ?_
      refine k_goto (pc := 39) C 13 dX2_countOpen_39 (by decide) ?_
      refine k_drop_5 ?_
      exact k_cast (by rw [f_X2_countOpen_s, if_pos c30]) rfl rfl hk
    · skip
      refine k_iinc_1 (pc := 33) (v := nI ((f_X2_countOpen mi g j) + 1)) C dX2_countOpen_33 (k_inc (f_X2_countOpen mi g j)) rfl ?_
      refine k_iinc_4 (pc := 36) (v := nI (j + 1)) C dX2_countOpen_36 (k_inc j) rfl ?_
      refine k_goto (pc := 39) C 13 dX2_countOpen_39 (by decide) ?_
      refine k_drop_5 ?_
      exact k_cast (by rw [f_X2_countOpen_s, if_neg c30]) rfl rfl hk
def f_X2_countComing (mi : MemI) (g : Nat) : Nat → Nat
  | 0 => 0
  | j + 1 =>
    if (f_X0_comes mi g j) = 0 then (f_X2_countComing mi g j)
    else (f_X2_countComing mi g j) + 1
theorem f_X2_countComing_s (mi : MemI) (g : Nat) (j : Nat) : f_X2_countComing mi g (j + 1) =
    if (f_X0_comes mi g j) = 0 then (f_X2_countComing mi g j)
    else (f_X2_countComing mi g j) + 1 := rfl
set_option maxRecDepth 100000 in
set_option maxHeartbeats 4000000 in
theorem ct_X2_countComing {mi : MemI} {ml : MemL} {g : Nat} (hg : g < 3) : k_Ct k_KS k_R0 Mt_X2_countComing 1 [vR (2, g, 0)] mi ml (k_rt (some (vI (nI (f_X2_countComing mi g 6)))) mi ml) := by
  refine k_ofV (L0 := [vR (2, g, 0), vU, vU, vU, vU, vU]) (by decide +kernel) (Nat.le_of_ble_eq_true rfl) rfl rfl ?_
  intro p l e s m args below meth c D cy ad bs C
  refine k_iconst (pc := 0) (v := 0) C dX2_countComing_0 (by decide) ?_
  refine k_istore_1 (pc := 1) C dX2_countComing_1 rfl ?_
  refine k_aload_n (pc := 2) C dX2_countComing_2 rfl ?_
  refine k_getR (pc := 3) (r := some (10, g, 0)) C fl_X2_19 (k_in2 hg) rfl rfl rfl dX2_countComing_3 ?_
  refine k_astore_2 (pc := 6) C dX2_countComing_6 rfl ?_
  refine k_aload_n (pc := 7) C dX2_countComing_7 rfl ?_
  refine k_alen (pc := 8) (v := 6) C (k_in10 hg) ⟨Nat.le_of_ble_eq_true rfl, Nat.le_of_ble_eq_true rfl⟩ rfl dX2_countComing_8 ?_
  refine k_istore_3 (pc := 9) C dX2_countComing_9 rfl ?_
  refine k_iconst (pc := 10) (v := 0) C dX2_countComing_10 (by decide) ?_
  refine k_istore_4 (pc := 11) C dX2_countComing_11 rfl ?_
  refine k_cast (L' := [vR (2, g, 0), vI (nI (f_X2_countComing mi g 0)), vR (10, g, 0), vI 6, vI (nI 0), vU]) (mi' := mi) rfl rfl rfl ?_
  refine k_down (P := fun j => k_V p l e (k_rm 1) s m args below meth c D cy ad bs k_KS k_R0 0 0 (k_End below D cy ad bs k_KS k_R0 (k_rt (some (vI (nI (f_X2_countComing mi g 6)))) mi ml) args s) mi ml 13 [vR (2, g, 0), vI (nI (f_X2_countComing mi g j)), vR (10, g, 0), vI 6, vI (nI j), vU] []) 6 ?_ (fun j hj hk => ?_)
  · skip
    refine k_iload (pc := 13) C dX2_countComing_13 rfl ?_
    refine k_iload_n (pc := 15) C dX2_countComing_15 rfl ?_
    refine k_icmp_geT (pc := 16) C 42 dX2_countComing_16 (by decide) (by decide) ?_
    refine k_iload_n (pc := 42) C dX2_countComing_42 rfl ?_
    exact k_iret (pc := 43) C rfl k_rt_rf dX2_countComing_43
  · skip
    try dsimp only at hk
    refine k_iload (pc := 13) C dX2_countComing_13 rfl ?_
    refine k_iload_n (pc := 15) C dX2_countComing_15 rfl ?_
    refine k_icmp_geF (pc := 16) C 42 dX2_countComing_16 (by decide) (k_nge (n := 6) rfl (by decide) hj) ?_
    refine k_aload_n (pc := 19) C dX2_countComing_19 rfl ?_
    refine k_iload (pc := 20) C dX2_countComing_20 rfl ?_
    refine k_aaldX (pc := 22) (j := j) (kr := (0, g, j)) C (nI_clamp (by omega)) (k_in10 hg) (Or.inl rfl) (vp_in_nI (show _ < (6 : Nat) by omega) (show (6 : Nat) < 2 ^ 31 by decide)) rfl dX2_countComing_22 ?_
    refine k_astore_5 (pc := 23) C dX2_countComing_23 rfl ?_
    refine k_aload (pc := 25) C dX2_countComing_25 rfl ?_
    refine k_call0 (pc := 27) C cv_X2_62 (ct_X0_comes hg hj) (k_in0 hg hj) rfl (by decide) rfl (Nat.le_of_ble_eq_true rfl) dX2_countComing_27 ?_
    refine k_if_eq (pc := 30) C 36 dX2_countComing_30 (by decide) (fun c30 => ?_) (fun c30 => ?_)
    · skip
      refine k_iinc_4 (pc := 36) (v := nI (j + 1)) C dX2_countComing_36 (k_inc j) rfl ?_
      refine k_goto (pc := 39) C 13 dX2_countComing_39 (by decide) ?_
      refine k_drop_5 ?_
      exact k_cast (by rw [f_X2_countComing_s, if_pos c30]) rfl rfl hk
    · skip
      refine k_iinc_1 (pc := 33) (v := nI ((f_X2_countComing mi g j) + 1)) C dX2_countComing_33 (k_inc (f_X2_countComing mi g j)) rfl ?_
      refine k_iinc_4 (pc := 36) (v := nI (j + 1)) C dX2_countComing_36 (k_inc j) rfl ?_
      refine k_goto (pc := 39) C 13 dX2_countComing_39 (by decide) ?_
      refine k_drop_5 ?_
      exact k_cast (by rw [f_X2_countComing_s, if_neg c30]) rfl rfl hk
def f_X2_wearTogether (mi : MemI) (g : Nat) : Nat → Int32
  | 0 => 0
  | j + 1 =>
    if (mi (1, g, j) 1) = 0 then (f_X2_wearTogether mi g j)
    else (f_X2_wearTogether mi g j) + (mi (1, g, j) 7)
theorem f_X2_wearTogether_s (mi : MemI) (g : Nat) (j : Nat) : f_X2_wearTogether mi g (j + 1) =
    if (mi (1, g, j) 1) = 0 then (f_X2_wearTogether mi g j)
    else (f_X2_wearTogether mi g j) + (mi (1, g, j) 7) := rfl
set_option maxRecDepth 100000 in
set_option maxHeartbeats 4000000 in
theorem ct_X2_wearTogether {mi : MemI} {ml : MemL} {g : Nat} (hg : g < 3) : k_Ct k_KS k_R0 Mt_X2_wearTogether 0 [vR (2, g, 0)] mi ml (k_rt (some (vI (f_X2_wearTogether mi g 6))) mi ml) := by
  refine k_ofV (L0 := [vR (2, g, 0), vU, vU, vU, vU, vU]) (by decide +kernel) (Nat.le_of_ble_eq_true rfl) rfl rfl ?_
  intro p l e s m args below meth c D cy ad bs C
  refine k_iconst (pc := 0) (v := 0) C dX2_wearTogether_0 (by decide) ?_
  refine k_istore_1 (pc := 1) C dX2_wearTogether_1 rfl ?_
  refine k_aload_n (pc := 2) C dX2_wearTogether_2 rfl ?_
  refine k_getR (pc := 3) (r := some (11, g, 0)) C fl_X2_11 (k_in2 hg) rfl rfl rfl dX2_wearTogether_3 ?_
  refine k_astore_2 (pc := 6) C dX2_wearTogether_6 rfl ?_
  refine k_aload_n (pc := 7) C dX2_wearTogether_7 rfl ?_
  refine k_alen (pc := 8) (v := 6) C (k_in11 hg) ⟨Nat.le_of_ble_eq_true rfl, Nat.le_of_ble_eq_true rfl⟩ rfl dX2_wearTogether_8 ?_
  refine k_istore_3 (pc := 9) C dX2_wearTogether_9 rfl ?_
  refine k_iconst (pc := 10) (v := 0) C dX2_wearTogether_10 (by decide) ?_
  refine k_istore_4 (pc := 11) C dX2_wearTogether_11 rfl ?_
  refine k_cast (L' := [vR (2, g, 0), vI (f_X2_wearTogether mi g 0), vR (11, g, 0), vI 6, vI (nI 0), vU]) (mi' := mi) rfl rfl rfl ?_
  refine k_down (P := fun j => k_V p l e (k_rm 0) s m args below meth c D cy ad bs k_KS k_R0 0 0 (k_End below D cy ad bs k_KS k_R0 (k_rt (some (vI (f_X2_wearTogether mi g 6))) mi ml) args s) mi ml 13 [vR (2, g, 0), vI (f_X2_wearTogether mi g j), vR (11, g, 0), vI 6, vI (nI j), vU] []) 6 ?_ (fun j hj hk => ?_)
  · skip
    refine k_iload (pc := 13) C dX2_wearTogether_13 rfl ?_
    refine k_iload_n (pc := 15) C dX2_wearTogether_15 rfl ?_
    refine k_icmp_geT (pc := 16) C 47 dX2_wearTogether_16 (by decide) (by decide) ?_
    refine k_iload_n (pc := 47) C dX2_wearTogether_47 rfl ?_
    exact k_iret (pc := 48) C rfl k_rt_rf dX2_wearTogether_48
  · skip
    try dsimp only at hk
    refine k_iload (pc := 13) C dX2_wearTogether_13 rfl ?_
    refine k_iload_n (pc := 15) C dX2_wearTogether_15 rfl ?_
    refine k_icmp_geF (pc := 16) C 47 dX2_wearTogether_16 (by decide) (k_nge (n := 6) rfl (by decide) hj) ?_
    refine k_aload_n (pc := 19) C dX2_wearTogether_19 rfl ?_
    refine k_iload (pc := 20) C dX2_wearTogether_20 rfl ?_
    refine k_aaldX (pc := 22) (j := j) (kr := (1, g, j)) C (nI_clamp (by omega)) (k_in11 hg) (Or.inr (Or.inl rfl)) (vp_in_nI (show _ < (6 : Nat) by omega) (show (6 : Nat) < 2 ^ 31 by decide)) rfl dX2_wearTogether_22 ?_
    refine k_astore_5 (pc := 23) C dX2_wearTogether_23 rfl ?_
    refine k_aload (pc := 25) C dX2_wearTogether_25 rfl ?_
    refine k_getI (pc := 27) C fl_X2_68 (k_in1 hg hj) rfl rfl dX2_wearTogether_27 ?_
    refine k_if_eq (pc := 30) C 41 dX2_wearTogether_30 (by decide) (fun c30 => ?_) (fun c30 => ?_)
    · skip
      refine k_iinc_4 (pc := 41) (v := nI (j + 1)) C dX2_wearTogether_41 (k_inc j) rfl ?_
      refine k_goto (pc := 44) C 13 dX2_wearTogether_44 (by decide) ?_
      refine k_drop_5 ?_
      exact k_cast (by rw [f_X2_wearTogether_s, if_pos c30]) rfl rfl hk
    · skip
      refine k_iload_n (pc := 33) C dX2_wearTogether_33 rfl ?_
      refine k_aload (pc := 34) C dX2_wearTogether_34 rfl ?_
      refine k_getI (pc := 36) C fl_X2_72 (k_in1 hg hj) rfl rfl dX2_wearTogether_36 ?_
      refine k_iadd (pc := 39) C dX2_wearTogether_39 ?_
      refine k_istore_1 (pc := 40) C dX2_wearTogether_40 rfl ?_
      refine k_iinc_4 (pc := 41) (v := nI (j + 1)) C dX2_wearTogether_41 (k_inc j) rfl ?_
      refine k_goto (pc := 44) C 13 dX2_wearTogether_44 (by decide) ?_
      refine k_drop_5 ?_
      exact k_cast (by rw [f_X2_wearTogether_s, if_neg c30]) rfl rfl hk
def f_X2_hungerTogether (mi : MemI) (g : Nat) : Nat → Int32
  | 0 => 0
  | j + 1 =>
    if (mi (0, g, j) 1) = 0 then (f_X2_hungerTogether mi g j)
    else (f_X2_hungerTogether mi g j) + (mi (0, g, j) 6)
theorem f_X2_hungerTogether_s (mi : MemI) (g : Nat) (j : Nat) : f_X2_hungerTogether mi g (j + 1) =
    if (mi (0, g, j) 1) = 0 then (f_X2_hungerTogether mi g j)
    else (f_X2_hungerTogether mi g j) + (mi (0, g, j) 6) := rfl
set_option maxRecDepth 100000 in
set_option maxHeartbeats 4000000 in
theorem ct_X2_hungerTogether {mi : MemI} {ml : MemL} {g : Nat} (hg : g < 3) : k_Ct k_KS k_R0 Mt_X2_hungerTogether 0 [vR (2, g, 0)] mi ml (k_rt (some (vI (f_X2_hungerTogether mi g 6))) mi ml) := by
  refine k_ofV (L0 := [vR (2, g, 0), vU, vU, vU, vU, vU]) (by decide +kernel) (Nat.le_of_ble_eq_true rfl) rfl rfl ?_
  intro p l e s m args below meth c D cy ad bs C
  refine k_iconst (pc := 0) (v := 0) C dX2_hungerTogether_0 (by decide) ?_
  refine k_istore_1 (pc := 1) C dX2_hungerTogether_1 rfl ?_
  refine k_aload_n (pc := 2) C dX2_hungerTogether_2 rfl ?_
  refine k_getR (pc := 3) (r := some (10, g, 0)) C fl_X2_19 (k_in2 hg) rfl rfl rfl dX2_hungerTogether_3 ?_
  refine k_astore_2 (pc := 6) C dX2_hungerTogether_6 rfl ?_
  refine k_aload_n (pc := 7) C dX2_hungerTogether_7 rfl ?_
  refine k_alen (pc := 8) (v := 6) C (k_in10 hg) ⟨Nat.le_of_ble_eq_true rfl, Nat.le_of_ble_eq_true rfl⟩ rfl dX2_hungerTogether_8 ?_
  refine k_istore_3 (pc := 9) C dX2_hungerTogether_9 rfl ?_
  refine k_iconst (pc := 10) (v := 0) C dX2_hungerTogether_10 (by decide) ?_
  refine k_istore_4 (pc := 11) C dX2_hungerTogether_11 rfl ?_
  refine k_cast (L' := [vR (2, g, 0), vI (f_X2_hungerTogether mi g 0), vR (10, g, 0), vI 6, vI (nI 0), vU]) (mi' := mi) rfl rfl rfl ?_
  refine k_down (P := fun j => k_V p l e (k_rm 0) s m args below meth c D cy ad bs k_KS k_R0 0 0 (k_End below D cy ad bs k_KS k_R0 (k_rt (some (vI (f_X2_hungerTogether mi g 6))) mi ml) args s) mi ml 13 [vR (2, g, 0), vI (f_X2_hungerTogether mi g j), vR (10, g, 0), vI 6, vI (nI j), vU] []) 6 ?_ (fun j hj hk => ?_)
  · skip
    refine k_iload (pc := 13) C dX2_hungerTogether_13 rfl ?_
    refine k_iload_n (pc := 15) C dX2_hungerTogether_15 rfl ?_
    refine k_icmp_geT (pc := 16) C 47 dX2_hungerTogether_16 (by decide) (by decide) ?_
    refine k_iload_n (pc := 47) C dX2_hungerTogether_47 rfl ?_
    exact k_iret (pc := 48) C rfl k_rt_rf dX2_hungerTogether_48
  · skip
    try dsimp only at hk
    refine k_iload (pc := 13) C dX2_hungerTogether_13 rfl ?_
    refine k_iload_n (pc := 15) C dX2_hungerTogether_15 rfl ?_
    refine k_icmp_geF (pc := 16) C 47 dX2_hungerTogether_16 (by decide) (k_nge (n := 6) rfl (by decide) hj) ?_
    refine k_aload_n (pc := 19) C dX2_hungerTogether_19 rfl ?_
    refine k_iload (pc := 20) C dX2_hungerTogether_20 rfl ?_
    refine k_aaldX (pc := 22) (j := j) (kr := (0, g, j)) C (nI_clamp (by omega)) (k_in10 hg) (Or.inl rfl) (vp_in_nI (show _ < (6 : Nat) by omega) (show (6 : Nat) < 2 ^ 31 by decide)) rfl dX2_hungerTogether_22 ?_
    refine k_astore_5 (pc := 23) C dX2_hungerTogether_23 rfl ?_
    refine k_aload (pc := 25) C dX2_hungerTogether_25 rfl ?_
    refine k_getI (pc := 27) C fl_X2_75 (k_in0 hg hj) rfl rfl dX2_hungerTogether_27 ?_
    refine k_if_eq (pc := 30) C 41 dX2_hungerTogether_30 (by decide) (fun c30 => ?_) (fun c30 => ?_)
    · skip
      refine k_iinc_4 (pc := 41) (v := nI (j + 1)) C dX2_hungerTogether_41 (k_inc j) rfl ?_
      refine k_goto (pc := 44) C 13 dX2_hungerTogether_44 (by decide) ?_
      refine k_drop_5 ?_
      exact k_cast (by rw [f_X2_hungerTogether_s, if_pos c30]) rfl rfl hk
    · skip
      refine k_iload_n (pc := 33) C dX2_hungerTogether_33 rfl ?_
      refine k_aload (pc := 34) C dX2_hungerTogether_34 rfl ?_
      refine k_getI (pc := 36) C fl_X2_76 (k_in0 hg hj) rfl rfl dX2_hungerTogether_36 ?_
      refine k_iadd (pc := 39) C dX2_hungerTogether_39 ?_
      refine k_istore_1 (pc := 40) C dX2_hungerTogether_40 rfl ?_
      refine k_iinc_4 (pc := 41) (v := nI (j + 1)) C dX2_hungerTogether_41 (k_inc j) rfl ?_
      refine k_goto (pc := 44) C 13 dX2_hungerTogether_44 (by decide) ?_
      refine k_drop_5 ?_
      exact k_cast (by rw [f_X2_hungerTogether_s, if_neg c30]) rfl rfl hk
def f_X2_greatestFace (mi : MemI) (g : Nat) : Nat → Nat
  | 0 => 6
  | j + 1 =>
    if f_X2_greatestFace mi g j < 6 then if (f_X1_isOpen mi g j) = 0 then (f_X2_greatestFace mi g j)
      else if (mi (1, g, j) 9) ≤ (mi (1, g, (f_X2_greatestFace mi g j)) 9) then (f_X2_greatestFace mi g j)
        else j
    else if (f_X1_isOpen mi g j) = 0 then 6
      else j
theorem f_X2_greatestFace_s (mi : MemI) (g : Nat) (j : Nat) : f_X2_greatestFace mi g (j + 1) =
    if f_X2_greatestFace mi g j < 6 then if (f_X1_isOpen mi g j) = 0 then (f_X2_greatestFace mi g j)
      else if (mi (1, g, j) 9) ≤ (mi (1, g, (f_X2_greatestFace mi g j)) 9) then (f_X2_greatestFace mi g j)
        else j
    else if (f_X1_isOpen mi g j) = 0 then 6
      else j := rfl
set_option maxRecDepth 100000 in
set_option maxHeartbeats 4000000 in
theorem ct_X2_greatestFace_s {mi : MemI} {ml : MemL} {g : Nat} (hg : g < 3) (h : f_X2_greatestFace mi g 6 < 6) : k_Ct k_KS k_R0 Mt_X2_greatestFace 1 [vR (2, g, 0)] mi ml (k_rt (some (vR (1, g, f_X2_greatestFace mi g 6))) mi ml) := by
  refine k_ofV (L0 := [vR (2, g, 0), vU, vU, vU, vU, vU]) (by decide +kernel) (Nat.le_of_ble_eq_true rfl) rfl rfl ?_
  intro p l e s m args below meth c D cy ad bs C
  refine k_null (pc := 0) C dX2_greatestFace_0 ?_
  refine k_astore_1 (pc := 1) C dX2_greatestFace_1 rfl ?_
  refine k_aload_n (pc := 2) C dX2_greatestFace_2 rfl ?_
  refine k_getR (pc := 3) (r := some (11, g, 0)) C fl_X2_11 (k_in2 hg) rfl rfl rfl dX2_greatestFace_3 ?_
  refine k_astore_2 (pc := 6) C dX2_greatestFace_6 rfl ?_
  refine k_aload_n (pc := 7) C dX2_greatestFace_7 rfl ?_
  refine k_alen (pc := 8) (v := 6) C (k_in11 hg) ⟨Nat.le_of_ble_eq_true rfl, Nat.le_of_ble_eq_true rfl⟩ rfl dX2_greatestFace_8 ?_
  refine k_istore_3 (pc := 9) C dX2_greatestFace_9 rfl ?_
  refine k_iconst (pc := 10) (v := 0) C dX2_greatestFace_10 (by decide) ?_
  refine k_istore_4 (pc := 11) C dX2_greatestFace_11 rfl ?_
  refine k_cast (L' := [vR (2, g, 0), vQ (k_opt 1 g (f_X2_greatestFace mi g 0)), vR (11, g, 0), vI 6, vI (nI 0), vU]) (mi' := mi) rfl rfl rfl ?_
  refine k_down (P := fun j => k_V p l e (k_rm 1) s m args below meth c D cy ad bs k_KS k_R0 0 0 (k_End below D cy ad bs k_KS k_R0 (k_rt (some (vR (1, g, f_X2_greatestFace mi g 6))) mi ml) args s) mi ml 13 [vR (2, g, 0), vQ (k_opt 1 g (f_X2_greatestFace mi g j)), vR (11, g, 0), vI 6, vI (nI j), vU] []) 6 ?_ (fun j hj hk => ?_)
  · skip
    refine k_cast (L' := [vR (2, g, 0), vR (1, g, (f_X2_greatestFace mi g 6)), vR (11, g, 0), vI 6, vI (nI 6), vU]) (by rw [k_opt_s h]) rfl rfl ?_
    refine k_iload (pc := 13) C dX2_greatestFace_13 rfl ?_
    refine k_iload_n (pc := 15) C dX2_greatestFace_15 rfl ?_
    refine k_icmp_geT (pc := 16) C 58 dX2_greatestFace_16 (by decide) (by decide) ?_
    refine k_aload_n (pc := 58) C dX2_greatestFace_58 rfl ?_
    exact k_aret (pc := 59) (x := some (1, g, (f_X2_greatestFace mi g 6))) C rfl (Or.inl ⟨_, rfl⟩) k_rt_rf dX2_greatestFace_59
  · skip
    try dsimp only at hk
    by_cases hch : f_X2_greatestFace mi g j < 6
    · skip
      refine k_cast (L' := [vR (2, g, 0), vR (1, g, (f_X2_greatestFace mi g j)), vR (11, g, 0), vI 6, vI (nI j), vU]) (by rw [k_opt_s hch]) rfl rfl ?_
      refine k_iload (pc := 13) C dX2_greatestFace_13 rfl ?_
      refine k_iload_n (pc := 15) C dX2_greatestFace_15 rfl ?_
      refine k_icmp_geF (pc := 16) C 58 dX2_greatestFace_16 (by decide) (k_nge (n := 6) rfl (by decide) hj) ?_
      refine k_aload_n (pc := 19) C dX2_greatestFace_19 rfl ?_
      refine k_iload (pc := 20) C dX2_greatestFace_20 rfl ?_
      refine k_aaldX (pc := 22) (j := j) (kr := (1, g, j)) C (nI_clamp (by omega)) (k_in11 hg) (Or.inr (Or.inl rfl)) (vp_in_nI (show _ < (6 : Nat) by omega) (show (6 : Nat) < 2 ^ 31 by decide)) rfl dX2_greatestFace_22 ?_
      refine k_astore_5 (pc := 23) C dX2_greatestFace_23 rfl ?_
      refine k_aload (pc := 25) C dX2_greatestFace_25 rfl ?_
      refine k_call0 (pc := 27) C cv_X2_54 (ct_X1_isOpen hg hj) (k_in1 hg hj) rfl (by decide) rfl (Nat.le_of_ble_eq_true rfl) dX2_greatestFace_27 ?_
      refine k_if_eq (pc := 30) C 52 dX2_greatestFace_30 (by decide) (fun c30 => ?_) (fun c30 => ?_)
      · skip
        refine k_iinc_4 (pc := 52) (v := nI (j + 1)) C dX2_greatestFace_52 (k_inc j) rfl ?_
        refine k_goto (pc := 55) C 13 dX2_greatestFace_55 (by decide) ?_
        refine k_drop_5 ?_
        exact k_cast (by rw [f_X2_greatestFace_s, if_pos hch, if_pos c30, k_opt_s hch]) rfl rfl hk
      · skip
        refine k_aload_n (pc := 33) C dX2_greatestFace_33 rfl ?_
        refine k_ifnullR (pc := 34) C dX2_greatestFace_34 ?_
        refine k_aload (pc := 37) C dX2_greatestFace_37 rfl ?_
        refine k_getI (pc := 39) C fl_X2_126 (k_in1 hg hj) rfl rfl dX2_greatestFace_39 ?_
        refine k_aload_n (pc := 42) C dX2_greatestFace_42 rfl ?_
        refine k_getI (pc := 43) C fl_X2_126 (k_in1 hg hch) rfl rfl dX2_greatestFace_43 ?_
        refine k_icmp_le (pc := 46) C 52 dX2_greatestFace_46 (by decide) (fun c46 => ?_) (fun c46 => ?_)
        · skip
          refine k_iinc_4 (pc := 52) (v := nI (j + 1)) C dX2_greatestFace_52 (k_inc j) rfl ?_
          refine k_goto (pc := 55) C 13 dX2_greatestFace_55 (by decide) ?_
          refine k_drop_5 ?_
          exact k_cast (by rw [f_X2_greatestFace_s, if_pos hch, if_neg c30, if_pos c46, k_opt_s hch]) rfl rfl hk
        · skip
          refine k_aload (pc := 49) C dX2_greatestFace_49 rfl ?_
          refine k_astore_1 (pc := 51) C dX2_greatestFace_51 rfl ?_
          refine k_iinc_4 (pc := 52) (v := nI (j + 1)) C dX2_greatestFace_52 (k_inc j) rfl ?_
          refine k_goto (pc := 55) C 13 dX2_greatestFace_55 (by decide) ?_
          refine k_drop_5 ?_
          exact k_cast (by rw [f_X2_greatestFace_s, if_pos hch, if_neg c30, if_neg c46, k_opt_s hj]) rfl rfl hk
    · skip
      refine k_cast (L' := [vR (2, g, 0), vN, vR (11, g, 0), vI 6, vI (nI j), vU]) (by rw [k_opt_n hch]) rfl rfl ?_
      refine k_iload (pc := 13) C dX2_greatestFace_13 rfl ?_
      refine k_iload_n (pc := 15) C dX2_greatestFace_15 rfl ?_
      refine k_icmp_geF (pc := 16) C 58 dX2_greatestFace_16 (by decide) (k_nge (n := 6) rfl (by decide) hj) ?_
      refine k_aload_n (pc := 19) C dX2_greatestFace_19 rfl ?_
      refine k_iload (pc := 20) C dX2_greatestFace_20 rfl ?_
      refine k_aaldX (pc := 22) (j := j) (kr := (1, g, j)) C (nI_clamp (by omega)) (k_in11 hg) (Or.inr (Or.inl rfl)) (vp_in_nI (show _ < (6 : Nat) by omega) (show (6 : Nat) < 2 ^ 31 by decide)) rfl dX2_greatestFace_22 ?_
      refine k_astore_5 (pc := 23) C dX2_greatestFace_23 rfl ?_
      refine k_aload (pc := 25) C dX2_greatestFace_25 rfl ?_
      refine k_call0 (pc := 27) C cv_X2_54 (ct_X1_isOpen hg hj) (k_in1 hg hj) rfl (by decide) rfl (Nat.le_of_ble_eq_true rfl) dX2_greatestFace_27 ?_
      refine k_if_eq (pc := 30) C 52 dX2_greatestFace_30 (by decide) (fun c30 => ?_) (fun c30 => ?_)
      · skip
        refine k_iinc_4 (pc := 52) (v := nI (j + 1)) C dX2_greatestFace_52 (k_inc j) rfl ?_
        refine k_goto (pc := 55) C 13 dX2_greatestFace_55 (by decide) ?_
        refine k_drop_5 ?_
        exact k_cast (by rw [f_X2_greatestFace_s, if_neg hch, if_pos c30, k_opt_n (by decide)]) rfl rfl hk
      · skip
        refine k_aload_n (pc := 33) C dX2_greatestFace_33 rfl ?_
        refine k_ifnullN (pc := 34) C 49 dX2_greatestFace_34 (by decide) ?_
        refine k_aload (pc := 49) C dX2_greatestFace_49 rfl ?_
        refine k_astore_1 (pc := 51) C dX2_greatestFace_51 rfl ?_
        refine k_iinc_4 (pc := 52) (v := nI (j + 1)) C dX2_greatestFace_52 (k_inc j) rfl ?_
        refine k_goto (pc := 55) C 13 dX2_greatestFace_55 (by decide) ?_
        refine k_drop_5 ?_
        exact k_cast (by rw [f_X2_greatestFace_s, if_neg hch, if_neg c30, k_opt_s hj]) rfl rfl hk
set_option maxRecDepth 100000 in
set_option maxHeartbeats 4000000 in
theorem ct_X2_greatestFace_n {mi : MemI} {ml : MemL} {g : Nat} (hg : g < 3) (h : ¬ f_X2_greatestFace mi g 6 < 6) : k_Ct k_KS k_R0 Mt_X2_greatestFace 1 [vR (2, g, 0)] mi ml (k_rt (some vN) mi ml) := by
  refine k_ofV (L0 := [vR (2, g, 0), vU, vU, vU, vU, vU]) (by decide +kernel) (Nat.le_of_ble_eq_true rfl) rfl rfl ?_
  intro p l e s m args below meth c D cy ad bs C
  refine k_null (pc := 0) C dX2_greatestFace_0 ?_
  refine k_astore_1 (pc := 1) C dX2_greatestFace_1 rfl ?_
  refine k_aload_n (pc := 2) C dX2_greatestFace_2 rfl ?_
  refine k_getR (pc := 3) (r := some (11, g, 0)) C fl_X2_11 (k_in2 hg) rfl rfl rfl dX2_greatestFace_3 ?_
  refine k_astore_2 (pc := 6) C dX2_greatestFace_6 rfl ?_
  refine k_aload_n (pc := 7) C dX2_greatestFace_7 rfl ?_
  refine k_alen (pc := 8) (v := 6) C (k_in11 hg) ⟨Nat.le_of_ble_eq_true rfl, Nat.le_of_ble_eq_true rfl⟩ rfl dX2_greatestFace_8 ?_
  refine k_istore_3 (pc := 9) C dX2_greatestFace_9 rfl ?_
  refine k_iconst (pc := 10) (v := 0) C dX2_greatestFace_10 (by decide) ?_
  refine k_istore_4 (pc := 11) C dX2_greatestFace_11 rfl ?_
  refine k_cast (L' := [vR (2, g, 0), vQ (k_opt 1 g (f_X2_greatestFace mi g 0)), vR (11, g, 0), vI 6, vI (nI 0), vU]) (mi' := mi) rfl rfl rfl ?_
  refine k_down (P := fun j => k_V p l e (k_rm 1) s m args below meth c D cy ad bs k_KS k_R0 0 0 (k_End below D cy ad bs k_KS k_R0 (k_rt (some vN) mi ml) args s) mi ml 13 [vR (2, g, 0), vQ (k_opt 1 g (f_X2_greatestFace mi g j)), vR (11, g, 0), vI 6, vI (nI j), vU] []) 6 ?_ (fun j hj hk => ?_)
  · skip
    refine k_cast (L' := [vR (2, g, 0), vN, vR (11, g, 0), vI 6, vI (nI 6), vU]) (by rw [k_opt_n h]) rfl rfl ?_
    refine k_iload (pc := 13) C dX2_greatestFace_13 rfl ?_
    refine k_iload_n (pc := 15) C dX2_greatestFace_15 rfl ?_
    refine k_icmp_geT (pc := 16) C 58 dX2_greatestFace_16 (by decide) (by decide) ?_
    refine k_aload_n (pc := 58) C dX2_greatestFace_58 rfl ?_
    exact k_aret (pc := 59) (x := none) C rfl (Or.inl ⟨_, rfl⟩) k_rt_rf dX2_greatestFace_59
  · skip
    try dsimp only at hk
    by_cases hch : f_X2_greatestFace mi g j < 6
    · skip
      refine k_cast (L' := [vR (2, g, 0), vR (1, g, (f_X2_greatestFace mi g j)), vR (11, g, 0), vI 6, vI (nI j), vU]) (by rw [k_opt_s hch]) rfl rfl ?_
      refine k_iload (pc := 13) C dX2_greatestFace_13 rfl ?_
      refine k_iload_n (pc := 15) C dX2_greatestFace_15 rfl ?_
      refine k_icmp_geF (pc := 16) C 58 dX2_greatestFace_16 (by decide) (k_nge (n := 6) rfl (by decide) hj) ?_
      refine k_aload_n (pc := 19) C dX2_greatestFace_19 rfl ?_
      refine k_iload (pc := 20) C dX2_greatestFace_20 rfl ?_
      refine k_aaldX (pc := 22) (j := j) (kr := (1, g, j)) C (nI_clamp (by omega)) (k_in11 hg) (Or.inr (Or.inl rfl)) (vp_in_nI (show _ < (6 : Nat) by omega) (show (6 : Nat) < 2 ^ 31 by decide)) rfl dX2_greatestFace_22 ?_
      refine k_astore_5 (pc := 23) C dX2_greatestFace_23 rfl ?_
      refine k_aload (pc := 25) C dX2_greatestFace_25 rfl ?_
      refine k_call0 (pc := 27) C cv_X2_54 (ct_X1_isOpen hg hj) (k_in1 hg hj) rfl (by decide) rfl (Nat.le_of_ble_eq_true rfl) dX2_greatestFace_27 ?_
      refine k_if_eq (pc := 30) C 52 dX2_greatestFace_30 (by decide) (fun c30 => ?_) (fun c30 => ?_)
      · skip
        refine k_iinc_4 (pc := 52) (v := nI (j + 1)) C dX2_greatestFace_52 (k_inc j) rfl ?_
        refine k_goto (pc := 55) C 13 dX2_greatestFace_55 (by decide) ?_
        refine k_drop_5 ?_
        exact k_cast (by rw [f_X2_greatestFace_s, if_pos hch, if_pos c30, k_opt_s hch]) rfl rfl hk
      · skip
        refine k_aload_n (pc := 33) C dX2_greatestFace_33 rfl ?_
        refine k_ifnullR (pc := 34) C dX2_greatestFace_34 ?_
        refine k_aload (pc := 37) C dX2_greatestFace_37 rfl ?_
        refine k_getI (pc := 39) C fl_X2_126 (k_in1 hg hj) rfl rfl dX2_greatestFace_39 ?_
        refine k_aload_n (pc := 42) C dX2_greatestFace_42 rfl ?_
        refine k_getI (pc := 43) C fl_X2_126 (k_in1 hg hch) rfl rfl dX2_greatestFace_43 ?_
        refine k_icmp_le (pc := 46) C 52 dX2_greatestFace_46 (by decide) (fun c46 => ?_) (fun c46 => ?_)
        · skip
          refine k_iinc_4 (pc := 52) (v := nI (j + 1)) C dX2_greatestFace_52 (k_inc j) rfl ?_
          refine k_goto (pc := 55) C 13 dX2_greatestFace_55 (by decide) ?_
          refine k_drop_5 ?_
          exact k_cast (by rw [f_X2_greatestFace_s, if_pos hch, if_neg c30, if_pos c46, k_opt_s hch]) rfl rfl hk
        · skip
          refine k_aload (pc := 49) C dX2_greatestFace_49 rfl ?_
          refine k_astore_1 (pc := 51) C dX2_greatestFace_51 rfl ?_
          refine k_iinc_4 (pc := 52) (v := nI (j + 1)) C dX2_greatestFace_52 (k_inc j) rfl ?_
          refine k_goto (pc := 55) C 13 dX2_greatestFace_55 (by decide) ?_
          refine k_drop_5 ?_
          exact k_cast (by rw [f_X2_greatestFace_s, if_pos hch, if_neg c30, if_neg c46, k_opt_s hj]) rfl rfl hk
    · skip
      refine k_cast (L' := [vR (2, g, 0), vN, vR (11, g, 0), vI 6, vI (nI j), vU]) (by rw [k_opt_n hch]) rfl rfl ?_
      refine k_iload (pc := 13) C dX2_greatestFace_13 rfl ?_
      refine k_iload_n (pc := 15) C dX2_greatestFace_15 rfl ?_
      refine k_icmp_geF (pc := 16) C 58 dX2_greatestFace_16 (by decide) (k_nge (n := 6) rfl (by decide) hj) ?_
      refine k_aload_n (pc := 19) C dX2_greatestFace_19 rfl ?_
      refine k_iload (pc := 20) C dX2_greatestFace_20 rfl ?_
      refine k_aaldX (pc := 22) (j := j) (kr := (1, g, j)) C (nI_clamp (by omega)) (k_in11 hg) (Or.inr (Or.inl rfl)) (vp_in_nI (show _ < (6 : Nat) by omega) (show (6 : Nat) < 2 ^ 31 by decide)) rfl dX2_greatestFace_22 ?_
      refine k_astore_5 (pc := 23) C dX2_greatestFace_23 rfl ?_
      refine k_aload (pc := 25) C dX2_greatestFace_25 rfl ?_
      refine k_call0 (pc := 27) C cv_X2_54 (ct_X1_isOpen hg hj) (k_in1 hg hj) rfl (by decide) rfl (Nat.le_of_ble_eq_true rfl) dX2_greatestFace_27 ?_
      refine k_if_eq (pc := 30) C 52 dX2_greatestFace_30 (by decide) (fun c30 => ?_) (fun c30 => ?_)
      · skip
        refine k_iinc_4 (pc := 52) (v := nI (j + 1)) C dX2_greatestFace_52 (k_inc j) rfl ?_
        refine k_goto (pc := 55) C 13 dX2_greatestFace_55 (by decide) ?_
        refine k_drop_5 ?_
        exact k_cast (by rw [f_X2_greatestFace_s, if_neg hch, if_pos c30, k_opt_n (by decide)]) rfl rfl hk
      · skip
        refine k_aload_n (pc := 33) C dX2_greatestFace_33 rfl ?_
        refine k_ifnullN (pc := 34) C 49 dX2_greatestFace_34 (by decide) ?_
        refine k_aload (pc := 49) C dX2_greatestFace_49 rfl ?_
        refine k_astore_1 (pc := 51) C dX2_greatestFace_51 rfl ?_
        refine k_iinc_4 (pc := 52) (v := nI (j + 1)) C dX2_greatestFace_52 (k_inc j) rfl ?_
        refine k_goto (pc := 55) C 13 dX2_greatestFace_55 (by decide) ?_
        refine k_drop_5 ?_
        exact k_cast (by rw [f_X2_greatestFace_s, if_neg hch, if_neg c30, k_opt_s hj]) rfl rfl hk
def f_X2_leastFace (mi : MemI) (g : Nat) : Nat → Nat
  | 0 => 6
  | j + 1 =>
    if f_X2_leastFace mi g j < 6 then if (f_X1_isOpen mi g j) = 0 then (f_X2_leastFace mi g j)
      else if (mi (1, g, (f_X2_leastFace mi g j)) 9) ≤ (mi (1, g, j) 9) then (f_X2_leastFace mi g j)
        else j
    else if (f_X1_isOpen mi g j) = 0 then 6
      else j
theorem f_X2_leastFace_s (mi : MemI) (g : Nat) (j : Nat) : f_X2_leastFace mi g (j + 1) =
    if f_X2_leastFace mi g j < 6 then if (f_X1_isOpen mi g j) = 0 then (f_X2_leastFace mi g j)
      else if (mi (1, g, (f_X2_leastFace mi g j)) 9) ≤ (mi (1, g, j) 9) then (f_X2_leastFace mi g j)
        else j
    else if (f_X1_isOpen mi g j) = 0 then 6
      else j := rfl
set_option maxRecDepth 100000 in
set_option maxHeartbeats 4000000 in
theorem ct_X2_leastFace_s {mi : MemI} {ml : MemL} {g : Nat} (hg : g < 3) (h : f_X2_leastFace mi g 6 < 6) : k_Ct k_KS k_R0 Mt_X2_leastFace 1 [vR (2, g, 0)] mi ml (k_rt (some (vR (1, g, f_X2_leastFace mi g 6))) mi ml) := by
  refine k_ofV (L0 := [vR (2, g, 0), vU, vU, vU, vU, vU]) (by decide +kernel) (Nat.le_of_ble_eq_true rfl) rfl rfl ?_
  intro p l e s m args below meth c D cy ad bs C
  refine k_null (pc := 0) C dX2_leastFace_0 ?_
  refine k_astore_1 (pc := 1) C dX2_leastFace_1 rfl ?_
  refine k_aload_n (pc := 2) C dX2_leastFace_2 rfl ?_
  refine k_getR (pc := 3) (r := some (11, g, 0)) C fl_X2_11 (k_in2 hg) rfl rfl rfl dX2_leastFace_3 ?_
  refine k_astore_2 (pc := 6) C dX2_leastFace_6 rfl ?_
  refine k_aload_n (pc := 7) C dX2_leastFace_7 rfl ?_
  refine k_alen (pc := 8) (v := 6) C (k_in11 hg) ⟨Nat.le_of_ble_eq_true rfl, Nat.le_of_ble_eq_true rfl⟩ rfl dX2_leastFace_8 ?_
  refine k_istore_3 (pc := 9) C dX2_leastFace_9 rfl ?_
  refine k_iconst (pc := 10) (v := 0) C dX2_leastFace_10 (by decide) ?_
  refine k_istore_4 (pc := 11) C dX2_leastFace_11 rfl ?_
  refine k_cast (L' := [vR (2, g, 0), vQ (k_opt 1 g (f_X2_leastFace mi g 0)), vR (11, g, 0), vI 6, vI (nI 0), vU]) (mi' := mi) rfl rfl rfl ?_
  refine k_down (P := fun j => k_V p l e (k_rm 1) s m args below meth c D cy ad bs k_KS k_R0 0 0 (k_End below D cy ad bs k_KS k_R0 (k_rt (some (vR (1, g, f_X2_leastFace mi g 6))) mi ml) args s) mi ml 13 [vR (2, g, 0), vQ (k_opt 1 g (f_X2_leastFace mi g j)), vR (11, g, 0), vI 6, vI (nI j), vU] []) 6 ?_ (fun j hj hk => ?_)
  · skip
    refine k_cast (L' := [vR (2, g, 0), vR (1, g, (f_X2_leastFace mi g 6)), vR (11, g, 0), vI 6, vI (nI 6), vU]) (by rw [k_opt_s h]) rfl rfl ?_
    refine k_iload (pc := 13) C dX2_leastFace_13 rfl ?_
    refine k_iload_n (pc := 15) C dX2_leastFace_15 rfl ?_
    refine k_icmp_geT (pc := 16) C 58 dX2_leastFace_16 (by decide) (by decide) ?_
    refine k_aload_n (pc := 58) C dX2_leastFace_58 rfl ?_
    exact k_aret (pc := 59) (x := some (1, g, (f_X2_leastFace mi g 6))) C rfl (Or.inl ⟨_, rfl⟩) k_rt_rf dX2_leastFace_59
  · skip
    try dsimp only at hk
    by_cases hch : f_X2_leastFace mi g j < 6
    · skip
      refine k_cast (L' := [vR (2, g, 0), vR (1, g, (f_X2_leastFace mi g j)), vR (11, g, 0), vI 6, vI (nI j), vU]) (by rw [k_opt_s hch]) rfl rfl ?_
      refine k_iload (pc := 13) C dX2_leastFace_13 rfl ?_
      refine k_iload_n (pc := 15) C dX2_leastFace_15 rfl ?_
      refine k_icmp_geF (pc := 16) C 58 dX2_leastFace_16 (by decide) (k_nge (n := 6) rfl (by decide) hj) ?_
      refine k_aload_n (pc := 19) C dX2_leastFace_19 rfl ?_
      refine k_iload (pc := 20) C dX2_leastFace_20 rfl ?_
      refine k_aaldX (pc := 22) (j := j) (kr := (1, g, j)) C (nI_clamp (by omega)) (k_in11 hg) (Or.inr (Or.inl rfl)) (vp_in_nI (show _ < (6 : Nat) by omega) (show (6 : Nat) < 2 ^ 31 by decide)) rfl dX2_leastFace_22 ?_
      refine k_astore_5 (pc := 23) C dX2_leastFace_23 rfl ?_
      refine k_aload (pc := 25) C dX2_leastFace_25 rfl ?_
      refine k_call0 (pc := 27) C cv_X2_54 (ct_X1_isOpen hg hj) (k_in1 hg hj) rfl (by decide) rfl (Nat.le_of_ble_eq_true rfl) dX2_leastFace_27 ?_
      refine k_if_eq (pc := 30) C 52 dX2_leastFace_30 (by decide) (fun c30 => ?_) (fun c30 => ?_)
      · skip
        refine k_iinc_4 (pc := 52) (v := nI (j + 1)) C dX2_leastFace_52 (k_inc j) rfl ?_
        refine k_goto (pc := 55) C 13 dX2_leastFace_55 (by decide) ?_
        refine k_drop_5 ?_
        exact k_cast (by rw [f_X2_leastFace_s, if_pos hch, if_pos c30, k_opt_s hch]) rfl rfl hk
      · skip
        refine k_aload_n (pc := 33) C dX2_leastFace_33 rfl ?_
        refine k_ifnullR (pc := 34) C dX2_leastFace_34 ?_
        refine k_aload (pc := 37) C dX2_leastFace_37 rfl ?_
        refine k_getI (pc := 39) C fl_X2_126 (k_in1 hg hj) rfl rfl dX2_leastFace_39 ?_
        refine k_aload_n (pc := 42) C dX2_leastFace_42 rfl ?_
        refine k_getI (pc := 43) C fl_X2_126 (k_in1 hg hch) rfl rfl dX2_leastFace_43 ?_
        refine k_icmp_ge (pc := 46) C 52 dX2_leastFace_46 (by decide) (fun c46 => ?_) (fun c46 => ?_)
        · skip
          refine k_iinc_4 (pc := 52) (v := nI (j + 1)) C dX2_leastFace_52 (k_inc j) rfl ?_
          refine k_goto (pc := 55) C 13 dX2_leastFace_55 (by decide) ?_
          refine k_drop_5 ?_
          exact k_cast (by rw [f_X2_leastFace_s, if_pos hch, if_neg c30, if_pos c46, k_opt_s hch]) rfl rfl hk
        · skip
          refine k_aload (pc := 49) C dX2_leastFace_49 rfl ?_
          refine k_astore_1 (pc := 51) C dX2_leastFace_51 rfl ?_
          refine k_iinc_4 (pc := 52) (v := nI (j + 1)) C dX2_leastFace_52 (k_inc j) rfl ?_
          refine k_goto (pc := 55) C 13 dX2_leastFace_55 (by decide) ?_
          refine k_drop_5 ?_
          exact k_cast (by rw [f_X2_leastFace_s, if_pos hch, if_neg c30, if_neg c46, k_opt_s hj]) rfl rfl hk
    · skip
      refine k_cast (L' := [vR (2, g, 0), vN, vR (11, g, 0), vI 6, vI (nI j), vU]) (by rw [k_opt_n hch]) rfl rfl ?_
      refine k_iload (pc := 13) C dX2_leastFace_13 rfl ?_
      refine k_iload_n (pc := 15) C dX2_leastFace_15 rfl ?_
      refine k_icmp_geF (pc := 16) C 58 dX2_leastFace_16 (by decide) (k_nge (n := 6) rfl (by decide) hj) ?_
      refine k_aload_n (pc := 19) C dX2_leastFace_19 rfl ?_
      refine k_iload (pc := 20) C dX2_leastFace_20 rfl ?_
      refine k_aaldX (pc := 22) (j := j) (kr := (1, g, j)) C (nI_clamp (by omega)) (k_in11 hg) (Or.inr (Or.inl rfl)) (vp_in_nI (show _ < (6 : Nat) by omega) (show (6 : Nat) < 2 ^ 31 by decide)) rfl dX2_leastFace_22 ?_
      refine k_astore_5 (pc := 23) C dX2_leastFace_23 rfl ?_
      refine k_aload (pc := 25) C dX2_leastFace_25 rfl ?_
      refine k_call0 (pc := 27) C cv_X2_54 (ct_X1_isOpen hg hj) (k_in1 hg hj) rfl (by decide) rfl (Nat.le_of_ble_eq_true rfl) dX2_leastFace_27 ?_
      refine k_if_eq (pc := 30) C 52 dX2_leastFace_30 (by decide) (fun c30 => ?_) (fun c30 => ?_)
      · skip
        refine k_iinc_4 (pc := 52) (v := nI (j + 1)) C dX2_leastFace_52 (k_inc j) rfl ?_
        refine k_goto (pc := 55) C 13 dX2_leastFace_55 (by decide) ?_
        refine k_drop_5 ?_
        exact k_cast (by rw [f_X2_leastFace_s, if_neg hch, if_pos c30, k_opt_n (by decide)]) rfl rfl hk
      · skip
        refine k_aload_n (pc := 33) C dX2_leastFace_33 rfl ?_
        refine k_ifnullN (pc := 34) C 49 dX2_leastFace_34 (by decide) ?_
        refine k_aload (pc := 49) C dX2_leastFace_49 rfl ?_
        refine k_astore_1 (pc := 51) C dX2_leastFace_51 rfl ?_
        refine k_iinc_4 (pc := 52) (v := nI (j + 1)) C dX2_leastFace_52 (k_inc j) rfl ?_
        refine k_goto (pc := 55) C 13 dX2_leastFace_55 (by decide) ?_
        refine k_drop_5 ?_
        exact k_cast (by rw [f_X2_leastFace_s, if_neg hch, if_neg c30, k_opt_s hj]) rfl rfl hk
set_option maxRecDepth 100000 in
set_option maxHeartbeats 4000000 in
theorem ct_X2_leastFace_n {mi : MemI} {ml : MemL} {g : Nat} (hg : g < 3) (h : ¬ f_X2_leastFace mi g 6 < 6) : k_Ct k_KS k_R0 Mt_X2_leastFace 1 [vR (2, g, 0)] mi ml (k_rt (some vN) mi ml) := by
  refine k_ofV (L0 := [vR (2, g, 0), vU, vU, vU, vU, vU]) (by decide +kernel) (Nat.le_of_ble_eq_true rfl) rfl rfl ?_
  intro p l e s m args below meth c D cy ad bs C
  refine k_null (pc := 0) C dX2_leastFace_0 ?_
  refine k_astore_1 (pc := 1) C dX2_leastFace_1 rfl ?_
  refine k_aload_n (pc := 2) C dX2_leastFace_2 rfl ?_
  refine k_getR (pc := 3) (r := some (11, g, 0)) C fl_X2_11 (k_in2 hg) rfl rfl rfl dX2_leastFace_3 ?_
  refine k_astore_2 (pc := 6) C dX2_leastFace_6 rfl ?_
  refine k_aload_n (pc := 7) C dX2_leastFace_7 rfl ?_
  refine k_alen (pc := 8) (v := 6) C (k_in11 hg) ⟨Nat.le_of_ble_eq_true rfl, Nat.le_of_ble_eq_true rfl⟩ rfl dX2_leastFace_8 ?_
  refine k_istore_3 (pc := 9) C dX2_leastFace_9 rfl ?_
  refine k_iconst (pc := 10) (v := 0) C dX2_leastFace_10 (by decide) ?_
  refine k_istore_4 (pc := 11) C dX2_leastFace_11 rfl ?_
  refine k_cast (L' := [vR (2, g, 0), vQ (k_opt 1 g (f_X2_leastFace mi g 0)), vR (11, g, 0), vI 6, vI (nI 0), vU]) (mi' := mi) rfl rfl rfl ?_
  refine k_down (P := fun j => k_V p l e (k_rm 1) s m args below meth c D cy ad bs k_KS k_R0 0 0 (k_End below D cy ad bs k_KS k_R0 (k_rt (some vN) mi ml) args s) mi ml 13 [vR (2, g, 0), vQ (k_opt 1 g (f_X2_leastFace mi g j)), vR (11, g, 0), vI 6, vI (nI j), vU] []) 6 ?_ (fun j hj hk => ?_)
  · skip
    refine k_cast (L' := [vR (2, g, 0), vN, vR (11, g, 0), vI 6, vI (nI 6), vU]) (by rw [k_opt_n h]) rfl rfl ?_
    refine k_iload (pc := 13) C dX2_leastFace_13 rfl ?_
    refine k_iload_n (pc := 15) C dX2_leastFace_15 rfl ?_
    refine k_icmp_geT (pc := 16) C 58 dX2_leastFace_16 (by decide) (by decide) ?_
    refine k_aload_n (pc := 58) C dX2_leastFace_58 rfl ?_
    exact k_aret (pc := 59) (x := none) C rfl (Or.inl ⟨_, rfl⟩) k_rt_rf dX2_leastFace_59
  · skip
    try dsimp only at hk
    by_cases hch : f_X2_leastFace mi g j < 6
    · skip
      refine k_cast (L' := [vR (2, g, 0), vR (1, g, (f_X2_leastFace mi g j)), vR (11, g, 0), vI 6, vI (nI j), vU]) (by rw [k_opt_s hch]) rfl rfl ?_
      refine k_iload (pc := 13) C dX2_leastFace_13 rfl ?_
      refine k_iload_n (pc := 15) C dX2_leastFace_15 rfl ?_
      refine k_icmp_geF (pc := 16) C 58 dX2_leastFace_16 (by decide) (k_nge (n := 6) rfl (by decide) hj) ?_
      refine k_aload_n (pc := 19) C dX2_leastFace_19 rfl ?_
      refine k_iload (pc := 20) C dX2_leastFace_20 rfl ?_
      refine k_aaldX (pc := 22) (j := j) (kr := (1, g, j)) C (nI_clamp (by omega)) (k_in11 hg) (Or.inr (Or.inl rfl)) (vp_in_nI (show _ < (6 : Nat) by omega) (show (6 : Nat) < 2 ^ 31 by decide)) rfl dX2_leastFace_22 ?_
      refine k_astore_5 (pc := 23) C dX2_leastFace_23 rfl ?_
      refine k_aload (pc := 25) C dX2_leastFace_25 rfl ?_
      refine k_call0 (pc := 27) C cv_X2_54 (ct_X1_isOpen hg hj) (k_in1 hg hj) rfl (by decide) rfl (Nat.le_of_ble_eq_true rfl) dX2_leastFace_27 ?_
      refine k_if_eq (pc := 30) C 52 dX2_leastFace_30 (by decide) (fun c30 => ?_) (fun c30 => ?_)
      · skip
        refine k_iinc_4 (pc := 52) (v := nI (j + 1)) C dX2_leastFace_52 (k_inc j) rfl ?_
        refine k_goto (pc := 55) C 13 dX2_leastFace_55 (by decide) ?_
        refine k_drop_5 ?_
        exact k_cast (by rw [f_X2_leastFace_s, if_pos hch, if_pos c30, k_opt_s hch]) rfl rfl hk
      · skip
        refine k_aload_n (pc := 33) C dX2_leastFace_33 rfl ?_
        refine k_ifnullR (pc := 34) C dX2_leastFace_34 ?_
        refine k_aload (pc := 37) C dX2_leastFace_37 rfl ?_
        refine k_getI (pc := 39) C fl_X2_126 (k_in1 hg hj) rfl rfl dX2_leastFace_39 ?_
        refine k_aload_n (pc := 42) C dX2_leastFace_42 rfl ?_
        refine k_getI (pc := 43) C fl_X2_126 (k_in1 hg hch) rfl rfl dX2_leastFace_43 ?_
        refine k_icmp_ge (pc := 46) C 52 dX2_leastFace_46 (by decide) (fun c46 => ?_) (fun c46 => ?_)
        · skip
          refine k_iinc_4 (pc := 52) (v := nI (j + 1)) C dX2_leastFace_52 (k_inc j) rfl ?_
          refine k_goto (pc := 55) C 13 dX2_leastFace_55 (by decide) ?_
          refine k_drop_5 ?_
          exact k_cast (by rw [f_X2_leastFace_s, if_pos hch, if_neg c30, if_pos c46, k_opt_s hch]) rfl rfl hk
        · skip
          refine k_aload (pc := 49) C dX2_leastFace_49 rfl ?_
          refine k_astore_1 (pc := 51) C dX2_leastFace_51 rfl ?_
          refine k_iinc_4 (pc := 52) (v := nI (j + 1)) C dX2_leastFace_52 (k_inc j) rfl ?_
          refine k_goto (pc := 55) C 13 dX2_leastFace_55 (by decide) ?_
          refine k_drop_5 ?_
          exact k_cast (by rw [f_X2_leastFace_s, if_pos hch, if_neg c30, if_neg c46, k_opt_s hj]) rfl rfl hk
    · skip
      refine k_cast (L' := [vR (2, g, 0), vN, vR (11, g, 0), vI 6, vI (nI j), vU]) (by rw [k_opt_n hch]) rfl rfl ?_
      refine k_iload (pc := 13) C dX2_leastFace_13 rfl ?_
      refine k_iload_n (pc := 15) C dX2_leastFace_15 rfl ?_
      refine k_icmp_geF (pc := 16) C 58 dX2_leastFace_16 (by decide) (k_nge (n := 6) rfl (by decide) hj) ?_
      refine k_aload_n (pc := 19) C dX2_leastFace_19 rfl ?_
      refine k_iload (pc := 20) C dX2_leastFace_20 rfl ?_
      refine k_aaldX (pc := 22) (j := j) (kr := (1, g, j)) C (nI_clamp (by omega)) (k_in11 hg) (Or.inr (Or.inl rfl)) (vp_in_nI (show _ < (6 : Nat) by omega) (show (6 : Nat) < 2 ^ 31 by decide)) rfl dX2_leastFace_22 ?_
      refine k_astore_5 (pc := 23) C dX2_leastFace_23 rfl ?_
      refine k_aload (pc := 25) C dX2_leastFace_25 rfl ?_
      refine k_call0 (pc := 27) C cv_X2_54 (ct_X1_isOpen hg hj) (k_in1 hg hj) rfl (by decide) rfl (Nat.le_of_ble_eq_true rfl) dX2_leastFace_27 ?_
      refine k_if_eq (pc := 30) C 52 dX2_leastFace_30 (by decide) (fun c30 => ?_) (fun c30 => ?_)
      · skip
        refine k_iinc_4 (pc := 52) (v := nI (j + 1)) C dX2_leastFace_52 (k_inc j) rfl ?_
        refine k_goto (pc := 55) C 13 dX2_leastFace_55 (by decide) ?_
        refine k_drop_5 ?_
        exact k_cast (by rw [f_X2_leastFace_s, if_neg hch, if_pos c30, k_opt_n (by decide)]) rfl rfl hk
      · skip
        refine k_aload_n (pc := 33) C dX2_leastFace_33 rfl ?_
        refine k_ifnullN (pc := 34) C 49 dX2_leastFace_34 (by decide) ?_
        refine k_aload (pc := 49) C dX2_leastFace_49 rfl ?_
        refine k_astore_1 (pc := 51) C dX2_leastFace_51 rfl ?_
        refine k_iinc_4 (pc := 52) (v := nI (j + 1)) C dX2_leastFace_52 (k_inc j) rfl ?_
        refine k_goto (pc := 55) C 13 dX2_leastFace_55 (by decide) ?_
        refine k_drop_5 ?_
        exact k_cast (by rw [f_X2_leastFace_s, if_neg hch, if_neg c30, k_opt_s hj]) rfl rfl hk
def f_X2_fewestPicked (mi : MemI) (g : Nat) : Nat → Nat
  | 0 => 6
  | j + 1 =>
    if f_X2_fewestPicked mi g j < 6 then if (f_X1_isOpen mi g j) = 0 then (f_X2_fewestPicked mi g j)
      else if (mi (1, g, j) 11) < (mi (1, g, (f_X2_fewestPicked mi g j)) 11) then j
        else if (mi (1, g, j) 11) = (mi (1, g, (f_X2_fewestPicked mi g j)) 11) then if (mi (1, g, j) 9) ≤ (mi (1, g, (f_X2_fewestPicked mi g j)) 9) then (f_X2_fewestPicked mi g j)
            else j
          else (f_X2_fewestPicked mi g j)
    else if (f_X1_isOpen mi g j) = 0 then 6
      else j
theorem f_X2_fewestPicked_s (mi : MemI) (g : Nat) (j : Nat) : f_X2_fewestPicked mi g (j + 1) =
    if f_X2_fewestPicked mi g j < 6 then if (f_X1_isOpen mi g j) = 0 then (f_X2_fewestPicked mi g j)
      else if (mi (1, g, j) 11) < (mi (1, g, (f_X2_fewestPicked mi g j)) 11) then j
        else if (mi (1, g, j) 11) = (mi (1, g, (f_X2_fewestPicked mi g j)) 11) then if (mi (1, g, j) 9) ≤ (mi (1, g, (f_X2_fewestPicked mi g j)) 9) then (f_X2_fewestPicked mi g j)
            else j
          else (f_X2_fewestPicked mi g j)
    else if (f_X1_isOpen mi g j) = 0 then 6
      else j := rfl
set_option maxRecDepth 100000 in
set_option maxHeartbeats 4000000 in
theorem ct_X2_fewestPicked_s {mi : MemI} {ml : MemL} {g : Nat} (hg : g < 3) (h : f_X2_fewestPicked mi g 6 < 6) : k_Ct k_KS k_R0 Mt_X2_fewestPicked 1 [vR (2, g, 0)] mi ml (k_rt (some (vR (1, g, f_X2_fewestPicked mi g 6))) mi ml) := by
  refine k_ofV (L0 := [vR (2, g, 0), vU, vU, vU, vU, vU]) (by decide +kernel) (Nat.le_of_ble_eq_true rfl) rfl rfl ?_
  intro p l e s m args below meth c D cy ad bs C
  refine k_null (pc := 0) C dX2_fewestPicked_0 ?_
  refine k_astore_1 (pc := 1) C dX2_fewestPicked_1 rfl ?_
  refine k_aload_n (pc := 2) C dX2_fewestPicked_2 rfl ?_
  refine k_getR (pc := 3) (r := some (11, g, 0)) C fl_X2_11 (k_in2 hg) rfl rfl rfl dX2_fewestPicked_3 ?_
  refine k_astore_2 (pc := 6) C dX2_fewestPicked_6 rfl ?_
  refine k_aload_n (pc := 7) C dX2_fewestPicked_7 rfl ?_
  refine k_alen (pc := 8) (v := 6) C (k_in11 hg) ⟨Nat.le_of_ble_eq_true rfl, Nat.le_of_ble_eq_true rfl⟩ rfl dX2_fewestPicked_8 ?_
  refine k_istore_3 (pc := 9) C dX2_fewestPicked_9 rfl ?_
  refine k_iconst (pc := 10) (v := 0) C dX2_fewestPicked_10 (by decide) ?_
  refine k_istore_4 (pc := 11) C dX2_fewestPicked_11 rfl ?_
  refine k_cast (L' := [vR (2, g, 0), vQ (k_opt 1 g (f_X2_fewestPicked mi g 0)), vR (11, g, 0), vI 6, vI (nI 0), vU]) (mi' := mi) rfl rfl rfl ?_
  refine k_down (P := fun j => k_V p l e (k_rm 1) s m args below meth c D cy ad bs k_KS k_R0 0 0 (k_End below D cy ad bs k_KS k_R0 (k_rt (some (vR (1, g, f_X2_fewestPicked mi g 6))) mi ml) args s) mi ml 13 [vR (2, g, 0), vQ (k_opt 1 g (f_X2_fewestPicked mi g j)), vR (11, g, 0), vI 6, vI (nI j), vU] []) 6 ?_ (fun j hj hk => ?_)
  · skip
    refine k_cast (L' := [vR (2, g, 0), vR (1, g, (f_X2_fewestPicked mi g 6)), vR (11, g, 0), vI 6, vI (nI 6), vU]) (by rw [k_opt_s h]) rfl rfl ?_
    refine k_iload (pc := 13) C dX2_fewestPicked_13 rfl ?_
    refine k_iload_n (pc := 15) C dX2_fewestPicked_15 rfl ?_
    refine k_icmp_geT (pc := 16) C 85 dX2_fewestPicked_16 (by decide) (by decide) ?_
    refine k_aload_n (pc := 85) C dX2_fewestPicked_85 rfl ?_
    exact k_aret (pc := 86) (x := some (1, g, (f_X2_fewestPicked mi g 6))) C rfl (Or.inl ⟨_, rfl⟩) k_rt_rf dX2_fewestPicked_86
  · skip
    try dsimp only at hk
    by_cases hch : f_X2_fewestPicked mi g j < 6
    · skip
      refine k_cast (L' := [vR (2, g, 0), vR (1, g, (f_X2_fewestPicked mi g j)), vR (11, g, 0), vI 6, vI (nI j), vU]) (by rw [k_opt_s hch]) rfl rfl ?_
      refine k_iload (pc := 13) C dX2_fewestPicked_13 rfl ?_
      refine k_iload_n (pc := 15) C dX2_fewestPicked_15 rfl ?_
      refine k_icmp_geF (pc := 16) C 85 dX2_fewestPicked_16 (by decide) (k_nge (n := 6) rfl (by decide) hj) ?_
      refine k_aload_n (pc := 19) C dX2_fewestPicked_19 rfl ?_
      refine k_iload (pc := 20) C dX2_fewestPicked_20 rfl ?_
      refine k_aaldX (pc := 22) (j := j) (kr := (1, g, j)) C (nI_clamp (by omega)) (k_in11 hg) (Or.inr (Or.inl rfl)) (vp_in_nI (show _ < (6 : Nat) by omega) (show (6 : Nat) < 2 ^ 31 by decide)) rfl dX2_fewestPicked_22 ?_
      refine k_astore_5 (pc := 23) C dX2_fewestPicked_23 rfl ?_
      refine k_aload (pc := 25) C dX2_fewestPicked_25 rfl ?_
      refine k_call0 (pc := 27) C cv_X2_54 (ct_X1_isOpen hg hj) (k_in1 hg hj) rfl (by decide) rfl (Nat.le_of_ble_eq_true rfl) dX2_fewestPicked_27 ?_
      refine k_if_ne (pc := 30) C 36 dX2_fewestPicked_30 (by decide) (fun c30 => ?_) (fun c30 => ?_)
      · skip
        refine k_aload_n (pc := 36) C dX2_fewestPicked_36 rfl ?_
        refine k_ifnullR (pc := 37) C dX2_fewestPicked_37 ?_
        refine k_aload (pc := 40) C dX2_fewestPicked_40 rfl ?_
        refine k_getI (pc := 42) C fl_X2_129 (k_in1 hg hj) rfl rfl dX2_fewestPicked_42 ?_
        refine k_aload_n (pc := 45) C dX2_fewestPicked_45 rfl ?_
        refine k_getI (pc := 46) C fl_X2_129 (k_in1 hg hch) rfl rfl dX2_fewestPicked_46 ?_
        refine k_icmp_lt (pc := 49) C 76 dX2_fewestPicked_49 (by decide) (fun c49 => ?_) (fun c49 => ?_)
        · skip
          refine k_aload (pc := 76) C dX2_fewestPicked_76 rfl ?_
          refine k_astore_1 (pc := 78) C dX2_fewestPicked_78 rfl ?_
          refine k_iinc_4 (pc := 79) (v := nI (j + 1)) C dX2_fewestPicked_79 (k_inc j) rfl ?_
          refine k_goto (pc := 82) C 13 dX2_fewestPicked_82 (by decide) ?_
          refine k_drop_5 ?_
          exact k_cast (by rw [f_X2_fewestPicked_s, if_pos hch, if_neg c30, if_pos c49, k_opt_s hj]) rfl rfl hk
        · skip
          refine k_aload (pc := 52) C dX2_fewestPicked_52 rfl ?_
          refine k_getI (pc := 54) C fl_X2_129 (k_in1 hg hj) rfl rfl dX2_fewestPicked_54 ?_
          refine k_aload_n (pc := 57) C dX2_fewestPicked_57 rfl ?_
          refine k_getI (pc := 58) C fl_X2_129 (k_in1 hg hch) rfl rfl dX2_fewestPicked_58 ?_
          refine k_icmp_ne (pc := 61) C 79 dX2_fewestPicked_61 (by decide) (fun c61 => ?_) (fun c61 => ?_)
          · skip
            refine k_iinc_4 (pc := 79) (v := nI (j + 1)) C dX2_fewestPicked_79 (k_inc j) rfl ?_
            refine k_goto (pc := 82) C 13 dX2_fewestPicked_82 (by decide) ?_
            refine k_drop_5 ?_
            exact k_cast (by rw [f_X2_fewestPicked_s, if_pos hch, if_neg c30, if_neg c49, if_neg c61, k_opt_s hch]) rfl rfl hk
          · skip
            refine k_aload (pc := 64) C dX2_fewestPicked_64 rfl ?_
            refine k_getI (pc := 66) C fl_X2_126 (k_in1 hg hj) rfl rfl dX2_fewestPicked_66 ?_
            refine k_aload_n (pc := 69) C dX2_fewestPicked_69 rfl ?_
            refine k_getI (pc := 70) C fl_X2_126 (k_in1 hg hch) rfl rfl dX2_fewestPicked_70 ?_
            refine k_icmp_le (pc := 73) C 79 dX2_fewestPicked_73 (by decide) (fun c73 => ?_) (fun c73 => ?_)
            · skip
              refine k_iinc_4 (pc := 79) (v := nI (j + 1)) C dX2_fewestPicked_79 (k_inc j) rfl ?_
              refine k_goto (pc := 82) C 13 dX2_fewestPicked_82 (by decide) ?_
              refine k_drop_5 ?_
              exact k_cast (by rw [f_X2_fewestPicked_s, if_pos hch, if_neg c30, if_neg c49, if_pos c61, if_pos c73, k_opt_s hch]) rfl rfl hk
            · skip
              refine k_aload (pc := 76) C dX2_fewestPicked_76 rfl ?_
              refine k_astore_1 (pc := 78) C dX2_fewestPicked_78 rfl ?_
              refine k_iinc_4 (pc := 79) (v := nI (j + 1)) C dX2_fewestPicked_79 (k_inc j) rfl ?_
              refine k_goto (pc := 82) C 13 dX2_fewestPicked_82 (by decide) ?_
              refine k_drop_5 ?_
              exact k_cast (by rw [f_X2_fewestPicked_s, if_pos hch, if_neg c30, if_neg c49, if_pos c61, if_neg c73, k_opt_s hj]) rfl rfl hk
      · skip
        refine k_goto (pc := 33) C 79 dX2_fewestPicked_33 (by decide) ?_
        refine k_iinc_4 (pc := 79) (v := nI (j + 1)) C dX2_fewestPicked_79 (k_inc j) rfl ?_
        refine k_goto (pc := 82) C 13 dX2_fewestPicked_82 (by decide) ?_
        refine k_drop_5 ?_
        exact k_cast (by rw [f_X2_fewestPicked_s, if_pos hch, if_pos c30, k_opt_s hch]) rfl rfl hk
    · skip
      refine k_cast (L' := [vR (2, g, 0), vN, vR (11, g, 0), vI 6, vI (nI j), vU]) (by rw [k_opt_n hch]) rfl rfl ?_
      refine k_iload (pc := 13) C dX2_fewestPicked_13 rfl ?_
      refine k_iload_n (pc := 15) C dX2_fewestPicked_15 rfl ?_
      refine k_icmp_geF (pc := 16) C 85 dX2_fewestPicked_16 (by decide) (k_nge (n := 6) rfl (by decide) hj) ?_
      refine k_aload_n (pc := 19) C dX2_fewestPicked_19 rfl ?_
      refine k_iload (pc := 20) C dX2_fewestPicked_20 rfl ?_
      refine k_aaldX (pc := 22) (j := j) (kr := (1, g, j)) C (nI_clamp (by omega)) (k_in11 hg) (Or.inr (Or.inl rfl)) (vp_in_nI (show _ < (6 : Nat) by omega) (show (6 : Nat) < 2 ^ 31 by decide)) rfl dX2_fewestPicked_22 ?_
      refine k_astore_5 (pc := 23) C dX2_fewestPicked_23 rfl ?_
      refine k_aload (pc := 25) C dX2_fewestPicked_25 rfl ?_
      refine k_call0 (pc := 27) C cv_X2_54 (ct_X1_isOpen hg hj) (k_in1 hg hj) rfl (by decide) rfl (Nat.le_of_ble_eq_true rfl) dX2_fewestPicked_27 ?_
      refine k_if_ne (pc := 30) C 36 dX2_fewestPicked_30 (by decide) (fun c30 => ?_) (fun c30 => ?_)
      · skip
        refine k_aload_n (pc := 36) C dX2_fewestPicked_36 rfl ?_
        refine k_ifnullN (pc := 37) C 76 dX2_fewestPicked_37 (by decide) ?_
        refine k_aload (pc := 76) C dX2_fewestPicked_76 rfl ?_
        refine k_astore_1 (pc := 78) C dX2_fewestPicked_78 rfl ?_
        refine k_iinc_4 (pc := 79) (v := nI (j + 1)) C dX2_fewestPicked_79 (k_inc j) rfl ?_
        refine k_goto (pc := 82) C 13 dX2_fewestPicked_82 (by decide) ?_
        refine k_drop_5 ?_
        exact k_cast (by rw [f_X2_fewestPicked_s, if_neg hch, if_neg c30, k_opt_s hj]) rfl rfl hk
      · skip
        refine k_goto (pc := 33) C 79 dX2_fewestPicked_33 (by decide) ?_
        refine k_iinc_4 (pc := 79) (v := nI (j + 1)) C dX2_fewestPicked_79 (k_inc j) rfl ?_
        refine k_goto (pc := 82) C 13 dX2_fewestPicked_82 (by decide) ?_
        refine k_drop_5 ?_
        exact k_cast (by rw [f_X2_fewestPicked_s, if_neg hch, if_pos c30, k_opt_n (by decide)]) rfl rfl hk
set_option maxRecDepth 100000 in
set_option maxHeartbeats 4000000 in
theorem ct_X2_fewestPicked_n {mi : MemI} {ml : MemL} {g : Nat} (hg : g < 3) (h : ¬ f_X2_fewestPicked mi g 6 < 6) : k_Ct k_KS k_R0 Mt_X2_fewestPicked 1 [vR (2, g, 0)] mi ml (k_rt (some vN) mi ml) := by
  refine k_ofV (L0 := [vR (2, g, 0), vU, vU, vU, vU, vU]) (by decide +kernel) (Nat.le_of_ble_eq_true rfl) rfl rfl ?_
  intro p l e s m args below meth c D cy ad bs C
  refine k_null (pc := 0) C dX2_fewestPicked_0 ?_
  refine k_astore_1 (pc := 1) C dX2_fewestPicked_1 rfl ?_
  refine k_aload_n (pc := 2) C dX2_fewestPicked_2 rfl ?_
  refine k_getR (pc := 3) (r := some (11, g, 0)) C fl_X2_11 (k_in2 hg) rfl rfl rfl dX2_fewestPicked_3 ?_
  refine k_astore_2 (pc := 6) C dX2_fewestPicked_6 rfl ?_
  refine k_aload_n (pc := 7) C dX2_fewestPicked_7 rfl ?_
  refine k_alen (pc := 8) (v := 6) C (k_in11 hg) ⟨Nat.le_of_ble_eq_true rfl, Nat.le_of_ble_eq_true rfl⟩ rfl dX2_fewestPicked_8 ?_
  refine k_istore_3 (pc := 9) C dX2_fewestPicked_9 rfl ?_
  refine k_iconst (pc := 10) (v := 0) C dX2_fewestPicked_10 (by decide) ?_
  refine k_istore_4 (pc := 11) C dX2_fewestPicked_11 rfl ?_
  refine k_cast (L' := [vR (2, g, 0), vQ (k_opt 1 g (f_X2_fewestPicked mi g 0)), vR (11, g, 0), vI 6, vI (nI 0), vU]) (mi' := mi) rfl rfl rfl ?_
  refine k_down (P := fun j => k_V p l e (k_rm 1) s m args below meth c D cy ad bs k_KS k_R0 0 0 (k_End below D cy ad bs k_KS k_R0 (k_rt (some vN) mi ml) args s) mi ml 13 [vR (2, g, 0), vQ (k_opt 1 g (f_X2_fewestPicked mi g j)), vR (11, g, 0), vI 6, vI (nI j), vU] []) 6 ?_ (fun j hj hk => ?_)
  · skip
    refine k_cast (L' := [vR (2, g, 0), vN, vR (11, g, 0), vI 6, vI (nI 6), vU]) (by rw [k_opt_n h]) rfl rfl ?_
    refine k_iload (pc := 13) C dX2_fewestPicked_13 rfl ?_
    refine k_iload_n (pc := 15) C dX2_fewestPicked_15 rfl ?_
    refine k_icmp_geT (pc := 16) C 85 dX2_fewestPicked_16 (by decide) (by decide) ?_
    refine k_aload_n (pc := 85) C dX2_fewestPicked_85 rfl ?_
    exact k_aret (pc := 86) (x := none) C rfl (Or.inl ⟨_, rfl⟩) k_rt_rf dX2_fewestPicked_86
  · skip
    try dsimp only at hk
    by_cases hch : f_X2_fewestPicked mi g j < 6
    · skip
      refine k_cast (L' := [vR (2, g, 0), vR (1, g, (f_X2_fewestPicked mi g j)), vR (11, g, 0), vI 6, vI (nI j), vU]) (by rw [k_opt_s hch]) rfl rfl ?_
      refine k_iload (pc := 13) C dX2_fewestPicked_13 rfl ?_
      refine k_iload_n (pc := 15) C dX2_fewestPicked_15 rfl ?_
      refine k_icmp_geF (pc := 16) C 85 dX2_fewestPicked_16 (by decide) (k_nge (n := 6) rfl (by decide) hj) ?_
      refine k_aload_n (pc := 19) C dX2_fewestPicked_19 rfl ?_
      refine k_iload (pc := 20) C dX2_fewestPicked_20 rfl ?_
      refine k_aaldX (pc := 22) (j := j) (kr := (1, g, j)) C (nI_clamp (by omega)) (k_in11 hg) (Or.inr (Or.inl rfl)) (vp_in_nI (show _ < (6 : Nat) by omega) (show (6 : Nat) < 2 ^ 31 by decide)) rfl dX2_fewestPicked_22 ?_
      refine k_astore_5 (pc := 23) C dX2_fewestPicked_23 rfl ?_
      refine k_aload (pc := 25) C dX2_fewestPicked_25 rfl ?_
      refine k_call0 (pc := 27) C cv_X2_54 (ct_X1_isOpen hg hj) (k_in1 hg hj) rfl (by decide) rfl (Nat.le_of_ble_eq_true rfl) dX2_fewestPicked_27 ?_
      refine k_if_ne (pc := 30) C 36 dX2_fewestPicked_30 (by decide) (fun c30 => ?_) (fun c30 => ?_)
      · skip
        refine k_aload_n (pc := 36) C dX2_fewestPicked_36 rfl ?_
        refine k_ifnullR (pc := 37) C dX2_fewestPicked_37 ?_
        refine k_aload (pc := 40) C dX2_fewestPicked_40 rfl ?_
        refine k_getI (pc := 42) C fl_X2_129 (k_in1 hg hj) rfl rfl dX2_fewestPicked_42 ?_
        refine k_aload_n (pc := 45) C dX2_fewestPicked_45 rfl ?_
        refine k_getI (pc := 46) C fl_X2_129 (k_in1 hg hch) rfl rfl dX2_fewestPicked_46 ?_
        refine k_icmp_lt (pc := 49) C 76 dX2_fewestPicked_49 (by decide) (fun c49 => ?_) (fun c49 => ?_)
        · skip
          refine k_aload (pc := 76) C dX2_fewestPicked_76 rfl ?_
          refine k_astore_1 (pc := 78) C dX2_fewestPicked_78 rfl ?_
          refine k_iinc_4 (pc := 79) (v := nI (j + 1)) C dX2_fewestPicked_79 (k_inc j) rfl ?_
          refine k_goto (pc := 82) C 13 dX2_fewestPicked_82 (by decide) ?_
          refine k_drop_5 ?_
          exact k_cast (by rw [f_X2_fewestPicked_s, if_pos hch, if_neg c30, if_pos c49, k_opt_s hj]) rfl rfl hk
        · skip
          refine k_aload (pc := 52) C dX2_fewestPicked_52 rfl ?_
          refine k_getI (pc := 54) C fl_X2_129 (k_in1 hg hj) rfl rfl dX2_fewestPicked_54 ?_
          refine k_aload_n (pc := 57) C dX2_fewestPicked_57 rfl ?_
          refine k_getI (pc := 58) C fl_X2_129 (k_in1 hg hch) rfl rfl dX2_fewestPicked_58 ?_
          refine k_icmp_ne (pc := 61) C 79 dX2_fewestPicked_61 (by decide) (fun c61 => ?_) (fun c61 => ?_)
          · skip
            refine k_iinc_4 (pc := 79) (v := nI (j + 1)) C dX2_fewestPicked_79 (k_inc j) rfl ?_
            refine k_goto (pc := 82) C 13 dX2_fewestPicked_82 (by decide) ?_
            refine k_drop_5 ?_
            exact k_cast (by rw [f_X2_fewestPicked_s, if_pos hch, if_neg c30, if_neg c49, if_neg c61, k_opt_s hch]) rfl rfl hk
          · skip
            refine k_aload (pc := 64) C dX2_fewestPicked_64 rfl ?_
            refine k_getI (pc := 66) C fl_X2_126 (k_in1 hg hj) rfl rfl dX2_fewestPicked_66 ?_
            refine k_aload_n (pc := 69) C dX2_fewestPicked_69 rfl ?_
            refine k_getI (pc := 70) C fl_X2_126 (k_in1 hg hch) rfl rfl dX2_fewestPicked_70 ?_
            refine k_icmp_le (pc := 73) C 79 dX2_fewestPicked_73 (by decide) (fun c73 => ?_) (fun c73 => ?_)
            · skip
              refine k_iinc_4 (pc := 79) (v := nI (j + 1)) C dX2_fewestPicked_79 (k_inc j) rfl ?_
              refine k_goto (pc := 82) C 13 dX2_fewestPicked_82 (by decide) ?_
              refine k_drop_5 ?_
              exact k_cast (by rw [f_X2_fewestPicked_s, if_pos hch, if_neg c30, if_neg c49, if_pos c61, if_pos c73, k_opt_s hch]) rfl rfl hk
            · skip
              refine k_aload (pc := 76) C dX2_fewestPicked_76 rfl ?_
              refine k_astore_1 (pc := 78) C dX2_fewestPicked_78 rfl ?_
              refine k_iinc_4 (pc := 79) (v := nI (j + 1)) C dX2_fewestPicked_79 (k_inc j) rfl ?_
              refine k_goto (pc := 82) C 13 dX2_fewestPicked_82 (by decide) ?_
              refine k_drop_5 ?_
              exact k_cast (by rw [f_X2_fewestPicked_s, if_pos hch, if_neg c30, if_neg c49, if_pos c61, if_neg c73, k_opt_s hj]) rfl rfl hk
      · skip
        refine k_goto (pc := 33) C 79 dX2_fewestPicked_33 (by decide) ?_
        refine k_iinc_4 (pc := 79) (v := nI (j + 1)) C dX2_fewestPicked_79 (k_inc j) rfl ?_
        refine k_goto (pc := 82) C 13 dX2_fewestPicked_82 (by decide) ?_
        refine k_drop_5 ?_
        exact k_cast (by rw [f_X2_fewestPicked_s, if_pos hch, if_pos c30, k_opt_s hch]) rfl rfl hk
    · skip
      refine k_cast (L' := [vR (2, g, 0), vN, vR (11, g, 0), vI 6, vI (nI j), vU]) (by rw [k_opt_n hch]) rfl rfl ?_
      refine k_iload (pc := 13) C dX2_fewestPicked_13 rfl ?_
      refine k_iload_n (pc := 15) C dX2_fewestPicked_15 rfl ?_
      refine k_icmp_geF (pc := 16) C 85 dX2_fewestPicked_16 (by decide) (k_nge (n := 6) rfl (by decide) hj) ?_
      refine k_aload_n (pc := 19) C dX2_fewestPicked_19 rfl ?_
      refine k_iload (pc := 20) C dX2_fewestPicked_20 rfl ?_
      refine k_aaldX (pc := 22) (j := j) (kr := (1, g, j)) C (nI_clamp (by omega)) (k_in11 hg) (Or.inr (Or.inl rfl)) (vp_in_nI (show _ < (6 : Nat) by omega) (show (6 : Nat) < 2 ^ 31 by decide)) rfl dX2_fewestPicked_22 ?_
      refine k_astore_5 (pc := 23) C dX2_fewestPicked_23 rfl ?_
      refine k_aload (pc := 25) C dX2_fewestPicked_25 rfl ?_
      refine k_call0 (pc := 27) C cv_X2_54 (ct_X1_isOpen hg hj) (k_in1 hg hj) rfl (by decide) rfl (Nat.le_of_ble_eq_true rfl) dX2_fewestPicked_27 ?_
      refine k_if_ne (pc := 30) C 36 dX2_fewestPicked_30 (by decide) (fun c30 => ?_) (fun c30 => ?_)
      · skip
        refine k_aload_n (pc := 36) C dX2_fewestPicked_36 rfl ?_
        refine k_ifnullN (pc := 37) C 76 dX2_fewestPicked_37 (by decide) ?_
        refine k_aload (pc := 76) C dX2_fewestPicked_76 rfl ?_
        refine k_astore_1 (pc := 78) C dX2_fewestPicked_78 rfl ?_
        refine k_iinc_4 (pc := 79) (v := nI (j + 1)) C dX2_fewestPicked_79 (k_inc j) rfl ?_
        refine k_goto (pc := 82) C 13 dX2_fewestPicked_82 (by decide) ?_
        refine k_drop_5 ?_
        exact k_cast (by rw [f_X2_fewestPicked_s, if_neg hch, if_neg c30, k_opt_s hj]) rfl rfl hk
      · skip
        refine k_goto (pc := 33) C 79 dX2_fewestPicked_33 (by decide) ?_
        refine k_iinc_4 (pc := 79) (v := nI (j + 1)) C dX2_fewestPicked_79 (k_inc j) rfl ?_
        refine k_goto (pc := 82) C 13 dX2_fewestPicked_82 (by decide) ?_
        refine k_drop_5 ?_
        exact k_cast (by rw [f_X2_fewestPicked_s, if_neg hch, if_pos c30, k_opt_n (by decide)]) rfl rfl hk
def f_X2_keptBits (mi : MemI) (g : Nat) : Nat → Int32
  | 0 => 0
  | j + 1 =>
    if (mi (0, g, j) 8) = 0 then (f_X2_keptBits mi g j)
    else (f_X2_keptBits mi g j) ||| (1 <<< ((mi (0, g, j) 0) &&& 31))
theorem f_X2_keptBits_s (mi : MemI) (g : Nat) (j : Nat) : f_X2_keptBits mi g (j + 1) =
    if (mi (0, g, j) 8) = 0 then (f_X2_keptBits mi g j)
    else (f_X2_keptBits mi g j) ||| (1 <<< ((mi (0, g, j) 0) &&& 31)) := rfl
set_option maxRecDepth 100000 in
set_option maxHeartbeats 4000000 in
theorem ct_X2_keptBits {mi : MemI} {ml : MemL} {g : Nat} (hg : g < 3) : k_Ct k_KS k_R0 Mt_X2_keptBits 0 [vR (2, g, 0)] mi ml (k_rt (some (vI (f_X2_keptBits mi g 6))) mi ml) := by
  refine k_ofV (L0 := [vR (2, g, 0), vU, vU, vU, vU, vU]) (by decide +kernel) (Nat.le_of_ble_eq_true rfl) rfl rfl ?_
  intro p l e s m args below meth c D cy ad bs C
  refine k_iconst (pc := 0) (v := 0) C dX2_keptBits_0 (by decide) ?_
  refine k_istore_1 (pc := 1) C dX2_keptBits_1 rfl ?_
  refine k_aload_n (pc := 2) C dX2_keptBits_2 rfl ?_
  refine k_getR (pc := 3) (r := some (10, g, 0)) C fl_X2_19 (k_in2 hg) rfl rfl rfl dX2_keptBits_3 ?_
  refine k_astore_2 (pc := 6) C dX2_keptBits_6 rfl ?_
  refine k_aload_n (pc := 7) C dX2_keptBits_7 rfl ?_
  refine k_alen (pc := 8) (v := 6) C (k_in10 hg) ⟨Nat.le_of_ble_eq_true rfl, Nat.le_of_ble_eq_true rfl⟩ rfl dX2_keptBits_8 ?_
  refine k_istore_3 (pc := 9) C dX2_keptBits_9 rfl ?_
  refine k_iconst (pc := 10) (v := 0) C dX2_keptBits_10 (by decide) ?_
  refine k_istore_4 (pc := 11) C dX2_keptBits_11 rfl ?_
  refine k_cast (L' := [vR (2, g, 0), vI (f_X2_keptBits mi g 0), vR (10, g, 0), vI 6, vI (nI 0), vU]) (mi' := mi) rfl rfl rfl ?_
  refine k_down (P := fun j => k_V p l e (k_rm 0) s m args below meth c D cy ad bs k_KS k_R0 0 0 (k_End below D cy ad bs k_KS k_R0 (k_rt (some (vI (f_X2_keptBits mi g 6))) mi ml) args s) mi ml 13 [vR (2, g, 0), vI (f_X2_keptBits mi g j), vR (10, g, 0), vI 6, vI (nI j), vU] []) 6 ?_ (fun j hj hk => ?_)
  · skip
    refine k_iload (pc := 13) C dX2_keptBits_13 rfl ?_
    refine k_iload_n (pc := 15) C dX2_keptBits_15 rfl ?_
    refine k_icmp_geT (pc := 16) C 49 dX2_keptBits_16 (by decide) (by decide) ?_
    refine k_iload_n (pc := 49) C dX2_keptBits_49 rfl ?_
    exact k_iret (pc := 50) C rfl k_rt_rf dX2_keptBits_50
  · skip
    try dsimp only at hk
    refine k_iload (pc := 13) C dX2_keptBits_13 rfl ?_
    refine k_iload_n (pc := 15) C dX2_keptBits_15 rfl ?_
    refine k_icmp_geF (pc := 16) C 49 dX2_keptBits_16 (by decide) (k_nge (n := 6) rfl (by decide) hj) ?_
    refine k_aload_n (pc := 19) C dX2_keptBits_19 rfl ?_
    refine k_iload (pc := 20) C dX2_keptBits_20 rfl ?_
    refine k_aaldX (pc := 22) (j := j) (kr := (0, g, j)) C (nI_clamp (by omega)) (k_in10 hg) (Or.inl rfl) (vp_in_nI (show _ < (6 : Nat) by omega) (show (6 : Nat) < 2 ^ 31 by decide)) rfl dX2_keptBits_22 ?_
    refine k_astore_5 (pc := 23) C dX2_keptBits_23 rfl ?_
    refine k_aload (pc := 25) C dX2_keptBits_25 rfl ?_
    refine k_getI (pc := 27) C fl_X2_85 (k_in0 hg hj) rfl rfl dX2_keptBits_27 ?_
    refine k_if_eq (pc := 30) C 43 dX2_keptBits_30 (by decide) (fun c30 => ?_) (fun c30 => ?_)
    · skip
      refine k_iinc_4 (pc := 43) (v := nI (j + 1)) C dX2_keptBits_43 (k_inc j) rfl ?_
      refine k_goto (pc := 46) C 13 dX2_keptBits_46 (by decide) ?_
      refine k_drop_5 ?_
      exact k_cast (by rw [f_X2_keptBits_s, if_pos c30]) rfl rfl hk
    · skip
      refine k_iload_n (pc := 33) C dX2_keptBits_33 rfl ?_
      refine k_iconst (pc := 34) (v := 1) C dX2_keptBits_34 (by decide) ?_
      refine k_aload (pc := 35) C dX2_keptBits_35 rfl ?_
      refine k_getI (pc := 37) C fl_X2_132 (k_in0 hg hj) rfl rfl dX2_keptBits_37 ?_
      refine k_ishl (pc := 40) C dX2_keptBits_40 ?_
      refine k_ior (pc := 41) C dX2_keptBits_41 ?_
      refine k_istore_1 (pc := 42) C dX2_keptBits_42 rfl ?_
      refine k_iinc_4 (pc := 43) (v := nI (j + 1)) C dX2_keptBits_43 (k_inc j) rfl ?_
      refine k_goto (pc := 46) C 13 dX2_keptBits_46 (by decide) ?_
      refine k_drop_5 ?_
      exact k_cast (by rw [f_X2_keptBits_s, if_neg c30]) rfl rfl hk
def f_X2_countUnkept (mi : MemI) (g : Nat) : Nat → Nat
  | 0 => 0
  | j + 1 =>
    if (f_X0_comes mi g j) = 0 then (f_X2_countUnkept mi g j)
    else if (mi (0, g, j) 8) = 0 then (f_X2_countUnkept mi g j) + 1
      else (f_X2_countUnkept mi g j)
theorem f_X2_countUnkept_s (mi : MemI) (g : Nat) (j : Nat) : f_X2_countUnkept mi g (j + 1) =
    if (f_X0_comes mi g j) = 0 then (f_X2_countUnkept mi g j)
    else if (mi (0, g, j) 8) = 0 then (f_X2_countUnkept mi g j) + 1
      else (f_X2_countUnkept mi g j) := rfl
set_option maxRecDepth 100000 in
set_option maxHeartbeats 4000000 in
theorem ct_X2_countUnkept {mi : MemI} {ml : MemL} {g : Nat} (hg : g < 3) : k_Ct k_KS k_R0 Mt_X2_countUnkept 1 [vR (2, g, 0)] mi ml (k_rt (some (vI (nI (f_X2_countUnkept mi g 6)))) mi ml) := by
  refine k_ofV (L0 := [vR (2, g, 0), vU, vU, vU, vU, vU]) (by decide +kernel) (Nat.le_of_ble_eq_true rfl) rfl rfl ?_
  intro p l e s m args below meth c D cy ad bs C
  refine k_iconst (pc := 0) (v := 0) C dX2_countUnkept_0 (by decide) ?_
  refine k_istore_1 (pc := 1) C dX2_countUnkept_1 rfl ?_
  refine k_aload_n (pc := 2) C dX2_countUnkept_2 rfl ?_
  refine k_getR (pc := 3) (r := some (10, g, 0)) C fl_X2_19 (k_in2 hg) rfl rfl rfl dX2_countUnkept_3 ?_
  refine k_astore_2 (pc := 6) C dX2_countUnkept_6 rfl ?_
  refine k_aload_n (pc := 7) C dX2_countUnkept_7 rfl ?_
  refine k_alen (pc := 8) (v := 6) C (k_in10 hg) ⟨Nat.le_of_ble_eq_true rfl, Nat.le_of_ble_eq_true rfl⟩ rfl dX2_countUnkept_8 ?_
  refine k_istore_3 (pc := 9) C dX2_countUnkept_9 rfl ?_
  refine k_iconst (pc := 10) (v := 0) C dX2_countUnkept_10 (by decide) ?_
  refine k_istore_4 (pc := 11) C dX2_countUnkept_11 rfl ?_
  refine k_cast (L' := [vR (2, g, 0), vI (nI (f_X2_countUnkept mi g 0)), vR (10, g, 0), vI 6, vI (nI 0), vU]) (mi' := mi) rfl rfl rfl ?_
  refine k_down (P := fun j => k_V p l e (k_rm 1) s m args below meth c D cy ad bs k_KS k_R0 0 0 (k_End below D cy ad bs k_KS k_R0 (k_rt (some (vI (nI (f_X2_countUnkept mi g 6)))) mi ml) args s) mi ml 13 [vR (2, g, 0), vI (nI (f_X2_countUnkept mi g j)), vR (10, g, 0), vI 6, vI (nI j), vU] []) 6 ?_ (fun j hj hk => ?_)
  · skip
    refine k_iload (pc := 13) C dX2_countUnkept_13 rfl ?_
    refine k_iload_n (pc := 15) C dX2_countUnkept_15 rfl ?_
    refine k_icmp_geT (pc := 16) C 50 dX2_countUnkept_16 (by decide) (by decide) ?_
    refine k_iload_n (pc := 50) C dX2_countUnkept_50 rfl ?_
    exact k_iret (pc := 51) C rfl k_rt_rf dX2_countUnkept_51
  · skip
    try dsimp only at hk
    refine k_iload (pc := 13) C dX2_countUnkept_13 rfl ?_
    refine k_iload_n (pc := 15) C dX2_countUnkept_15 rfl ?_
    refine k_icmp_geF (pc := 16) C 50 dX2_countUnkept_16 (by decide) (k_nge (n := 6) rfl (by decide) hj) ?_
    refine k_aload_n (pc := 19) C dX2_countUnkept_19 rfl ?_
    refine k_iload (pc := 20) C dX2_countUnkept_20 rfl ?_
    refine k_aaldX (pc := 22) (j := j) (kr := (0, g, j)) C (nI_clamp (by omega)) (k_in10 hg) (Or.inl rfl) (vp_in_nI (show _ < (6 : Nat) by omega) (show (6 : Nat) < 2 ^ 31 by decide)) rfl dX2_countUnkept_22 ?_
    refine k_astore_5 (pc := 23) C dX2_countUnkept_23 rfl ?_
    refine k_aload (pc := 25) C dX2_countUnkept_25 rfl ?_
    refine k_call0 (pc := 27) C cv_X2_62 (ct_X0_comes hg hj) (k_in0 hg hj) rfl (by decide) rfl (Nat.le_of_ble_eq_true rfl) dX2_countUnkept_27 ?_
    refine k_if_eq (pc := 30) C 44 dX2_countUnkept_30 (by decide) (fun c30 => ?_) (fun c30 => ?_)
    · skip
      refine k_iinc_4 (pc := 44) (v := nI (j + 1)) C dX2_countUnkept_44 (k_inc j) rfl ?_
      refine k_goto (pc := 47) C 13 dX2_countUnkept_47 (by decide) ?_
      refine k_drop_5 ?_
      exact k_cast (by rw [f_X2_countUnkept_s, if_pos c30]) rfl rfl hk
    · skip
      refine k_aload (pc := 33) C dX2_countUnkept_33 rfl ?_
      refine k_getI (pc := 35) C fl_X2_85 (k_in0 hg hj) rfl rfl dX2_countUnkept_35 ?_
      refine k_if_ne (pc := 38) C 44 dX2_countUnkept_38 (by decide) (fun c38 => ?_) (fun c38 => ?_)
      · skip
        refine k_iinc_4 (pc := 44) (v := nI (j + 1)) C dX2_countUnkept_44 (k_inc j) rfl ?_
        refine k_goto (pc := 47) C 13 dX2_countUnkept_47 (by decide) ?_
        refine k_drop_5 ?_
        exact k_cast (by rw [f_X2_countUnkept_s, if_neg c30, if_neg c38]) rfl rfl hk
      · skip
        refine k_iinc_1 (pc := 41) (v := nI ((f_X2_countUnkept mi g j) + 1)) C dX2_countUnkept_41 (k_inc (f_X2_countUnkept mi g j)) rfl ?_
        refine k_iinc_4 (pc := 44) (v := nI (j + 1)) C dX2_countUnkept_44 (k_inc j) rfl ?_
        refine k_goto (pc := 47) C 13 dX2_countUnkept_47 (by decide) ?_
        refine k_drop_5 ?_
        exact k_cast (by rw [f_X2_countUnkept_s, if_neg c30, if_pos c38]) rfl rfl hk
