/-! Model: small methods -/
def f_X7_isShelf (s0 : Int32) : Int32 :=
  if s0 < 0 then 0
  else if 8 ≤ s0 then 0
    else 1
theorem z_X7_isShelf {s0 : Int32}  : (f_X7_isShelf s0) = 0 ∨ (f_X7_isShelf s0) = 1 := by
  unfold f_X7_isShelf
  by_cases zh1 : s0 < 0
  · rw [if_pos zh1]
    exact (Or.inl rfl)
  · rw [if_neg zh1]
    by_cases zh2 : 8 ≤ s0
    · rw [if_pos zh2]
      exact (Or.inl rfl)
    · rw [if_neg zh2]
      exact (Or.inr rfl)
set_option maxRecDepth 100000 in
set_option maxHeartbeats 4000000 in
theorem ct_X7_isShelf {mi : MemI} {ml : MemL} {s0 : Int32}  : k_Ct k_KS k_R0 Mt_X7_isShelf 0 [vR (7, 0, 0), vI s0] mi ml (k_rt (some (vI (f_X7_isShelf s0))) mi ml) := by
  refine k_ofV (L0 := [vR (7, 0, 0), vI s0]) (by decide +kernel) (Nat.le_of_ble_eq_true rfl) rfl rfl ?_
  intro p l e s m args below meth c D cy ad bs C
  refine k_iload_n (pc := 0) C dX7_isShelf_0 rfl ?_
  refine k_if_lt (pc := 1) C 14 dX7_isShelf_1 (by decide) (fun c1 => ?_) (fun c1 => ?_)
  · skip
    refine k_iconst (pc := 14) (v := 0) C dX7_isShelf_14 (by decide) ?_
    exact k_zret (pc := 15) C rfl (Or.inl rfl) (k_fI (by unfold f_X7_isShelf; rw [if_pos c1]; try rfl)) dX7_isShelf_15
  · skip
    refine k_iload_n (pc := 4) C dX7_isShelf_4 rfl ?_
    refine k_bipush (pc := 5) (v := 8) C dX7_isShelf_5 (by decide) ?_
    refine k_icmp_ge (pc := 7) C 14 dX7_isShelf_7 (by decide) (fun c7 => ?_) (fun c7 => ?_)
    · skip
      refine k_iconst (pc := 14) (v := 0) C dX7_isShelf_14 (by decide) ?_
      exact k_zret (pc := 15) C rfl (Or.inl rfl) (k_fI (by unfold f_X7_isShelf; rw [if_neg c1, if_pos c7]; try rfl)) dX7_isShelf_15
    · skip
      refine k_iconst (pc := 10) (v := 1) C dX7_isShelf_10 (by decide) ?_
      refine k_goto (pc := 11) C 15 dX7_isShelf_11 (by decide) ?_
      exact k_zret (pc := 15) C rfl (Or.inr rfl) (k_fI (by unfold f_X7_isShelf; rw [if_neg c1, if_neg c7]; try rfl)) dX7_isShelf_15
def f_X7_isCitizen (mi : MemI) (x : Int32) : Int32 :=
  if x < 0 then 0
  else if (mi (7, 0, 0) 0) ≤ x then 0
    else 1
theorem z_X7_isCitizen {mi : MemI} {x : Int32}  : (f_X7_isCitizen mi x) = 0 ∨ (f_X7_isCitizen mi x) = 1 := by
  unfold f_X7_isCitizen
  by_cases zh1 : x < 0
  · rw [if_pos zh1]
    exact (Or.inl rfl)
  · rw [if_neg zh1]
    by_cases zh2 : (mi (7, 0, 0) 0) ≤ x
    · rw [if_pos zh2]
      exact (Or.inl rfl)
    · rw [if_neg zh2]
      exact (Or.inr rfl)
set_option maxRecDepth 100000 in
set_option maxHeartbeats 4000000 in
theorem ct_X7_isCitizen {mi : MemI} {ml : MemL} {x : Int32}  : k_Ct k_KS k_R0 Mt_X7_isCitizen 0 [vR (7, 0, 0), vI x] mi ml (k_rt (some (vI (f_X7_isCitizen mi x))) mi ml) := by
  refine k_ofV (L0 := [vR (7, 0, 0), vI x]) (by decide +kernel) (Nat.le_of_ble_eq_true rfl) rfl rfl ?_
  intro p l e s m args below meth c D cy ad bs C
  refine k_iload_n (pc := 0) C dX7_isCitizen_0 rfl ?_
  refine k_if_lt (pc := 1) C 16 dX7_isCitizen_1 (by decide) (fun c1 => ?_) (fun c1 => ?_)
  · skip
    refine k_iconst (pc := 16) (v := 0) C dX7_isCitizen_16 (by decide) ?_
    exact k_zret (pc := 17) C rfl (Or.inl rfl) (k_fI (by unfold f_X7_isCitizen; rw [if_pos c1]; try rfl)) dX7_isCitizen_17
  · skip
    refine k_iload_n (pc := 4) C dX7_isCitizen_4 rfl ?_
    refine k_aload_n (pc := 5) C dX7_isCitizen_5 rfl ?_
    refine k_getI (pc := 6) C fl_X7_129 k_in7 rfl rfl dX7_isCitizen_6 ?_
    refine k_icmp_ge (pc := 9) C 16 dX7_isCitizen_9 (by decide) (fun c9 => ?_) (fun c9 => ?_)
    · skip
      refine k_iconst (pc := 16) (v := 0) C dX7_isCitizen_16 (by decide) ?_
      exact k_zret (pc := 17) C rfl (Or.inl rfl) (k_fI (by unfold f_X7_isCitizen; rw [if_neg c1, if_pos c9]; try rfl)) dX7_isCitizen_17
    · skip
      refine k_iconst (pc := 12) (v := 1) C dX7_isCitizen_12 (by decide) ?_
      refine k_goto (pc := 13) C 17 dX7_isCitizen_13 (by decide) ?_
      exact k_zret (pc := 17) C rfl (Or.inr rfl) (k_fI (by unfold f_X7_isCitizen; rw [if_neg c1, if_neg c9]; try rfl)) dX7_isCitizen_17
def f_X7_isBeggar (mi : MemI) (x : Int32) : Int32 :=
  if x < 0 then 0
  else if (mi (7, 0, 0) 1) ≤ x then 0
    else 1
theorem z_X7_isBeggar {mi : MemI} {x : Int32}  : (f_X7_isBeggar mi x) = 0 ∨ (f_X7_isBeggar mi x) = 1 := by
  unfold f_X7_isBeggar
  by_cases zh1 : x < 0
  · rw [if_pos zh1]
    exact (Or.inl rfl)
  · rw [if_neg zh1]
    by_cases zh2 : (mi (7, 0, 0) 1) ≤ x
    · rw [if_pos zh2]
      exact (Or.inl rfl)
    · rw [if_neg zh2]
      exact (Or.inr rfl)
set_option maxRecDepth 100000 in
set_option maxHeartbeats 4000000 in
theorem ct_X7_isBeggar {mi : MemI} {ml : MemL} {x : Int32}  : k_Ct k_KS k_R0 Mt_X7_isBeggar 0 [vR (7, 0, 0), vI x] mi ml (k_rt (some (vI (f_X7_isBeggar mi x))) mi ml) := by
  refine k_ofV (L0 := [vR (7, 0, 0), vI x]) (by decide +kernel) (Nat.le_of_ble_eq_true rfl) rfl rfl ?_
  intro p l e s m args below meth c D cy ad bs C
  refine k_iload_n (pc := 0) C dX7_isBeggar_0 rfl ?_
  refine k_if_lt (pc := 1) C 16 dX7_isBeggar_1 (by decide) (fun c1 => ?_) (fun c1 => ?_)
  · skip
    refine k_iconst (pc := 16) (v := 0) C dX7_isBeggar_16 (by decide) ?_
    exact k_zret (pc := 17) C rfl (Or.inl rfl) (k_fI (by unfold f_X7_isBeggar; rw [if_pos c1]; try rfl)) dX7_isBeggar_17
  · skip
    refine k_iload_n (pc := 4) C dX7_isBeggar_4 rfl ?_
    refine k_aload_n (pc := 5) C dX7_isBeggar_5 rfl ?_
    refine k_getI (pc := 6) C fl_X7_132 k_in7 rfl rfl dX7_isBeggar_6 ?_
    refine k_icmp_ge (pc := 9) C 16 dX7_isBeggar_9 (by decide) (fun c9 => ?_) (fun c9 => ?_)
    · skip
      refine k_iconst (pc := 16) (v := 0) C dX7_isBeggar_16 (by decide) ?_
      exact k_zret (pc := 17) C rfl (Or.inl rfl) (k_fI (by unfold f_X7_isBeggar; rw [if_neg c1, if_pos c9]; try rfl)) dX7_isBeggar_17
    · skip
      refine k_iconst (pc := 12) (v := 1) C dX7_isBeggar_12 (by decide) ?_
      refine k_goto (pc := 13) C 17 dX7_isBeggar_13 (by decide) ?_
      exact k_zret (pc := 17) C rfl (Or.inr rfl) (k_fI (by unfold f_X7_isBeggar; rw [if_neg c1, if_neg c9]; try rfl)) dX7_isBeggar_17
def f_X7_isFrom (v : Int32) (lo : Int32) (hi : Int32) : Int32 :=
  if v < lo then 0
  else if hi < v then 0
    else 1
theorem z_X7_isFrom {v : Int32} {lo : Int32} {hi : Int32}  : (f_X7_isFrom v lo hi) = 0 ∨ (f_X7_isFrom v lo hi) = 1 := by
  unfold f_X7_isFrom
  by_cases zh1 : v < lo
  · rw [if_pos zh1]
    exact (Or.inl rfl)
  · rw [if_neg zh1]
    by_cases zh2 : hi < v
    · rw [if_pos zh2]
      exact (Or.inl rfl)
    · rw [if_neg zh2]
      exact (Or.inr rfl)
set_option maxRecDepth 100000 in
set_option maxHeartbeats 4000000 in
theorem ct_X7_isFrom {mi : MemI} {ml : MemL} {v : Int32} {lo : Int32} {hi : Int32}  : k_Ct k_KS k_R0 Mt_X7_isFrom 0 [vR (7, 0, 0), vI v, vI lo, vI hi] mi ml (k_rt (some (vI (f_X7_isFrom v lo hi))) mi ml) := by
  refine k_ofV (L0 := [vR (7, 0, 0), vI v, vI lo, vI hi]) (by decide +kernel) (Nat.le_of_ble_eq_true rfl) rfl rfl ?_
  intro p l e s m args below meth c D cy ad bs C
  refine k_iload_n (pc := 0) C dX7_isFrom_0 rfl ?_
  refine k_iload_n (pc := 1) C dX7_isFrom_1 rfl ?_
  refine k_icmp_lt (pc := 2) C 14 dX7_isFrom_2 (by decide) (fun c2 => ?_) (fun c2 => ?_)
  · skip
    refine k_iconst (pc := 14) (v := 0) C dX7_isFrom_14 (by decide) ?_
    exact k_zret (pc := 15) C rfl (Or.inl rfl) (k_fI (by unfold f_X7_isFrom; rw [if_pos c2]; try rfl)) dX7_isFrom_15
  · skip
    refine k_iload_n (pc := 5) C dX7_isFrom_5 rfl ?_
    refine k_iload_n (pc := 6) C dX7_isFrom_6 rfl ?_
    refine k_icmp_gt (pc := 7) C 14 dX7_isFrom_7 (by decide) (fun c7 => ?_) (fun c7 => ?_)
    · skip
      refine k_iconst (pc := 14) (v := 0) C dX7_isFrom_14 (by decide) ?_
      exact k_zret (pc := 15) C rfl (Or.inl rfl) (k_fI (by unfold f_X7_isFrom; rw [if_neg c2, if_pos c7]; try rfl)) dX7_isFrom_15
    · skip
      refine k_iconst (pc := 10) (v := 1) C dX7_isFrom_10 (by decide) ?_
      refine k_goto (pc := 11) C 15 dX7_isFrom_11 (by decide) ?_
      exact k_zret (pc := 15) C rfl (Or.inr rfl) (k_fI (by unfold f_X7_isFrom; rw [if_neg c2, if_neg c7]; try rfl)) dX7_isFrom_15
def f_X7_no (mi : MemI) (b : Int32) : Int32 × MemI :=
  (b, k_ui mi (8, 5, 0) ((-b).toNatClampNeg) ((mi (8, 5, 0) ((-b).toNatClampNeg)) + 1))
set_option maxRecDepth 100000 in
set_option maxHeartbeats 4000000 in
theorem ct_X7_no {mi : MemI} {ml : MemL} {b : Int32} (hb : vp_in (-b) 8) : k_Ct k_KS k_R0 Mt_X7_no 0 [vR (7, 0, 0), vI b] mi ml (k_rt (some (vI (f_X7_no mi b).1)) (f_X7_no mi b).2 ml) := by
  refine k_ofV (L0 := [vR (7, 0, 0), vI b]) (by decide +kernel) (Nat.le_of_ble_eq_true rfl) rfl rfl ?_
  intro p l e s m args below meth c D cy ad bs C
  refine k_aload_n (pc := 0) C dX7_no_0 rfl ?_
  refine k_getR (pc := 1) (r := some (8, 5, 0)) C fl_X7_16 k_in7 rfl rfl rfl dX7_no_1 ?_
  refine k_iload_n (pc := 4) C dX7_no_4 rfl ?_
  refine k_ineg (pc := 5) C dX7_no_5 ?_
  refine k_dup2 (pc := 6) C dX7_no_6 rfl rfl ?_
  refine k_ialdX (pc := 7) (j := (-b).toNatClampNeg) C rfl (by decide +kernel) rfl (by first | assumption | exact k_vin (N := 8) (n := 8) (by assumption) (by assumption) (by decide)) dX7_no_7 ?_
  refine k_iconst (pc := 8) (v := 1) C dX7_no_8 (by decide) ?_
  refine k_iadd (pc := 9) C dX7_no_9 ?_
  refine k_iastX (pc := 10) (j := (-b).toNatClampNeg) C rfl (by decide +kernel) rfl (by first | assumption | exact k_vin (N := 8) (n := 8) (by assumption) (by assumption) (by decide)) dX7_no_10 ?_
  refine k_iload_n (pc := 11) C dX7_no_11 rfl ?_
  exact k_iret (pc := 12) C rfl (k_fIm rfl) dX7_no_12
def f_X7_noTen (mi : MemI) (b : Int32) : Int32 × MemI :=
  (b - 10, k_ui mi (8, 5, 0) ((-b).toNatClampNeg) ((mi (8, 5, 0) ((-b).toNatClampNeg)) + 1))
set_option maxRecDepth 100000 in
set_option maxHeartbeats 4000000 in
theorem ct_X7_noTen {mi : MemI} {ml : MemL} {b : Int32} (hb : vp_in (-b) 8) : k_Ct k_KS k_R0 Mt_X7_noTen 0 [vR (7, 0, 0), vI b] mi ml (k_rt (some (vI (f_X7_noTen mi b).1)) (f_X7_noTen mi b).2 ml) := by
  refine k_ofV (L0 := [vR (7, 0, 0), vI b]) (by decide +kernel) (Nat.le_of_ble_eq_true rfl) rfl rfl ?_
  intro p l e s m args below meth c D cy ad bs C
  refine k_aload_n (pc := 0) C dX7_noTen_0 rfl ?_
  refine k_getR (pc := 1) (r := some (8, 5, 0)) C fl_X7_16 k_in7 rfl rfl rfl dX7_noTen_1 ?_
  refine k_iload_n (pc := 4) C dX7_noTen_4 rfl ?_
  refine k_ineg (pc := 5) C dX7_noTen_5 ?_
  refine k_dup2 (pc := 6) C dX7_noTen_6 rfl rfl ?_
  refine k_ialdX (pc := 7) (j := (-b).toNatClampNeg) C rfl (by decide +kernel) rfl (by first | assumption | exact k_vin (N := 8) (n := 8) (by assumption) (by assumption) (by decide)) dX7_noTen_7 ?_
  refine k_iconst (pc := 8) (v := 1) C dX7_noTen_8 (by decide) ?_
  refine k_iadd (pc := 9) C dX7_noTen_9 ?_
  refine k_iastX (pc := 10) (j := (-b).toNatClampNeg) C rfl (by decide +kernel) rfl (by first | assumption | exact k_vin (N := 8) (n := 8) (by assumption) (by assumption) (by decide)) dX7_noTen_10 ?_
  refine k_iload_n (pc := 11) C dX7_noTen_11 rfl ?_
  refine k_bipush (pc := 12) (v := 10) C dX7_noTen_12 (by decide) ?_
  refine k_isub (pc := 14) C dX7_noTen_14 ?_
  exact k_iret (pc := 15) C rfl (k_fIm rfl) dX7_noTen_15
def f_X7_fault (mi : MemI) : Int32 :=
  (mi (7, 0, 0) 4)
set_option maxRecDepth 100000 in
set_option maxHeartbeats 4000000 in
theorem ct_X7_fault {mi : MemI} {ml : MemL}   : k_Ct k_KS k_R0 Mt_X7_fault 0 [vR (7, 0, 0)] mi ml (k_rt (some (vI (f_X7_fault mi))) mi ml) := by
  refine k_ofV (L0 := [vR (7, 0, 0)]) (by decide +kernel) (Nat.le_of_ble_eq_true rfl) rfl rfl ?_
  intro p l e s m args below meth c D cy ad bs C
  refine k_aload_n (pc := 0) C dX7_fault_0 rfl ?_
  refine k_getI (pc := 1) C fl_X7_13 k_in7 rfl rfl dX7_fault_1 ?_
  exact k_iret (pc := 4) C rfl (k_fI rfl) dX7_fault_4
def f_X7_seed (mi : MemI) (v : Int32) : Int32 × MemI :=
  (mi (7, 0, 0) 3, k_ui mi (7, 0, 0) 3 v)
set_option maxRecDepth 100000 in
set_option maxHeartbeats 4000000 in
theorem ct_X7_seed {mi : MemI} {ml : MemL} {v : Int32}  : k_Ct k_KS k_R0 Mt_X7_seed 0 [vR (7, 0, 0), vI v] mi ml (k_rt (some (vI (f_X7_seed mi v).1)) (f_X7_seed mi v).2 ml) := by
  refine k_ofV (L0 := [vR (7, 0, 0), vI v, vU]) (by decide +kernel) (Nat.le_of_ble_eq_true rfl) rfl rfl ?_
  intro p l e s m args below meth c D cy ad bs C
  refine k_aload_n (pc := 0) C dX7_seed_0 rfl ?_
  refine k_getI (pc := 1) C fl_X7_7 k_in7 rfl rfl dX7_seed_1 ?_
  refine k_istore_2 (pc := 4) C dX7_seed_4 rfl ?_
  refine k_aload_n (pc := 5) C dX7_seed_5 rfl ?_
  refine k_iload_n (pc := 6) C dX7_seed_6 rfl ?_
  refine k_putI (pc := 7) C pl_X7_7 k_in7 rfl rfl dX7_seed_7 ?_
  refine k_iload_n (pc := 10) C dX7_seed_10 rfl ?_
  exact k_iret (pc := 11) C rfl (k_fIm rfl) dX7_seed_11
def f_X7_wrong (mi : MemI) (x : Int32) : Int32 × MemI :=
  (0, k_ui mi (7, 0, 0) 32 x)
theorem z_X7_wrong {mi : MemI} {x : Int32}  : (f_X7_wrong mi x).1 = 0 ∨ (f_X7_wrong mi x).1 = 1 := by
  unfold f_X7_wrong
  exact (Or.inl rfl)
set_option maxRecDepth 100000 in
set_option maxHeartbeats 4000000 in
theorem ct_X7_wrong {mi : MemI} {ml : MemL} {x : Int32}  : k_Ct k_KS k_R0 Mt_X7_wrong 0 [vR (7, 0, 0), vI x] mi ml (k_rt (some (vI (f_X7_wrong mi x).1)) (f_X7_wrong mi x).2 ml) := by
  refine k_ofV (L0 := [vR (7, 0, 0), vI x]) (by decide +kernel) (Nat.le_of_ble_eq_true rfl) rfl rfl ?_
  intro p l e s m args below meth c D cy ad bs C
  refine k_aload_n (pc := 0) C dX7_wrong_0 rfl ?_
  refine k_iload_n (pc := 1) C dX7_wrong_1 rfl ?_
  refine k_putI (pc := 2) C pl_X7_167 k_in7 rfl rfl dX7_wrong_2 ?_
  refine k_iconst (pc := 5) (v := 0) C dX7_wrong_5 (by decide) ?_
  exact k_zret (pc := 6) C rfl (Or.inl rfl) (k_fIm rfl) dX7_wrong_6
def f_X7_body (mi : MemI) (b : Int32) : MemI :=
  if 20 ≤ (mi (7, 0, 0) 51) then (k_ui mi (7, 0, 0) 51 ((mi (7, 0, 0) 51) + 1))
  else (k_ui (k_ui mi (8, 50, 0) ((mi (7, 0, 0) 51).toNatClampNeg) b) (7, 0, 0) 51 (((k_ui mi (8, 50, 0) ((mi (7, 0, 0) 51).toNatClampNeg) b) (7, 0, 0) 51) + 1))
set_option maxRecDepth 100000 in
set_option maxHeartbeats 4000000 in
theorem ct_X7_body {mi : MemI} {ml : MemL} {b : Int32} (hr : ¬ mi (7, 0, 0) 51 < 0) : k_Ct k_KS k_R0 Mt_X7_body 0 [vR (7, 0, 0), vI b] mi ml (k_rt none (f_X7_body mi b) ml) := by
  refine k_ofV (L0 := [vR (7, 0, 0), vI b]) (by decide +kernel) (Nat.le_of_ble_eq_true rfl) rfl rfl ?_
  intro p l e s m args below meth c D cy ad bs C
  refine k_aload_n (pc := 0) C dX7_body_0 rfl ?_
  refine k_getI (pc := 1) C fl_X7_275 k_in7 rfl rfl dX7_body_1 ?_
  refine k_bipush (pc := 4) (v := 20) C dX7_body_4 (by decide) ?_
  refine k_icmp_ge (pc := 6) C 19 dX7_body_6 (by decide) (fun c6 => ?_) (fun c6 => ?_)
  · skip
    refine k_aload_n (pc := 19) C dX7_body_19 rfl ?_
    refine k_dup (pc := 20) C dX7_body_20 rfl ?_
    refine k_getI (pc := 21) C fl_X7_275 k_in7 rfl rfl dX7_body_21 ?_
    refine k_iconst (pc := 24) (v := 1) C dX7_body_24 (by decide) ?_
    refine k_iadd (pc := 25) C dX7_body_25 ?_
    refine k_putI (pc := 26) C pl_X7_275 k_in7 rfl rfl dX7_body_26 ?_
    exact k_vret (pc := 29) C rfl (k_fm (by unfold f_X7_body; rw [if_pos c6]; try rfl)) dX7_body_29
  · skip
    refine k_aload_n (pc := 9) C dX7_body_9 rfl ?_
    refine k_getR (pc := 10) (r := some (8, 50, 0)) C fl_X7_126 k_in7 rfl rfl rfl dX7_body_10 ?_
    refine k_aload_n (pc := 13) C dX7_body_13 rfl ?_
    refine k_getI (pc := 14) C fl_X7_275 k_in7 rfl rfl dX7_body_14 ?_
    refine k_iload_n (pc := 17) C dX7_body_17 rfl ?_
    refine k_iastX (pc := 18) (j := (mi (7, 0, 0) 51).toNatClampNeg) C rfl (by decide +kernel) rfl (by first | assumption | exact k_vin (N := 20) (n := 20) (by assumption) (by assumption) (by decide)) dX7_body_18 ?_
    refine k_aload_n (pc := 19) C dX7_body_19 rfl ?_
    refine k_dup (pc := 20) C dX7_body_20 rfl ?_
    refine k_getI (pc := 21) C fl_X7_275 k_in7 rfl rfl dX7_body_21 ?_
    refine k_iconst (pc := 24) (v := 1) C dX7_body_24 (by decide) ?_
    refine k_iadd (pc := 25) C dX7_body_25 ?_
    refine k_putI (pc := 26) C pl_X7_275 k_in7 rfl rfl dX7_body_26 ?_
    exact k_vret (pc := 29) C rfl (k_fm (by unfold f_X7_body; rw [if_neg c6]; try rfl)) dX7_body_29
