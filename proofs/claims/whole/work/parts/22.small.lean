/-! small methods of the class; Play -/
def f_X6_kindAbove (k : Int32) : Int32 :=
  if k < 0 then (-1)
  else if 7 ≤ k then (-1)
    else (k_KA k.toNatClampNeg)
set_option maxRecDepth 100000 in
set_option maxHeartbeats 4000000 in
theorem ct_X6_kindAbove {mi : MemI} {ml : MemL} {k : Int32}  : k_Ct k_KS k_R0 Mt_X6_kindAbove 0 [vI k] mi ml (k_rt (some (vI (f_X6_kindAbove k))) mi ml) := by
  refine k_ofV (L0 := [vI k]) (by decide +kernel) (Nat.le_of_ble_eq_true rfl) rfl rfl ?_
  intro p l e s m args below meth c D cy ad bs C
  refine k_iload_n (pc := 0) C dX6_kindAbove_0 rfl ?_
  refine k_if_lt (pc := 1) C 20 dX6_kindAbove_1 (by decide) (fun c1 => ?_) (fun c1 => ?_)
  · skip
    refine k_iconst (pc := 20) (v := (-1)) C dX6_kindAbove_20 (by decide) ?_
    exact k_iret (pc := 21) C rfl (k_fI (by unfold f_X6_kindAbove; rw [if_pos c1]; try rfl)) dX6_kindAbove_21
  · skip
    refine k_iload_n (pc := 4) C dX6_kindAbove_4 rfl ?_
    refine k_getsK (pc := 5) C gs_X6_306 dX6_kindAbove_5 ?_
    refine k_tlenK (pc := 8) C dX6_kindAbove_8 ?_
    refine k_icmp_ge (pc := 9) C 20 dX6_kindAbove_9 (by decide) (fun c9 => ?_) (fun c9 => ?_)
    · skip
      refine k_iconst (pc := 20) (v := (-1)) C dX6_kindAbove_20 (by decide) ?_
      exact k_iret (pc := 21) C rfl (k_fI (by unfold f_X6_kindAbove; rw [if_neg c1, if_pos c9]; try rfl)) dX6_kindAbove_21
    · skip
      refine k_getsK (pc := 12) C gs_X6_306 dX6_kindAbove_12 ?_
      refine k_iload_n (pc := 15) C dX6_kindAbove_15 rfl ?_
      refine k_taldK (pc := 16) C (k_vin (N := 7) (n := 7) c1 c9 (by decide)) dX6_kindAbove_16 ?_
      refine k_goto (pc := 17) C 21 dX6_kindAbove_17 (by decide) ?_
      exact k_iret (pc := 21) C rfl (k_fI (by unfold f_X6_kindAbove; rw [if_neg c1, if_neg c9]; try rfl)) dX6_kindAbove_21
def f_X6_isOutside (v : Int32) (lo : Int32) (hi : Int32) : Int32 :=
  if v < lo then 1
  else if v ≤ hi then 0
    else 1
theorem z_X6_isOutside {v : Int32} {lo : Int32} {hi : Int32}  : (f_X6_isOutside v lo hi) = 0 ∨ (f_X6_isOutside v lo hi) = 1 := by
  unfold f_X6_isOutside
  by_cases zh1 : v < lo
  · rw [if_pos zh1]
    exact (Or.inr rfl)
  · rw [if_neg zh1]
    by_cases zh2 : v ≤ hi
    · rw [if_pos zh2]
      exact (Or.inl rfl)
    · rw [if_neg zh2]
      exact (Or.inr rfl)
set_option maxRecDepth 100000 in
set_option maxHeartbeats 4000000 in
theorem ct_X6_isOutside {mi : MemI} {ml : MemL} {v : Int32} {lo : Int32} {hi : Int32}  : k_Ct k_KS k_R0 Mt_X6_isOutside 0 [vI v, vI lo, vI hi] mi ml (k_rt (some (vI (f_X6_isOutside v lo hi))) mi ml) := by
  refine k_ofV (L0 := [vI v, vI lo, vI hi]) (by decide +kernel) (Nat.le_of_ble_eq_true rfl) rfl rfl ?_
  intro p l e s m args below meth c D cy ad bs C
  refine k_iload_n (pc := 0) C dX6_isOutside_0 rfl ?_
  refine k_iload_n (pc := 1) C dX6_isOutside_1 rfl ?_
  refine k_icmp_lt (pc := 2) C 10 dX6_isOutside_2 (by decide) (fun c2 => ?_) (fun c2 => ?_)
  · skip
    refine k_iconst (pc := 10) (v := 1) C dX6_isOutside_10 (by decide) ?_
    refine k_goto (pc := 11) C 15 dX6_isOutside_11 (by decide) ?_
    exact k_zret (pc := 15) C rfl (Or.inr rfl) (k_fI (by unfold f_X6_isOutside; rw [if_pos c2]; try rfl)) dX6_isOutside_15
  · skip
    refine k_iload_n (pc := 5) C dX6_isOutside_5 rfl ?_
    refine k_iload_n (pc := 6) C dX6_isOutside_6 rfl ?_
    refine k_icmp_le (pc := 7) C 14 dX6_isOutside_7 (by decide) (fun c7 => ?_) (fun c7 => ?_)
    · skip
      refine k_iconst (pc := 14) (v := 0) C dX6_isOutside_14 (by decide) ?_
      exact k_zret (pc := 15) C rfl (Or.inl rfl) (k_fI (by unfold f_X6_isOutside; rw [if_neg c2, if_pos c7]; try rfl)) dX6_isOutside_15
    · skip
      refine k_iconst (pc := 10) (v := 1) C dX6_isOutside_10 (by decide) ?_
      refine k_goto (pc := 11) C 15 dX6_isOutside_11 (by decide) ?_
      exact k_zret (pc := 15) C rfl (Or.inr rfl) (k_fI (by unfold f_X6_isOutside; rw [if_neg c2, if_neg c7]; try rfl)) dX6_isOutside_15
def f_X6_mostToTell (w : Int32) : Int32 :=
  if w = 0 then 1
  else if w = 1 then 99
    else if w = 2 then 20
      else if w = 3 then 99
        else (-1)
set_option maxRecDepth 100000 in
set_option maxHeartbeats 4000000 in
theorem ct_X6_mostToTell {mi : MemI} {ml : MemL} {w : Int32}  : k_Ct k_KS k_R0 Mt_X6_mostToTell 0 [vI w] mi ml (k_rt (some (vI (f_X6_mostToTell w))) mi ml) := by
  refine k_ofV (L0 := [vI w]) (by decide +kernel) (Nat.le_of_ble_eq_true rfl) rfl rfl ?_
  intro p l e s m args below meth c D cy ad bs C
  refine k_iload_n (pc := 0) C dX6_mostToTell_0 rfl ?_
  by_cases c1_0 : w = 0
  · skip
    refine k_tabIn (pc := 1) (v := 0) C 32 dX6_mostToTell_1 c1_0 (by decide) (by decide) rfl (by decide) ?_
    refine k_iconst (pc := 32) (v := 1) C dX6_mostToTell_32 (by decide) ?_
    exact k_iret (pc := 33) C rfl (k_fI (by unfold f_X6_mostToTell; rw [if_pos c1_0]; try rfl)) dX6_mostToTell_33
  by_cases c1_1 : w = 1
  · skip
    refine k_tabIn (pc := 1) (v := 1) C 34 dX6_mostToTell_1 c1_1 (by decide) (by decide) rfl (by decide) ?_
    refine k_bipush (pc := 34) (v := 99) C dX6_mostToTell_34 (by decide) ?_
    exact k_iret (pc := 36) C rfl (k_fI (by unfold f_X6_mostToTell; rw [if_neg c1_0, if_pos c1_1]; try rfl)) dX6_mostToTell_36
  by_cases c1_2 : w = 2
  · skip
    refine k_tabIn (pc := 1) (v := 2) C 37 dX6_mostToTell_1 c1_2 (by decide) (by decide) rfl (by decide) ?_
    refine k_bipush (pc := 37) (v := 20) C dX6_mostToTell_37 (by decide) ?_
    exact k_iret (pc := 39) C rfl (k_fI (by unfold f_X6_mostToTell; rw [if_neg c1_0, if_neg c1_1, if_pos c1_2]; try rfl)) dX6_mostToTell_39
  by_cases c1_3 : w = 3
  · skip
    refine k_tabIn (pc := 1) (v := 3) C 40 dX6_mostToTell_1 c1_3 (by decide) (by decide) rfl (by decide) ?_
    refine k_bipush (pc := 40) (v := 99) C dX6_mostToTell_40 (by decide) ?_
    exact k_iret (pc := 42) C rfl (k_fI (by unfold f_X6_mostToTell; rw [if_neg c1_0, if_neg c1_1, if_neg c1_2, if_pos c1_3]; try rfl)) dX6_mostToTell_42
  refine k_tabOut (pc := 1) C 43 dX6_mostToTell_1 (k_out 0 3 (fun v h1 h2 => by rcases (show v = 0 ∨ v = 1 ∨ v = 2 ∨ v = 3 by omega) with rfl | rfl | rfl | rfl <;> first | exact c1_0 | exact c1_1 | exact c1_2 | exact c1_3)) (by decide) ?_
  refine k_iconst (pc := 43) (v := (-1)) C dX6_mostToTell_43 (by decide) ?_
  exact k_iret (pc := 44) C rfl (k_fI (by unfold f_X6_mostToTell; rw [if_neg c1_0, if_neg c1_1, if_neg c1_2, if_neg c1_3]; try rfl)) dX6_mostToTell_44
def f_X6_shelfAt (s0 : Int32) : Nat :=
  if s0 < 0 then 8
  else if 8 ≤ s0 then 8
    else s0.toNatClampNeg
set_option maxRecDepth 100000 in
set_option maxHeartbeats 4000000 in
theorem ct_X6_shelfAt_s {mi : MemI} {ml : MemL} {s0 : Int32}  (h : (f_X6_shelfAt s0) < 8) : k_Ct k_KS k_R0 Mt_X6_shelfAt 0 [vR (6, 0, 0), vI s0] mi ml (k_rt (some (vR (5, 0, (f_X6_shelfAt s0)))) mi ml) := by
  refine k_ofV (L0 := [vR (6, 0, 0), vI s0]) (by decide +kernel) (Nat.le_of_ble_eq_true rfl) rfl rfl ?_
  intro p l e s m args below meth c D cy ad bs C
  refine k_iload_n (pc := 0) C dX6_shelfAt_0 rfl ?_
  refine k_if_lt (pc := 1) C 22 dX6_shelfAt_1 (by decide) (fun c1 => ?_) (fun c1 => ?_)
  · skip
    refine k_null (pc := 22) C dX6_shelfAt_22 ?_
    exact absurd h (by unfold f_X6_shelfAt; rw [if_pos c1]; decide)
  · skip
    refine k_iload_n (pc := 4) C dX6_shelfAt_4 rfl ?_
    refine k_aload_n (pc := 5) C dX6_shelfAt_5 rfl ?_
    refine k_getR (pc := 6) (r := some (12, 0, 0)) C fl_X6_24 k_in6 rfl rfl rfl dX6_shelfAt_6 ?_
    refine k_alen (pc := 9) (v := 8) C k_in12 ⟨Nat.le_of_ble_eq_true rfl, Nat.le_of_ble_eq_true rfl⟩ rfl dX6_shelfAt_9 ?_
    refine k_icmp_ge (pc := 10) C 22 dX6_shelfAt_10 (by decide) (fun c10 => ?_) (fun c10 => ?_)
    · skip
      refine k_null (pc := 22) C dX6_shelfAt_22 ?_
      exact absurd h (by unfold f_X6_shelfAt; rw [if_neg c1, if_pos c10]; decide)
    · skip
      refine k_aload_n (pc := 13) C dX6_shelfAt_13 rfl ?_
      refine k_getR (pc := 14) (r := some (12, 0, 0)) C fl_X6_24 k_in6 rfl rfl rfl dX6_shelfAt_14 ?_
      refine k_iload_n (pc := 17) C dX6_shelfAt_17 rfl ?_
      refine k_aaldX (pc := 18) (j := s0.toNatClampNeg) (kr := (5, 0, s0.toNatClampNeg)) C rfl k_in12 (Or.inr (Or.inr rfl)) (k_vin (N := 8) (n := 8) c1 c10 (by decide)) rfl dX6_shelfAt_18 ?_
      refine k_goto (pc := 19) C 23 dX6_shelfAt_19 (by decide) ?_
      exact k_aret (pc := 23) (x := some (5, 0, s0.toNatClampNeg)) C rfl (Or.inl ⟨_, rfl⟩) (k_fR (by unfold f_X6_shelfAt; rw [if_neg c1, if_neg c10])) dX6_shelfAt_23
set_option maxRecDepth 100000 in
set_option maxHeartbeats 4000000 in
theorem ct_X6_shelfAt_n {mi : MemI} {ml : MemL} {s0 : Int32}  (h : ¬ (f_X6_shelfAt s0) < 8) : k_Ct k_KS k_R0 Mt_X6_shelfAt 0 [vR (6, 0, 0), vI s0] mi ml (k_rt (some vN) mi ml) := by
  refine k_ofV (L0 := [vR (6, 0, 0), vI s0]) (by decide +kernel) (Nat.le_of_ble_eq_true rfl) rfl rfl ?_
  intro p l e s m args below meth c D cy ad bs C
  refine k_iload_n (pc := 0) C dX6_shelfAt_0 rfl ?_
  refine k_if_lt (pc := 1) C 22 dX6_shelfAt_1 (by decide) (fun c1 => ?_) (fun c1 => ?_)
  · skip
    refine k_null (pc := 22) C dX6_shelfAt_22 ?_
    exact k_aret (pc := 23) (x := none) C rfl (Or.inl ⟨_, rfl⟩) k_rt_rf dX6_shelfAt_23
  · skip
    refine k_iload_n (pc := 4) C dX6_shelfAt_4 rfl ?_
    refine k_aload_n (pc := 5) C dX6_shelfAt_5 rfl ?_
    refine k_getR (pc := 6) (r := some (12, 0, 0)) C fl_X6_24 k_in6 rfl rfl rfl dX6_shelfAt_6 ?_
    refine k_alen (pc := 9) (v := 8) C k_in12 ⟨Nat.le_of_ble_eq_true rfl, Nat.le_of_ble_eq_true rfl⟩ rfl dX6_shelfAt_9 ?_
    refine k_icmp_ge (pc := 10) C 22 dX6_shelfAt_10 (by decide) (fun c10 => ?_) (fun c10 => ?_)
    · skip
      refine k_null (pc := 22) C dX6_shelfAt_22 ?_
      exact k_aret (pc := 23) (x := none) C rfl (Or.inl ⟨_, rfl⟩) k_rt_rf dX6_shelfAt_23
    · skip
      refine k_aload_n (pc := 13) C dX6_shelfAt_13 rfl ?_
      refine k_getR (pc := 14) (r := some (12, 0, 0)) C fl_X6_24 k_in6 rfl rfl rfl dX6_shelfAt_14 ?_
      refine k_iload_n (pc := 17) C dX6_shelfAt_17 rfl ?_
      refine k_aaldX (pc := 18) (j := s0.toNatClampNeg) (kr := (5, 0, s0.toNatClampNeg)) C rfl k_in12 (Or.inr (Or.inr rfl)) (k_vin (N := 8) (n := 8) c1 c10 (by decide)) rfl dX6_shelfAt_18 ?_
      refine k_goto (pc := 19) C 23 dX6_shelfAt_19 (by decide) ?_
      exact absurd (by unfold f_X6_shelfAt; rw [if_neg c1, if_neg c10]; exact k_clamp (k_vin (N := 8) (by assumption) (by assumption) (by decide))) h
def f_X6_refuse (mi : MemI) (b0 : Int32) (w : Int32) : Int32 × MemI :=
  if w < 0 then ((-b0) - w, mi)
  else if 8 ≤ w then ((-b0) - w, mi)
    else ((-b0) - w, k_ui mi (8, 100, 0) w.toNatClampNeg ((mi (8, 100, 0) w.toNatClampNeg) + 1))
set_option maxRecDepth 100000 in
set_option maxHeartbeats 4000000 in
theorem ct_X6_refuse {mi : MemI} {ml : MemL} {b0 : Int32} {w : Int32}  : k_Ct k_KS k_R0 Mt_X6_refuse 0 [vR (6, 0, 0), vI b0, vI w] mi ml (k_rt (some (vI (f_X6_refuse mi b0 w).1)) (f_X6_refuse mi b0 w).2 ml) := by
  refine k_ofV (L0 := [vR (6, 0, 0), vI b0, vI w]) (by decide +kernel) (Nat.le_of_ble_eq_true rfl) rfl rfl ?_
  intro p l e s m args below meth c D cy ad bs C
  refine k_iload_n (pc := 0) C dX6_refuse_0 rfl ?_
  refine k_if_lt (pc := 1) C 23 dX6_refuse_1 (by decide) (fun c1 => ?_) (fun c1 => ?_)
  · skip
    refine k_iload_n (pc := 23) C dX6_refuse_23 rfl ?_
    refine k_ineg (pc := 24) C dX6_refuse_24 ?_
    refine k_iload_n (pc := 25) C dX6_refuse_25 rfl ?_
    refine k_isub (pc := 26) C dX6_refuse_26 ?_
    exact k_iret (pc := 27) C rfl (k_fIm (by unfold f_X6_refuse; rw [if_pos c1]; try rfl)) dX6_refuse_27
  · skip
    refine k_iload_n (pc := 4) C dX6_refuse_4 rfl ?_
    refine k_aload_n (pc := 5) C dX6_refuse_5 rfl ?_
    refine k_getR (pc := 6) (r := some (8, 100, 0)) C fl_X6_28 k_in6 rfl rfl rfl dX6_refuse_6 ?_
    refine k_alen (pc := 9) (v := 8) C (by decide +kernel) ⟨Nat.le_of_ble_eq_true rfl, Nat.le_of_ble_eq_true rfl⟩ rfl dX6_refuse_9 ?_
    refine k_icmp_ge (pc := 10) C 23 dX6_refuse_10 (by decide) (fun c10 => ?_) (fun c10 => ?_)
    · skip
      refine k_iload_n (pc := 23) C dX6_refuse_23 rfl ?_
      refine k_ineg (pc := 24) C dX6_refuse_24 ?_
      refine k_iload_n (pc := 25) C dX6_refuse_25 rfl ?_
      refine k_isub (pc := 26) C dX6_refuse_26 ?_
      exact k_iret (pc := 27) C rfl (k_fIm (by unfold f_X6_refuse; rw [if_neg c1, if_pos c10]; try rfl)) dX6_refuse_27
    · skip
      refine k_aload_n (pc := 13) C dX6_refuse_13 rfl ?_
      refine k_getR (pc := 14) (r := some (8, 100, 0)) C fl_X6_28 k_in6 rfl rfl rfl dX6_refuse_14 ?_
      refine k_iload_n (pc := 17) C dX6_refuse_17 rfl ?_
      refine k_dup2 (pc := 18) C dX6_refuse_18 rfl rfl ?_
      refine k_ialdX (pc := 19) (j := w.toNatClampNeg) C rfl (by decide +kernel) rfl (k_vin (N := 8) (n := 8) c1 c10 (by decide)) dX6_refuse_19 ?_
      refine k_iconst (pc := 20) (v := 1) C dX6_refuse_20 (by decide) ?_
      refine k_iadd (pc := 21) C dX6_refuse_21 ?_
      refine k_iastX (pc := 22) (j := w.toNatClampNeg) C rfl (by decide +kernel) rfl (k_vin (N := 8) (n := 8) c1 c10 (by decide)) dX6_refuse_22 ?_
      refine k_iload_n (pc := 23) C dX6_refuse_23 rfl ?_
      refine k_ineg (pc := 24) C dX6_refuse_24 ?_
      refine k_iload_n (pc := 25) C dX6_refuse_25 rfl ?_
      refine k_isub (pc := 26) C dX6_refuse_26 ?_
      exact k_iret (pc := 27) C rfl (k_fIm (by unfold f_X6_refuse; rw [if_neg c1, if_neg c10]; try rfl)) dX6_refuse_27
def f_X6_noRow (mi : MemI) (s0 : Int32) : Int32 :=
  if f_X6_shelfAt s0 < 8 then if (f_X5_hasCitizen mi (f_X6_shelfAt s0)) = 0 then if (f_X5_hasRow mi (f_X6_shelfAt s0)) = 0 then 3
      else 0
    else 2
  else 1
set_option maxRecDepth 100000 in
set_option maxHeartbeats 4000000 in
theorem ct_X6_noRow {mi : MemI} {ml : MemL} {s0 : Int32}  : k_Ct k_KS k_R0 Mt_X6_noRow 1 [vR (6, 0, 0), vI s0] mi ml (k_rt (some (vI (f_X6_noRow mi s0))) mi ml) := by
  refine k_ofV (L0 := [vR (6, 0, 0), vI s0, vU]) (by decide +kernel) (Nat.le_of_ble_eq_true rfl) rfl rfl ?_
  intro p l e s m args below meth c D cy ad bs C
  refine k_aload_n (pc := 0) C dX6_noRow_0 rfl ?_
  refine k_iload_n (pc := 1) C dX6_noRow_1 rfl ?_
  by_cases c2 : f_X6_shelfAt s0 < 8
  · skip
    refine k_call1 (pc := 2) C cv_X6_47 (ct_X6_shelfAt_s c2) k_in6 rfl (by decide) rfl (Nat.le_of_ble_eq_true rfl) dX6_noRow_2 ?_
    refine k_astore_2 (pc := 5) C dX6_noRow_5 rfl ?_
    refine k_aload_n (pc := 6) C dX6_noRow_6 rfl ?_
    refine k_ifnonnullR (pc := 7) C 12 dX6_noRow_7 (by decide) ?_
    refine k_aload_n (pc := 12) C dX6_noRow_12 rfl ?_
    refine k_call0 (pc := 13) C cv_X6_71 (ct_X5_hasCitizen c2) (k_in5 c2) rfl (by decide) rfl (Nat.le_of_ble_eq_true rfl) dX6_noRow_13 ?_
    refine k_if_eq (pc := 16) C 21 dX6_noRow_16 (by decide) (fun c16 => ?_) (fun c16 => ?_)
    · skip
      refine k_aload_n (pc := 21) C dX6_noRow_21 rfl ?_
      refine k_call0 (pc := 22) C cv_X6_79 (ct_X5_hasRow c2) (k_in5 c2) rfl (by decide) rfl (Nat.le_of_ble_eq_true rfl) dX6_noRow_22 ?_
      refine k_if_eq (pc := 25) C 32 dX6_noRow_25 (by decide) (fun c25 => ?_) (fun c25 => ?_)
      · skip
        refine k_iconst (pc := 32) (v := 3) C dX6_noRow_32 (by decide) ?_
        exact k_iret (pc := 33) C rfl (k_fI (by unfold f_X6_noRow; rw [if_pos c2, if_pos c16, if_pos c25]; try rfl)) dX6_noRow_33
      · skip
        refine k_iconst (pc := 28) (v := 0) C dX6_noRow_28 (by decide) ?_
        refine k_goto (pc := 29) C 33 dX6_noRow_29 (by decide) ?_
        exact k_iret (pc := 33) C rfl (k_fI (by unfold f_X6_noRow; rw [if_pos c2, if_pos c16, if_neg c25]; try rfl)) dX6_noRow_33
    · skip
      refine k_iconst (pc := 19) (v := 2) C dX6_noRow_19 (by decide) ?_
      exact k_iret (pc := 20) C rfl (k_fI (by unfold f_X6_noRow; rw [if_pos c2, if_neg c16]; try rfl)) dX6_noRow_20
  · skip
    refine k_call1 (pc := 2) C cv_X6_47 (ct_X6_shelfAt_n c2) k_in6 rfl (by decide) rfl (Nat.le_of_ble_eq_true rfl) dX6_noRow_2 ?_
    refine k_astore_2 (pc := 5) C dX6_noRow_5 rfl ?_
    refine k_aload_n (pc := 6) C dX6_noRow_6 rfl ?_
    refine k_ifnonnullN (pc := 7) C dX6_noRow_7 ?_
    refine k_iconst (pc := 10) (v := 1) C dX6_noRow_10 (by decide) ?_
    exact k_iret (pc := 11) C rfl (k_fI (by unfold f_X6_noRow; rw [if_neg c2]; try rfl)) dX6_noRow_11
def f_X3_forget (mi : MemI) : MemI :=
  (k_ui mi (3, 0, 0) 1 0)
set_option maxRecDepth 100000 in
set_option maxHeartbeats 4000000 in
theorem ct_X3_forget {mi : MemI} {ml : MemL}   : k_Ct k_KS k_R0 Mt_X3_forget 0 [vR (3, 0, 0)] mi ml (k_rt none (f_X3_forget mi) ml) := by
  refine k_ofV (L0 := [vR (3, 0, 0)]) (by decide +kernel) (Nat.le_of_ble_eq_true rfl) rfl rfl ?_
  intro p l e s m args below meth c D cy ad bs C
  refine k_aload_n (pc := 0) C dX3_forget_0 rfl ?_
  refine k_iconst (pc := 1) (v := 0) C dX3_forget_1 (by decide) ?_
  refine k_putI (pc := 2) C pl_X3_15 k_in3 rfl rfl dX3_forget_2 ?_
  exact k_vret (pc := 5) C rfl (k_fm rfl) dX3_forget_5
def f_X3_bodyAt (mi : MemI) (x : Int32) : Int32 :=
  if x < 0 then (-1)
  else if (mi (3, 0, 0) 1) ≤ x then (-1)
    else if 20 ≤ x then (-1)
      else (mi (8, 102, 0) x.toNatClampNeg)
set_option maxRecDepth 100000 in
set_option maxHeartbeats 4000000 in
theorem ct_X3_bodyAt {mi : MemI} {ml : MemL} {x : Int32}  : k_Ct k_KS k_R0 Mt_X3_bodyAt 0 [vR (3, 0, 0), vI x] mi ml (k_rt (some (vI (f_X3_bodyAt mi x))) mi ml) := by
  refine k_ofV (L0 := [vR (3, 0, 0), vI x]) (by decide +kernel) (Nat.le_of_ble_eq_true rfl) rfl rfl ?_
  intro p l e s m args below meth c D cy ad bs C
  refine k_iload_n (pc := 0) C dX3_bodyAt_0 rfl ?_
  refine k_if_lt (pc := 1) C 30 dX3_bodyAt_1 (by decide) (fun c1 => ?_) (fun c1 => ?_)
  · skip
    refine k_iconst (pc := 30) (v := (-1)) C dX3_bodyAt_30 (by decide) ?_
    exact k_iret (pc := 31) C rfl (k_fI (by unfold f_X3_bodyAt; rw [if_pos c1]; try rfl)) dX3_bodyAt_31
  · skip
    refine k_iload_n (pc := 4) C dX3_bodyAt_4 rfl ?_
    refine k_aload_n (pc := 5) C dX3_bodyAt_5 rfl ?_
    refine k_getI (pc := 6) C fl_X3_15 k_in3 rfl rfl dX3_bodyAt_6 ?_
    refine k_icmp_ge (pc := 9) C 30 dX3_bodyAt_9 (by decide) (fun c9 => ?_) (fun c9 => ?_)
    · skip
      refine k_iconst (pc := 30) (v := (-1)) C dX3_bodyAt_30 (by decide) ?_
      exact k_iret (pc := 31) C rfl (k_fI (by unfold f_X3_bodyAt; rw [if_neg c1, if_pos c9]; try rfl)) dX3_bodyAt_31
    · skip
      refine k_iload_n (pc := 12) C dX3_bodyAt_12 rfl ?_
      refine k_aload_n (pc := 13) C dX3_bodyAt_13 rfl ?_
      refine k_getR (pc := 14) (r := some (8, 102, 0)) C fl_X3_9 k_in3 rfl rfl rfl dX3_bodyAt_14 ?_
      refine k_alen (pc := 17) (v := 20) C (by decide +kernel) ⟨Nat.le_of_ble_eq_true rfl, Nat.le_of_ble_eq_true rfl⟩ rfl dX3_bodyAt_17 ?_
      refine k_icmp_ge (pc := 18) C 30 dX3_bodyAt_18 (by decide) (fun c18 => ?_) (fun c18 => ?_)
      · skip
        refine k_iconst (pc := 30) (v := (-1)) C dX3_bodyAt_30 (by decide) ?_
        exact k_iret (pc := 31) C rfl (k_fI (by unfold f_X3_bodyAt; rw [if_neg c1, if_neg c9, if_pos c18]; try rfl)) dX3_bodyAt_31
      · skip
        refine k_aload_n (pc := 21) C dX3_bodyAt_21 rfl ?_
        refine k_getR (pc := 22) (r := some (8, 102, 0)) C fl_X3_9 k_in3 rfl rfl rfl dX3_bodyAt_22 ?_
        refine k_iload_n (pc := 25) C dX3_bodyAt_25 rfl ?_
        refine k_ialdX (pc := 26) (j := x.toNatClampNeg) C rfl (by decide +kernel) rfl (k_vin (N := 20) (n := 20) c1 c18 (by decide)) dX3_bodyAt_26 ?_
        refine k_goto (pc := 27) C 31 dX3_bodyAt_27 (by decide) ?_
        exact k_iret (pc := 31) C rfl (k_fI (by unfold f_X3_bodyAt; rw [if_neg c1, if_neg c9, if_neg c18]; try rfl)) dX3_bodyAt_31
def f_X3_begin (mi : MemI) (b0 : Int32) : MemI :=
  if (mi (3, 0, 0) 1) < 0 then (k_ui mi (3, 0, 0) 1 ((mi (3, 0, 0) 1) + 1))
  else if 20 ≤ (mi (3, 0, 0) 1) then (k_ui mi (3, 0, 0) 1 ((mi (3, 0, 0) 1) + 1))
    else (k_ui (k_ui mi (8, 102, 0) ((mi (3, 0, 0) 1).toNatClampNeg) b0) (3, 0, 0) 1 (((k_ui mi (8, 102, 0) ((mi (3, 0, 0) 1).toNatClampNeg) b0) (3, 0, 0) 1) + 1))
set_option maxRecDepth 100000 in
set_option maxHeartbeats 4000000 in
theorem ct_X3_begin {mi : MemI} {ml : MemL} {b0 : Int32}  : k_Ct k_KS k_R0 Mt_X3_begin 0 [vR (3, 0, 0), vI b0] mi ml (k_rt none (f_X3_begin mi b0) ml) := by
  refine k_ofV (L0 := [vR (3, 0, 0), vI b0]) (by decide +kernel) (Nat.le_of_ble_eq_true rfl) rfl rfl ?_
  intro p l e s m args below meth c D cy ad bs C
  refine k_aload_n (pc := 0) C dX3_begin_0 rfl ?_
  refine k_getI (pc := 1) C fl_X3_15 k_in3 rfl rfl dX3_begin_1 ?_
  refine k_if_lt (pc := 4) C 29 dX3_begin_4 (by decide) (fun c4 => ?_) (fun c4 => ?_)
  · skip
    refine k_aload_n (pc := 29) C dX3_begin_29 rfl ?_
    refine k_dup (pc := 30) C dX3_begin_30 rfl ?_
    refine k_getI (pc := 31) C fl_X3_15 k_in3 rfl rfl dX3_begin_31 ?_
    refine k_iconst (pc := 34) (v := 1) C dX3_begin_34 (by decide) ?_
    refine k_iadd (pc := 35) C dX3_begin_35 ?_
    refine k_putI (pc := 36) C pl_X3_15 k_in3 rfl rfl dX3_begin_36 ?_
    exact k_vret (pc := 39) C rfl (k_fm (by unfold f_X3_begin; rw [if_pos c4]; try rfl)) dX3_begin_39
  · skip
    refine k_aload_n (pc := 7) C dX3_begin_7 rfl ?_
    refine k_getI (pc := 8) C fl_X3_15 k_in3 rfl rfl dX3_begin_8 ?_
    refine k_aload_n (pc := 11) C dX3_begin_11 rfl ?_
    refine k_getR (pc := 12) (r := some (8, 102, 0)) C fl_X3_9 k_in3 rfl rfl rfl dX3_begin_12 ?_
    refine k_alen (pc := 15) (v := 20) C (by decide +kernel) ⟨Nat.le_of_ble_eq_true rfl, Nat.le_of_ble_eq_true rfl⟩ rfl dX3_begin_15 ?_
    refine k_icmp_ge (pc := 16) C 29 dX3_begin_16 (by decide) (fun c16 => ?_) (fun c16 => ?_)
    · skip
      refine k_aload_n (pc := 29) C dX3_begin_29 rfl ?_
      refine k_dup (pc := 30) C dX3_begin_30 rfl ?_
      refine k_getI (pc := 31) C fl_X3_15 k_in3 rfl rfl dX3_begin_31 ?_
      refine k_iconst (pc := 34) (v := 1) C dX3_begin_34 (by decide) ?_
      refine k_iadd (pc := 35) C dX3_begin_35 ?_
      refine k_putI (pc := 36) C pl_X3_15 k_in3 rfl rfl dX3_begin_36 ?_
      exact k_vret (pc := 39) C rfl (k_fm (by unfold f_X3_begin; rw [if_neg c4, if_pos c16]; try rfl)) dX3_begin_39
    · skip
      refine k_aload_n (pc := 19) C dX3_begin_19 rfl ?_
      refine k_getR (pc := 20) (r := some (8, 102, 0)) C fl_X3_9 k_in3 rfl rfl rfl dX3_begin_20 ?_
      refine k_aload_n (pc := 23) C dX3_begin_23 rfl ?_
      refine k_getI (pc := 24) C fl_X3_15 k_in3 rfl rfl dX3_begin_24 ?_
      refine k_iload_n (pc := 27) C dX3_begin_27 rfl ?_
      refine k_iastX (pc := 28) (j := (mi (3, 0, 0) 1).toNatClampNeg) C rfl (by decide +kernel) rfl (k_vin (N := 20) (n := 20) c4 c16 (by decide)) dX3_begin_28 ?_
      refine k_aload_n (pc := 29) C dX3_begin_29 rfl ?_
      refine k_dup (pc := 30) C dX3_begin_30 rfl ?_
      refine k_getI (pc := 31) C fl_X3_15 k_in3 rfl rfl dX3_begin_31 ?_
      refine k_iconst (pc := 34) (v := 1) C dX3_begin_34 (by decide) ?_
      refine k_iadd (pc := 35) C dX3_begin_35 ?_
      refine k_putI (pc := 36) C pl_X3_15 k_in3 rfl rfl dX3_begin_36 ?_
      exact k_vret (pc := 39) C rfl (k_fm (by unfold f_X3_begin; rw [if_neg c4, if_neg c16]; try rfl)) dX3_begin_39
def f_X3_bodyOf (k : Int32) (mv : Int32) : Int32 :=
  if k < 0 then 0
  else if mv < 0 then 0
    else if 3 ≤ mv then 0
      else if ((k * 3) + mv) < 0 then 0
        else if 21 ≤ ((k * 3) + mv) then 0
          else (k_BO ((k * 3) + mv).toNatClampNeg)
set_option maxRecDepth 100000 in
set_option maxHeartbeats 4000000 in
theorem ct_X3_bodyOf {mi : MemI} {ml : MemL} {k : Int32} {mv : Int32}  : k_Ct k_KS k_R0 Mt_X3_bodyOf 0 [vI k, vI mv] mi ml (k_rt (some (vI (f_X3_bodyOf k mv))) mi ml) := by
  refine k_ofV (L0 := [vI k, vI mv, vU]) (by decide +kernel) (Nat.le_of_ble_eq_true rfl) rfl rfl ?_
  intro p l e s m args below meth c D cy ad bs C
  refine k_iload_n (pc := 0) C dX3_bodyOf_0 rfl ?_
  refine k_iconst (pc := 1) (v := 3) C dX3_bodyOf_1 (by decide) ?_
  refine k_imul (pc := 2) C dX3_bodyOf_2 ?_
  refine k_iload_n (pc := 3) C dX3_bodyOf_3 rfl ?_
  refine k_iadd (pc := 4) C dX3_bodyOf_4 ?_
  refine k_istore_2 (pc := 5) C dX3_bodyOf_5 rfl ?_
  refine k_iload_n (pc := 6) C dX3_bodyOf_6 rfl ?_
  refine k_if_lt (pc := 7) C 39 dX3_bodyOf_7 (by decide) (fun c7 => ?_) (fun c7 => ?_)
  · skip
    refine k_iconst (pc := 39) (v := 0) C dX3_bodyOf_39 (by decide) ?_
    exact k_iret (pc := 40) C rfl (k_fI (by unfold f_X3_bodyOf; rw [if_pos c7]; try rfl)) dX3_bodyOf_40
  · skip
    refine k_iload_n (pc := 10) C dX3_bodyOf_10 rfl ?_
    refine k_if_lt (pc := 11) C 39 dX3_bodyOf_11 (by decide) (fun c11 => ?_) (fun c11 => ?_)
    · skip
      refine k_iconst (pc := 39) (v := 0) C dX3_bodyOf_39 (by decide) ?_
      exact k_iret (pc := 40) C rfl (k_fI (by unfold f_X3_bodyOf; rw [if_neg c7, if_pos c11]; try rfl)) dX3_bodyOf_40
    · skip
      refine k_iload_n (pc := 14) C dX3_bodyOf_14 rfl ?_
      refine k_iconst (pc := 15) (v := 3) C dX3_bodyOf_15 (by decide) ?_
      refine k_icmp_ge (pc := 16) C 39 dX3_bodyOf_16 (by decide) (fun c16 => ?_) (fun c16 => ?_)
      · skip
        refine k_iconst (pc := 39) (v := 0) C dX3_bodyOf_39 (by decide) ?_
        exact k_iret (pc := 40) C rfl (k_fI (by unfold f_X3_bodyOf; rw [if_neg c7, if_neg c11, if_pos c16]; try rfl)) dX3_bodyOf_40
      · skip
        refine k_iload_n (pc := 19) C dX3_bodyOf_19 rfl ?_
        refine k_if_lt (pc := 20) C 39 dX3_bodyOf_20 (by decide) (fun c20 => ?_) (fun c20 => ?_)
        · skip
          refine k_iconst (pc := 39) (v := 0) C dX3_bodyOf_39 (by decide) ?_
          exact k_iret (pc := 40) C rfl (k_fI (by unfold f_X3_bodyOf; rw [if_neg c7, if_neg c11, if_neg c16, if_pos c20]; try rfl)) dX3_bodyOf_40
        · skip
          refine k_iload_n (pc := 23) C dX3_bodyOf_23 rfl ?_
          refine k_getsB (pc := 24) C gs_X3_61 dX3_bodyOf_24 ?_
          refine k_tlenB (pc := 27) C dX3_bodyOf_27 ?_
          refine k_icmp_ge (pc := 28) C 39 dX3_bodyOf_28 (by decide) (fun c28 => ?_) (fun c28 => ?_)
          · skip
            refine k_iconst (pc := 39) (v := 0) C dX3_bodyOf_39 (by decide) ?_
            exact k_iret (pc := 40) C rfl (k_fI (by unfold f_X3_bodyOf; rw [if_neg c7, if_neg c11, if_neg c16, if_neg c20, if_pos c28]; try rfl)) dX3_bodyOf_40
          · skip
            refine k_getsB (pc := 31) C gs_X3_61 dX3_bodyOf_31 ?_
            refine k_iload_n (pc := 34) C dX3_bodyOf_34 rfl ?_
            refine k_taldB (pc := 35) C (k_vin (N := 21) (n := 21) c20 c28 (by decide)) dX3_bodyOf_35 ?_
            refine k_goto (pc := 36) C 40 dX3_bodyOf_36 (by decide) ?_
            exact k_iret (pc := 40) C rfl (k_fI (by unfold f_X3_bodyOf; rw [if_neg c7, if_neg c11, if_neg c16, if_neg c20, if_neg c28]; try rfl)) dX3_bodyOf_40
def f_ow : Nat → Int32 → Int32 → Int32
  | 0, k, _ => k
  | n + 1, k, mv => if f_X3_bodyOf k mv = 0 then f_ow n (f_X6_kindAbove k) mv else k
theorem f_ow_s (n : Nat) (k mv : Int32) : f_ow (n + 1) k mv = if f_X3_bodyOf k mv = 0 then f_ow n (f_X6_kindAbove k) mv else k := rfl
def f_X3_ownerOf (k mv : Int32) : Int32 := f_ow 7 k mv
set_option maxRecDepth 100000 in
set_option maxHeartbeats 4000000 in
theorem ct_X3_ownerOf {mi : MemI} {ml : MemL} {k mv : Int32}  : k_Ct k_KS k_R0 Mt_X3_ownerOf 1 [vI k, vI mv] mi ml (k_rt (some (vI (f_X3_ownerOf k mv))) mi ml) := by
  refine k_ofV (L0 := [vI k, vI mv, vU, vU]) (by decide +kernel) (Nat.le_of_ble_eq_true rfl) rfl rfl ?_
  intro p l e s m args below meth c D cy ad bs C
  refine k_iload_n (pc := 0) C dX3_ownerOf_0 rfl ?_
  refine k_istore_2 (pc := 1) C dX3_ownerOf_1 rfl ?_
  refine k_iconst (pc := 2) (v := 0) C dX3_ownerOf_2 (by decide) ?_
  refine k_istore_3 (pc := 3) C dX3_ownerOf_3 rfl ?_
  have hloop : ∀ (n j : Nat) (o : Int32), j + n = 7 → f_ow n o mv = f_X3_ownerOf k mv → k_V p l e (k_rm 1) s m args below meth c D cy ad bs k_KS k_R0 0 0 (k_End below D cy ad bs k_KS k_R0 (k_rt (some (vI (f_X3_ownerOf k mv))) mi ml) args s) mi ml 4 [vI k, vI mv, vI o, vI (nI j)] [] := by
    intro n
    induction n with
    | zero =>
      intro j o hjn hres
      obtain rfl : j = 7 := by omega
      refine k_iload_n (pc := 4) C dX3_ownerOf_4 rfl ?_
      refine k_bipush (pc := 5) (v := 7) C dX3_ownerOf_5 (by decide) ?_
      refine k_icmp_geT (pc := 7) C 29 dX3_ownerOf_7 (by decide) (by decide) ?_
      refine k_iload_n (pc := 29) C dX3_ownerOf_29 rfl ?_
      exact k_iret (pc := 30) C rfl (k_fI (by rw [← hres]; rfl)) dX3_ownerOf_30
    | succ n ih =>
      intro j o hjn hres
      have hj : j < 7 := by omega
      refine k_iload_n (pc := 4) C dX3_ownerOf_4 rfl ?_
      refine k_bipush (pc := 5) (v := 7) C dX3_ownerOf_5 (by decide) ?_
      refine k_icmp_geF (pc := 7) C 29 dX3_ownerOf_7 (by decide) (k_nge (n := 7) rfl (by decide) hj) ?_
      refine k_iload_n (pc := 10) C dX3_ownerOf_10 rfl ?_
      refine k_iload_n (pc := 11) C dX3_ownerOf_11 rfl ?_
      refine k_calls2 (pc := 12) C cs_X3_47 ct_X3_bodyOf (by decide) rfl (Nat.le_of_ble_eq_true rfl) dX3_ownerOf_12 ?_
      refine k_if_ne (pc := 15) C 29 dX3_ownerOf_15 (by decide) (fun c15 => ?_) (fun c15 => ?_)
      · skip
        refine k_iload_n (pc := 29) C dX3_ownerOf_29 rfl ?_
        exact k_iret (pc := 30) C rfl (k_fI (by rw [← hres, f_ow_s, if_neg c15])) dX3_ownerOf_30
      · skip
        refine k_iload_n (pc := 18) C dX3_ownerOf_18 rfl ?_
        refine k_calls1 (pc := 19) C cs_X3_54 ct_X6_kindAbove (by decide) rfl (Nat.le_of_ble_eq_true rfl) dX3_ownerOf_19 ?_
        refine k_istore_2 (pc := 22) C dX3_ownerOf_22 rfl ?_
        refine k_iinc_3 (pc := 23) (v := nI (j + 1)) C dX3_ownerOf_23 (k_inc j) rfl ?_
        refine k_goto (pc := 26) C 4 dX3_ownerOf_26 (by decide) ?_
        exact ih (j + 1) (f_X6_kindAbove o) (by omega) (by rw [← hres, f_ow_s, if_pos c15])
  exact hloop 7 0 k rfl rfl
def f_un : Nat → Int32 → Int32 → Int32
  | 0, _, _ => 0
  | n + 1, k, w => if k = (-1) then 0 else if k = w then 1 else f_un n (f_X6_kindAbove k) w
theorem f_un_s (n : Nat) (k w : Int32) : f_un (n + 1) k w = if k = (-1) then 0 else if k = w then 1 else f_un n (f_X6_kindAbove k) w := rfl
def f_X6_isUnder (k w : Int32) : Int32 := f_un 7 k w
set_option maxRecDepth 100000 in
set_option maxHeartbeats 4000000 in
theorem ct_X6_isUnder {mi : MemI} {ml : MemL} {k w : Int32}  : k_Ct k_KS k_R0 Mt_X6_isUnder 1 [vI k, vI w] mi ml (k_rt (some (vI (f_X6_isUnder k w))) mi ml) := by
  refine k_ofV (L0 := [vI k, vI w, vU, vU]) (by decide +kernel) (Nat.le_of_ble_eq_true rfl) rfl rfl ?_
  intro p l e s m args below meth c D cy ad bs C
  refine k_iload_n (pc := 0) C dX6_isUnder_0 rfl ?_
  refine k_istore_2 (pc := 1) C dX6_isUnder_1 rfl ?_
  refine k_iconst (pc := 2) (v := 0) C dX6_isUnder_2 (by decide) ?_
  refine k_istore_3 (pc := 3) C dX6_isUnder_3 rfl ?_
  have hloop : ∀ (n j : Nat) (o : Int32), j + n = 7 → f_un n o w = f_X6_isUnder k w → k_V p l e (k_rm 1) s m args below meth c D cy ad bs k_KS k_R0 0 0 (k_End below D cy ad bs k_KS k_R0 (k_rt (some (vI (f_X6_isUnder k w))) mi ml) args s) mi ml 4 [vI k, vI w, vI o, vI (nI j)] [] := by
    intro n
    induction n with
    | zero =>
      intro j o hjn hres
      obtain rfl : j = 7 := by omega
      refine k_iload_n (pc := 4) C dX6_isUnder_4 rfl ?_
      refine k_bipush (pc := 5) (v := 7) C dX6_isUnder_5 (by decide) ?_
      refine k_icmp_geT (pc := 7) C 33 dX6_isUnder_7 (by decide) (by decide) ?_
      refine k_iconst (pc := 33) (v := 0) C dX6_isUnder_33 (by decide) ?_
      exact k_zret (pc := 34) C rfl (Or.inl rfl) (k_fI (by rw [← hres]; rfl)) dX6_isUnder_34
    | succ n ih =>
      intro j o hjn hres
      have hj : j < 7 := by omega
      refine k_iload_n (pc := 4) C dX6_isUnder_4 rfl ?_
      refine k_bipush (pc := 5) (v := 7) C dX6_isUnder_5 (by decide) ?_
      refine k_icmp_geF (pc := 7) C 33 dX6_isUnder_7 (by decide) (k_nge (n := 7) rfl (by decide) hj) ?_
      refine k_iload_n (pc := 10) C dX6_isUnder_10 rfl ?_
      refine k_iconst (pc := 11) (v := (-1)) C dX6_isUnder_11 (by decide) ?_
      refine k_icmp_eq (pc := 12) C 33 dX6_isUnder_12 (by decide) (fun c12 => ?_) (fun c12 => ?_)
      · skip
        refine k_iconst (pc := 33) (v := 0) C dX6_isUnder_33 (by decide) ?_
        exact k_zret (pc := 34) C rfl (Or.inl rfl) (k_fI (by rw [← hres, f_un_s, if_pos c12])) dX6_isUnder_34
      · skip
        refine k_iload_n (pc := 15) C dX6_isUnder_15 rfl ?_
        refine k_iload_n (pc := 16) C dX6_isUnder_16 rfl ?_
        refine k_icmp_ne (pc := 17) C 22 dX6_isUnder_17 (by decide) (fun c17 => ?_) (fun c17 => ?_)
        · skip
          refine k_iload_n (pc := 22) C dX6_isUnder_22 rfl ?_
          refine k_calls1 (pc := 23) C cs_X6_309 ct_X6_kindAbove (by decide) rfl (Nat.le_of_ble_eq_true rfl) dX6_isUnder_23 ?_
          refine k_istore_2 (pc := 26) C dX6_isUnder_26 rfl ?_
          refine k_iinc_3 (pc := 27) (v := nI (j + 1)) C dX6_isUnder_27 (k_inc j) rfl ?_
          refine k_goto (pc := 30) C 4 dX6_isUnder_30 (by decide) ?_
          exact ih (j + 1) (f_X6_kindAbove o) (by omega) (by rw [← hres, f_un_s, if_neg c12, if_neg c17])
        · skip
          refine k_iconst (pc := 20) (v := 1) C dX6_isUnder_20 (by decide) ?_
          exact k_zret (pc := 21) C rfl (Or.inr rfl) (k_fI (by rw [← hres, f_un_s, if_neg c12, if_pos c17])) dX6_isUnder_21
  exact hloop 7 0 k rfl rfl
