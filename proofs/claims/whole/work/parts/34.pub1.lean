/-! BeggarsChoose: the public methods without loops of their own, first half -/
def f_X6_row (mi : MemI) (ml : MemL) (s0 : Int32) (so : Int32) (n : Int32) : Int32 × MemI × MemL :=
  if f_X6_shelfAt s0 < 8 then if 0 ≤ n then if so < 0 then ((f_X6_refuse mi 0 6).1, (f_X6_refuse mi 0 6).2, ml)
      else if so < 4 then if n ≤ 160 then (1, (f_X5_takeRow mi ml (f_X6_shelfAt s0) so n).1, (f_X5_takeRow mi ml (f_X6_shelfAt s0) so n).2)
          else ((f_X6_refuse mi 0 7).1, (f_X6_refuse mi 0 7).2, ml)
        else ((f_X6_refuse mi 0 6).1, (f_X6_refuse mi 0 6).2, ml)
    else ((f_X6_refuse mi 0 4).1, (f_X6_refuse mi 0 4).2, ml)
  else ((f_X6_refuse mi 0 1).1, (f_X6_refuse mi 0 1).2, ml)
set_option maxRecDepth 100000 in
set_option maxHeartbeats 4000000 in
theorem ct_X6_row {mi : MemI} {ml : MemL} {s0 : Int32} {so : Int32} {n : Int32}  : k_Ct k_KS k_R0 Mt_X6_row 2 [vR (6, 0, 0), vI s0, vI so, vI n] mi ml (k_rt (some (vI (f_X6_row mi ml s0 so n).1)) (f_X6_row mi ml s0 so n).2.1 (f_X6_row mi ml s0 so n).2.2) := by
  refine k_ofV (L0 := [vR (6, 0, 0), vI s0, vI so, vI n, vU]) (by decide +kernel) (Nat.le_of_ble_eq_true rfl) rfl rfl ?_
  intro p l e s m args below meth c D cy ad bs C
  refine k_aload_n (pc := 0) C dX6_row_0 rfl ?_
  refine k_iload_n (pc := 1) C dX6_row_1 rfl ?_
  by_cases c2 : f_X6_shelfAt s0 < 8
  · skip
    refine k_call1 (pc := 2) C cv_X6_47 (ct_X6_shelfAt_s c2) k_in6 rfl (by decide) rfl (Nat.le_of_ble_eq_true rfl) dX6_row_2 ?_
    refine k_astore_4 (pc := 5) C dX6_row_5 rfl ?_
    refine k_aload (pc := 7) C dX6_row_7 rfl ?_
    refine k_ifnonnullR (pc := 9) C 19 dX6_row_9 (by decide) ?_
    refine k_iload_n (pc := 19) C dX6_row_19 rfl ?_
    refine k_if_ge (pc := 20) C 30 dX6_row_20 (by decide) (fun c20 => ?_) (fun c20 => ?_)
    · skip
      refine k_iload_n (pc := 30) C dX6_row_30 rfl ?_
      refine k_if_lt (pc := 31) C 39 dX6_row_31 (by decide) (fun c31 => ?_) (fun c31 => ?_)
      · skip
        refine k_aload_n (pc := 39) C dX6_row_39 rfl ?_
        refine k_iconst (pc := 40) (v := 0) C dX6_row_40 (by decide) ?_
        refine k_bipush (pc := 41) (v := 6) C dX6_row_41 (by decide) ?_
        refine k_call2 (pc := 43) C cv_X6_51 ct_X6_refuse k_in6 rfl (by decide) rfl (Nat.le_of_ble_eq_true rfl) dX6_row_43 ?_
        exact k_iret (pc := 46) C rfl (k_fIml (by unfold f_X6_row; rw [if_pos c2, if_pos c20, if_pos c31]; try rfl)) dX6_row_46
      · skip
        refine k_iload_n (pc := 34) C dX6_row_34 rfl ?_
        refine k_iconst (pc := 35) (v := 4) C dX6_row_35 (by decide) ?_
        refine k_icmp_lt (pc := 36) C 47 dX6_row_36 (by decide) (fun c36 => ?_) (fun c36 => ?_)
        · skip
          refine k_iload_n (pc := 47) C dX6_row_47 rfl ?_
          refine k_sipush (pc := 48) (v := 160) C dX6_row_48 (by decide) ?_
          refine k_icmp_le (pc := 51) C 62 dX6_row_51 (by decide) (fun c51 => ?_) (fun c51 => ?_)
          · skip
            refine k_aload (pc := 62) C dX6_row_62 rfl ?_
            refine k_iload_n (pc := 64) C dX6_row_64 rfl ?_
            refine k_iload_n (pc := 65) C dX6_row_65 rfl ?_
            refine k_callv2 (pc := 66) C cv_X6_55 (ct_X5_takeRow (by first | assumption | decide)) (k_in5 c2) rfl (by decide) rfl (Nat.le_of_ble_eq_true rfl) dX6_row_66 ?_
            refine k_iconst (pc := 69) (v := 1) C dX6_row_69 (by decide) ?_
            exact k_iret (pc := 70) C rfl (k_fIml (by unfold f_X6_row; rw [if_pos c2, if_pos c20, if_neg c31, if_pos c36, if_pos c51]; try rfl)) dX6_row_70
          · skip
            refine k_aload_n (pc := 54) C dX6_row_54 rfl ?_
            refine k_iconst (pc := 55) (v := 0) C dX6_row_55 (by decide) ?_
            refine k_bipush (pc := 56) (v := 7) C dX6_row_56 (by decide) ?_
            refine k_call2 (pc := 58) C cv_X6_51 ct_X6_refuse k_in6 rfl (by decide) rfl (Nat.le_of_ble_eq_true rfl) dX6_row_58 ?_
            exact k_iret (pc := 61) C rfl (k_fIml (by unfold f_X6_row; rw [if_pos c2, if_pos c20, if_neg c31, if_pos c36, if_neg c51]; try rfl)) dX6_row_61
        · skip
          refine k_aload_n (pc := 39) C dX6_row_39 rfl ?_
          refine k_iconst (pc := 40) (v := 0) C dX6_row_40 (by decide) ?_
          refine k_bipush (pc := 41) (v := 6) C dX6_row_41 (by decide) ?_
          refine k_call2 (pc := 43) C cv_X6_51 ct_X6_refuse k_in6 rfl (by decide) rfl (Nat.le_of_ble_eq_true rfl) dX6_row_43 ?_
          exact k_iret (pc := 46) C rfl (k_fIml (by unfold f_X6_row; rw [if_pos c2, if_pos c20, if_neg c31, if_neg c36]; try rfl)) dX6_row_46
    · skip
      refine k_aload_n (pc := 23) C dX6_row_23 rfl ?_
      refine k_iconst (pc := 24) (v := 0) C dX6_row_24 (by decide) ?_
      refine k_iconst (pc := 25) (v := 4) C dX6_row_25 (by decide) ?_
      refine k_call2 (pc := 26) C cv_X6_51 ct_X6_refuse k_in6 rfl (by decide) rfl (Nat.le_of_ble_eq_true rfl) dX6_row_26 ?_
      exact k_iret (pc := 29) C rfl (k_fIml (by unfold f_X6_row; rw [if_pos c2, if_neg c20]; try rfl)) dX6_row_29
  · skip
    refine k_call1 (pc := 2) C cv_X6_47 (ct_X6_shelfAt_n c2) k_in6 rfl (by decide) rfl (Nat.le_of_ble_eq_true rfl) dX6_row_2 ?_
    refine k_astore_4 (pc := 5) C dX6_row_5 rfl ?_
    refine k_aload (pc := 7) C dX6_row_7 rfl ?_
    refine k_ifnonnullN (pc := 9) C dX6_row_9 ?_
    refine k_aload_n (pc := 12) C dX6_row_12 rfl ?_
    refine k_iconst (pc := 13) (v := 0) C dX6_row_13 (by decide) ?_
    refine k_iconst (pc := 14) (v := 1) C dX6_row_14 (by decide) ?_
    refine k_call2 (pc := 15) C cv_X6_51 ct_X6_refuse k_in6 rfl (by decide) rfl (Nat.le_of_ble_eq_true rfl) dX6_row_15 ?_
    exact k_iret (pc := 18) C rfl (k_fIml (by unfold f_X6_row; rw [if_neg c2]; try rfl)) dX6_row_18
def f_X6_set (mi : MemI) (ml : MemL) (s0 : Int32) (x : Int32) (v : Int64) : Int32 × MemI × MemL :=
  if (f_X6_noRow mi s0) = 0 then if f_X6_shelfAt s0 < 8 then if (f_X5_hasElement mi (f_X6_shelfAt s0) x) = 0 then ((f_X6_refuse mi 0 5).1, (f_X6_refuse mi 0 5).2, ml)
      else (1, mi, f_X5_put mi ml (f_X6_shelfAt s0) x v)
    else ((f_X6_refuse mi 0 5).1, (f_X6_refuse mi 0 5).2, ml)
  else ((f_X6_refuse mi 0 (f_X6_noRow mi s0)).1, (f_X6_refuse mi 0 (f_X6_noRow mi s0)).2, ml)
set_option maxRecDepth 100000 in
set_option maxHeartbeats 4000000 in
theorem ct_X6_set {mi : MemI} {ml : MemL} {s0 : Int32} {x : Int32} {v : Int64}  : k_Ct k_KS k_R0 Mt_X6_set 2 [vR (6, 0, 0), vI s0, vI x, vL v] mi ml (k_rt (some (vI (f_X6_set mi ml s0 x v).1)) (f_X6_set mi ml s0 x v).2.1 (f_X6_set mi ml s0 x v).2.2) := by
  refine k_ofV (L0 := [vR (6, 0, 0), vI s0, vI x, vL v, vU, vU, vU]) (by decide +kernel) (Nat.le_of_ble_eq_true rfl) rfl rfl ?_
  intro p l e s m args below meth c D cy ad bs C
  refine k_aload_n (pc := 0) C dX6_set_0 rfl ?_
  refine k_iload_n (pc := 1) C dX6_set_1 rfl ?_
  refine k_call1 (pc := 2) C cv_X6_59 ct_X6_noRow k_in6 rfl (by decide) rfl (Nat.le_of_ble_eq_true rfl) dX6_set_2 ?_
  refine k_istore_5 (pc := 5) C dX6_set_5 rfl ?_
  refine k_iload (pc := 7) C dX6_set_7 rfl ?_
  refine k_if_eq (pc := 9) C 20 dX6_set_9 (by decide) (fun c9 => ?_) (fun c9 => ?_)
  · skip
    refine k_aload_n (pc := 20) C dX6_set_20 rfl ?_
    refine k_iload_n (pc := 21) C dX6_set_21 rfl ?_
    by_cases c22 : f_X6_shelfAt s0 < 8
    · skip
      refine k_call1 (pc := 22) C cv_X6_47 (ct_X6_shelfAt_s c22) k_in6 rfl (by decide) rfl (Nat.le_of_ble_eq_true rfl) dX6_set_22 ?_
      refine k_astore_6 (pc := 25) C dX6_set_25 rfl ?_
      refine k_aload (pc := 27) C dX6_set_27 rfl ?_
      refine k_ifnullR (pc := 29) C dX6_set_29 ?_
      refine k_aload (pc := 32) C dX6_set_32 rfl ?_
      refine k_iload_n (pc := 34) C dX6_set_34 rfl ?_
      refine k_call1 (pc := 35) C cv_X6_63 (ct_X5_hasElement c22) (k_in5 c22) rfl (by decide) rfl (Nat.le_of_ble_eq_true rfl) dX6_set_35 ?_
      refine k_if_ne (pc := 38) C 48 dX6_set_38 (by decide) (fun c38 => ?_) (fun c38 => ?_)
      · skip
        have qc38 := hasElement_in c38
        refine k_aload (pc := 48) C dX6_set_48 rfl ?_
        refine k_iload_n (pc := 50) C dX6_set_50 rfl ?_
        refine k_lload_n (pc := 51) C dX6_set_51 rfl ?_
        refine k_callv2 (pc := 52) C cv_X6_67 (ct_X5_put c22) (k_in5 c22) rfl (by decide) rfl (Nat.le_of_ble_eq_true rfl) dX6_set_52 ?_
        refine k_iconst (pc := 55) (v := 1) C dX6_set_55 (by decide) ?_
        exact k_iret (pc := 56) C rfl (k_fIml (by unfold f_X6_set; rw [if_pos c9, if_pos c22, if_neg c38]; try rfl)) dX6_set_56
      · skip
        refine k_aload_n (pc := 41) C dX6_set_41 rfl ?_
        refine k_iconst (pc := 42) (v := 0) C dX6_set_42 (by decide) ?_
        refine k_iconst (pc := 43) (v := 5) C dX6_set_43 (by decide) ?_
        refine k_call2 (pc := 44) C cv_X6_51 ct_X6_refuse k_in6 rfl (by decide) rfl (Nat.le_of_ble_eq_true rfl) dX6_set_44 ?_
        exact k_iret (pc := 47) C rfl (k_fIml (by unfold f_X6_set; rw [if_pos c9, if_pos c22, if_pos c38]; try rfl)) dX6_set_47
    · skip
      refine k_call1 (pc := 22) C cv_X6_47 (ct_X6_shelfAt_n c22) k_in6 rfl (by decide) rfl (Nat.le_of_ble_eq_true rfl) dX6_set_22 ?_
      refine k_astore_6 (pc := 25) C dX6_set_25 rfl ?_
      refine k_aload (pc := 27) C dX6_set_27 rfl ?_
      refine k_ifnullN (pc := 29) C 41 dX6_set_29 (by decide) ?_
      refine k_aload_n (pc := 41) C dX6_set_41 rfl ?_
      refine k_iconst (pc := 42) (v := 0) C dX6_set_42 (by decide) ?_
      refine k_iconst (pc := 43) (v := 5) C dX6_set_43 (by decide) ?_
      refine k_call2 (pc := 44) C cv_X6_51 ct_X6_refuse k_in6 rfl (by decide) rfl (Nat.le_of_ble_eq_true rfl) dX6_set_44 ?_
      exact k_iret (pc := 47) C rfl (k_fIml (by unfold f_X6_set; rw [if_pos c9, if_neg c22]; try rfl)) dX6_set_47
  · skip
    refine k_aload_n (pc := 12) C dX6_set_12 rfl ?_
    refine k_iconst (pc := 13) (v := 0) C dX6_set_13 (by decide) ?_
    refine k_iload (pc := 14) C dX6_set_14 rfl ?_
    refine k_call2 (pc := 16) C cv_X6_51 ct_X6_refuse k_in6 rfl (by decide) rfl (Nat.le_of_ble_eq_true rfl) dX6_set_16 ?_
    exact k_iret (pc := 19) C rfl (k_fIml (by unfold f_X6_set; rw [if_neg c9]; try rfl)) dX6_set_19
def f_X6_element (mi : MemI) (ml : MemL) (s0 : Int32) (x : Int32) : Int64 :=
  if f_X6_shelfAt s0 < 8 then (f_X5_get mi ml (f_X6_shelfAt s0) x)
  else 0
set_option maxRecDepth 100000 in
set_option maxHeartbeats 4000000 in
theorem ct_X6_element {mi : MemI} {ml : MemL} {s0 : Int32} {x : Int32}  : k_Ct k_KS k_R0 Mt_X6_element 2 [vR (6, 0, 0), vI s0, vI x] mi ml (k_rt (some (vL (f_X6_element mi ml s0 x))) mi ml) := by
  refine k_ofV (L0 := [vR (6, 0, 0), vI s0, vI x, vU]) (by decide +kernel) (Nat.le_of_ble_eq_true rfl) rfl rfl ?_
  intro p l e s m args below meth c D cy ad bs C
  refine k_aload_n (pc := 0) C dX6_element_0 rfl ?_
  refine k_iload_n (pc := 1) C dX6_element_1 rfl ?_
  by_cases c2 : f_X6_shelfAt s0 < 8
  · skip
    refine k_call1 (pc := 2) C cv_X6_47 (ct_X6_shelfAt_s c2) k_in6 rfl (by decide) rfl (Nat.le_of_ble_eq_true rfl) dX6_element_2 ?_
    refine k_astore_3 (pc := 5) C dX6_element_5 rfl ?_
    refine k_aload_n (pc := 6) C dX6_element_6 rfl ?_
    refine k_ifnonnullR (pc := 7) C 14 dX6_element_7 (by decide) ?_
    refine k_aload_n (pc := 14) C dX6_element_14 rfl ?_
    refine k_iload_n (pc := 15) C dX6_element_15 rfl ?_
    refine k_call1 (pc := 16) C cv_X6_90 (ct_X5_get c2) (k_in5 c2) rfl (by decide) rfl (Nat.le_of_ble_eq_true rfl) dX6_element_16 ?_
    exact k_lret (pc := 19) C rfl (k_fL (by unfold f_X6_element; rw [if_pos c2]; try rfl)) dX6_element_19
  · skip
    refine k_call1 (pc := 2) C cv_X6_47 (ct_X6_shelfAt_n c2) k_in6 rfl (by decide) rfl (Nat.le_of_ble_eq_true rfl) dX6_element_2 ?_
    refine k_astore_3 (pc := 5) C dX6_element_5 rfl ?_
    refine k_aload_n (pc := 6) C dX6_element_6 rfl ?_
    refine k_ifnonnullN (pc := 7) C dX6_element_7 ?_
    refine k_lconst (pc := 10) (v := 0) C dX6_element_10 (by decide) ?_
    refine k_goto (pc := 11) C 19 dX6_element_11 (by decide) ?_
    exact k_lret (pc := 19) C rfl (k_fL (by unfold f_X6_element; rw [if_neg c2]; try rfl)) dX6_element_19
def f_X6_show (mi : MemI) (s0 : Int32) (cz : Int32) : Int32 × MemI :=
  if f_X6_shelfAt s0 < 8 then if cz = (-1) then (0, f_X5_takeCitizen mi (f_X6_shelfAt s0) cz)
    else if f_X2_citizenAt mi 0 cz < 6 then (1, f_X5_takeCitizen mi (f_X6_shelfAt s0) cz)
      else ((f_X6_refuse mi 0 1).1, (f_X6_refuse mi 0 1).2)
  else ((f_X6_refuse mi 0 1).1, (f_X6_refuse mi 0 1).2)
set_option maxRecDepth 100000 in
set_option maxHeartbeats 4000000 in
theorem ct_X6_show {mi : MemI} {ml : MemL} {s0 : Int32} {cz : Int32}  : k_Ct k_KS k_R0 Mt_X6_show 1 [vR (6, 0, 0), vI s0, vI cz] mi ml (k_rt (some (vI (f_X6_show mi s0 cz).1)) (f_X6_show mi s0 cz).2 ml) := by
  refine k_ofV (L0 := [vR (6, 0, 0), vI s0, vI cz, vU]) (by decide +kernel) (Nat.le_of_ble_eq_true rfl) rfl rfl ?_
  intro p l e s m args below meth c D cy ad bs C
  refine k_aload_n (pc := 0) C dX6_show_0 rfl ?_
  refine k_iload_n (pc := 1) C dX6_show_1 rfl ?_
  by_cases c2 : f_X6_shelfAt s0 < 8
  · skip
    refine k_call1 (pc := 2) C cv_X6_47 (ct_X6_shelfAt_s c2) k_in6 rfl (by decide) rfl (Nat.le_of_ble_eq_true rfl) dX6_show_2 ?_
    refine k_astore_3 (pc := 5) C dX6_show_5 rfl ?_
    refine k_aload_n (pc := 6) C dX6_show_6 rfl ?_
    refine k_ifnullR (pc := 7) C dX6_show_7 ?_
    refine k_iload_n (pc := 10) C dX6_show_10 rfl ?_
    refine k_iconst (pc := 11) (v := (-1)) C dX6_show_11 (by decide) ?_
    refine k_icmp_eq (pc := 12) C 33 dX6_show_12 (by decide) (fun c12 => ?_) (fun c12 => ?_)
    · skip
      refine k_aload_n (pc := 33) C dX6_show_33 rfl ?_
      refine k_iload_n (pc := 34) C dX6_show_34 rfl ?_
      refine k_callv1 (pc := 35) C cv_X6_98 (ct_X5_takeCitizen c2) (k_in5 c2) rfl (by decide) rfl (Nat.le_of_ble_eq_true rfl) dX6_show_35 ?_
      refine k_iload_n (pc := 38) C dX6_show_38 rfl ?_
      refine k_iconst (pc := 39) (v := (-1)) C dX6_show_39 (by decide) ?_
      refine k_icmp_neF (pc := 40) C 47 dX6_show_40 (by decide) c12 ?_
      refine k_iconst (pc := 43) (v := 0) C dX6_show_43 (by decide) ?_
      refine k_goto (pc := 44) C 48 dX6_show_44 (by decide) ?_
      exact k_iret (pc := 48) C rfl (k_fIm (by unfold f_X6_show; rw [if_pos c2, if_pos c12]; try rfl)) dX6_show_48
    · skip
      refine k_aload_n (pc := 15) C dX6_show_15 rfl ?_
      refine k_getR (pc := 16) (r := some (2, 0, 0)) C fl_X6_10 k_in6 rfl rfl rfl dX6_show_16 ?_
      refine k_iload_n (pc := 19) C dX6_show_19 rfl ?_
      by_cases c20 : f_X2_citizenAt mi 0 cz < 6
      · skip
        refine k_call1 (pc := 20) C cv_X6_94 (ct_X2_citizenAt_s (by decide) c20) (k_in2 (by decide)) rfl (by decide) rfl (Nat.le_of_ble_eq_true rfl) dX6_show_20 ?_
        refine k_ifnonnullR (pc := 23) C 33 dX6_show_23 (by decide) ?_
        refine k_aload_n (pc := 33) C dX6_show_33 rfl ?_
        refine k_iload_n (pc := 34) C dX6_show_34 rfl ?_
        refine k_callv1 (pc := 35) C cv_X6_98 (ct_X5_takeCitizen c2) (k_in5 c2) rfl (by decide) rfl (Nat.le_of_ble_eq_true rfl) dX6_show_35 ?_
        refine k_iload_n (pc := 38) C dX6_show_38 rfl ?_
        refine k_iconst (pc := 39) (v := (-1)) C dX6_show_39 (by decide) ?_
        refine k_icmp_neT (pc := 40) C 47 dX6_show_40 (by decide) c12 ?_
        refine k_iconst (pc := 47) (v := 1) C dX6_show_47 (by decide) ?_
        exact k_iret (pc := 48) C rfl (k_fIm (by unfold f_X6_show; rw [if_pos c2, if_neg c12, if_pos c20]; try rfl)) dX6_show_48
      · skip
        refine k_call1 (pc := 20) C cv_X6_94 (ct_X2_citizenAt_n (by decide) c20) (k_in2 (by decide)) rfl (by decide) rfl (Nat.le_of_ble_eq_true rfl) dX6_show_20 ?_
        refine k_ifnonnullN (pc := 23) C dX6_show_23 ?_
        refine k_aload_n (pc := 26) C dX6_show_26 rfl ?_
        refine k_iconst (pc := 27) (v := 0) C dX6_show_27 (by decide) ?_
        refine k_iconst (pc := 28) (v := 1) C dX6_show_28 (by decide) ?_
        refine k_call2 (pc := 29) C cv_X6_51 ct_X6_refuse k_in6 rfl (by decide) rfl (Nat.le_of_ble_eq_true rfl) dX6_show_29 ?_
        exact k_iret (pc := 32) C rfl (k_fIm (by unfold f_X6_show; rw [if_pos c2, if_neg c12, if_neg c20]; try rfl)) dX6_show_32
  · skip
    refine k_call1 (pc := 2) C cv_X6_47 (ct_X6_shelfAt_n c2) k_in6 rfl (by decide) rfl (Nat.le_of_ble_eq_true rfl) dX6_show_2 ?_
    refine k_astore_3 (pc := 5) C dX6_show_5 rfl ?_
    refine k_aload_n (pc := 6) C dX6_show_6 rfl ?_
    refine k_ifnullN (pc := 7) C 26 dX6_show_7 (by decide) ?_
    refine k_aload_n (pc := 26) C dX6_show_26 rfl ?_
    refine k_iconst (pc := 27) (v := 0) C dX6_show_27 (by decide) ?_
    refine k_iconst (pc := 28) (v := 1) C dX6_show_28 (by decide) ?_
    refine k_call2 (pc := 29) C cv_X6_51 ct_X6_refuse k_in6 rfl (by decide) rfl (Nat.le_of_ble_eq_true rfl) dX6_show_29 ?_
    exact k_iret (pc := 32) C rfl (k_fIm (by unfold f_X6_show; rw [if_neg c2]; try rfl)) dX6_show_32
def f_X6_holds (mi : MemI) (s0 : Int32) : Int32 :=
  if f_X6_shelfAt s0 < 8 then if (f_X5_hasRow mi (f_X6_shelfAt s0)) = 0 then (mi (5, 0, (f_X6_shelfAt s0)) 3)
    else (100 + (mi (5, 0, (f_X6_shelfAt s0)) 1))
  else (-1)
set_option maxRecDepth 100000 in
set_option maxHeartbeats 4000000 in
theorem ct_X6_holds {mi : MemI} {ml : MemL} {s0 : Int32}  : k_Ct k_KS k_R0 Mt_X6_holds 1 [vR (6, 0, 0), vI s0] mi ml (k_rt (some (vI (f_X6_holds mi s0))) mi ml) := by
  refine k_ofV (L0 := [vR (6, 0, 0), vI s0, vU]) (by decide +kernel) (Nat.le_of_ble_eq_true rfl) rfl rfl ?_
  intro p l e s m args below meth c D cy ad bs C
  refine k_aload_n (pc := 0) C dX6_holds_0 rfl ?_
  refine k_iload_n (pc := 1) C dX6_holds_1 rfl ?_
  by_cases c2 : f_X6_shelfAt s0 < 8
  · skip
    refine k_call1 (pc := 2) C cv_X6_47 (ct_X6_shelfAt_s c2) k_in6 rfl (by decide) rfl (Nat.le_of_ble_eq_true rfl) dX6_holds_2 ?_
    refine k_astore_2 (pc := 5) C dX6_holds_5 rfl ?_
    refine k_aload_n (pc := 6) C dX6_holds_6 rfl ?_
    refine k_ifnonnullR (pc := 7) C 12 dX6_holds_7 (by decide) ?_
    refine k_aload_n (pc := 12) C dX6_holds_12 rfl ?_
    refine k_call0 (pc := 13) C cv_X6_79 (ct_X5_hasRow c2) (k_in5 c2) rfl (by decide) rfl (Nat.le_of_ble_eq_true rfl) dX6_holds_13 ?_
    refine k_if_eq (pc := 16) C 29 dX6_holds_16 (by decide) (fun c16 => ?_) (fun c16 => ?_)
    · skip
      refine k_aload_n (pc := 29) C dX6_holds_29 rfl ?_
      refine k_getI (pc := 30) C fl_X6_106 (k_in5 c2) rfl rfl dX6_holds_30 ?_
      exact k_iret (pc := 33) C rfl (k_fI (by unfold f_X6_holds; rw [if_pos c2, if_pos c16]; try rfl)) dX6_holds_33
    · skip
      refine k_bipush (pc := 19) (v := 100) C dX6_holds_19 (by decide) ?_
      refine k_aload_n (pc := 21) C dX6_holds_21 rfl ?_
      refine k_getI (pc := 22) C fl_X6_102 (k_in5 c2) rfl rfl dX6_holds_22 ?_
      refine k_iadd (pc := 25) C dX6_holds_25 ?_
      refine k_goto (pc := 26) C 33 dX6_holds_26 (by decide) ?_
      exact k_iret (pc := 33) C rfl (k_fI (by unfold f_X6_holds; rw [if_pos c2, if_neg c16]; try rfl)) dX6_holds_33
  · skip
    refine k_call1 (pc := 2) C cv_X6_47 (ct_X6_shelfAt_n c2) k_in6 rfl (by decide) rfl (Nat.le_of_ble_eq_true rfl) dX6_holds_2 ?_
    refine k_astore_2 (pc := 5) C dX6_holds_5 rfl ?_
    refine k_aload_n (pc := 6) C dX6_holds_6 rfl ?_
    refine k_ifnonnullN (pc := 7) C dX6_holds_7 ?_
    refine k_iconst (pc := 10) (v := (-1)) C dX6_holds_10 (by decide) ?_
    exact k_iret (pc := 11) C rfl (k_fI (by unfold f_X6_holds; rw [if_neg c2]; try rfl)) dX6_holds_11
def f_X6_says (mi : MemI) (s0 : Int32) (kd : Int32) : Int32 × MemI :=
  if f_X6_shelfAt s0 < 8 then if kd < 0 then ((f_X6_refuse mi 0 1).1, (f_X6_refuse mi 0 1).2)
    else if kd < 7 then if (f_X5_hasRow mi (f_X6_shelfAt s0)) = 0 then if f_X2_citizenAt mi 0 (mi (5, 0, (f_X6_shelfAt s0)) 3) < 6 then if (f_X6_isUnder (mi (1, 0, (f_X2_citizenAt mi 0 (mi (5, 0, (f_X6_shelfAt s0)) 3))) 3) kd) = 0 then ((f_X6_refuse mi 0 2).1, (f_X6_refuse mi 0 2).2)
            else (f_X1_saysAs mi 0 (f_X2_citizenAt mi 0 (mi (5, 0, (f_X6_shelfAt s0)) 3)) kd, mi)
          else ((f_X6_refuse mi 0 3).1, (f_X6_refuse mi 0 3).2)
        else ((f_X6_refuse mi 0 2).1, (f_X6_refuse mi 0 2).2)
      else ((f_X6_refuse mi 0 1).1, (f_X6_refuse mi 0 1).2)
  else ((f_X6_refuse mi 0 1).1, (f_X6_refuse mi 0 1).2)
set_option maxRecDepth 100000 in
set_option maxHeartbeats 4000000 in
theorem ct_X6_says {mi : MemI} {ml : MemL} {s0 : Int32} {kd : Int32}  : k_Ct k_KS k_R0 Mt_X6_says 3 [vR (6, 0, 0), vI s0, vI kd] mi ml (k_rt (some (vI (f_X6_says mi s0 kd).1)) (f_X6_says mi s0 kd).2 ml) := by
  refine k_ofV (L0 := [vR (6, 0, 0), vI s0, vI kd, vU, vU]) (by decide +kernel) (Nat.le_of_ble_eq_true rfl) rfl rfl ?_
  intro p l e s m args below meth c D cy ad bs C
  refine k_aload_n (pc := 0) C dX6_says_0 rfl ?_
  refine k_iload_n (pc := 1) C dX6_says_1 rfl ?_
  by_cases c2 : f_X6_shelfAt s0 < 8
  · skip
    refine k_call1 (pc := 2) C cv_X6_47 (ct_X6_shelfAt_s c2) k_in6 rfl (by decide) rfl (Nat.le_of_ble_eq_true rfl) dX6_says_2 ?_
    refine k_astore_3 (pc := 5) C dX6_says_5 rfl ?_
    refine k_aload_n (pc := 6) C dX6_says_6 rfl ?_
    refine k_ifnullR (pc := 7) C dX6_says_7 ?_
    refine k_iload_n (pc := 10) C dX6_says_10 rfl ?_
    refine k_if_lt (pc := 11) C 20 dX6_says_11 (by decide) (fun c11 => ?_) (fun c11 => ?_)
    · skip
      refine k_aload_n (pc := 20) C dX6_says_20 rfl ?_
      refine k_iconst (pc := 21) (v := 0) C dX6_says_21 (by decide) ?_
      refine k_iconst (pc := 22) (v := 1) C dX6_says_22 (by decide) ?_
      refine k_call2 (pc := 23) C cv_X6_51 ct_X6_refuse k_in6 rfl (by decide) rfl (Nat.le_of_ble_eq_true rfl) dX6_says_23 ?_
      exact k_iret (pc := 26) C rfl (k_fIm (by unfold f_X6_says; rw [if_pos c2, if_pos c11]; try rfl)) dX6_says_26
    · skip
      refine k_iload_n (pc := 14) C dX6_says_14 rfl ?_
      refine k_bipush (pc := 15) (v := 7) C dX6_says_15 (by decide) ?_
      refine k_icmp_lt (pc := 17) C 27 dX6_says_17 (by decide) (fun c17 => ?_) (fun c17 => ?_)
      · skip
        refine k_aload_n (pc := 27) C dX6_says_27 rfl ?_
        refine k_call0 (pc := 28) C cv_X6_79 (ct_X5_hasRow c2) (k_in5 c2) rfl (by decide) rfl (Nat.le_of_ble_eq_true rfl) dX6_says_28 ?_
        refine k_if_eq (pc := 31) C 41 dX6_says_31 (by decide) (fun c31 => ?_) (fun c31 => ?_)
        · skip
          refine k_aload_n (pc := 41) C dX6_says_41 rfl ?_
          refine k_getR (pc := 42) (r := some (2, 0, 0)) C fl_X6_10 k_in6 rfl rfl rfl dX6_says_42 ?_
          refine k_aload_n (pc := 45) C dX6_says_45 rfl ?_
          refine k_getI (pc := 46) C fl_X6_106 (k_in5 c2) rfl rfl dX6_says_46 ?_
          by_cases c49 : f_X2_citizenAt mi 0 (mi (5, 0, (f_X6_shelfAt s0)) 3) < 6
          · skip
            refine k_call1 (pc := 49) C cv_X6_94 (ct_X2_citizenAt_s (by decide) c49) (k_in2 (by decide)) rfl (by decide) rfl (Nat.le_of_ble_eq_true rfl) dX6_says_49 ?_
            refine k_astore_4 (pc := 52) C dX6_says_52 rfl ?_
            refine k_aload (pc := 54) C dX6_says_54 rfl ?_
            refine k_ifnonnullR (pc := 56) C 66 dX6_says_56 (by decide) ?_
            refine k_aload (pc := 66) C dX6_says_66 rfl ?_
            refine k_getI (pc := 68) C fl_X6_109 (k_in1 (by decide) c49) rfl rfl dX6_says_68 ?_
            refine k_iload_n (pc := 71) C dX6_says_71 rfl ?_
            refine k_calls2 (pc := 72) C cs_X6_114 ct_X6_isUnder (by decide) rfl (Nat.le_of_ble_eq_true rfl) dX6_says_72 ?_
            refine k_if_ne (pc := 75) C 85 dX6_says_75 (by decide) (fun c75 => ?_) (fun c75 => ?_)
            · skip
              refine k_aload (pc := 85) C dX6_says_85 rfl ?_
              refine k_iload_n (pc := 87) C dX6_says_87 rfl ?_
              refine k_call1 (pc := 88) C cv_X6_117 (ct_X1_saysAs (by decide) c49) (k_in1 (by decide) c49) rfl (by decide) rfl (Nat.le_of_ble_eq_true rfl) dX6_says_88 ?_
              exact k_iret (pc := 91) C rfl (k_fIm (by unfold f_X6_says; rw [if_pos c2, if_neg c11, if_pos c17, if_pos c31, if_pos c49, if_neg c75]; try rfl)) dX6_says_91
            · skip
              refine k_aload_n (pc := 78) C dX6_says_78 rfl ?_
              refine k_iconst (pc := 79) (v := 0) C dX6_says_79 (by decide) ?_
              refine k_iconst (pc := 80) (v := 2) C dX6_says_80 (by decide) ?_
              refine k_call2 (pc := 81) C cv_X6_51 ct_X6_refuse k_in6 rfl (by decide) rfl (Nat.le_of_ble_eq_true rfl) dX6_says_81 ?_
              exact k_iret (pc := 84) C rfl (k_fIm (by unfold f_X6_says; rw [if_pos c2, if_neg c11, if_pos c17, if_pos c31, if_pos c49, if_pos c75]; try rfl)) dX6_says_84
          · skip
            refine k_call1 (pc := 49) C cv_X6_94 (ct_X2_citizenAt_n (by decide) c49) (k_in2 (by decide)) rfl (by decide) rfl (Nat.le_of_ble_eq_true rfl) dX6_says_49 ?_
            refine k_astore_4 (pc := 52) C dX6_says_52 rfl ?_
            refine k_aload (pc := 54) C dX6_says_54 rfl ?_
            refine k_ifnonnullN (pc := 56) C dX6_says_56 ?_
            refine k_aload_n (pc := 59) C dX6_says_59 rfl ?_
            refine k_iconst (pc := 60) (v := 0) C dX6_says_60 (by decide) ?_
            refine k_iconst (pc := 61) (v := 3) C dX6_says_61 (by decide) ?_
            refine k_call2 (pc := 62) C cv_X6_51 ct_X6_refuse k_in6 rfl (by decide) rfl (Nat.le_of_ble_eq_true rfl) dX6_says_62 ?_
            exact k_iret (pc := 65) C rfl (k_fIm (by unfold f_X6_says; rw [if_pos c2, if_neg c11, if_pos c17, if_pos c31, if_neg c49]; try rfl)) dX6_says_65
        · skip
          refine k_aload_n (pc := 34) C dX6_says_34 rfl ?_
          refine k_iconst (pc := 35) (v := 0) C dX6_says_35 (by decide) ?_
          refine k_iconst (pc := 36) (v := 2) C dX6_says_36 (by decide) ?_
          refine k_call2 (pc := 37) C cv_X6_51 ct_X6_refuse k_in6 rfl (by decide) rfl (Nat.le_of_ble_eq_true rfl) dX6_says_37 ?_
          exact k_iret (pc := 40) C rfl (k_fIm (by unfold f_X6_says; rw [if_pos c2, if_neg c11, if_pos c17, if_neg c31]; try rfl)) dX6_says_40
      · skip
        refine k_aload_n (pc := 20) C dX6_says_20 rfl ?_
        refine k_iconst (pc := 21) (v := 0) C dX6_says_21 (by decide) ?_
        refine k_iconst (pc := 22) (v := 1) C dX6_says_22 (by decide) ?_
        refine k_call2 (pc := 23) C cv_X6_51 ct_X6_refuse k_in6 rfl (by decide) rfl (Nat.le_of_ble_eq_true rfl) dX6_says_23 ?_
        exact k_iret (pc := 26) C rfl (k_fIm (by unfold f_X6_says; rw [if_pos c2, if_neg c11, if_neg c17]; try rfl)) dX6_says_26
  · skip
    refine k_call1 (pc := 2) C cv_X6_47 (ct_X6_shelfAt_n c2) k_in6 rfl (by decide) rfl (Nat.le_of_ble_eq_true rfl) dX6_says_2 ?_
    refine k_astore_3 (pc := 5) C dX6_says_5 rfl ?_
    refine k_aload_n (pc := 6) C dX6_says_6 rfl ?_
    refine k_ifnullN (pc := 7) C 20 dX6_says_7 (by decide) ?_
    refine k_aload_n (pc := 20) C dX6_says_20 rfl ?_
    refine k_iconst (pc := 21) (v := 0) C dX6_says_21 (by decide) ?_
    refine k_iconst (pc := 22) (v := 1) C dX6_says_22 (by decide) ?_
    refine k_call2 (pc := 23) C cv_X6_51 ct_X6_refuse k_in6 rfl (by decide) rfl (Nat.le_of_ble_eq_true rfl) dX6_says_23 ?_
    exact k_iret (pc := 26) C rfl (k_fIm (by unfold f_X6_says; rw [if_neg c2]; try rfl)) dX6_says_26
def f_X6_citizen (mi : MemI) (kd : Int32) (a : Int32) (ms : Int32) (h : Int32) : Int32 × MemI :=
  if kd < 0 then ((f_X6_refuse mi 0 1).1, (f_X6_refuse mi 0 1).2)
  else if kd < 7 then if (f_X6_isOutside a 0 9) = 0 then if (f_X6_isOutside ms 0 99) = 0 then if (f_X6_isOutside h 0 20) = 0 then if ((f_X2_addCitizen mi 0 kd a ms h).1) = (-1) then ((f_X6_refuse ((f_X2_addCitizen mi 0 kd a ms h).2) 0 7).1, (f_X6_refuse ((f_X2_addCitizen mi 0 kd a ms h).2) 0 7).2)
            else ((f_X2_addCitizen mi 0 kd a ms h).1, (f_X2_addCitizen mi 0 kd a ms h).2)
          else ((f_X6_refuse mi 0 6).1, (f_X6_refuse mi 0 6).2)
        else ((f_X6_refuse mi 0 6).1, (f_X6_refuse mi 0 6).2)
      else ((f_X6_refuse mi 0 6).1, (f_X6_refuse mi 0 6).2)
    else ((f_X6_refuse mi 0 1).1, (f_X6_refuse mi 0 1).2)
set_option maxRecDepth 100000 in
set_option maxHeartbeats 4000000 in
theorem ct_X6_citizen {mi : MemI} {ml : MemL} {kd : Int32} {a : Int32} {ms : Int32} {h : Int32}  : k_Ct k_KS k_R0 Mt_X6_citizen 2 [vR (6, 0, 0), vI kd, vI a, vI ms, vI h] mi ml (k_rt (some (vI (f_X6_citizen mi kd a ms h).1)) (f_X6_citizen mi kd a ms h).2 ml) := by
  refine k_ofV (L0 := [vR (6, 0, 0), vI kd, vI a, vI ms, vI h, vU]) (by decide +kernel) (Nat.le_of_ble_eq_true rfl) rfl rfl ?_
  intro p l e s m args below meth c D cy ad bs C
  refine k_iload_n (pc := 0) C dX6_citizen_0 rfl ?_
  refine k_if_lt (pc := 1) C 10 dX6_citizen_1 (by decide) (fun c1 => ?_) (fun c1 => ?_)
  · skip
    refine k_aload_n (pc := 10) C dX6_citizen_10 rfl ?_
    refine k_iconst (pc := 11) (v := 0) C dX6_citizen_11 (by decide) ?_
    refine k_iconst (pc := 12) (v := 1) C dX6_citizen_12 (by decide) ?_
    refine k_call2 (pc := 13) C cv_X6_51 ct_X6_refuse k_in6 rfl (by decide) rfl (Nat.le_of_ble_eq_true rfl) dX6_citizen_13 ?_
    exact k_iret (pc := 16) C rfl (k_fIm (by unfold f_X6_citizen; rw [if_pos c1]; try rfl)) dX6_citizen_16
  · skip
    refine k_iload_n (pc := 4) C dX6_citizen_4 rfl ?_
    refine k_bipush (pc := 5) (v := 7) C dX6_citizen_5 (by decide) ?_
    refine k_icmp_lt (pc := 7) C 17 dX6_citizen_7 (by decide) (fun c7 => ?_) (fun c7 => ?_)
    · skip
      refine k_iload_n (pc := 17) C dX6_citizen_17 rfl ?_
      refine k_iconst (pc := 18) (v := 0) C dX6_citizen_18 (by decide) ?_
      refine k_bipush (pc := 19) (v := 9) C dX6_citizen_19 (by decide) ?_
      refine k_calls3 (pc := 21) C cs_X6_120 ct_X6_isOutside (by decide) rfl (Nat.le_of_ble_eq_true rfl) dX6_citizen_21 ?_
      refine k_if_ne (pc := 24) C 48 dX6_citizen_24 (by decide) (fun c24 => ?_) (fun c24 => ?_)
      · skip
        refine k_aload_n (pc := 48) C dX6_citizen_48 rfl ?_
        refine k_iconst (pc := 49) (v := 0) C dX6_citizen_49 (by decide) ?_
        refine k_bipush (pc := 50) (v := 6) C dX6_citizen_50 (by decide) ?_
        refine k_call2 (pc := 52) C cv_X6_51 ct_X6_refuse k_in6 rfl (by decide) rfl (Nat.le_of_ble_eq_true rfl) dX6_citizen_52 ?_
        exact k_iret (pc := 55) C rfl (k_fIm (by unfold f_X6_citizen; rw [if_neg c1, if_pos c7, if_neg c24]; try rfl)) dX6_citizen_55
      · skip
        refine k_iload_n (pc := 27) C dX6_citizen_27 rfl ?_
        refine k_iconst (pc := 28) (v := 0) C dX6_citizen_28 (by decide) ?_
        refine k_bipush (pc := 29) (v := 99) C dX6_citizen_29 (by decide) ?_
        refine k_calls3 (pc := 31) C cs_X6_120 ct_X6_isOutside (by decide) rfl (Nat.le_of_ble_eq_true rfl) dX6_citizen_31 ?_
        refine k_if_ne (pc := 34) C 48 dX6_citizen_34 (by decide) (fun c34 => ?_) (fun c34 => ?_)
        · skip
          refine k_aload_n (pc := 48) C dX6_citizen_48 rfl ?_
          refine k_iconst (pc := 49) (v := 0) C dX6_citizen_49 (by decide) ?_
          refine k_bipush (pc := 50) (v := 6) C dX6_citizen_50 (by decide) ?_
          refine k_call2 (pc := 52) C cv_X6_51 ct_X6_refuse k_in6 rfl (by decide) rfl (Nat.le_of_ble_eq_true rfl) dX6_citizen_52 ?_
          exact k_iret (pc := 55) C rfl (k_fIm (by unfold f_X6_citizen; rw [if_neg c1, if_pos c7, if_pos c24, if_neg c34]; try rfl)) dX6_citizen_55
        · skip
          refine k_iload (pc := 37) C dX6_citizen_37 rfl ?_
          refine k_iconst (pc := 39) (v := 0) C dX6_citizen_39 (by decide) ?_
          refine k_bipush (pc := 40) (v := 20) C dX6_citizen_40 (by decide) ?_
          refine k_calls3 (pc := 42) C cs_X6_120 ct_X6_isOutside (by decide) rfl (Nat.le_of_ble_eq_true rfl) dX6_citizen_42 ?_
          refine k_if_eq (pc := 45) C 56 dX6_citizen_45 (by decide) (fun c45 => ?_) (fun c45 => ?_)
          · skip
            refine k_aload_n (pc := 56) C dX6_citizen_56 rfl ?_
            refine k_getR (pc := 57) (r := some (2, 0, 0)) C fl_X6_10 k_in6 rfl rfl rfl dX6_citizen_57 ?_
            refine k_iload_n (pc := 60) C dX6_citizen_60 rfl ?_
            refine k_iload_n (pc := 61) C dX6_citizen_61 rfl ?_
            refine k_iload_n (pc := 62) C dX6_citizen_62 rfl ?_
            refine k_iload (pc := 63) C dX6_citizen_63 rfl ?_
            refine k_call4 (pc := 65) C cv_X6_124 (ct_X2_addCitizen (by decide)) (k_in2 (by decide)) rfl (by decide) rfl (Nat.le_of_ble_eq_true rfl) dX6_citizen_65 ?_
            refine k_istore_5 (pc := 68) C dX6_citizen_68 rfl ?_
            refine k_iload (pc := 70) C dX6_citizen_70 rfl ?_
            refine k_iconst (pc := 72) (v := (-1)) C dX6_citizen_72 (by decide) ?_
            refine k_icmp_ne (pc := 73) C 86 dX6_citizen_73 (by decide) (fun c73 => ?_) (fun c73 => ?_)
            · skip
              refine k_iload (pc := 86) C dX6_citizen_86 rfl ?_
              exact k_iret (pc := 88) C rfl (k_fIm (by unfold f_X6_citizen; rw [if_neg c1, if_pos c7, if_pos c24, if_pos c34, if_pos c45, if_neg c73]; try rfl)) dX6_citizen_88
            · skip
              refine k_aload_n (pc := 76) C dX6_citizen_76 rfl ?_
              refine k_iconst (pc := 77) (v := 0) C dX6_citizen_77 (by decide) ?_
              refine k_bipush (pc := 78) (v := 7) C dX6_citizen_78 (by decide) ?_
              refine k_call2 (pc := 80) C cv_X6_51 ct_X6_refuse k_in6 rfl (by decide) rfl (Nat.le_of_ble_eq_true rfl) dX6_citizen_80 ?_
              refine k_goto (pc := 83) C 88 dX6_citizen_83 (by decide) ?_
              exact k_iret (pc := 88) C rfl (k_fIm (by unfold f_X6_citizen; rw [if_neg c1, if_pos c7, if_pos c24, if_pos c34, if_pos c45, if_pos c73]; try rfl)) dX6_citizen_88
          · skip
            refine k_aload_n (pc := 48) C dX6_citizen_48 rfl ?_
            refine k_iconst (pc := 49) (v := 0) C dX6_citizen_49 (by decide) ?_
            refine k_bipush (pc := 50) (v := 6) C dX6_citizen_50 (by decide) ?_
            refine k_call2 (pc := 52) C cv_X6_51 ct_X6_refuse k_in6 rfl (by decide) rfl (Nat.le_of_ble_eq_true rfl) dX6_citizen_52 ?_
            exact k_iret (pc := 55) C rfl (k_fIm (by unfold f_X6_citizen; rw [if_neg c1, if_pos c7, if_pos c24, if_pos c34, if_neg c45]; try rfl)) dX6_citizen_55
    · skip
      refine k_aload_n (pc := 10) C dX6_citizen_10 rfl ?_
      refine k_iconst (pc := 11) (v := 0) C dX6_citizen_11 (by decide) ?_
      refine k_iconst (pc := 12) (v := 1) C dX6_citizen_12 (by decide) ?_
      refine k_call2 (pc := 13) C cv_X6_51 ct_X6_refuse k_in6 rfl (by decide) rfl (Nat.le_of_ble_eq_true rfl) dX6_citizen_13 ?_
      exact k_iret (pc := 16) C rfl (k_fIm (by unfold f_X6_citizen; rw [if_neg c1, if_neg c7]; try rfl)) dX6_citizen_16
def f_X6_beggar (mi : MemI) (n : Int32) (r : Int32) : Int32 × MemI :=
  if (f_X6_isOutside n 1 9) = 0 then if (f_X6_isOutside r 0 4) = 0 then if ((f_X2_addBeggar mi 0 n r).1) = (-1) then ((f_X6_refuse ((f_X2_addBeggar mi 0 n r).2) 0 7).1, (f_X6_refuse ((f_X2_addBeggar mi 0 n r).2) 0 7).2)
      else ((f_X2_addBeggar mi 0 n r).1, (f_X2_addBeggar mi 0 n r).2)
    else ((f_X6_refuse mi 0 6).1, (f_X6_refuse mi 0 6).2)
  else ((f_X6_refuse mi 0 6).1, (f_X6_refuse mi 0 6).2)
set_option maxRecDepth 100000 in
set_option maxHeartbeats 4000000 in
theorem ct_X6_beggar {mi : MemI} {ml : MemL} {n : Int32} {r : Int32}  : k_Ct k_KS k_R0 Mt_X6_beggar 2 [vR (6, 0, 0), vI n, vI r] mi ml (k_rt (some (vI (f_X6_beggar mi n r).1)) (f_X6_beggar mi n r).2 ml) := by
  refine k_ofV (L0 := [vR (6, 0, 0), vI n, vI r, vU]) (by decide +kernel) (Nat.le_of_ble_eq_true rfl) rfl rfl ?_
  intro p l e s m args below meth c D cy ad bs C
  refine k_iload_n (pc := 0) C dX6_beggar_0 rfl ?_
  refine k_iconst (pc := 1) (v := 1) C dX6_beggar_1 (by decide) ?_
  refine k_bipush (pc := 2) (v := 9) C dX6_beggar_2 (by decide) ?_
  refine k_calls3 (pc := 4) C cs_X6_120 ct_X6_isOutside (by decide) rfl (Nat.le_of_ble_eq_true rfl) dX6_beggar_4 ?_
  refine k_if_ne (pc := 7) C 19 dX6_beggar_7 (by decide) (fun c7 => ?_) (fun c7 => ?_)
  · skip
    refine k_aload_n (pc := 19) C dX6_beggar_19 rfl ?_
    refine k_iconst (pc := 20) (v := 0) C dX6_beggar_20 (by decide) ?_
    refine k_bipush (pc := 21) (v := 6) C dX6_beggar_21 (by decide) ?_
    refine k_call2 (pc := 23) C cv_X6_51 ct_X6_refuse k_in6 rfl (by decide) rfl (Nat.le_of_ble_eq_true rfl) dX6_beggar_23 ?_
    exact k_iret (pc := 26) C rfl (k_fIm (by unfold f_X6_beggar; rw [if_neg c7]; try rfl)) dX6_beggar_26
  · skip
    refine k_iload_n (pc := 10) C dX6_beggar_10 rfl ?_
    refine k_iconst (pc := 11) (v := 0) C dX6_beggar_11 (by decide) ?_
    refine k_iconst (pc := 12) (v := 4) C dX6_beggar_12 (by decide) ?_
    refine k_calls3 (pc := 13) C cs_X6_120 ct_X6_isOutside (by decide) rfl (Nat.le_of_ble_eq_true rfl) dX6_beggar_13 ?_
    refine k_if_eq (pc := 16) C 27 dX6_beggar_16 (by decide) (fun c16 => ?_) (fun c16 => ?_)
    · skip
      refine k_aload_n (pc := 27) C dX6_beggar_27 rfl ?_
      refine k_getR (pc := 28) (r := some (2, 0, 0)) C fl_X6_10 k_in6 rfl rfl rfl dX6_beggar_28 ?_
      refine k_iload_n (pc := 31) C dX6_beggar_31 rfl ?_
      refine k_iload_n (pc := 32) C dX6_beggar_32 rfl ?_
      refine k_call2 (pc := 33) C cv_X6_128 (ct_X2_addBeggar (by decide)) (k_in2 (by decide)) rfl (by decide) rfl (Nat.le_of_ble_eq_true rfl) dX6_beggar_33 ?_
      refine k_istore_3 (pc := 36) C dX6_beggar_36 rfl ?_
      refine k_iload_n (pc := 37) C dX6_beggar_37 rfl ?_
      refine k_iconst (pc := 38) (v := (-1)) C dX6_beggar_38 (by decide) ?_
      refine k_icmp_ne (pc := 39) C 52 dX6_beggar_39 (by decide) (fun c39 => ?_) (fun c39 => ?_)
      · skip
        refine k_iload_n (pc := 52) C dX6_beggar_52 rfl ?_
        exact k_iret (pc := 53) C rfl (k_fIm (by unfold f_X6_beggar; rw [if_pos c7, if_pos c16, if_neg c39]; try rfl)) dX6_beggar_53
      · skip
        refine k_aload_n (pc := 42) C dX6_beggar_42 rfl ?_
        refine k_iconst (pc := 43) (v := 0) C dX6_beggar_43 (by decide) ?_
        refine k_bipush (pc := 44) (v := 7) C dX6_beggar_44 (by decide) ?_
        refine k_call2 (pc := 46) C cv_X6_51 ct_X6_refuse k_in6 rfl (by decide) rfl (Nat.le_of_ble_eq_true rfl) dX6_beggar_46 ?_
        refine k_goto (pc := 49) C 53 dX6_beggar_49 (by decide) ?_
        exact k_iret (pc := 53) C rfl (k_fIm (by unfold f_X6_beggar; rw [if_pos c7, if_pos c16, if_pos c39]; try rfl)) dX6_beggar_53
    · skip
      refine k_aload_n (pc := 19) C dX6_beggar_19 rfl ?_
      refine k_iconst (pc := 20) (v := 0) C dX6_beggar_20 (by decide) ?_
      refine k_bipush (pc := 21) (v := 6) C dX6_beggar_21 (by decide) ?_
      refine k_call2 (pc := 23) C cv_X6_51 ct_X6_refuse k_in6 rfl (by decide) rfl (Nat.le_of_ble_eq_true rfl) dX6_beggar_23 ?_
      exact k_iret (pc := 26) C rfl (k_fIm (by unfold f_X6_beggar; rw [if_pos c7, if_neg c16]; try rfl)) dX6_beggar_26

def f_X6_post (mi : MemI) (bg : Int32) (is : Int32) : Int32 × MemI :=
  if f_X2_beggarAt mi 0 bg < 6 then if (mi (0, 0, (f_X2_beggarAt mi 0 bg)) 2) = 0 then (0, k_ui mi (0, 0, (f_X2_beggarAt mi 0 bg)) 2 is)
    else (1, k_ui mi (0, 0, (f_X2_beggarAt mi 0 bg)) 2 is)
  else ((f_X6_refuse mi 0 1).1, (f_X6_refuse mi 0 1).2)
set_option maxRecDepth 100000 in
set_option maxHeartbeats 4000000 in
theorem ct_X6_post {mi : MemI} {ml : MemL} {bg : Int32} {is : Int32} (his : is = 0 ∨ is = 1) : k_Ct k_KS k_R0 Mt_X6_post 1 [vR (6, 0, 0), vI bg, vI is] mi ml (k_rt (some (vI (f_X6_post mi bg is).1)) (f_X6_post mi bg is).2 ml) := by
  refine k_ofV (L0 := [vR (6, 0, 0), vI bg, vI is, vU, vU]) (by decide +kernel) (Nat.le_of_ble_eq_true rfl) rfl rfl ?_
  intro p l e s m args below meth c D cy ad bs C
  refine k_aload_n (pc := 0) C dX6_post_0 rfl ?_
  refine k_getR (pc := 1) (r := some (2, 0, 0)) C fl_X6_10 k_in6 rfl rfl rfl dX6_post_1 ?_
  refine k_iload_n (pc := 4) C dX6_post_4 rfl ?_
  by_cases c5 : f_X2_beggarAt mi 0 bg < 6
  · skip
    refine k_call1 (pc := 5) C cv_X6_137 (ct_X2_beggarAt_s (by decide) c5) (k_in2 (by decide)) rfl (by decide) rfl (Nat.le_of_ble_eq_true rfl) dX6_post_5 ?_
    refine k_astore_3 (pc := 8) C dX6_post_8 rfl ?_
    refine k_aload_n (pc := 9) C dX6_post_9 rfl ?_
    refine k_ifnonnullR (pc := 10) C 20 dX6_post_10 (by decide) ?_
    refine k_aload_n (pc := 20) C dX6_post_20 rfl ?_
    refine k_getI (pc := 21) C fl_X6_141 (k_in0 (by decide) c5) rfl rfl dX6_post_21 ?_
    refine k_if_eq (pc := 24) C 31 dX6_post_24 (by decide) (fun c24 => ?_) (fun c24 => ?_)
    · skip
      refine k_iconst (pc := 31) (v := 0) C dX6_post_31 (by decide) ?_
      refine k_istore_4 (pc := 32) C dX6_post_32 rfl ?_
      refine k_aload_n (pc := 34) C dX6_post_34 rfl ?_
      refine k_iload_n (pc := 35) C dX6_post_35 rfl ?_
      refine k_putZ (pc := 36) C his pl_X6_141 (k_in0 (by decide) c5) rfl rfl dX6_post_36 ?_
      refine k_iload (pc := 39) C dX6_post_39 rfl ?_
      exact k_iret (pc := 41) C rfl (k_fIm (by unfold f_X6_post; rw [if_pos c5, if_pos c24]; try rfl)) dX6_post_41
    · skip
      refine k_iconst (pc := 27) (v := 1) C dX6_post_27 (by decide) ?_
      refine k_goto (pc := 28) C 32 dX6_post_28 (by decide) ?_
      refine k_istore_4 (pc := 32) C dX6_post_32 rfl ?_
      refine k_aload_n (pc := 34) C dX6_post_34 rfl ?_
      refine k_iload_n (pc := 35) C dX6_post_35 rfl ?_
      refine k_putZ (pc := 36) C his pl_X6_141 (k_in0 (by decide) c5) rfl rfl dX6_post_36 ?_
      refine k_iload (pc := 39) C dX6_post_39 rfl ?_
      exact k_iret (pc := 41) C rfl (k_fIm (by unfold f_X6_post; rw [if_pos c5, if_neg c24]; try rfl)) dX6_post_41
  · skip
    refine k_call1 (pc := 5) C cv_X6_137 (ct_X2_beggarAt_n (by decide) c5) (k_in2 (by decide)) rfl (by decide) rfl (Nat.le_of_ble_eq_true rfl) dX6_post_5 ?_
    refine k_astore_3 (pc := 8) C dX6_post_8 rfl ?_
    refine k_aload_n (pc := 9) C dX6_post_9 rfl ?_
    refine k_ifnonnullN (pc := 10) C dX6_post_10 ?_
    refine k_aload_n (pc := 13) C dX6_post_13 rfl ?_
    refine k_iconst (pc := 14) (v := 0) C dX6_post_14 (by decide) ?_
    refine k_iconst (pc := 15) (v := 1) C dX6_post_15 (by decide) ?_
    refine k_call2 (pc := 16) C cv_X6_51 ct_X6_refuse k_in6 rfl (by decide) rfl (Nat.le_of_ble_eq_true rfl) dX6_post_16 ?_
    exact k_iret (pc := 19) C rfl (k_fIm (by unfold f_X6_post; rw [if_neg c5]; try rfl)) dX6_post_19
def f_X6_citizenOf (mi : MemI) (cz : Int32) (w : Int32) : Int32 × MemI :=
  if f_X2_citizenAt mi 0 cz < 6 then if w = 0 then (mi (1, 0, (f_X2_citizenAt mi 0 cz)) 3, mi)
    else if w = 1 then (mi (1, 0, (f_X2_citizenAt mi 0 cz)) 4, mi)
      else if w = 2 then (mi (1, 0, (f_X2_citizenAt mi 0 cz)) 5, mi)
        else if w = 3 then (mi (1, 0, (f_X2_citizenAt mi 0 cz)) 6, mi)
          else if w = 4 then (mi (1, 0, (f_X2_citizenAt mi 0 cz)) 7, mi)
            else if w = 5 then (mi (1, 0, (f_X2_citizenAt mi 0 cz)) 8, mi)
              else if w = 6 then if (mi (1, 0, (f_X2_citizenAt mi 0 cz)) 2) = 0 then (0, mi)
                  else (1, mi)
                else if w = 7 then (f_X1_faceNow mi 0 (f_X2_citizenAt mi 0 cz), mi)
                  else ((f_X6_refuse mi 0 5).1, (f_X6_refuse mi 0 5).2)
  else ((f_X6_refuse mi 0 5).1, (f_X6_refuse mi 0 5).2)
set_option maxRecDepth 100000 in
set_option maxHeartbeats 4000000 in
theorem ct_X6_citizenOf {mi : MemI} {ml : MemL} {cz : Int32} {w : Int32}  : k_Ct k_KS k_R0 Mt_X6_citizenOf 2 [vR (6, 0, 0), vI cz, vI w] mi ml (k_rt (some (vI (f_X6_citizenOf mi cz w).1)) (f_X6_citizenOf mi cz w).2 ml) := by
  refine k_ofV (L0 := [vR (6, 0, 0), vI cz, vI w, vU]) (by decide +kernel) (Nat.le_of_ble_eq_true rfl) rfl rfl ?_
  intro p l e s m args below meth c D cy ad bs C
  refine k_aload_n (pc := 0) C dX6_citizenOf_0 rfl ?_
  refine k_getR (pc := 1) (r := some (2, 0, 0)) C fl_X6_10 k_in6 rfl rfl rfl dX6_citizenOf_1 ?_
  refine k_iload_n (pc := 4) C dX6_citizenOf_4 rfl ?_
  by_cases c5 : f_X2_citizenAt mi 0 cz < 6
  · skip
    refine k_call1 (pc := 5) C cv_X6_94 (ct_X2_citizenAt_s (by decide) c5) (k_in2 (by decide)) rfl (by decide) rfl (Nat.le_of_ble_eq_true rfl) dX6_citizenOf_5 ?_
    refine k_astore_3 (pc := 8) C dX6_citizenOf_8 rfl ?_
    refine k_aload_n (pc := 9) C dX6_citizenOf_9 rfl ?_
    refine k_ifnonnullR (pc := 10) C 20 dX6_citizenOf_10 (by decide) ?_
    refine k_iload_n (pc := 20) C dX6_citizenOf_20 rfl ?_
    by_cases c21_0 : w = 0
    · skip
      refine k_tabIn (pc := 21) (v := 0) C 68 dX6_citizenOf_21 c21_0 (by decide) (by decide) rfl (by decide) ?_
      refine k_aload_n (pc := 68) C dX6_citizenOf_68 rfl ?_
      refine k_getI (pc := 69) C fl_X6_109 (k_in1 (by decide) c5) rfl rfl dX6_citizenOf_69 ?_
      exact k_iret (pc := 72) C rfl (k_fIm (by unfold f_X6_citizenOf; rw [if_pos c5, if_pos c21_0]; try rfl)) dX6_citizenOf_72
    by_cases c21_1 : w = 1
    · skip
      refine k_tabIn (pc := 21) (v := 1) C 73 dX6_citizenOf_21 c21_1 (by decide) (by decide) rfl (by decide) ?_
      refine k_aload_n (pc := 73) C dX6_citizenOf_73 rfl ?_
      refine k_getI (pc := 74) C fl_X6_147 (k_in1 (by decide) c5) rfl rfl dX6_citizenOf_74 ?_
      exact k_iret (pc := 77) C rfl (k_fIm (by unfold f_X6_citizenOf; rw [if_pos c5, if_neg c21_0, if_pos c21_1]; try rfl)) dX6_citizenOf_77
    by_cases c21_2 : w = 2
    · skip
      refine k_tabIn (pc := 21) (v := 2) C 78 dX6_citizenOf_21 c21_2 (by decide) (by decide) rfl (by decide) ?_
      refine k_aload_n (pc := 78) C dX6_citizenOf_78 rfl ?_
      refine k_getI (pc := 79) C fl_X6_150 (k_in1 (by decide) c5) rfl rfl dX6_citizenOf_79 ?_
      exact k_iret (pc := 82) C rfl (k_fIm (by unfold f_X6_citizenOf; rw [if_pos c5, if_neg c21_0, if_neg c21_1, if_pos c21_2]; try rfl)) dX6_citizenOf_82
    by_cases c21_3 : w = 3
    · skip
      refine k_tabIn (pc := 21) (v := 3) C 83 dX6_citizenOf_21 c21_3 (by decide) (by decide) rfl (by decide) ?_
      refine k_aload_n (pc := 83) C dX6_citizenOf_83 rfl ?_
      refine k_getI (pc := 84) C fl_X6_153 (k_in1 (by decide) c5) rfl rfl dX6_citizenOf_84 ?_
      exact k_iret (pc := 87) C rfl (k_fIm (by unfold f_X6_citizenOf; rw [if_pos c5, if_neg c21_0, if_neg c21_1, if_neg c21_2, if_pos c21_3]; try rfl)) dX6_citizenOf_87
    by_cases c21_4 : w = 4
    · skip
      refine k_tabIn (pc := 21) (v := 4) C 88 dX6_citizenOf_21 c21_4 (by decide) (by decide) rfl (by decide) ?_
      refine k_aload_n (pc := 88) C dX6_citizenOf_88 rfl ?_
      refine k_getI (pc := 89) C fl_X6_156 (k_in1 (by decide) c5) rfl rfl dX6_citizenOf_89 ?_
      exact k_iret (pc := 92) C rfl (k_fIm (by unfold f_X6_citizenOf; rw [if_pos c5, if_neg c21_0, if_neg c21_1, if_neg c21_2, if_neg c21_3, if_pos c21_4]; try rfl)) dX6_citizenOf_92
    by_cases c21_5 : w = 5
    · skip
      refine k_tabIn (pc := 21) (v := 5) C 93 dX6_citizenOf_21 c21_5 (by decide) (by decide) rfl (by decide) ?_
      refine k_aload_n (pc := 93) C dX6_citizenOf_93 rfl ?_
      refine k_getI (pc := 94) C fl_X6_159 (k_in1 (by decide) c5) rfl rfl dX6_citizenOf_94 ?_
      exact k_iret (pc := 97) C rfl (k_fIm (by unfold f_X6_citizenOf; rw [if_pos c5, if_neg c21_0, if_neg c21_1, if_neg c21_2, if_neg c21_3, if_neg c21_4, if_pos c21_5]; try rfl)) dX6_citizenOf_97
    by_cases c21_6 : w = 6
    · skip
      refine k_tabIn (pc := 21) (v := 6) C 98 dX6_citizenOf_21 c21_6 (by decide) (by decide) rfl (by decide) ?_
      refine k_aload_n (pc := 98) C dX6_citizenOf_98 rfl ?_
      refine k_getI (pc := 99) C fl_X6_162 (k_in1 (by decide) c5) rfl rfl dX6_citizenOf_99 ?_
      refine k_if_eq (pc := 102) C 109 dX6_citizenOf_102 (by decide) (fun c102 => ?_) (fun c102 => ?_)
      · skip
        refine k_iconst (pc := 109) (v := 0) C dX6_citizenOf_109 (by decide) ?_
        exact k_iret (pc := 110) C rfl (k_fIm (by unfold f_X6_citizenOf; rw [if_pos c5, if_neg c21_0, if_neg c21_1, if_neg c21_2, if_neg c21_3, if_neg c21_4, if_neg c21_5, if_pos c21_6, if_pos c102]; try rfl)) dX6_citizenOf_110
      · skip
        refine k_iconst (pc := 105) (v := 1) C dX6_citizenOf_105 (by decide) ?_
        refine k_goto (pc := 106) C 110 dX6_citizenOf_106 (by decide) ?_
        exact k_iret (pc := 110) C rfl (k_fIm (by unfold f_X6_citizenOf; rw [if_pos c5, if_neg c21_0, if_neg c21_1, if_neg c21_2, if_neg c21_3, if_neg c21_4, if_neg c21_5, if_pos c21_6, if_neg c102]; try rfl)) dX6_citizenOf_110
    by_cases c21_7 : w = 7
    · skip
      refine k_tabIn (pc := 21) (v := 7) C 111 dX6_citizenOf_21 c21_7 (by decide) (by decide) rfl (by decide) ?_
      refine k_aload_n (pc := 111) C dX6_citizenOf_111 rfl ?_
      refine k_call0 (pc := 112) C cv_X6_165 (ct_X1_faceNow (by decide) c5) (k_in1 (by decide) c5) rfl (by decide) rfl (Nat.le_of_ble_eq_true rfl) dX6_citizenOf_112 ?_
      exact k_iret (pc := 115) C rfl (k_fIm (by unfold f_X6_citizenOf; rw [if_pos c5, if_neg c21_0, if_neg c21_1, if_neg c21_2, if_neg c21_3, if_neg c21_4, if_neg c21_5, if_neg c21_6, if_pos c21_7]; try rfl)) dX6_citizenOf_115
    refine k_tabOut (pc := 21) C 116 dX6_citizenOf_21 (k_out 0 7 (fun v h1 h2 => by rcases (show v = 0 ∨ v = 1 ∨ v = 2 ∨ v = 3 ∨ v = 4 ∨ v = 5 ∨ v = 6 ∨ v = 7 by omega) with rfl | rfl | rfl | rfl | rfl | rfl | rfl | rfl <;> first | exact c21_0 | exact c21_1 | exact c21_2 | exact c21_3 | exact c21_4 | exact c21_5 | exact c21_6 | exact c21_7)) (by decide) ?_
    refine k_aload_n (pc := 116) C dX6_citizenOf_116 rfl ?_
    refine k_iconst (pc := 117) (v := 0) C dX6_citizenOf_117 (by decide) ?_
    refine k_iconst (pc := 118) (v := 5) C dX6_citizenOf_118 (by decide) ?_
    refine k_call2 (pc := 119) C cv_X6_51 ct_X6_refuse k_in6 rfl (by decide) rfl (Nat.le_of_ble_eq_true rfl) dX6_citizenOf_119 ?_
    exact k_iret (pc := 122) C rfl (k_fIm (by unfold f_X6_citizenOf; rw [if_pos c5, if_neg c21_0, if_neg c21_1, if_neg c21_2, if_neg c21_3, if_neg c21_4, if_neg c21_5, if_neg c21_6, if_neg c21_7]; try rfl)) dX6_citizenOf_122
  · skip
    refine k_call1 (pc := 5) C cv_X6_94 (ct_X2_citizenAt_n (by decide) c5) (k_in2 (by decide)) rfl (by decide) rfl (Nat.le_of_ble_eq_true rfl) dX6_citizenOf_5 ?_
    refine k_astore_3 (pc := 8) C dX6_citizenOf_8 rfl ?_
    refine k_aload_n (pc := 9) C dX6_citizenOf_9 rfl ?_
    refine k_ifnonnullN (pc := 10) C dX6_citizenOf_10 ?_
    refine k_aload_n (pc := 13) C dX6_citizenOf_13 rfl ?_
    refine k_iconst (pc := 14) (v := 0) C dX6_citizenOf_14 (by decide) ?_
    refine k_iconst (pc := 15) (v := 5) C dX6_citizenOf_15 (by decide) ?_
    refine k_call2 (pc := 16) C cv_X6_51 ct_X6_refuse k_in6 rfl (by decide) rfl (Nat.le_of_ble_eq_true rfl) dX6_citizenOf_16 ?_
    exact k_iret (pc := 19) C rfl (k_fIm (by unfold f_X6_citizenOf; rw [if_neg c5]; try rfl)) dX6_citizenOf_19
def f_X6_beggarOf (mi : MemI) (bg : Int32) (w : Int32) : Int32 × MemI :=
  if f_X2_beggarAt mi 0 bg < 6 then if w = 0 then (mi (0, 0, (f_X2_beggarAt mi 0 bg)) 3, mi)
    else if w = 1 then (mi (0, 0, (f_X2_beggarAt mi 0 bg)) 4, mi)
      else if w = 2 then (mi (0, 0, (f_X2_beggarAt mi 0 bg)) 5, mi)
        else if w = 3 then (mi (0, 0, (f_X2_beggarAt mi 0 bg)) 6, mi)
          else if w = 4 then if (mi (0, 0, (f_X2_beggarAt mi 0 bg)) 2) = 0 then (0, mi)
              else (1, mi)
            else ((f_X6_refuse mi 10 5).1, (f_X6_refuse mi 10 5).2)
  else ((f_X6_refuse mi 10 5).1, (f_X6_refuse mi 10 5).2)
set_option maxRecDepth 100000 in
set_option maxHeartbeats 4000000 in
theorem ct_X6_beggarOf {mi : MemI} {ml : MemL} {bg : Int32} {w : Int32}  : k_Ct k_KS k_R0 Mt_X6_beggarOf 1 [vR (6, 0, 0), vI bg, vI w] mi ml (k_rt (some (vI (f_X6_beggarOf mi bg w).1)) (f_X6_beggarOf mi bg w).2 ml) := by
  refine k_ofV (L0 := [vR (6, 0, 0), vI bg, vI w, vU]) (by decide +kernel) (Nat.le_of_ble_eq_true rfl) rfl rfl ?_
  intro p l e s m args below meth c D cy ad bs C
  refine k_aload_n (pc := 0) C dX6_beggarOf_0 rfl ?_
  refine k_getR (pc := 1) (r := some (2, 0, 0)) C fl_X6_10 k_in6 rfl rfl rfl dX6_beggarOf_1 ?_
  refine k_iload_n (pc := 4) C dX6_beggarOf_4 rfl ?_
  by_cases c5 : f_X2_beggarAt mi 0 bg < 6
  · skip
    refine k_call1 (pc := 5) C cv_X6_137 (ct_X2_beggarAt_s (by decide) c5) (k_in2 (by decide)) rfl (by decide) rfl (Nat.le_of_ble_eq_true rfl) dX6_beggarOf_5 ?_
    refine k_astore_3 (pc := 8) C dX6_beggarOf_8 rfl ?_
    refine k_aload_n (pc := 9) C dX6_beggarOf_9 rfl ?_
    refine k_ifnonnullR (pc := 10) C 21 dX6_beggarOf_10 (by decide) ?_
    refine k_iload_n (pc := 21) C dX6_beggarOf_21 rfl ?_
    by_cases c22_0 : w = 0
    · skip
      refine k_tabIn (pc := 22) (v := 0) C 56 dX6_beggarOf_22 c22_0 (by decide) (by decide) rfl (by decide) ?_
      refine k_aload_n (pc := 56) C dX6_beggarOf_56 rfl ?_
      refine k_getI (pc := 57) C fl_X6_169 (k_in0 (by decide) c5) rfl rfl dX6_beggarOf_57 ?_
      exact k_iret (pc := 60) C rfl (k_fIm (by unfold f_X6_beggarOf; rw [if_pos c5, if_pos c22_0]; try rfl)) dX6_beggarOf_60
    by_cases c22_1 : w = 1
    · skip
      refine k_tabIn (pc := 22) (v := 1) C 61 dX6_beggarOf_22 c22_1 (by decide) (by decide) rfl (by decide) ?_
      refine k_aload_n (pc := 61) C dX6_beggarOf_61 rfl ?_
      refine k_getI (pc := 62) C fl_X6_172 (k_in0 (by decide) c5) rfl rfl dX6_beggarOf_62 ?_
      exact k_iret (pc := 65) C rfl (k_fIm (by unfold f_X6_beggarOf; rw [if_pos c5, if_neg c22_0, if_pos c22_1]; try rfl)) dX6_beggarOf_65
    by_cases c22_2 : w = 2
    · skip
      refine k_tabIn (pc := 22) (v := 2) C 66 dX6_beggarOf_22 c22_2 (by decide) (by decide) rfl (by decide) ?_
      refine k_aload_n (pc := 66) C dX6_beggarOf_66 rfl ?_
      refine k_getI (pc := 67) C fl_X6_175 (k_in0 (by decide) c5) rfl rfl dX6_beggarOf_67 ?_
      exact k_iret (pc := 70) C rfl (k_fIm (by unfold f_X6_beggarOf; rw [if_pos c5, if_neg c22_0, if_neg c22_1, if_pos c22_2]; try rfl)) dX6_beggarOf_70
    by_cases c22_3 : w = 3
    · skip
      refine k_tabIn (pc := 22) (v := 3) C 71 dX6_beggarOf_22 c22_3 (by decide) (by decide) rfl (by decide) ?_
      refine k_aload_n (pc := 71) C dX6_beggarOf_71 rfl ?_
      refine k_getI (pc := 72) C fl_X6_178 (k_in0 (by decide) c5) rfl rfl dX6_beggarOf_72 ?_
      exact k_iret (pc := 75) C rfl (k_fIm (by unfold f_X6_beggarOf; rw [if_pos c5, if_neg c22_0, if_neg c22_1, if_neg c22_2, if_pos c22_3]; try rfl)) dX6_beggarOf_75
    by_cases c22_4 : w = 4
    · skip
      refine k_tabIn (pc := 22) (v := 4) C 76 dX6_beggarOf_22 c22_4 (by decide) (by decide) rfl (by decide) ?_
      refine k_aload_n (pc := 76) C dX6_beggarOf_76 rfl ?_
      refine k_getI (pc := 77) C fl_X6_141 (k_in0 (by decide) c5) rfl rfl dX6_beggarOf_77 ?_
      refine k_if_eq (pc := 80) C 87 dX6_beggarOf_80 (by decide) (fun c80 => ?_) (fun c80 => ?_)
      · skip
        refine k_iconst (pc := 87) (v := 0) C dX6_beggarOf_87 (by decide) ?_
        exact k_iret (pc := 88) C rfl (k_fIm (by unfold f_X6_beggarOf; rw [if_pos c5, if_neg c22_0, if_neg c22_1, if_neg c22_2, if_neg c22_3, if_pos c22_4, if_pos c80]; try rfl)) dX6_beggarOf_88
      · skip
        refine k_iconst (pc := 83) (v := 1) C dX6_beggarOf_83 (by decide) ?_
        refine k_goto (pc := 84) C 88 dX6_beggarOf_84 (by decide) ?_
        exact k_iret (pc := 88) C rfl (k_fIm (by unfold f_X6_beggarOf; rw [if_pos c5, if_neg c22_0, if_neg c22_1, if_neg c22_2, if_neg c22_3, if_pos c22_4, if_neg c80]; try rfl)) dX6_beggarOf_88
    refine k_tabOut (pc := 22) C 89 dX6_beggarOf_22 (k_out 0 4 (fun v h1 h2 => by rcases (show v = 0 ∨ v = 1 ∨ v = 2 ∨ v = 3 ∨ v = 4 by omega) with rfl | rfl | rfl | rfl | rfl <;> first | exact c22_0 | exact c22_1 | exact c22_2 | exact c22_3 | exact c22_4)) (by decide) ?_
    refine k_aload_n (pc := 89) C dX6_beggarOf_89 rfl ?_
    refine k_bipush (pc := 90) (v := 10) C dX6_beggarOf_90 (by decide) ?_
    refine k_iconst (pc := 92) (v := 5) C dX6_beggarOf_92 (by decide) ?_
    refine k_call2 (pc := 93) C cv_X6_51 ct_X6_refuse k_in6 rfl (by decide) rfl (Nat.le_of_ble_eq_true rfl) dX6_beggarOf_93 ?_
    exact k_iret (pc := 96) C rfl (k_fIm (by unfold f_X6_beggarOf; rw [if_pos c5, if_neg c22_0, if_neg c22_1, if_neg c22_2, if_neg c22_3, if_neg c22_4]; try rfl)) dX6_beggarOf_96
  · skip
    refine k_call1 (pc := 5) C cv_X6_137 (ct_X2_beggarAt_n (by decide) c5) (k_in2 (by decide)) rfl (by decide) rfl (Nat.le_of_ble_eq_true rfl) dX6_beggarOf_5 ?_
    refine k_astore_3 (pc := 8) C dX6_beggarOf_8 rfl ?_
    refine k_aload_n (pc := 9) C dX6_beggarOf_9 rfl ?_
    refine k_ifnonnullN (pc := 10) C dX6_beggarOf_10 ?_
    refine k_aload_n (pc := 13) C dX6_beggarOf_13 rfl ?_
    refine k_bipush (pc := 14) (v := 10) C dX6_beggarOf_14 (by decide) ?_
    refine k_iconst (pc := 16) (v := 5) C dX6_beggarOf_16 (by decide) ?_
    refine k_call2 (pc := 17) C cv_X6_51 ct_X6_refuse k_in6 rfl (by decide) rfl (Nat.le_of_ble_eq_true rfl) dX6_beggarOf_17 ?_
    exact k_iret (pc := 20) C rfl (k_fIm (by unfold f_X6_beggarOf; rw [if_neg c5]; try rfl)) dX6_beggarOf_20
def f_X6_fault (mi : MemI) : Int32 :=
  (mi (4, 0, 0) 3)
set_option maxRecDepth 100000 in
set_option maxHeartbeats 4000000 in
theorem ct_X6_fault {mi : MemI} {ml : MemL}   : k_Ct k_KS k_R0 Mt_X6_fault 0 [vR (6, 0, 0)] mi ml (k_rt (some (vI (f_X6_fault mi))) mi ml) := by
  refine k_ofV (L0 := [vR (6, 0, 0)]) (by decide +kernel) (Nat.le_of_ble_eq_true rfl) rfl rfl ?_
  intro p l e s m args below meth c D cy ad bs C
  refine k_aload_n (pc := 0) C dX6_fault_0 rfl ?_
  refine k_getR (pc := 1) (r := some (4, 0, 0)) C fl_X6_35 k_in6 rfl rfl rfl dX6_fault_1 ?_
  refine k_getI (pc := 4) C fl_X6_189 k_in4 rfl rfl dX6_fault_4 ?_
  exact k_iret (pc := 7) C rfl (k_fI rfl) dX6_fault_7
def f_X6_picks (mi : MemI) (bg : Int32) : Int32 × MemI :=
  if f_X2_beggarAt mi 0 bg < 6 then ((f_X2_goBy mi 0) (0, 0, (f_X2_beggarAt mi 0 bg)) 7, f_X2_goBy mi 0)
  else ((f_X6_refuse mi 10 1).1, (f_X6_refuse mi 10 1).2)
set_option maxRecDepth 100000 in
set_option maxHeartbeats 4000000 in
theorem ct_X6_picks {mi : MemI} {ml : MemL} {bg : Int32}  : k_Ct k_KS k_R0 Mt_X6_picks 4 [vR (6, 0, 0), vI bg] mi ml (k_rt (some (vI (f_X6_picks mi bg).1)) (f_X6_picks mi bg).2 ml) := by
  refine k_ofV (L0 := [vR (6, 0, 0), vI bg, vU]) (by decide +kernel) (Nat.le_of_ble_eq_true rfl) rfl rfl ?_
  intro p l e s m args below meth c D cy ad bs C
  refine k_aload_n (pc := 0) C dX6_picks_0 rfl ?_
  refine k_getR (pc := 1) (r := some (2, 0, 0)) C fl_X6_10 k_in6 rfl rfl rfl dX6_picks_1 ?_
  refine k_iload_n (pc := 4) C dX6_picks_4 rfl ?_
  by_cases c5 : f_X2_beggarAt mi 0 bg < 6
  · skip
    refine k_call1 (pc := 5) C cv_X6_137 (ct_X2_beggarAt_s (by decide) c5) (k_in2 (by decide)) rfl (by decide) rfl (Nat.le_of_ble_eq_true rfl) dX6_picks_5 ?_
    refine k_astore_2 (pc := 8) C dX6_picks_8 rfl ?_
    refine k_aload_n (pc := 9) C dX6_picks_9 rfl ?_
    refine k_ifnonnullR (pc := 10) C 21 dX6_picks_10 (by decide) ?_
    refine k_aload_n (pc := 21) C dX6_picks_21 rfl ?_
    refine k_getR (pc := 22) (r := some (2, 0, 0)) C fl_X6_10 k_in6 rfl rfl rfl dX6_picks_22 ?_
    refine k_callv0 (pc := 25) C cv_X6_192 (ct_X2_goBy (by decide)) (k_in2 (by decide)) rfl (by decide) rfl (Nat.le_of_ble_eq_true rfl) dX6_picks_25 ?_
    refine k_aload_n (pc := 28) C dX6_picks_28 rfl ?_
    refine k_getI (pc := 29) C fl_X6_195 (k_in0 (by decide) c5) rfl rfl dX6_picks_29 ?_
    exact k_iret (pc := 32) C rfl (k_fIm (by unfold f_X6_picks; rw [if_pos c5]; try rfl)) dX6_picks_32
  · skip
    refine k_call1 (pc := 5) C cv_X6_137 (ct_X2_beggarAt_n (by decide) c5) (k_in2 (by decide)) rfl (by decide) rfl (Nat.le_of_ble_eq_true rfl) dX6_picks_5 ?_
    refine k_astore_2 (pc := 8) C dX6_picks_8 rfl ?_
    refine k_aload_n (pc := 9) C dX6_picks_9 rfl ?_
    refine k_ifnonnullN (pc := 10) C dX6_picks_10 ?_
    refine k_aload_n (pc := 13) C dX6_picks_13 rfl ?_
    refine k_bipush (pc := 14) (v := 10) C dX6_picks_14 (by decide) ?_
    refine k_iconst (pc := 16) (v := 1) C dX6_picks_16 (by decide) ?_
    refine k_call2 (pc := 17) C cv_X6_51 ct_X6_refuse k_in6 rfl (by decide) rfl (Nat.le_of_ble_eq_true rfl) dX6_picks_17 ?_
    exact k_iret (pc := 20) C rfl (k_fIm (by unfold f_X6_picks; rw [if_neg c5]; try rfl)) dX6_picks_20
def f_X6_kept (mi : MemI) : Int32 × MemI :=
  (f_X2_keptBits (f_X2_goBy mi 0) 0 6, f_X2_goBy mi 0)
set_option maxRecDepth 100000 in
set_option maxHeartbeats 4000000 in
theorem ct_X6_kept {mi : MemI} {ml : MemL}   : k_Ct k_KS k_R0 Mt_X6_kept 4 [vR (6, 0, 0)] mi ml (k_rt (some (vI (f_X6_kept mi).1)) (f_X6_kept mi).2 ml) := by
  refine k_ofV (L0 := [vR (6, 0, 0)]) (by decide +kernel) (Nat.le_of_ble_eq_true rfl) rfl rfl ?_
  intro p l e s m args below meth c D cy ad bs C
  refine k_aload_n (pc := 0) C dX6_kept_0 rfl ?_
  refine k_getR (pc := 1) (r := some (2, 0, 0)) C fl_X6_10 k_in6 rfl rfl rfl dX6_kept_1 ?_
  refine k_callv0 (pc := 4) C cv_X6_192 (ct_X2_goBy (by decide)) (k_in2 (by decide)) rfl (by decide) rfl (Nat.le_of_ble_eq_true rfl) dX6_kept_4 ?_
  refine k_aload_n (pc := 7) C dX6_kept_7 rfl ?_
  refine k_getR (pc := 8) (r := some (2, 0, 0)) C fl_X6_10 k_in6 rfl rfl rfl dX6_kept_8 ?_
  refine k_call0 (pc := 11) C cv_X6_198 (ct_X2_keptBits (by decide)) (k_in2 (by decide)) rfl (by decide) rfl (Nat.le_of_ble_eq_true rfl) dX6_kept_11 ?_
  exact k_iret (pc := 14) C rfl (k_fIm rfl) dX6_kept_14
def f_X6_picked (mi : MemI) (cz : Int32) (w : Int32) : Int32 × MemI :=
  if f_X2_citizenAt mi 0 cz < 6 then if (f_X6_isOutside w 0 1) = 0 then if w = 0 then ((f_X2_goBy mi 0) (1, 0, (f_X2_citizenAt mi 0 cz)) 10, f_X2_goBy mi 0)
      else ((f_X2_goBy mi 0) (1, 0, (f_X2_citizenAt mi 0 cz)) 13, f_X2_goBy mi 0)
    else ((f_X6_refuse mi 0 5).1, (f_X6_refuse mi 0 5).2)
  else ((f_X6_refuse mi 0 1).1, (f_X6_refuse mi 0 1).2)
set_option maxRecDepth 100000 in
set_option maxHeartbeats 4000000 in
theorem ct_X6_picked {mi : MemI} {ml : MemL} {cz : Int32} {w : Int32}  : k_Ct k_KS k_R0 Mt_X6_picked 4 [vR (6, 0, 0), vI cz, vI w] mi ml (k_rt (some (vI (f_X6_picked mi cz w).1)) (f_X6_picked mi cz w).2 ml) := by
  refine k_ofV (L0 := [vR (6, 0, 0), vI cz, vI w, vU]) (by decide +kernel) (Nat.le_of_ble_eq_true rfl) rfl rfl ?_
  intro p l e s m args below meth c D cy ad bs C
  refine k_aload_n (pc := 0) C dX6_picked_0 rfl ?_
  refine k_getR (pc := 1) (r := some (2, 0, 0)) C fl_X6_10 k_in6 rfl rfl rfl dX6_picked_1 ?_
  refine k_iload_n (pc := 4) C dX6_picked_4 rfl ?_
  by_cases c5 : f_X2_citizenAt mi 0 cz < 6
  · skip
    refine k_call1 (pc := 5) C cv_X6_94 (ct_X2_citizenAt_s (by decide) c5) (k_in2 (by decide)) rfl (by decide) rfl (Nat.le_of_ble_eq_true rfl) dX6_picked_5 ?_
    refine k_astore_3 (pc := 8) C dX6_picked_8 rfl ?_
    refine k_aload_n (pc := 9) C dX6_picked_9 rfl ?_
    refine k_ifnonnullR (pc := 10) C 20 dX6_picked_10 (by decide) ?_
    refine k_iload_n (pc := 20) C dX6_picked_20 rfl ?_
    refine k_iconst (pc := 21) (v := 0) C dX6_picked_21 (by decide) ?_
    refine k_iconst (pc := 22) (v := 1) C dX6_picked_22 (by decide) ?_
    refine k_calls3 (pc := 23) C cs_X6_120 ct_X6_isOutside (by decide) rfl (Nat.le_of_ble_eq_true rfl) dX6_picked_23 ?_
    refine k_if_eq (pc := 26) C 36 dX6_picked_26 (by decide) (fun c26 => ?_) (fun c26 => ?_)
    · skip
      refine k_aload_n (pc := 36) C dX6_picked_36 rfl ?_
      refine k_getR (pc := 37) (r := some (2, 0, 0)) C fl_X6_10 k_in6 rfl rfl rfl dX6_picked_37 ?_
      refine k_callv0 (pc := 40) C cv_X6_192 (ct_X2_goBy (by decide)) (k_in2 (by decide)) rfl (by decide) rfl (Nat.le_of_ble_eq_true rfl) dX6_picked_40 ?_
      refine k_iload_n (pc := 43) C dX6_picked_43 rfl ?_
      refine k_if_ne (pc := 44) C 54 dX6_picked_44 (by decide) (fun c44 => ?_) (fun c44 => ?_)
      · skip
        refine k_aload_n (pc := 54) C dX6_picked_54 rfl ?_
        refine k_getI (pc := 55) C fl_X6_204 (k_in1 (by decide) c5) rfl rfl dX6_picked_55 ?_
        exact k_iret (pc := 58) C rfl (k_fIm (by unfold f_X6_picked; rw [if_pos c5, if_pos c26, if_neg c44]; try rfl)) dX6_picked_58
      · skip
        refine k_aload_n (pc := 47) C dX6_picked_47 rfl ?_
        refine k_getI (pc := 48) C fl_X6_201 (k_in1 (by decide) c5) rfl rfl dX6_picked_48 ?_
        refine k_goto (pc := 51) C 58 dX6_picked_51 (by decide) ?_
        exact k_iret (pc := 58) C rfl (k_fIm (by unfold f_X6_picked; rw [if_pos c5, if_pos c26, if_pos c44]; try rfl)) dX6_picked_58
    · skip
      refine k_aload_n (pc := 29) C dX6_picked_29 rfl ?_
      refine k_iconst (pc := 30) (v := 0) C dX6_picked_30 (by decide) ?_
      refine k_iconst (pc := 31) (v := 5) C dX6_picked_31 (by decide) ?_
      refine k_call2 (pc := 32) C cv_X6_51 ct_X6_refuse k_in6 rfl (by decide) rfl (Nat.le_of_ble_eq_true rfl) dX6_picked_32 ?_
      exact k_iret (pc := 35) C rfl (k_fIm (by unfold f_X6_picked; rw [if_pos c5, if_neg c26]; try rfl)) dX6_picked_35
  · skip
    refine k_call1 (pc := 5) C cv_X6_94 (ct_X2_citizenAt_n (by decide) c5) (k_in2 (by decide)) rfl (by decide) rfl (Nat.le_of_ble_eq_true rfl) dX6_picked_5 ?_
    refine k_astore_3 (pc := 8) C dX6_picked_8 rfl ?_
    refine k_aload_n (pc := 9) C dX6_picked_9 rfl ?_
    refine k_ifnonnullN (pc := 10) C dX6_picked_10 ?_
    refine k_aload_n (pc := 13) C dX6_picked_13 rfl ?_
    refine k_iconst (pc := 14) (v := 0) C dX6_picked_14 (by decide) ?_
    refine k_iconst (pc := 15) (v := 1) C dX6_picked_15 (by decide) ?_
    refine k_call2 (pc := 16) C cv_X6_51 ct_X6_refuse k_in6 rfl (by decide) rfl (Nat.le_of_ble_eq_true rfl) dX6_picked_16 ?_
    exact k_iret (pc := 19) C rfl (k_fIm (by unfold f_X6_picked; rw [if_neg c5]; try rfl)) dX6_picked_19
def f_X6_parting (mi : MemI) (x : Int32) : Int32 × MemI :=
  if x = (-1) then ((f_X2_partAll mi 0).1, (f_X2_partAll mi 0).2)
  else if x < 0 then ((f_X6_refuse mi 10 5).1, (f_X6_refuse mi 10 5).2)
    else if x < (nI <| f_X2_countComing mi 0 6) then if ((f_X2_partAll mi 0).1) = (-1) then ((f_X2_partAll mi 0).1, (f_X2_partAll mi 0).2)
        else if f_X2_comingAt ((f_X2_partAll mi 0).2) 0 x < 6 then (((f_X2_partAll mi 0).2) (0, 0, (f_X2_comingAt ((f_X2_partAll mi 0).2) 0 x)) 10, (f_X2_partAll mi 0).2)
          else ((-1), (f_X2_partAll mi 0).2)
      else ((f_X6_refuse mi 10 5).1, (f_X6_refuse mi 10 5).2)
set_option maxRecDepth 100000 in
set_option maxHeartbeats 4000000 in
theorem ct_X6_parting {mi : MemI} {ml : MemL} {x : Int32} (hm : k_num 0 mi) : k_Ct k_KS k_R0 Mt_X6_parting 17 [vR (6, 0, 0), vI x] mi ml (k_rt (some (vI (f_X6_parting mi x).1)) (f_X6_parting mi x).2 ml) := by
  refine k_ofV (L0 := [vR (6, 0, 0), vI x, vU, vU]) (by decide +kernel) (Nat.le_of_ble_eq_true rfl) rfl rfl ?_
  intro p l e s m args below meth c D cy ad bs C
  refine k_iload_n (pc := 0) C dX6_parting_0 rfl ?_
  refine k_iconst (pc := 1) (v := (-1)) C dX6_parting_1 (by decide) ?_
  refine k_icmp_eq (pc := 2) C 28 dX6_parting_2 (by decide) (fun c2 => ?_) (fun c2 => ?_)
  · skip
    refine k_aload_n (pc := 28) C dX6_parting_28 rfl ?_
    refine k_getR (pc := 29) (r := some (2, 0, 0)) C fl_X6_10 k_in6 rfl rfl rfl dX6_parting_29 ?_
    refine k_call0 (pc := 32) C cv_X6_216 (ct_X2_partAll (by decide) (by assumption)) (k_in2 (by decide)) rfl (by decide) rfl (Nat.le_of_ble_eq_true rfl) dX6_parting_32 ?_
    refine k_istore_2 (pc := 35) C dX6_parting_35 rfl ?_
    refine k_iload_n (pc := 36) C dX6_parting_36 rfl ?_
    refine k_iconst (pc := 37) (v := (-1)) C dX6_parting_37 (by decide) ?_
    refine k_icmp_eqT (pc := 38) C 46 dX6_parting_38 (by decide) c2 ?_
    refine k_iload_n (pc := 46) C dX6_parting_46 rfl ?_
    exact k_iret (pc := 47) C rfl (k_fIm (by unfold f_X6_parting; rw [if_pos c2]; try rfl)) dX6_parting_47
  · skip
    refine k_iload_n (pc := 5) C dX6_parting_5 rfl ?_
    refine k_if_lt (pc := 6) C 20 dX6_parting_6 (by decide) (fun c6 => ?_) (fun c6 => ?_)
    · skip
      refine k_aload_n (pc := 20) C dX6_parting_20 rfl ?_
      refine k_bipush (pc := 21) (v := 10) C dX6_parting_21 (by decide) ?_
      refine k_iconst (pc := 23) (v := 5) C dX6_parting_23 (by decide) ?_
      refine k_call2 (pc := 24) C cv_X6_51 ct_X6_refuse k_in6 rfl (by decide) rfl (Nat.le_of_ble_eq_true rfl) dX6_parting_24 ?_
      exact k_iret (pc := 27) C rfl (k_fIm (by unfold f_X6_parting; rw [if_neg c2, if_pos c6]; try rfl)) dX6_parting_27
    · skip
      refine k_iload_n (pc := 9) C dX6_parting_9 rfl ?_
      refine k_aload_n (pc := 10) C dX6_parting_10 rfl ?_
      refine k_getR (pc := 11) (r := some (2, 0, 0)) C fl_X6_10 k_in6 rfl rfl rfl dX6_parting_11 ?_
      refine k_call0 (pc := 14) C cv_X6_213 (ct_X2_countComing (by decide)) (k_in2 (by decide)) rfl (by decide) rfl (Nat.le_of_ble_eq_true rfl) dX6_parting_14 ?_
      refine k_icmp_lt (pc := 17) C 28 dX6_parting_17 (by decide) (fun c17 => ?_) (fun c17 => ?_)
      · skip
        refine k_aload_n (pc := 28) C dX6_parting_28 rfl ?_
        refine k_getR (pc := 29) (r := some (2, 0, 0)) C fl_X6_10 k_in6 rfl rfl rfl dX6_parting_29 ?_
        refine k_call0 (pc := 32) C cv_X6_216 (ct_X2_partAll (by decide) (by assumption)) (k_in2 (by decide)) rfl (by decide) rfl (Nat.le_of_ble_eq_true rfl) dX6_parting_32 ?_
        refine k_istore_2 (pc := 35) C dX6_parting_35 rfl ?_
        refine k_iload_n (pc := 36) C dX6_parting_36 rfl ?_
        refine k_iconst (pc := 37) (v := (-1)) C dX6_parting_37 (by decide) ?_
        refine k_icmp_eqF (pc := 38) C 46 dX6_parting_38 (by decide) c2 ?_
        refine k_iload_n (pc := 41) C dX6_parting_41 rfl ?_
        refine k_iconst (pc := 42) (v := (-1)) C dX6_parting_42 (by decide) ?_
        refine k_icmp_ne (pc := 43) C 48 dX6_parting_43 (by decide) (fun c43 => ?_) (fun c43 => ?_)
        · skip
          refine k_aload_n (pc := 48) C dX6_parting_48 rfl ?_
          refine k_getR (pc := 49) (r := some (2, 0, 0)) C fl_X6_10 k_in6 rfl rfl rfl dX6_parting_49 ?_
          refine k_iload_n (pc := 52) C dX6_parting_52 rfl ?_
          by_cases c53 : f_X2_comingAt ((f_X2_partAll mi 0).2) 0 x < 6
          · skip
            refine k_call1 (pc := 53) C cv_X6_219 (ct_X2_comingAt_s (by decide) c53) (k_in2 (by decide)) rfl (by decide) rfl (Nat.le_of_ble_eq_true rfl) dX6_parting_53 ?_
            refine k_astore_3 (pc := 56) C dX6_parting_56 rfl ?_
            refine k_aload_n (pc := 57) C dX6_parting_57 rfl ?_
            refine k_ifnonnullR (pc := 58) C 65 dX6_parting_58 (by decide) ?_
            refine k_aload_n (pc := 65) C dX6_parting_65 rfl ?_
            refine k_getI (pc := 66) C fl_X6_222 (k_in0 (by decide) c53) rfl rfl dX6_parting_66 ?_
            exact k_iret (pc := 69) C rfl (k_fIm (by unfold f_X6_parting; rw [if_neg c2, if_neg c6, if_pos c17, if_neg c43, if_pos c53]; try rfl)) dX6_parting_69
          · skip
            refine k_call1 (pc := 53) C cv_X6_219 (ct_X2_comingAt_n (by decide) c53) (k_in2 (by decide)) rfl (by decide) rfl (Nat.le_of_ble_eq_true rfl) dX6_parting_53 ?_
            refine k_astore_3 (pc := 56) C dX6_parting_56 rfl ?_
            refine k_aload_n (pc := 57) C dX6_parting_57 rfl ?_
            refine k_ifnonnullN (pc := 58) C dX6_parting_58 ?_
            refine k_iconst (pc := 61) (v := (-1)) C dX6_parting_61 (by decide) ?_
            refine k_goto (pc := 62) C 69 dX6_parting_62 (by decide) ?_
            exact k_iret (pc := 69) C rfl (k_fIm (by unfold f_X6_parting; rw [if_neg c2, if_neg c6, if_pos c17, if_neg c43, if_neg c53]; try rfl)) dX6_parting_69
        · skip
          refine k_iload_n (pc := 46) C dX6_parting_46 rfl ?_
          exact k_iret (pc := 47) C rfl (k_fIm (by unfold f_X6_parting; rw [if_neg c2, if_neg c6, if_pos c17, if_pos c43]; try rfl)) dX6_parting_47
      · skip
        refine k_aload_n (pc := 20) C dX6_parting_20 rfl ?_
        refine k_bipush (pc := 21) (v := 10) C dX6_parting_21 (by decide) ?_
        refine k_iconst (pc := 23) (v := 5) C dX6_parting_23 (by decide) ?_
        refine k_call2 (pc := 24) C cv_X6_51 ct_X6_refuse k_in6 rfl (by decide) rfl (Nat.le_of_ble_eq_true rfl) dX6_parting_24 ?_
        exact k_iret (pc := 27) C rfl (k_fIm (by unfold f_X6_parting; rw [if_neg c2, if_neg c6, if_neg c17]; try rfl)) dX6_parting_27
def f_X6_rests (mi : MemI) (bg : Int32) : Int32 × MemI :=
  if f_X2_beggarAt mi 0 bg < 6 then if bg = (-1) then if ((f_X2_comeToRest mi 0).1) = (-1) then ((f_X2_comeToRest mi 0).1, (f_X2_comeToRest mi 0).2)
      else (((f_X2_comeToRest mi 0).2) (0, 0, (f_X2_beggarAt mi 0 bg)) 11, (f_X2_comeToRest mi 0).2)
    else if (mi (0, 0, (f_X2_beggarAt mi 0 bg)) 2) = 0 then if ((f_X2_comeToRest mi 0).1) = (-1) then ((f_X2_comeToRest mi 0).1, (f_X2_comeToRest mi 0).2)
        else (((f_X2_comeToRest mi 0).2) (0, 0, (f_X2_beggarAt mi 0 bg)) 11, (f_X2_comeToRest mi 0).2)
      else ((f_X6_refuse mi 10 1).1, (f_X6_refuse mi 10 1).2)
  else if bg = (-1) then ((f_X2_comeToRest mi 0).1, (f_X2_comeToRest mi 0).2)
    else ((f_X6_refuse mi 10 1).1, (f_X6_refuse mi 10 1).2)
set_option maxRecDepth 100000 in
set_option maxHeartbeats 4000000 in
theorem ct_X6_rests {mi : MemI} {ml : MemL} {bg : Int32}  : k_Ct k_KS k_R0 Mt_X6_rests 5 [vR (6, 0, 0), vI bg] mi ml (k_rt (some (vI (f_X6_rests mi bg).1)) (f_X6_rests mi bg).2 ml) := by
  refine k_ofV (L0 := [vR (6, 0, 0), vI bg, vU, vU]) (by decide +kernel) (Nat.le_of_ble_eq_true rfl) rfl rfl ?_
  intro p l e s m args below meth c D cy ad bs C
  refine k_aload_n (pc := 0) C dX6_rests_0 rfl ?_
  refine k_getR (pc := 1) (r := some (2, 0, 0)) C fl_X6_10 k_in6 rfl rfl rfl dX6_rests_1 ?_
  refine k_iload_n (pc := 4) C dX6_rests_4 rfl ?_
  by_cases c5 : f_X2_beggarAt mi 0 bg < 6
  · skip
    refine k_call1 (pc := 5) C cv_X6_137 (ct_X2_beggarAt_s (by decide) c5) (k_in2 (by decide)) rfl (by decide) rfl (Nat.le_of_ble_eq_true rfl) dX6_rests_5 ?_
    refine k_astore_2 (pc := 8) C dX6_rests_8 rfl ?_
    refine k_iload_n (pc := 9) C dX6_rests_9 rfl ?_
    refine k_iconst (pc := 10) (v := (-1)) C dX6_rests_10 (by decide) ?_
    refine k_icmp_eq (pc := 11) C 33 dX6_rests_11 (by decide) (fun c11 => ?_) (fun c11 => ?_)
    · skip
      refine k_aload_n (pc := 33) C dX6_rests_33 rfl ?_
      refine k_getR (pc := 34) (r := some (2, 0, 0)) C fl_X6_10 k_in6 rfl rfl rfl dX6_rests_34 ?_
      refine k_call0 (pc := 37) C cv_X6_225 (ct_X2_comeToRest (by decide)) (k_in2 (by decide)) rfl (by decide) rfl (Nat.le_of_ble_eq_true rfl) dX6_rests_37 ?_
      refine k_istore_3 (pc := 40) C dX6_rests_40 rfl ?_
      refine k_aload_n (pc := 41) C dX6_rests_41 rfl ?_
      refine k_ifnullR (pc := 42) C dX6_rests_42 ?_
      refine k_iload_n (pc := 45) C dX6_rests_45 rfl ?_
      refine k_iconst (pc := 46) (v := (-1)) C dX6_rests_46 (by decide) ?_
      refine k_icmp_ne (pc := 47) C 54 dX6_rests_47 (by decide) (fun c47 => ?_) (fun c47 => ?_)
      · skip
        refine k_aload_n (pc := 54) C dX6_rests_54 rfl ?_
        refine k_getI (pc := 55) C fl_X6_228 (k_in0 (by decide) c5) rfl rfl dX6_rests_55 ?_
        exact k_iret (pc := 58) C rfl (k_fIm (by unfold f_X6_rests; rw [if_pos c5, if_pos c11, if_neg c47]; try rfl)) dX6_rests_58
      · skip
        refine k_iload_n (pc := 50) C dX6_rests_50 rfl ?_
        refine k_goto (pc := 51) C 58 dX6_rests_51 (by decide) ?_
        exact k_iret (pc := 58) C rfl (k_fIm (by unfold f_X6_rests; rw [if_pos c5, if_pos c11, if_pos c47]; try rfl)) dX6_rests_58
    · skip
      refine k_aload_n (pc := 14) C dX6_rests_14 rfl ?_
      refine k_ifnullR (pc := 15) C dX6_rests_15 ?_
      refine k_aload_n (pc := 18) C dX6_rests_18 rfl ?_
      refine k_getI (pc := 19) C fl_X6_141 (k_in0 (by decide) c5) rfl rfl dX6_rests_19 ?_
      refine k_if_eq (pc := 22) C 33 dX6_rests_22 (by decide) (fun c22 => ?_) (fun c22 => ?_)
      · skip
        refine k_aload_n (pc := 33) C dX6_rests_33 rfl ?_
        refine k_getR (pc := 34) (r := some (2, 0, 0)) C fl_X6_10 k_in6 rfl rfl rfl dX6_rests_34 ?_
        refine k_call0 (pc := 37) C cv_X6_225 (ct_X2_comeToRest (by decide)) (k_in2 (by decide)) rfl (by decide) rfl (Nat.le_of_ble_eq_true rfl) dX6_rests_37 ?_
        refine k_istore_3 (pc := 40) C dX6_rests_40 rfl ?_
        refine k_aload_n (pc := 41) C dX6_rests_41 rfl ?_
        refine k_ifnullR (pc := 42) C dX6_rests_42 ?_
        refine k_iload_n (pc := 45) C dX6_rests_45 rfl ?_
        refine k_iconst (pc := 46) (v := (-1)) C dX6_rests_46 (by decide) ?_
        refine k_icmp_ne (pc := 47) C 54 dX6_rests_47 (by decide) (fun c47 => ?_) (fun c47 => ?_)
        · skip
          refine k_aload_n (pc := 54) C dX6_rests_54 rfl ?_
          refine k_getI (pc := 55) C fl_X6_228 (k_in0 (by decide) c5) rfl rfl dX6_rests_55 ?_
          exact k_iret (pc := 58) C rfl (k_fIm (by unfold f_X6_rests; rw [if_pos c5, if_neg c11, if_pos c22, if_neg c47]; try rfl)) dX6_rests_58
        · skip
          refine k_iload_n (pc := 50) C dX6_rests_50 rfl ?_
          refine k_goto (pc := 51) C 58 dX6_rests_51 (by decide) ?_
          exact k_iret (pc := 58) C rfl (k_fIm (by unfold f_X6_rests; rw [if_pos c5, if_neg c11, if_pos c22, if_pos c47]; try rfl)) dX6_rests_58
      · skip
        refine k_aload_n (pc := 25) C dX6_rests_25 rfl ?_
        refine k_bipush (pc := 26) (v := 10) C dX6_rests_26 (by decide) ?_
        refine k_iconst (pc := 28) (v := 1) C dX6_rests_28 (by decide) ?_
        refine k_call2 (pc := 29) C cv_X6_51 ct_X6_refuse k_in6 rfl (by decide) rfl (Nat.le_of_ble_eq_true rfl) dX6_rests_29 ?_
        exact k_iret (pc := 32) C rfl (k_fIm (by unfold f_X6_rests; rw [if_pos c5, if_neg c11, if_neg c22]; try rfl)) dX6_rests_32
  · skip
    refine k_call1 (pc := 5) C cv_X6_137 (ct_X2_beggarAt_n (by decide) c5) (k_in2 (by decide)) rfl (by decide) rfl (Nat.le_of_ble_eq_true rfl) dX6_rests_5 ?_
    refine k_astore_2 (pc := 8) C dX6_rests_8 rfl ?_
    refine k_iload_n (pc := 9) C dX6_rests_9 rfl ?_
    refine k_iconst (pc := 10) (v := (-1)) C dX6_rests_10 (by decide) ?_
    refine k_icmp_eq (pc := 11) C 33 dX6_rests_11 (by decide) (fun c11 => ?_) (fun c11 => ?_)
    · skip
      refine k_aload_n (pc := 33) C dX6_rests_33 rfl ?_
      refine k_getR (pc := 34) (r := some (2, 0, 0)) C fl_X6_10 k_in6 rfl rfl rfl dX6_rests_34 ?_
      refine k_call0 (pc := 37) C cv_X6_225 (ct_X2_comeToRest (by decide)) (k_in2 (by decide)) rfl (by decide) rfl (Nat.le_of_ble_eq_true rfl) dX6_rests_37 ?_
      refine k_istore_3 (pc := 40) C dX6_rests_40 rfl ?_
      refine k_aload_n (pc := 41) C dX6_rests_41 rfl ?_
      refine k_ifnullN (pc := 42) C 50 dX6_rests_42 (by decide) ?_
      refine k_iload_n (pc := 50) C dX6_rests_50 rfl ?_
      refine k_goto (pc := 51) C 58 dX6_rests_51 (by decide) ?_
      exact k_iret (pc := 58) C rfl (k_fIm (by unfold f_X6_rests; rw [if_neg c5, if_pos c11]; try rfl)) dX6_rests_58
    · skip
      refine k_aload_n (pc := 14) C dX6_rests_14 rfl ?_
      refine k_ifnullN (pc := 15) C 25 dX6_rests_15 (by decide) ?_
      refine k_aload_n (pc := 25) C dX6_rests_25 rfl ?_
      refine k_bipush (pc := 26) (v := 10) C dX6_rests_26 (by decide) ?_
      refine k_iconst (pc := 28) (v := 1) C dX6_rests_28 (by decide) ?_
      refine k_call2 (pc := 29) C cv_X6_51 ct_X6_refuse k_in6 rfl (by decide) rfl (Nat.le_of_ble_eq_true rfl) dX6_rests_29 ?_
      exact k_iret (pc := 32) C rfl (k_fIm (by unfold f_X6_rests; rw [if_neg c5, if_neg c11]; try rfl)) dX6_rests_32
def f_X6_hide (mi : MemI) : Int32 × MemI :=
  (f_X2_mostBurdened (f_X2_goBy mi 0) 0, f_X2_goBy mi 0)
set_option maxRecDepth 100000 in
set_option maxHeartbeats 4000000 in
theorem ct_X6_hide {mi : MemI} {ml : MemL}   : k_Ct k_KS k_R0 Mt_X6_hide 4 [vR (6, 0, 0)] mi ml (k_rt (some (vI (f_X6_hide mi).1)) (f_X6_hide mi).2 ml) := by
  refine k_ofV (L0 := [vR (6, 0, 0)]) (by decide +kernel) (Nat.le_of_ble_eq_true rfl) rfl rfl ?_
  intro p l e s m args below meth c D cy ad bs C
  refine k_aload_n (pc := 0) C dX6_hide_0 rfl ?_
  refine k_getR (pc := 1) (r := some (2, 0, 0)) C fl_X6_10 k_in6 rfl rfl rfl dX6_hide_1 ?_
  refine k_callv0 (pc := 4) C cv_X6_192 (ct_X2_goBy (by decide)) (k_in2 (by decide)) rfl (by decide) rfl (Nat.le_of_ble_eq_true rfl) dX6_hide_4 ?_
  refine k_aload_n (pc := 7) C dX6_hide_7 rfl ?_
  refine k_getR (pc := 8) (r := some (2, 0, 0)) C fl_X6_10 k_in6 rfl rfl rfl dX6_hide_8 ?_
  refine k_call0 (pc := 11) C cv_X6_237 (ct_X2_mostBurdened (by decide)) (k_in2 (by decide)) rfl (by decide) rfl (Nat.le_of_ble_eq_true rfl) dX6_hide_11 ?_
  exact k_iret (pc := 14) C rfl (k_fIm rfl) dX6_hide_14
def f_X6_judge (mi : MemI) (ml : MemL) (s0 : Int32) (n : Int32) : Int32 × MemI :=
  if (f_X6_noRow mi s0) = 0 then if 0 ≤ n then if f_X6_shelfAt s0 < 8 then if n ≤ (mi (5, 0, (f_X6_shelfAt s0)) 2) then if n ≤ 40 then (f_X2_firstWrong (f_X2_goBy mi 0) ml 0 (f_X6_shelfAt s0) n, f_X2_goBy mi 0)
          else ((f_X6_refuse mi 10 6).1, (f_X6_refuse mi 10 6).2)
        else ((f_X6_refuse mi 10 5).1, (f_X6_refuse mi 10 5).2)
      else ((f_X6_refuse mi 10 5).1, (f_X6_refuse mi 10 5).2)
    else ((f_X6_refuse mi 10 4).1, (f_X6_refuse mi 10 4).2)
  else ((f_X6_refuse mi 10 (f_X6_noRow mi s0)).1, (f_X6_refuse mi 10 (f_X6_noRow mi s0)).2)
set_option maxRecDepth 100000 in
set_option maxHeartbeats 4000000 in
theorem ct_X6_judge {mi : MemI} {ml : MemL} {s0 : Int32} {n : Int32}  : k_Ct k_KS k_R0 Mt_X6_judge 4 [vR (6, 0, 0), vI s0, vI n] mi ml (k_rt (some (vI (f_X6_judge mi ml s0 n).1)) (f_X6_judge mi ml s0 n).2 ml) := by
  refine k_ofV (L0 := [vR (6, 0, 0), vI s0, vI n, vU, vU]) (by decide +kernel) (Nat.le_of_ble_eq_true rfl) rfl rfl ?_
  intro p l e s m args below meth c D cy ad bs C
  refine k_aload_n (pc := 0) C dX6_judge_0 rfl ?_
  refine k_iload_n (pc := 1) C dX6_judge_1 rfl ?_
  refine k_call1 (pc := 2) C cv_X6_59 ct_X6_noRow k_in6 rfl (by decide) rfl (Nat.le_of_ble_eq_true rfl) dX6_judge_2 ?_
  refine k_istore_3 (pc := 5) C dX6_judge_5 rfl ?_
  refine k_iload_n (pc := 6) C dX6_judge_6 rfl ?_
  refine k_if_eq (pc := 7) C 18 dX6_judge_7 (by decide) (fun c7 => ?_) (fun c7 => ?_)
  · skip
    refine k_iload_n (pc := 18) C dX6_judge_18 rfl ?_
    refine k_if_ge (pc := 19) C 30 dX6_judge_19 (by decide) (fun c19 => ?_) (fun c19 => ?_)
    · skip
      refine k_aload_n (pc := 30) C dX6_judge_30 rfl ?_
      refine k_iload_n (pc := 31) C dX6_judge_31 rfl ?_
      by_cases c32 : f_X6_shelfAt s0 < 8
      · skip
        refine k_call1 (pc := 32) C cv_X6_47 (ct_X6_shelfAt_s c32) k_in6 rfl (by decide) rfl (Nat.le_of_ble_eq_true rfl) dX6_judge_32 ?_
        refine k_astore_4 (pc := 35) C dX6_judge_35 rfl ?_
        refine k_aload (pc := 37) C dX6_judge_37 rfl ?_
        refine k_ifnullR (pc := 39) C dX6_judge_39 ?_
        refine k_iload_n (pc := 42) C dX6_judge_42 rfl ?_
        refine k_aload (pc := 43) C dX6_judge_43 rfl ?_
        refine k_getI (pc := 45) C fl_X6_253 (k_in5 c32) rfl rfl dX6_judge_45 ?_
        refine k_icmp_le (pc := 48) C 59 dX6_judge_48 (by decide) (fun c48 => ?_) (fun c48 => ?_)
        · skip
          refine k_iload_n (pc := 59) C dX6_judge_59 rfl ?_
          refine k_bipush (pc := 60) (v := 40) C dX6_judge_60 (by decide) ?_
          refine k_icmp_le (pc := 62) C 74 dX6_judge_62 (by decide) (fun c62 => ?_) (fun c62 => ?_)
          · skip
            refine k_aload_n (pc := 74) C dX6_judge_74 rfl ?_
            refine k_getR (pc := 75) (r := some (2, 0, 0)) C fl_X6_10 k_in6 rfl rfl rfl dX6_judge_75 ?_
            refine k_callv0 (pc := 78) C cv_X6_192 (ct_X2_goBy (by decide)) (k_in2 (by decide)) rfl (by decide) rfl (Nat.le_of_ble_eq_true rfl) dX6_judge_78 ?_
            refine k_aload_n (pc := 81) C dX6_judge_81 rfl ?_
            refine k_getR (pc := 82) (r := some (2, 0, 0)) C fl_X6_10 k_in6 rfl rfl rfl dX6_judge_82 ?_
            refine k_aload (pc := 85) C dX6_judge_85 rfl ?_
            refine k_iload_n (pc := 87) C dX6_judge_87 rfl ?_
            refine k_call2 (pc := 88) C cv_X6_256 (ct_X2_firstWrong (by decide) c32) (k_in2 (by decide)) rfl (by decide) rfl (Nat.le_of_ble_eq_true rfl) dX6_judge_88 ?_
            exact k_iret (pc := 91) C rfl (k_fIm (by unfold f_X6_judge; rw [if_pos c7, if_pos c19, if_pos c32, if_pos c48, if_pos c62]; try rfl)) dX6_judge_91
          · skip
            refine k_aload_n (pc := 65) C dX6_judge_65 rfl ?_
            refine k_bipush (pc := 66) (v := 10) C dX6_judge_66 (by decide) ?_
            refine k_bipush (pc := 68) (v := 6) C dX6_judge_68 (by decide) ?_
            refine k_call2 (pc := 70) C cv_X6_51 ct_X6_refuse k_in6 rfl (by decide) rfl (Nat.le_of_ble_eq_true rfl) dX6_judge_70 ?_
            exact k_iret (pc := 73) C rfl (k_fIm (by unfold f_X6_judge; rw [if_pos c7, if_pos c19, if_pos c32, if_pos c48, if_neg c62]; try rfl)) dX6_judge_73
        · skip
          refine k_aload_n (pc := 51) C dX6_judge_51 rfl ?_
          refine k_bipush (pc := 52) (v := 10) C dX6_judge_52 (by decide) ?_
          refine k_iconst (pc := 54) (v := 5) C dX6_judge_54 (by decide) ?_
          refine k_call2 (pc := 55) C cv_X6_51 ct_X6_refuse k_in6 rfl (by decide) rfl (Nat.le_of_ble_eq_true rfl) dX6_judge_55 ?_
          exact k_iret (pc := 58) C rfl (k_fIm (by unfold f_X6_judge; rw [if_pos c7, if_pos c19, if_pos c32, if_neg c48]; try rfl)) dX6_judge_58
      · skip
        refine k_call1 (pc := 32) C cv_X6_47 (ct_X6_shelfAt_n c32) k_in6 rfl (by decide) rfl (Nat.le_of_ble_eq_true rfl) dX6_judge_32 ?_
        refine k_astore_4 (pc := 35) C dX6_judge_35 rfl ?_
        refine k_aload (pc := 37) C dX6_judge_37 rfl ?_
        refine k_ifnullN (pc := 39) C 51 dX6_judge_39 (by decide) ?_
        refine k_aload_n (pc := 51) C dX6_judge_51 rfl ?_
        refine k_bipush (pc := 52) (v := 10) C dX6_judge_52 (by decide) ?_
        refine k_iconst (pc := 54) (v := 5) C dX6_judge_54 (by decide) ?_
        refine k_call2 (pc := 55) C cv_X6_51 ct_X6_refuse k_in6 rfl (by decide) rfl (Nat.le_of_ble_eq_true rfl) dX6_judge_55 ?_
        exact k_iret (pc := 58) C rfl (k_fIm (by unfold f_X6_judge; rw [if_pos c7, if_pos c19, if_neg c32]; try rfl)) dX6_judge_58
    · skip
      refine k_aload_n (pc := 22) C dX6_judge_22 rfl ?_
      refine k_bipush (pc := 23) (v := 10) C dX6_judge_23 (by decide) ?_
      refine k_iconst (pc := 25) (v := 4) C dX6_judge_25 (by decide) ?_
      refine k_call2 (pc := 26) C cv_X6_51 ct_X6_refuse k_in6 rfl (by decide) rfl (Nat.le_of_ble_eq_true rfl) dX6_judge_26 ?_
      exact k_iret (pc := 29) C rfl (k_fIm (by unfold f_X6_judge; rw [if_pos c7, if_neg c19]; try rfl)) dX6_judge_29
  · skip
    refine k_aload_n (pc := 10) C dX6_judge_10 rfl ?_
    refine k_bipush (pc := 11) (v := 10) C dX6_judge_11 (by decide) ?_
    refine k_iload_n (pc := 13) C dX6_judge_13 rfl ?_
    refine k_call2 (pc := 14) C cv_X6_51 ct_X6_refuse k_in6 rfl (by decide) rfl (Nat.le_of_ble_eq_true rfl) dX6_judge_14 ?_
    exact k_iret (pc := 17) C rfl (k_fIm (by unfold f_X6_judge; rw [if_neg c7]; try rfl)) dX6_judge_17
def f_X6_seed (mi : MemI) (v : Int32) : Int32 × MemI :=
  (mi (2, 0, 0) 5, k_ui mi (2, 0, 0) 5 v)
set_option maxRecDepth 100000 in
set_option maxHeartbeats 4000000 in
theorem ct_X6_seed {mi : MemI} {ml : MemL} {v : Int32}  : k_Ct k_KS k_R0 Mt_X6_seed 0 [vR (6, 0, 0), vI v] mi ml (k_rt (some (vI (f_X6_seed mi v).1)) (f_X6_seed mi v).2 ml) := by
  refine k_ofV (L0 := [vR (6, 0, 0), vI v, vU]) (by decide +kernel) (Nat.le_of_ble_eq_true rfl) rfl rfl ?_
  intro p l e s m args below meth c D cy ad bs C
  refine k_aload_n (pc := 0) C dX6_seed_0 rfl ?_
  refine k_getR (pc := 1) (r := some (2, 0, 0)) C fl_X6_10 k_in6 rfl rfl rfl dX6_seed_1 ?_
  refine k_getI (pc := 4) C fl_X6_266 (k_in2 (by decide)) rfl rfl dX6_seed_4 ?_
  refine k_istore_2 (pc := 7) C dX6_seed_7 rfl ?_
  refine k_aload_n (pc := 8) C dX6_seed_8 rfl ?_
  refine k_getR (pc := 9) (r := some (2, 0, 0)) C fl_X6_10 k_in6 rfl rfl rfl dX6_seed_9 ?_
  refine k_iload_n (pc := 12) C dX6_seed_12 rfl ?_
  refine k_putI (pc := 13) C pl_X6_266 (k_in2 (by decide)) rfl rfl dX6_seed_13 ?_
  refine k_iload_n (pc := 16) C dX6_seed_16 rfl ?_
  exact k_iret (pc := 17) C rfl (k_fIm rfl) dX6_seed_17
def f_X6_act (mi : MemI) (cz : Int32) (mv : Int32) (x : Int32) : Int32 × MemI :=
  if f_X2_citizenAt (f_X3_forget mi) 0 cz < 6 then if mv < 0 then (0, f_X3_forget mi)
    else if mv < 3 then ((f_X3_perform (f_X3_forget mi) 0 (f_X2_citizenAt (f_X3_forget mi) 0 cz) mv x).1, (f_X3_perform (f_X3_forget mi) 0 (f_X2_citizenAt (f_X3_forget mi) 0 cz) mv x).2)
      else (0, f_X3_forget mi)
  else (0, f_X3_forget mi)
set_option maxRecDepth 100000 in
set_option maxHeartbeats 4000000 in
theorem ct_X6_act {mi : MemI} {ml : MemL} {cz : Int32} {mv : Int32} {x : Int32}  : k_Ct k_KS k_R0 Mt_X6_act 88 [vR (6, 0, 0), vI cz, vI mv, vI x] mi ml (k_rt (some (vI (f_X6_act mi cz mv x).1)) (f_X6_act mi cz mv x).2 ml) := by
  refine k_ofV (L0 := [vR (6, 0, 0), vI cz, vI mv, vI x, vU]) (by decide +kernel) (Nat.le_of_ble_eq_true rfl) rfl rfl ?_
  intro p l e s m args below meth c D cy ad bs C
  refine k_aload_n (pc := 0) C dX6_act_0 rfl ?_
  refine k_getR (pc := 1) (r := some (3, 0, 0)) C fl_X6_42 k_in6 rfl rfl rfl dX6_act_1 ?_
  refine k_callv0 (pc := 4) C cv_X6_269 ct_X3_forget k_in3 rfl (by decide) rfl (Nat.le_of_ble_eq_true rfl) dX6_act_4 ?_
  refine k_aload_n (pc := 7) C dX6_act_7 rfl ?_
  refine k_getR (pc := 8) (r := some (2, 0, 0)) C fl_X6_10 k_in6 rfl rfl rfl dX6_act_8 ?_
  refine k_iload_n (pc := 11) C dX6_act_11 rfl ?_
  by_cases c12 : f_X2_citizenAt (f_X3_forget mi) 0 cz < 6
  · skip
    refine k_call1 (pc := 12) C cv_X6_94 (ct_X2_citizenAt_s (by decide) c12) (k_in2 (by decide)) rfl (by decide) rfl (Nat.le_of_ble_eq_true rfl) dX6_act_12 ?_
    refine k_astore_4 (pc := 15) C dX6_act_15 rfl ?_
    refine k_aload (pc := 17) C dX6_act_17 rfl ?_
    refine k_ifnullR (pc := 19) C dX6_act_19 ?_
    refine k_iload_n (pc := 22) C dX6_act_22 rfl ?_
    refine k_if_lt (pc := 23) C 31 dX6_act_23 (by decide) (fun c23 => ?_) (fun c23 => ?_)
    · skip
      refine k_iconst (pc := 31) (v := 0) C dX6_act_31 (by decide) ?_
      exact k_iret (pc := 32) C rfl (k_fIm (by unfold f_X6_act; rw [if_pos c12, if_pos c23]; try rfl)) dX6_act_32
    · skip
      refine k_iload_n (pc := 26) C dX6_act_26 rfl ?_
      refine k_iconst (pc := 27) (v := 3) C dX6_act_27 (by decide) ?_
      refine k_icmp_lt (pc := 28) C 33 dX6_act_28 (by decide) (fun c28 => ?_) (fun c28 => ?_)
      · skip
        refine k_aload_n (pc := 33) C dX6_act_33 rfl ?_
        refine k_getR (pc := 34) (r := some (3, 0, 0)) C fl_X6_42 k_in6 rfl rfl rfl dX6_act_34 ?_
        refine k_aload (pc := 37) C dX6_act_37 rfl ?_
        refine k_iload_n (pc := 39) C dX6_act_39 rfl ?_
        refine k_iload_n (pc := 40) C dX6_act_40 rfl ?_
        refine k_call3 (pc := 41) C cv_X6_272 (ct_X3_perform (by decide) c12) k_in3 rfl (by decide) rfl (Nat.le_of_ble_eq_true rfl) dX6_act_41 ?_
        exact k_iret (pc := 44) C rfl (k_fIm (by unfold f_X6_act; rw [if_pos c12, if_neg c23, if_pos c28]; try rfl)) dX6_act_44
      · skip
        refine k_iconst (pc := 31) (v := 0) C dX6_act_31 (by decide) ?_
        exact k_iret (pc := 32) C rfl (k_fIm (by unfold f_X6_act; rw [if_pos c12, if_neg c23, if_neg c28]; try rfl)) dX6_act_32
  · skip
    refine k_call1 (pc := 12) C cv_X6_94 (ct_X2_citizenAt_n (by decide) c12) (k_in2 (by decide)) rfl (by decide) rfl (Nat.le_of_ble_eq_true rfl) dX6_act_12 ?_
    refine k_astore_4 (pc := 15) C dX6_act_15 rfl ?_
    refine k_aload (pc := 17) C dX6_act_17 rfl ?_
    refine k_ifnullN (pc := 19) C 31 dX6_act_19 (by decide) ?_
    refine k_iconst (pc := 31) (v := 0) C dX6_act_31 (by decide) ?_
    exact k_iret (pc := 32) C rfl (k_fIm (by unfold f_X6_act; rw [if_neg c12]; try rfl)) dX6_act_32
def f_X6_trace (mi : MemI) (x : Int32) : Int32 :=
  (f_X3_bodyAt mi x)
set_option maxRecDepth 100000 in
set_option maxHeartbeats 4000000 in
theorem ct_X6_trace {mi : MemI} {ml : MemL} {x : Int32}  : k_Ct k_KS k_R0 Mt_X6_trace 1 [vR (6, 0, 0), vI x] mi ml (k_rt (some (vI (f_X6_trace mi x))) mi ml) := by
  refine k_ofV (L0 := [vR (6, 0, 0), vI x]) (by decide +kernel) (Nat.le_of_ble_eq_true rfl) rfl rfl ?_
  intro p l e s m args below meth c D cy ad bs C
  refine k_aload_n (pc := 0) C dX6_trace_0 rfl ?_
  refine k_getR (pc := 1) (r := some (3, 0, 0)) C fl_X6_42 k_in6 rfl rfl rfl dX6_trace_1 ?_
  refine k_iload_n (pc := 4) C dX6_trace_4 rfl ?_
  refine k_call1 (pc := 5) C cv_X6_276 ct_X3_bodyAt k_in3 rfl (by decide) rfl (Nat.le_of_ble_eq_true rfl) dX6_trace_5 ?_
  exact k_iret (pc := 8) C rfl (k_fI rfl) dX6_trace_8
theorem k_vst {w : Int32} (h1 : ¬ w ≤ 10) (h2 : ¬ 8 ≤ w - 10) : vp_in (w - 10) 8 := by
  rw [vp_in_iff]
  rw [Int32.le_iff_toInt_le] at h1 h2
  have e10 : (10 : Int32).toInt = 10 := by decide
  have e8 : (8 : Int32).toInt = 8 := by decide
  have hw := Int32.toInt_lt w
  have hs : (w - 10).toInt = w.toInt - 10 := by
    rw [Int32.toInt_sub, e10]
    simp only [Int.bmod_def]
    omega
  rw [hs] at h2 ⊢
  omega
def f_X6_status (mi : MemI) (w : Int32) : Int32 :=
  if w ≤ 10 then if w = 0 then (mi (2, 0, 0) 2)
    else if w = 1 then (mi (2, 0, 0) 3)
      else if w = 2 then (mi (2, 0, 0) 4)
        else if w = 3 then (f_X2_wearTogether mi 0 6)
          else if w = 4 then (f_X2_hungerTogether mi 0 6)
            else if w = 5 then (f_X2_countHidden mi 0)
              else if w = 6 then (f_X2_countPosts mi 0)
                else if w = 7 then (mi (2, 0, 0) 5)
                  else if w = 8 then (mi (3, 0, 0) 1)
                    else (-1)
  else if 8 ≤ (w - 10) then if w = 0 then (mi (2, 0, 0) 2)
      else if w = 1 then (mi (2, 0, 0) 3)
        else if w = 2 then (mi (2, 0, 0) 4)
          else if w = 3 then (f_X2_wearTogether mi 0 6)
            else if w = 4 then (f_X2_hungerTogether mi 0 6)
              else if w = 5 then (f_X2_countHidden mi 0)
                else if w = 6 then (f_X2_countPosts mi 0)
                  else if w = 7 then (mi (2, 0, 0) 5)
                    else if w = 8 then (mi (3, 0, 0) 1)
                      else (-1)
    else (mi (8, 100, 0) ((w - 10).toNatClampNeg))
set_option maxRecDepth 100000 in
set_option maxHeartbeats 4000000 in
theorem ct_X6_status {mi : MemI} {ml : MemL} {w : Int32}  : k_Ct k_KS k_R0 Mt_X6_status 3 [vR (6, 0, 0), vI w] mi ml (k_rt (some (vI (f_X6_status mi w))) mi ml) := by
  refine k_ofV (L0 := [vR (6, 0, 0), vI w]) (by decide +kernel) (Nat.le_of_ble_eq_true rfl) rfl rfl ?_
  intro p l e s m args below meth c D cy ad bs C
  refine k_iload_n (pc := 0) C dX6_status_0 rfl ?_
  refine k_bipush (pc := 1) (v := 10) C dX6_status_1 (by decide) ?_
  refine k_icmp_le (pc := 3) C 28 dX6_status_3 (by decide) (fun c3 => ?_) (fun c3 => ?_)
  · skip
    refine k_iload_n (pc := 28) C dX6_status_28 rfl ?_
    by_cases c29_0 : w = 0
    · skip
      refine k_tabIn (pc := 29) (v := 0) C 80 dX6_status_29 c29_0 (by decide) (by decide) rfl (by decide) ?_
      refine k_aload_n (pc := 80) C dX6_status_80 rfl ?_
      refine k_getR (pc := 81) (r := some (2, 0, 0)) C fl_X6_10 k_in6 rfl rfl rfl dX6_status_81 ?_
      refine k_getI (pc := 84) C fl_X6_282 (k_in2 (by decide)) rfl rfl dX6_status_84 ?_
      exact k_iret (pc := 87) C rfl (k_fI (by unfold f_X6_status; rw [if_pos c3, if_pos c29_0]; try rfl)) dX6_status_87
    by_cases c29_1 : w = 1
    · skip
      refine k_tabIn (pc := 29) (v := 1) C 88 dX6_status_29 c29_1 (by decide) (by decide) rfl (by decide) ?_
      refine k_aload_n (pc := 88) C dX6_status_88 rfl ?_
      refine k_getR (pc := 89) (r := some (2, 0, 0)) C fl_X6_10 k_in6 rfl rfl rfl dX6_status_89 ?_
      refine k_getI (pc := 92) C fl_X6_285 (k_in2 (by decide)) rfl rfl dX6_status_92 ?_
      exact k_iret (pc := 95) C rfl (k_fI (by unfold f_X6_status; rw [if_pos c3, if_neg c29_0, if_pos c29_1]; try rfl)) dX6_status_95
    by_cases c29_2 : w = 2
    · skip
      refine k_tabIn (pc := 29) (v := 2) C 96 dX6_status_29 c29_2 (by decide) (by decide) rfl (by decide) ?_
      refine k_aload_n (pc := 96) C dX6_status_96 rfl ?_
      refine k_getR (pc := 97) (r := some (2, 0, 0)) C fl_X6_10 k_in6 rfl rfl rfl dX6_status_97 ?_
      refine k_getI (pc := 100) C fl_X6_288 (k_in2 (by decide)) rfl rfl dX6_status_100 ?_
      exact k_iret (pc := 103) C rfl (k_fI (by unfold f_X6_status; rw [if_pos c3, if_neg c29_0, if_neg c29_1, if_pos c29_2]; try rfl)) dX6_status_103
    by_cases c29_3 : w = 3
    · skip
      refine k_tabIn (pc := 29) (v := 3) C 104 dX6_status_29 c29_3 (by decide) (by decide) rfl (by decide) ?_
      refine k_aload_n (pc := 104) C dX6_status_104 rfl ?_
      refine k_getR (pc := 105) (r := some (2, 0, 0)) C fl_X6_10 k_in6 rfl rfl rfl dX6_status_105 ?_
      refine k_call0 (pc := 108) C cv_X6_291 (ct_X2_wearTogether (by decide)) (k_in2 (by decide)) rfl (by decide) rfl (Nat.le_of_ble_eq_true rfl) dX6_status_108 ?_
      exact k_iret (pc := 111) C rfl (k_fI (by unfold f_X6_status; rw [if_pos c3, if_neg c29_0, if_neg c29_1, if_neg c29_2, if_pos c29_3]; try rfl)) dX6_status_111
    by_cases c29_4 : w = 4
    · skip
      refine k_tabIn (pc := 29) (v := 4) C 112 dX6_status_29 c29_4 (by decide) (by decide) rfl (by decide) ?_
      refine k_aload_n (pc := 112) C dX6_status_112 rfl ?_
      refine k_getR (pc := 113) (r := some (2, 0, 0)) C fl_X6_10 k_in6 rfl rfl rfl dX6_status_113 ?_
      refine k_call0 (pc := 116) C cv_X6_294 (ct_X2_hungerTogether (by decide)) (k_in2 (by decide)) rfl (by decide) rfl (Nat.le_of_ble_eq_true rfl) dX6_status_116 ?_
      exact k_iret (pc := 119) C rfl (k_fI (by unfold f_X6_status; rw [if_pos c3, if_neg c29_0, if_neg c29_1, if_neg c29_2, if_neg c29_3, if_pos c29_4]; try rfl)) dX6_status_119
    by_cases c29_5 : w = 5
    · skip
      refine k_tabIn (pc := 29) (v := 5) C 120 dX6_status_29 c29_5 (by decide) (by decide) rfl (by decide) ?_
      refine k_aload_n (pc := 120) C dX6_status_120 rfl ?_
      refine k_getR (pc := 121) (r := some (2, 0, 0)) C fl_X6_10 k_in6 rfl rfl rfl dX6_status_121 ?_
      refine k_call0 (pc := 124) C cv_X6_297 (ct_X2_countHidden (by decide)) (k_in2 (by decide)) rfl (by decide) rfl (Nat.le_of_ble_eq_true rfl) dX6_status_124 ?_
      exact k_iret (pc := 127) C rfl (k_fI (by unfold f_X6_status; rw [if_pos c3, if_neg c29_0, if_neg c29_1, if_neg c29_2, if_neg c29_3, if_neg c29_4, if_pos c29_5]; try rfl)) dX6_status_127
    by_cases c29_6 : w = 6
    · skip
      refine k_tabIn (pc := 29) (v := 6) C 128 dX6_status_29 c29_6 (by decide) (by decide) rfl (by decide) ?_
      refine k_aload_n (pc := 128) C dX6_status_128 rfl ?_
      refine k_getR (pc := 129) (r := some (2, 0, 0)) C fl_X6_10 k_in6 rfl rfl rfl dX6_status_129 ?_
      refine k_call0 (pc := 132) C cv_X6_300 (ct_X2_countPosts (by decide)) (k_in2 (by decide)) rfl (by decide) rfl (Nat.le_of_ble_eq_true rfl) dX6_status_132 ?_
      exact k_iret (pc := 135) C rfl (k_fI (by unfold f_X6_status; rw [if_pos c3, if_neg c29_0, if_neg c29_1, if_neg c29_2, if_neg c29_3, if_neg c29_4, if_neg c29_5, if_pos c29_6]; try rfl)) dX6_status_135
    by_cases c29_7 : w = 7
    · skip
      refine k_tabIn (pc := 29) (v := 7) C 136 dX6_status_29 c29_7 (by decide) (by decide) rfl (by decide) ?_
      refine k_aload_n (pc := 136) C dX6_status_136 rfl ?_
      refine k_getR (pc := 137) (r := some (2, 0, 0)) C fl_X6_10 k_in6 rfl rfl rfl dX6_status_137 ?_
      refine k_getI (pc := 140) C fl_X6_266 (k_in2 (by decide)) rfl rfl dX6_status_140 ?_
      exact k_iret (pc := 143) C rfl (k_fI (by unfold f_X6_status; rw [if_pos c3, if_neg c29_0, if_neg c29_1, if_neg c29_2, if_neg c29_3, if_neg c29_4, if_neg c29_5, if_neg c29_6, if_pos c29_7]; try rfl)) dX6_status_143
    by_cases c29_8 : w = 8
    · skip
      refine k_tabIn (pc := 29) (v := 8) C 144 dX6_status_29 c29_8 (by decide) (by decide) rfl (by decide) ?_
      refine k_aload_n (pc := 144) C dX6_status_144 rfl ?_
      refine k_getR (pc := 145) (r := some (3, 0, 0)) C fl_X6_42 k_in6 rfl rfl rfl dX6_status_145 ?_
      refine k_getI (pc := 148) C fl_X6_303 k_in3 rfl rfl dX6_status_148 ?_
      exact k_iret (pc := 151) C rfl (k_fI (by unfold f_X6_status; rw [if_pos c3, if_neg c29_0, if_neg c29_1, if_neg c29_2, if_neg c29_3, if_neg c29_4, if_neg c29_5, if_neg c29_6, if_neg c29_7, if_pos c29_8]; try rfl)) dX6_status_151
    refine k_tabOut (pc := 29) C 152 dX6_status_29 (k_out 0 8 (fun v h1 h2 => by rcases (show v = 0 ∨ v = 1 ∨ v = 2 ∨ v = 3 ∨ v = 4 ∨ v = 5 ∨ v = 6 ∨ v = 7 ∨ v = 8 by omega) with rfl | rfl | rfl | rfl | rfl | rfl | rfl | rfl | rfl <;> first | exact c29_0 | exact c29_1 | exact c29_2 | exact c29_3 | exact c29_4 | exact c29_5 | exact c29_6 | exact c29_7 | exact c29_8)) (by decide) ?_
    refine k_iconst (pc := 152) (v := (-1)) C dX6_status_152 (by decide) ?_
    exact k_iret (pc := 153) C rfl (k_fI (by unfold f_X6_status; rw [if_pos c3, if_neg c29_0, if_neg c29_1, if_neg c29_2, if_neg c29_3, if_neg c29_4, if_neg c29_5, if_neg c29_6, if_neg c29_7, if_neg c29_8]; try rfl)) dX6_status_153
  · skip
    refine k_iload_n (pc := 6) C dX6_status_6 rfl ?_
    refine k_bipush (pc := 7) (v := 10) C dX6_status_7 (by decide) ?_
    refine k_isub (pc := 9) C dX6_status_9 ?_
    refine k_aload_n (pc := 10) C dX6_status_10 rfl ?_
    refine k_getR (pc := 11) (r := some (8, 100, 0)) C fl_X6_28 k_in6 rfl rfl rfl dX6_status_11 ?_
    refine k_alen (pc := 14) (v := 8) C (by decide +kernel) ⟨Nat.le_of_ble_eq_true rfl, Nat.le_of_ble_eq_true rfl⟩ rfl dX6_status_14 ?_
    refine k_icmp_ge (pc := 15) C 28 dX6_status_15 (by decide) (fun c15 => ?_) (fun c15 => ?_)
    · skip
      refine k_iload_n (pc := 28) C dX6_status_28 rfl ?_
      by_cases c29_0 : w = 0
      · skip
        refine k_tabIn (pc := 29) (v := 0) C 80 dX6_status_29 c29_0 (by decide) (by decide) rfl (by decide) ?_
        refine k_aload_n (pc := 80) C dX6_status_80 rfl ?_
        refine k_getR (pc := 81) (r := some (2, 0, 0)) C fl_X6_10 k_in6 rfl rfl rfl dX6_status_81 ?_
        refine k_getI (pc := 84) C fl_X6_282 (k_in2 (by decide)) rfl rfl dX6_status_84 ?_
        exact k_iret (pc := 87) C rfl (k_fI (by unfold f_X6_status; rw [if_neg c3, if_pos c15, if_pos c29_0]; try rfl)) dX6_status_87
      by_cases c29_1 : w = 1
      · skip
        refine k_tabIn (pc := 29) (v := 1) C 88 dX6_status_29 c29_1 (by decide) (by decide) rfl (by decide) ?_
        refine k_aload_n (pc := 88) C dX6_status_88 rfl ?_
        refine k_getR (pc := 89) (r := some (2, 0, 0)) C fl_X6_10 k_in6 rfl rfl rfl dX6_status_89 ?_
        refine k_getI (pc := 92) C fl_X6_285 (k_in2 (by decide)) rfl rfl dX6_status_92 ?_
        exact k_iret (pc := 95) C rfl (k_fI (by unfold f_X6_status; rw [if_neg c3, if_pos c15, if_neg c29_0, if_pos c29_1]; try rfl)) dX6_status_95
      by_cases c29_2 : w = 2
      · skip
        refine k_tabIn (pc := 29) (v := 2) C 96 dX6_status_29 c29_2 (by decide) (by decide) rfl (by decide) ?_
        refine k_aload_n (pc := 96) C dX6_status_96 rfl ?_
        refine k_getR (pc := 97) (r := some (2, 0, 0)) C fl_X6_10 k_in6 rfl rfl rfl dX6_status_97 ?_
        refine k_getI (pc := 100) C fl_X6_288 (k_in2 (by decide)) rfl rfl dX6_status_100 ?_
        exact k_iret (pc := 103) C rfl (k_fI (by unfold f_X6_status; rw [if_neg c3, if_pos c15, if_neg c29_0, if_neg c29_1, if_pos c29_2]; try rfl)) dX6_status_103
      by_cases c29_3 : w = 3
      · skip
        refine k_tabIn (pc := 29) (v := 3) C 104 dX6_status_29 c29_3 (by decide) (by decide) rfl (by decide) ?_
        refine k_aload_n (pc := 104) C dX6_status_104 rfl ?_
        refine k_getR (pc := 105) (r := some (2, 0, 0)) C fl_X6_10 k_in6 rfl rfl rfl dX6_status_105 ?_
        refine k_call0 (pc := 108) C cv_X6_291 (ct_X2_wearTogether (by decide)) (k_in2 (by decide)) rfl (by decide) rfl (Nat.le_of_ble_eq_true rfl) dX6_status_108 ?_
        exact k_iret (pc := 111) C rfl (k_fI (by unfold f_X6_status; rw [if_neg c3, if_pos c15, if_neg c29_0, if_neg c29_1, if_neg c29_2, if_pos c29_3]; try rfl)) dX6_status_111
      by_cases c29_4 : w = 4
      · skip
        refine k_tabIn (pc := 29) (v := 4) C 112 dX6_status_29 c29_4 (by decide) (by decide) rfl (by decide) ?_
        refine k_aload_n (pc := 112) C dX6_status_112 rfl ?_
        refine k_getR (pc := 113) (r := some (2, 0, 0)) C fl_X6_10 k_in6 rfl rfl rfl dX6_status_113 ?_
        refine k_call0 (pc := 116) C cv_X6_294 (ct_X2_hungerTogether (by decide)) (k_in2 (by decide)) rfl (by decide) rfl (Nat.le_of_ble_eq_true rfl) dX6_status_116 ?_
        exact k_iret (pc := 119) C rfl (k_fI (by unfold f_X6_status; rw [if_neg c3, if_pos c15, if_neg c29_0, if_neg c29_1, if_neg c29_2, if_neg c29_3, if_pos c29_4]; try rfl)) dX6_status_119
      by_cases c29_5 : w = 5
      · skip
        refine k_tabIn (pc := 29) (v := 5) C 120 dX6_status_29 c29_5 (by decide) (by decide) rfl (by decide) ?_
        refine k_aload_n (pc := 120) C dX6_status_120 rfl ?_
        refine k_getR (pc := 121) (r := some (2, 0, 0)) C fl_X6_10 k_in6 rfl rfl rfl dX6_status_121 ?_
        refine k_call0 (pc := 124) C cv_X6_297 (ct_X2_countHidden (by decide)) (k_in2 (by decide)) rfl (by decide) rfl (Nat.le_of_ble_eq_true rfl) dX6_status_124 ?_
        exact k_iret (pc := 127) C rfl (k_fI (by unfold f_X6_status; rw [if_neg c3, if_pos c15, if_neg c29_0, if_neg c29_1, if_neg c29_2, if_neg c29_3, if_neg c29_4, if_pos c29_5]; try rfl)) dX6_status_127
      by_cases c29_6 : w = 6
      · skip
        refine k_tabIn (pc := 29) (v := 6) C 128 dX6_status_29 c29_6 (by decide) (by decide) rfl (by decide) ?_
        refine k_aload_n (pc := 128) C dX6_status_128 rfl ?_
        refine k_getR (pc := 129) (r := some (2, 0, 0)) C fl_X6_10 k_in6 rfl rfl rfl dX6_status_129 ?_
        refine k_call0 (pc := 132) C cv_X6_300 (ct_X2_countPosts (by decide)) (k_in2 (by decide)) rfl (by decide) rfl (Nat.le_of_ble_eq_true rfl) dX6_status_132 ?_
        exact k_iret (pc := 135) C rfl (k_fI (by unfold f_X6_status; rw [if_neg c3, if_pos c15, if_neg c29_0, if_neg c29_1, if_neg c29_2, if_neg c29_3, if_neg c29_4, if_neg c29_5, if_pos c29_6]; try rfl)) dX6_status_135
      by_cases c29_7 : w = 7
      · skip
        refine k_tabIn (pc := 29) (v := 7) C 136 dX6_status_29 c29_7 (by decide) (by decide) rfl (by decide) ?_
        refine k_aload_n (pc := 136) C dX6_status_136 rfl ?_
        refine k_getR (pc := 137) (r := some (2, 0, 0)) C fl_X6_10 k_in6 rfl rfl rfl dX6_status_137 ?_
        refine k_getI (pc := 140) C fl_X6_266 (k_in2 (by decide)) rfl rfl dX6_status_140 ?_
        exact k_iret (pc := 143) C rfl (k_fI (by unfold f_X6_status; rw [if_neg c3, if_pos c15, if_neg c29_0, if_neg c29_1, if_neg c29_2, if_neg c29_3, if_neg c29_4, if_neg c29_5, if_neg c29_6, if_pos c29_7]; try rfl)) dX6_status_143
      by_cases c29_8 : w = 8
      · skip
        refine k_tabIn (pc := 29) (v := 8) C 144 dX6_status_29 c29_8 (by decide) (by decide) rfl (by decide) ?_
        refine k_aload_n (pc := 144) C dX6_status_144 rfl ?_
        refine k_getR (pc := 145) (r := some (3, 0, 0)) C fl_X6_42 k_in6 rfl rfl rfl dX6_status_145 ?_
        refine k_getI (pc := 148) C fl_X6_303 k_in3 rfl rfl dX6_status_148 ?_
        exact k_iret (pc := 151) C rfl (k_fI (by unfold f_X6_status; rw [if_neg c3, if_pos c15, if_neg c29_0, if_neg c29_1, if_neg c29_2, if_neg c29_3, if_neg c29_4, if_neg c29_5, if_neg c29_6, if_neg c29_7, if_pos c29_8]; try rfl)) dX6_status_151
      refine k_tabOut (pc := 29) C 152 dX6_status_29 (k_out 0 8 (fun v h1 h2 => by rcases (show v = 0 ∨ v = 1 ∨ v = 2 ∨ v = 3 ∨ v = 4 ∨ v = 5 ∨ v = 6 ∨ v = 7 ∨ v = 8 by omega) with rfl | rfl | rfl | rfl | rfl | rfl | rfl | rfl | rfl <;> first | exact c29_0 | exact c29_1 | exact c29_2 | exact c29_3 | exact c29_4 | exact c29_5 | exact c29_6 | exact c29_7 | exact c29_8)) (by decide) ?_
      refine k_iconst (pc := 152) (v := (-1)) C dX6_status_152 (by decide) ?_
      exact k_iret (pc := 153) C rfl (k_fI (by unfold f_X6_status; rw [if_neg c3, if_pos c15, if_neg c29_0, if_neg c29_1, if_neg c29_2, if_neg c29_3, if_neg c29_4, if_neg c29_5, if_neg c29_6, if_neg c29_7, if_neg c29_8]; try rfl)) dX6_status_153
    · skip
      refine k_aload_n (pc := 18) C dX6_status_18 rfl ?_
      refine k_getR (pc := 19) (r := some (8, 100, 0)) C fl_X6_28 k_in6 rfl rfl rfl dX6_status_19 ?_
      refine k_iload_n (pc := 22) C dX6_status_22 rfl ?_
      refine k_bipush (pc := 23) (v := 10) C dX6_status_23 (by decide) ?_
      refine k_isub (pc := 25) C dX6_status_25 ?_
      have hq := k_vst c3 c15
      refine k_ialdX (pc := 26) (j := (w - 10).toNatClampNeg) C rfl (by decide +kernel) rfl (by first | assumption | exact k_vin (N := 8) (n := 8) (by assumption) (by assumption) (by decide)) dX6_status_26 ?_
      exact k_iret (pc := 27) C rfl (k_fI (by unfold f_X6_status; rw [if_neg c3, if_neg c15]; try rfl)) dX6_status_27
theorem isOut0 {v lo hi : Int32} (h : f_X6_isOutside v lo hi = 0) : ¬ v < lo ∧ v ≤ hi := by
  unfold f_X6_isOutside at h
  split at h
  · cases h
  · split at h
    · exact ⟨by assumption, by assumption⟩
    · cases h
theorem isOut_nat {n lo hi : Int32} {N : Nat} (hlo : 0 ≤ lo.toInt) (hhi : hi.toInt = N) (h : f_X6_isOutside n lo hi = 0) : n = nI n.toNatClampNeg ∧ n.toNatClampNeg ≤ N := by
  obtain ⟨h0, h1⟩ := isOut0 h
  rw [Int32.lt_iff_toInt_lt] at h0
  rw [Int32.le_iff_toInt_le, hhi] at h1
  have e0 : (0 : Int32).toInt = 0 := by decide
  have h2 : ¬ n < 0 := by
    rw [Int32.lt_iff_toInt_lt, e0]
    omega
  obtain ⟨j, hj, rfl⟩ := nI_of h2
  rw [nI_clamp hj]
  rw [nI_toInt hj] at h1
  exact ⟨rfl, by omega⟩
def f_X6_tell (mi : MemI) (cz : Int32) (w : Int32) (v : Int32) : Int32 × MemI :=
  if f_X2_citizenAt mi 0 cz < 6 then if (f_X6_isOutside v 0 (f_X6_mostToTell w)) = 0 then ((f_X1_becomes mi 0 (f_X2_citizenAt mi 0 cz) w v).1, (f_X1_becomes mi 0 (f_X2_citizenAt mi 0 cz) w v).2)
    else ((f_X6_refuse mi 0 6).1, (f_X6_refuse mi 0 6).2)
  else ((f_X6_refuse mi 0 1).1, (f_X6_refuse mi 0 1).2)
set_option maxRecDepth 100000 in
set_option maxHeartbeats 4000000 in
theorem ct_X6_tell {mi : MemI} {ml : MemL} {cz : Int32} {w : Int32} {v : Int32}  : k_Ct k_KS k_R0 Mt_X6_tell 1 [vR (6, 0, 0), vI cz, vI w, vI v] mi ml (k_rt (some (vI (f_X6_tell mi cz w v).1)) (f_X6_tell mi cz w v).2 ml) := by
  refine k_ofV (L0 := [vR (6, 0, 0), vI cz, vI w, vI v, vU]) (by decide +kernel) (Nat.le_of_ble_eq_true rfl) rfl rfl ?_
  intro p l e s m args below meth c D cy ad bs C
  refine k_aload_n (pc := 0) C dX6_tell_0 rfl ?_
  refine k_getR (pc := 1) (r := some (2, 0, 0)) C fl_X6_10 k_in6 rfl rfl rfl dX6_tell_1 ?_
  refine k_iload_n (pc := 4) C dX6_tell_4 rfl ?_
  by_cases c5 : f_X2_citizenAt mi 0 cz < 6
  · skip
    refine k_call1 (pc := 5) C cv_X6_94 (ct_X2_citizenAt_s (by decide) c5) (k_in2 (by decide)) rfl (by decide) rfl (Nat.le_of_ble_eq_true rfl) dX6_tell_5 ?_
    refine k_astore_4 (pc := 8) C dX6_tell_8 rfl ?_
    refine k_aload (pc := 10) C dX6_tell_10 rfl ?_
    refine k_ifnonnullR (pc := 12) C 22 dX6_tell_12 (by decide) ?_
    refine k_iload_n (pc := 22) C dX6_tell_22 rfl ?_
    refine k_iconst (pc := 23) (v := 0) C dX6_tell_23 (by decide) ?_
    refine k_iload_n (pc := 24) C dX6_tell_24 rfl ?_
    refine k_calls1 (pc := 25) C cs_X6_131 ct_X6_mostToTell (by decide) rfl (Nat.le_of_ble_eq_true rfl) dX6_tell_25 ?_
    refine k_calls3 (pc := 28) C cs_X6_120 ct_X6_isOutside (by decide) rfl (Nat.le_of_ble_eq_true rfl) dX6_tell_28 ?_
    refine k_if_eq (pc := 31) C 42 dX6_tell_31 (by decide) (fun c31 => ?_) (fun c31 => ?_)
    · skip
      refine k_aload (pc := 42) C dX6_tell_42 rfl ?_
      refine k_iload_n (pc := 44) C dX6_tell_44 rfl ?_
      refine k_iload_n (pc := 45) C dX6_tell_45 rfl ?_
      refine k_call2 (pc := 46) C cv_X6_134 (ct_X1_becomes (by decide) c5) (k_in1 (by decide) c5) rfl (by decide) rfl (Nat.le_of_ble_eq_true rfl) dX6_tell_46 ?_
      exact k_iret (pc := 49) C rfl (k_fIm (by unfold f_X6_tell; rw [if_pos c5, if_pos c31]; try rfl)) dX6_tell_49
    · skip
      refine k_aload_n (pc := 34) C dX6_tell_34 rfl ?_
      refine k_iconst (pc := 35) (v := 0) C dX6_tell_35 (by decide) ?_
      refine k_bipush (pc := 36) (v := 6) C dX6_tell_36 (by decide) ?_
      refine k_call2 (pc := 38) C cv_X6_51 ct_X6_refuse k_in6 rfl (by decide) rfl (Nat.le_of_ble_eq_true rfl) dX6_tell_38 ?_
      exact k_iret (pc := 41) C rfl (k_fIm (by unfold f_X6_tell; rw [if_pos c5, if_neg c31]; try rfl)) dX6_tell_41
  · skip
    refine k_call1 (pc := 5) C cv_X6_94 (ct_X2_citizenAt_n (by decide) c5) (k_in2 (by decide)) rfl (by decide) rfl (Nat.le_of_ble_eq_true rfl) dX6_tell_5 ?_
    refine k_astore_4 (pc := 8) C dX6_tell_8 rfl ?_
    refine k_aload (pc := 10) C dX6_tell_10 rfl ?_
    refine k_ifnonnullN (pc := 12) C dX6_tell_12 ?_
    refine k_aload_n (pc := 15) C dX6_tell_15 rfl ?_
    refine k_iconst (pc := 16) (v := 0) C dX6_tell_16 (by decide) ?_
    refine k_iconst (pc := 17) (v := 1) C dX6_tell_17 (by decide) ?_
    refine k_call2 (pc := 18) C cv_X6_51 ct_X6_refuse k_in6 rfl (by decide) rfl (Nat.le_of_ble_eq_true rfl) dX6_tell_18 ?_
    exact k_iret (pc := 21) C rfl (k_fIm (by unfold f_X6_tell; rw [if_neg c5]; try rfl)) dX6_tell_21
