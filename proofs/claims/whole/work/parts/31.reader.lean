/-! Reader -/
def k_let (w j : Nat) : Int32 := ((((k_byt.getD w []).getD j 0) &&& 255).toUInt32 % 65536).toInt32
theorem k_len_le (w : Nat) : k_len.getD w 0 ≤ 7 := by
  by_cases h : w < 6
  · have h2 : ∀ w, w < 6 → k_len.getD w 0 ≤ 7 := by decide
    exact h2 w h
  · have : k_len.getD w 0 = 0 := by
      rw [List.getD_eq_getElem?_getD, List.getElem?_eq_none (by simp [k_len]; omega)]
      rfl
    omega
theorem ct_charAtN_J {mi : MemI} {ml : MemL} {w j : Nat} (hw : w < 6) (hj : j < k_len.getD w 0) : k_Ct k_KS k_R0 Mt_charAt_J 3 [vR (14, w, 0), vI (nI j)] mi ml (k_rt (some (vI (k_let w j))) mi ml) := by
  have h7 := k_len_le w
  have h := ct_charAt_J (mi := mi) (ml := ml) (w := w) (x := nI j) hw (nI_pos (by omega)) (nI_lt (b := k_len.getD w 0) hj (by omega)) (vp_in_nI hj (by omega))
  rw [nI_clamp (by omega)] at h
  exact h
def f_X4_signAt (mi : MemI) (x : Int32) : Int32 :=
  if x < 0 then (-1)
  else if (mi (4, 0, 0) 1) ≤ x then (-1)
    else if 160 ≤ x then (-1)
      else (mi (8, 101, 0) x.toNatClampNeg)
set_option maxRecDepth 100000 in
set_option maxHeartbeats 4000000 in
theorem ct_X4_signAt {mi : MemI} {ml : MemL} {x : Int32}  : k_Ct k_KS k_R0 Mt_X4_signAt 0 [vR (4, 0, 0), vI x] mi ml (k_rt (some (vI (f_X4_signAt mi x))) mi ml) := by
  refine k_ofV (L0 := [vR (4, 0, 0), vI x]) (by decide +kernel) (Nat.le_of_ble_eq_true rfl) rfl rfl ?_
  intro p l e s m args below meth c D cy ad bs C
  refine k_iload_n (pc := 0) C dX4_signAt_0 rfl ?_
  refine k_if_lt (pc := 1) C 30 dX4_signAt_1 (by decide) (fun c1 => ?_) (fun c1 => ?_)
  · skip
    refine k_iconst (pc := 30) (v := (-1)) C dX4_signAt_30 (by decide) ?_
    exact k_iret (pc := 31) C rfl (k_fI (by unfold f_X4_signAt; rw [if_pos c1]; try rfl)) dX4_signAt_31
  · skip
    refine k_iload_n (pc := 4) C dX4_signAt_4 rfl ?_
    refine k_aload_n (pc := 5) C dX4_signAt_5 rfl ?_
    refine k_getI (pc := 6) C fl_X4_24 k_in4 rfl rfl dX4_signAt_6 ?_
    refine k_icmp_ge (pc := 9) C 30 dX4_signAt_9 (by decide) (fun c9 => ?_) (fun c9 => ?_)
    · skip
      refine k_iconst (pc := 30) (v := (-1)) C dX4_signAt_30 (by decide) ?_
      exact k_iret (pc := 31) C rfl (k_fI (by unfold f_X4_signAt; rw [if_neg c1, if_pos c9]; try rfl)) dX4_signAt_31
    · skip
      refine k_iload_n (pc := 12) C dX4_signAt_12 rfl ?_
      refine k_aload_n (pc := 13) C dX4_signAt_13 rfl ?_
      refine k_getR (pc := 14) (r := some (8, 101, 0)) C fl_X4_9 k_in4 rfl rfl rfl dX4_signAt_14 ?_
      refine k_alen (pc := 17) (v := 160) C (by decide +kernel) ⟨Nat.le_of_ble_eq_true rfl, Nat.le_of_ble_eq_true rfl⟩ rfl dX4_signAt_17 ?_
      refine k_icmp_ge (pc := 18) C 30 dX4_signAt_18 (by decide) (fun c18 => ?_) (fun c18 => ?_)
      · skip
        refine k_iconst (pc := 30) (v := (-1)) C dX4_signAt_30 (by decide) ?_
        exact k_iret (pc := 31) C rfl (k_fI (by unfold f_X4_signAt; rw [if_neg c1, if_neg c9, if_pos c18]; try rfl)) dX4_signAt_31
      · skip
        refine k_aload_n (pc := 21) C dX4_signAt_21 rfl ?_
        refine k_getR (pc := 22) (r := some (8, 101, 0)) C fl_X4_9 k_in4 rfl rfl rfl dX4_signAt_22 ?_
        refine k_iload_n (pc := 25) C dX4_signAt_25 rfl ?_
        refine k_ialdX (pc := 26) (j := x.toNatClampNeg) C rfl (by decide +kernel) rfl (k_vin (N := 160) (n := 160) c1 c18 (by decide)) dX4_signAt_26 ?_
        refine k_goto (pc := 27) C 31 dX4_signAt_27 (by decide) ?_
        exact k_iret (pc := 31) C rfl (k_fI (by unfold f_X4_signAt; rw [if_neg c1, if_neg c9, if_neg c18]; try rfl)) dX4_signAt_31
def f_X4_isDigit (mi : MemI) (x : Int32) : Int32 :=
  if (f_X4_signAt mi x) < 48 then 0
  else if 57 < (f_X4_signAt mi x) then 0
    else 1
theorem z_X4_isDigit {mi : MemI} {x : Int32}  : (f_X4_isDigit mi x) = 0 ∨ (f_X4_isDigit mi x) = 1 := by
  unfold f_X4_isDigit
  by_cases zh1 : (f_X4_signAt mi x) < 48
  · rw [if_pos zh1]
    exact (Or.inl rfl)
  · rw [if_neg zh1]
    by_cases zh2 : 57 < (f_X4_signAt mi x)
    · rw [if_pos zh2]
      exact (Or.inl rfl)
    · rw [if_neg zh2]
      exact (Or.inr rfl)
set_option maxRecDepth 100000 in
set_option maxHeartbeats 4000000 in
theorem ct_X4_isDigit {mi : MemI} {ml : MemL} {x : Int32}  : k_Ct k_KS k_R0 Mt_X4_isDigit 1 [vR (4, 0, 0), vI x] mi ml (k_rt (some (vI (f_X4_isDigit mi x))) mi ml) := by
  refine k_ofV (L0 := [vR (4, 0, 0), vI x]) (by decide +kernel) (Nat.le_of_ble_eq_true rfl) rfl rfl ?_
  intro p l e s m args below meth c D cy ad bs C
  refine k_aload_n (pc := 0) C dX4_isDigit_0 rfl ?_
  refine k_iload_n (pc := 1) C dX4_isDigit_1 rfl ?_
  refine k_call1 (pc := 2) C cv_X4_134 ct_X4_signAt k_in4 rfl (by decide) rfl (Nat.le_of_ble_eq_true rfl) dX4_isDigit_2 ?_
  refine k_bipush (pc := 5) (v := 48) C dX4_isDigit_5 (by decide) ?_
  refine k_icmp_lt (pc := 7) C 24 dX4_isDigit_7 (by decide) (fun c7 => ?_) (fun c7 => ?_)
  · skip
    refine k_iconst (pc := 24) (v := 0) C dX4_isDigit_24 (by decide) ?_
    exact k_zret (pc := 25) C rfl (Or.inl rfl) (k_fI (by unfold f_X4_isDigit; rw [if_pos c7]; try rfl)) dX4_isDigit_25
  · skip
    refine k_aload_n (pc := 10) C dX4_isDigit_10 rfl ?_
    refine k_iload_n (pc := 11) C dX4_isDigit_11 rfl ?_
    refine k_call1 (pc := 12) C cv_X4_134 ct_X4_signAt k_in4 rfl (by decide) rfl (Nat.le_of_ble_eq_true rfl) dX4_isDigit_12 ?_
    refine k_bipush (pc := 15) (v := 57) C dX4_isDigit_15 (by decide) ?_
    refine k_icmp_gt (pc := 17) C 24 dX4_isDigit_17 (by decide) (fun c17 => ?_) (fun c17 => ?_)
    · skip
      refine k_iconst (pc := 24) (v := 0) C dX4_isDigit_24 (by decide) ?_
      exact k_zret (pc := 25) C rfl (Or.inl rfl) (k_fI (by unfold f_X4_isDigit; rw [if_neg c7, if_pos c17]; try rfl)) dX4_isDigit_25
    · skip
      refine k_iconst (pc := 20) (v := 1) C dX4_isDigit_20 (by decide) ?_
      refine k_goto (pc := 21) C 25 dX4_isDigit_21 (by decide) ?_
      exact k_zret (pc := 25) C rfl (Or.inr rfl) (k_fI (by unfold f_X4_isDigit; rw [if_neg c7, if_neg c17]; try rfl)) dX4_isDigit_25
def f_X4_failAt (mi : MemI) (x : Int32) : Int32 × MemI :=
  (0, k_ui mi (4, 0, 0) 3 x)
theorem z_X4_failAt {mi : MemI} {x : Int32}  : (f_X4_failAt mi x).1 = 0 ∨ (f_X4_failAt mi x).1 = 1 := by
  unfold f_X4_failAt
  exact (Or.inl rfl)
set_option maxRecDepth 100000 in
set_option maxHeartbeats 4000000 in
theorem ct_X4_failAt {mi : MemI} {ml : MemL} {x : Int32}  : k_Ct k_KS k_R0 Mt_X4_failAt 0 [vR (4, 0, 0), vI x] mi ml (k_rt (some (vI (f_X4_failAt mi x).1)) (f_X4_failAt mi x).2 ml) := by
  refine k_ofV (L0 := [vR (4, 0, 0), vI x]) (by decide +kernel) (Nat.le_of_ble_eq_true rfl) rfl rfl ?_
  intro p l e s m args below meth c D cy ad bs C
  refine k_aload_n (pc := 0) C dX4_failAt_0 rfl ?_
  refine k_iload_n (pc := 1) C dX4_failAt_1 rfl ?_
  refine k_putI (pc := 2) C pl_X4_15 k_in4 rfl rfl dX4_failAt_2 ?_
  refine k_iconst (pc := 5) (v := 0) C dX4_failAt_5 (by decide) ?_
  exact k_zret (pc := 6) C rfl (Or.inl rfl) (k_fIm rfl) dX4_failAt_6
def f_X4_readSign (mi : MemI) (x : Int32) : Int32 × MemI :=
  if (f_X4_signAt mi (mi (4, 0, 0) 2)) = x then (1, k_ui mi (4, 0, 0) 2 ((mi (4, 0, 0) 2) + 1))
  else ((f_X4_failAt mi (mi (4, 0, 0) 2)).1, (f_X4_failAt mi (mi (4, 0, 0) 2)).2)
theorem z_X4_readSign {mi : MemI} {x : Int32}  : (f_X4_readSign mi x).1 = 0 ∨ (f_X4_readSign mi x).1 = 1 := by
  unfold f_X4_readSign
  by_cases zh1 : (f_X4_signAt mi (mi (4, 0, 0) 2)) = x
  · rw [if_pos zh1]
    exact (Or.inr rfl)
  · rw [if_neg zh1]
    try dsimp only
    exact z_X4_failAt
set_option maxRecDepth 100000 in
set_option maxHeartbeats 4000000 in
theorem ct_X4_readSign {mi : MemI} {ml : MemL} {x : Int32}  : k_Ct k_KS k_R0 Mt_X4_readSign 1 [vR (4, 0, 0), vI x] mi ml (k_rt (some (vI (f_X4_readSign mi x).1)) (f_X4_readSign mi x).2 ml) := by
  refine k_ofV (L0 := [vR (4, 0, 0), vI x]) (by decide +kernel) (Nat.le_of_ble_eq_true rfl) rfl rfl ?_
  intro p l e s m args below meth c D cy ad bs C
  refine k_aload_n (pc := 0) C dX4_readSign_0 rfl ?_
  refine k_aload_n (pc := 1) C dX4_readSign_1 rfl ?_
  refine k_getI (pc := 2) C fl_X4_29 k_in4 rfl rfl dX4_readSign_2 ?_
  refine k_call1 (pc := 5) C cv_X4_134 ct_X4_signAt k_in4 rfl (by decide) rfl (Nat.le_of_ble_eq_true rfl) dX4_readSign_5 ?_
  refine k_iload_n (pc := 8) C dX4_readSign_8 rfl ?_
  refine k_icmp_eq (pc := 9) C 21 dX4_readSign_9 (by decide) (fun c9 => ?_) (fun c9 => ?_)
  · skip
    refine k_aload_n (pc := 21) C dX4_readSign_21 rfl ?_
    refine k_dup (pc := 22) C dX4_readSign_22 rfl ?_
    refine k_getI (pc := 23) C fl_X4_29 k_in4 rfl rfl dX4_readSign_23 ?_
    refine k_iconst (pc := 26) (v := 1) C dX4_readSign_26 (by decide) ?_
    refine k_iadd (pc := 27) C dX4_readSign_27 ?_
    refine k_putI (pc := 28) C pl_X4_29 k_in4 rfl rfl dX4_readSign_28 ?_
    refine k_iconst (pc := 31) (v := 1) C dX4_readSign_31 (by decide) ?_
    exact k_zret (pc := 32) C rfl (Or.inr rfl) (k_fIm (by unfold f_X4_readSign; rw [if_pos c9]; try rfl)) dX4_readSign_32
  · skip
    refine k_aload_n (pc := 12) C dX4_readSign_12 rfl ?_
    refine k_aload_n (pc := 13) C dX4_readSign_13 rfl ?_
    refine k_getI (pc := 14) C fl_X4_29 k_in4 rfl rfl dX4_readSign_14 ?_
    refine k_call1 (pc := 17) C cv_X4_69 ct_X4_failAt k_in4 rfl (by decide) rfl (Nat.le_of_ble_eq_true rfl) dX4_readSign_17 ?_
    exact k_zret (pc := 20) C rfl z_X4_failAt (k_fIm (by unfold f_X4_readSign; rw [if_neg c9]; try rfl)) dX4_readSign_20
def f_X4_readNumber (mi : MemI) (lo : Int32) (hi0 : Int32) : Int32 × MemI :=
  if ((f_X4_readSign mi 32).1) = 0 then ((-1), (f_X4_readSign mi 32).2)
  else if (f_X4_isDigit ((f_X4_readSign mi 32).2) (((f_X4_readSign mi 32).2) (4, 0, 0) 2)) = 0 then ((-1), (f_X4_failAt ((f_X4_readSign mi 32).2) (((f_X4_readSign mi 32).2) (4, 0, 0) 2)).2)
    else if (f_X4_isDigit (k_ui ((f_X4_readSign mi 32).2) (4, 0, 0) 2 ((((f_X4_readSign mi 32).2) (4, 0, 0) 2) + 1)) ((k_ui ((f_X4_readSign mi 32).2) (4, 0, 0) 2 ((((f_X4_readSign mi 32).2) (4, 0, 0) 2) + 1)) (4, 0, 0) 2)) = 0 then if (f_X6_isOutside ((f_X4_signAt ((f_X4_readSign mi 32).2) (((f_X4_readSign mi 32).2) (4, 0, 0) 2)) - 48) lo hi0) = 0 then ((f_X4_signAt ((f_X4_readSign mi 32).2) (((f_X4_readSign mi 32).2) (4, 0, 0) 2)) - 48, k_ui ((f_X4_readSign mi 32).2) (4, 0, 0) 2 ((((f_X4_readSign mi 32).2) (4, 0, 0) 2) + 1))
        else ((-1), (f_X4_failAt (k_ui ((f_X4_readSign mi 32).2) (4, 0, 0) 2 ((((f_X4_readSign mi 32).2) (4, 0, 0) 2) + 1)) (((f_X4_readSign mi 32).2) (4, 0, 0) 2)).2)
      else if (f_X6_isOutside (((((f_X4_signAt ((f_X4_readSign mi 32).2) (((f_X4_readSign mi 32).2) (4, 0, 0) 2)) - 48) * 10) + (f_X4_signAt (k_ui ((f_X4_readSign mi 32).2) (4, 0, 0) 2 ((((f_X4_readSign mi 32).2) (4, 0, 0) 2) + 1)) ((k_ui ((f_X4_readSign mi 32).2) (4, 0, 0) 2 ((((f_X4_readSign mi 32).2) (4, 0, 0) 2) + 1)) (4, 0, 0) 2))) - 48) lo hi0) = 0 then (((((f_X4_signAt ((f_X4_readSign mi 32).2) (((f_X4_readSign mi 32).2) (4, 0, 0) 2)) - 48) * 10) + (f_X4_signAt (k_ui ((f_X4_readSign mi 32).2) (4, 0, 0) 2 ((((f_X4_readSign mi 32).2) (4, 0, 0) 2) + 1)) ((k_ui ((f_X4_readSign mi 32).2) (4, 0, 0) 2 ((((f_X4_readSign mi 32).2) (4, 0, 0) 2) + 1)) (4, 0, 0) 2))) - 48, k_ui (k_ui ((f_X4_readSign mi 32).2) (4, 0, 0) 2 ((((f_X4_readSign mi 32).2) (4, 0, 0) 2) + 1)) (4, 0, 0) 2 (((k_ui ((f_X4_readSign mi 32).2) (4, 0, 0) 2 ((((f_X4_readSign mi 32).2) (4, 0, 0) 2) + 1)) (4, 0, 0) 2) + 1))
        else ((-1), (f_X4_failAt (k_ui (k_ui ((f_X4_readSign mi 32).2) (4, 0, 0) 2 ((((f_X4_readSign mi 32).2) (4, 0, 0) 2) + 1)) (4, 0, 0) 2 (((k_ui ((f_X4_readSign mi 32).2) (4, 0, 0) 2 ((((f_X4_readSign mi 32).2) (4, 0, 0) 2) + 1)) (4, 0, 0) 2) + 1)) (((f_X4_readSign mi 32).2) (4, 0, 0) 2)).2)
set_option maxRecDepth 100000 in
set_option maxHeartbeats 4000000 in
theorem ct_X4_readNumber {mi : MemI} {ml : MemL} {lo : Int32} {hi0 : Int32}  : k_Ct k_KS k_R0 Mt_X4_readNumber 2 [vR (4, 0, 0), vI lo, vI hi0] mi ml (k_rt (some (vI (f_X4_readNumber mi lo hi0).1)) (f_X4_readNumber mi lo hi0).2 ml) := by
  refine k_ofV (L0 := [vR (4, 0, 0), vI lo, vI hi0, vU, vU]) (by decide +kernel) (Nat.le_of_ble_eq_true rfl) rfl rfl ?_
  intro p l e s m args below meth c D cy ad bs C
  refine k_aload_n (pc := 0) C dX4_readNumber_0 rfl ?_
  refine k_bipush (pc := 1) (v := 32) C dX4_readNumber_1 (by decide) ?_
  refine k_call1 (pc := 3) C cv_X4_36 ct_X4_readSign k_in4 rfl (by decide) rfl (Nat.le_of_ble_eq_true rfl) dX4_readNumber_3 ?_
  refine k_if_ne (pc := 6) C 11 dX4_readNumber_6 (by decide) (fun c6 => ?_) (fun c6 => ?_)
  · skip
    refine k_aload_n (pc := 11) C dX4_readNumber_11 rfl ?_
    refine k_getI (pc := 12) C fl_X4_29 k_in4 rfl rfl dX4_readNumber_12 ?_
    refine k_istore_3 (pc := 15) C dX4_readNumber_15 rfl ?_
    refine k_aload_n (pc := 16) C dX4_readNumber_16 rfl ?_
    refine k_aload_n (pc := 17) C dX4_readNumber_17 rfl ?_
    refine k_getI (pc := 18) C fl_X4_29 k_in4 rfl rfl dX4_readNumber_18 ?_
    refine k_call1 (pc := 21) C cv_X4_141 ct_X4_isDigit k_in4 rfl (by decide) rfl (Nat.le_of_ble_eq_true rfl) dX4_readNumber_21 ?_
    refine k_if_ne (pc := 24) C 38 dX4_readNumber_24 (by decide) (fun c24 => ?_) (fun c24 => ?_)
    · skip
      refine k_aload_n (pc := 38) C dX4_readNumber_38 rfl ?_
      refine k_aload_n (pc := 39) C dX4_readNumber_39 rfl ?_
      refine k_getI (pc := 40) C fl_X4_29 k_in4 rfl rfl dX4_readNumber_40 ?_
      refine k_call1 (pc := 43) C cv_X4_134 ct_X4_signAt k_in4 rfl (by decide) rfl (Nat.le_of_ble_eq_true rfl) dX4_readNumber_43 ?_
      refine k_bipush (pc := 46) (v := 48) C dX4_readNumber_46 (by decide) ?_
      refine k_isub (pc := 48) C dX4_readNumber_48 ?_
      refine k_istore_4 (pc := 49) C dX4_readNumber_49 rfl ?_
      refine k_aload_n (pc := 51) C dX4_readNumber_51 rfl ?_
      refine k_dup (pc := 52) C dX4_readNumber_52 rfl ?_
      refine k_getI (pc := 53) C fl_X4_29 k_in4 rfl rfl dX4_readNumber_53 ?_
      refine k_iconst (pc := 56) (v := 1) C dX4_readNumber_56 (by decide) ?_
      refine k_iadd (pc := 57) C dX4_readNumber_57 ?_
      refine k_putI (pc := 58) C pl_X4_29 k_in4 rfl rfl dX4_readNumber_58 ?_
      refine k_aload_n (pc := 61) C dX4_readNumber_61 rfl ?_
      refine k_aload_n (pc := 62) C dX4_readNumber_62 rfl ?_
      refine k_getI (pc := 63) C fl_X4_29 k_in4 rfl rfl dX4_readNumber_63 ?_
      refine k_call1 (pc := 66) C cv_X4_141 ct_X4_isDigit k_in4 rfl (by decide) rfl (Nat.le_of_ble_eq_true rfl) dX4_readNumber_66 ?_
      refine k_if_eq (pc := 69) C 101 dX4_readNumber_69 (by decide) (fun c69 => ?_) (fun c69 => ?_)
      · skip
        refine k_iload (pc := 101) C dX4_readNumber_101 rfl ?_
        refine k_iload_n (pc := 103) C dX4_readNumber_103 rfl ?_
        refine k_iload_n (pc := 104) C dX4_readNumber_104 rfl ?_
        refine k_calls3 (pc := 105) C cs_X4_144 ct_X6_isOutside (by decide) rfl (Nat.le_of_ble_eq_true rfl) dX4_readNumber_105 ?_
        refine k_if_eq (pc := 108) C 119 dX4_readNumber_108 (by decide) (fun c108 => ?_) (fun c108 => ?_)
        · skip
          refine k_iload (pc := 119) C dX4_readNumber_119 rfl ?_
          exact k_iret (pc := 121) C rfl (k_fIm (by unfold f_X4_readNumber; rw [if_neg c6, if_neg c24, if_pos c69, if_pos c108]; try rfl)) dX4_readNumber_121
        · skip
          refine k_aload_n (pc := 111) C dX4_readNumber_111 rfl ?_
          refine k_iload_n (pc := 112) C dX4_readNumber_112 rfl ?_
          refine k_call1 (pc := 113) C cv_X4_69 ct_X4_failAt k_in4 rfl (by decide) rfl (Nat.le_of_ble_eq_true rfl) dX4_readNumber_113 ?_
          refine k_pop (pc := 116) C dX4_readNumber_116 rfl ?_
          refine k_iconst (pc := 117) (v := (-1)) C dX4_readNumber_117 (by decide) ?_
          exact k_iret (pc := 118) C rfl (k_fIm (by unfold f_X4_readNumber; rw [if_neg c6, if_neg c24, if_pos c69, if_neg c108]; try rfl)) dX4_readNumber_118
      · skip
        refine k_iload (pc := 72) C dX4_readNumber_72 rfl ?_
        refine k_bipush (pc := 74) (v := 10) C dX4_readNumber_74 (by decide) ?_
        refine k_imul (pc := 76) C dX4_readNumber_76 ?_
        refine k_aload_n (pc := 77) C dX4_readNumber_77 rfl ?_
        refine k_aload_n (pc := 78) C dX4_readNumber_78 rfl ?_
        refine k_getI (pc := 79) C fl_X4_29 k_in4 rfl rfl dX4_readNumber_79 ?_
        refine k_call1 (pc := 82) C cv_X4_134 ct_X4_signAt k_in4 rfl (by decide) rfl (Nat.le_of_ble_eq_true rfl) dX4_readNumber_82 ?_
        refine k_iadd (pc := 85) C dX4_readNumber_85 ?_
        refine k_bipush (pc := 86) (v := 48) C dX4_readNumber_86 (by decide) ?_
        refine k_isub (pc := 88) C dX4_readNumber_88 ?_
        refine k_istore_4 (pc := 89) C dX4_readNumber_89 rfl ?_
        refine k_aload_n (pc := 91) C dX4_readNumber_91 rfl ?_
        refine k_dup (pc := 92) C dX4_readNumber_92 rfl ?_
        refine k_getI (pc := 93) C fl_X4_29 k_in4 rfl rfl dX4_readNumber_93 ?_
        refine k_iconst (pc := 96) (v := 1) C dX4_readNumber_96 (by decide) ?_
        refine k_iadd (pc := 97) C dX4_readNumber_97 ?_
        refine k_putI (pc := 98) C pl_X4_29 k_in4 rfl rfl dX4_readNumber_98 ?_
        refine k_iload (pc := 101) C dX4_readNumber_101 rfl ?_
        refine k_iload_n (pc := 103) C dX4_readNumber_103 rfl ?_
        refine k_iload_n (pc := 104) C dX4_readNumber_104 rfl ?_
        refine k_calls3 (pc := 105) C cs_X4_144 ct_X6_isOutside (by decide) rfl (Nat.le_of_ble_eq_true rfl) dX4_readNumber_105 ?_
        refine k_if_eq (pc := 108) C 119 dX4_readNumber_108 (by decide) (fun c108 => ?_) (fun c108 => ?_)
        · skip
          refine k_iload (pc := 119) C dX4_readNumber_119 rfl ?_
          exact k_iret (pc := 121) C rfl (k_fIm (by unfold f_X4_readNumber; rw [if_neg c6, if_neg c24, if_neg c69, if_pos c108]; try rfl)) dX4_readNumber_121
        · skip
          refine k_aload_n (pc := 111) C dX4_readNumber_111 rfl ?_
          refine k_iload_n (pc := 112) C dX4_readNumber_112 rfl ?_
          refine k_call1 (pc := 113) C cv_X4_69 ct_X4_failAt k_in4 rfl (by decide) rfl (Nat.le_of_ble_eq_true rfl) dX4_readNumber_113 ?_
          refine k_pop (pc := 116) C dX4_readNumber_116 rfl ?_
          refine k_iconst (pc := 117) (v := (-1)) C dX4_readNumber_117 (by decide) ?_
          exact k_iret (pc := 118) C rfl (k_fIm (by unfold f_X4_readNumber; rw [if_neg c6, if_neg c24, if_neg c69, if_neg c108]; try rfl)) dX4_readNumber_118
    · skip
      refine k_aload_n (pc := 27) C dX4_readNumber_27 rfl ?_
      refine k_aload_n (pc := 28) C dX4_readNumber_28 rfl ?_
      refine k_getI (pc := 29) C fl_X4_29 k_in4 rfl rfl dX4_readNumber_29 ?_
      refine k_call1 (pc := 32) C cv_X4_69 ct_X4_failAt k_in4 rfl (by decide) rfl (Nat.le_of_ble_eq_true rfl) dX4_readNumber_32 ?_
      refine k_pop (pc := 35) C dX4_readNumber_35 rfl ?_
      refine k_iconst (pc := 36) (v := (-1)) C dX4_readNumber_36 (by decide) ?_
      exact k_iret (pc := 37) C rfl (k_fIm (by unfold f_X4_readNumber; rw [if_neg c6, if_pos c24]; try rfl)) dX4_readNumber_37
  · skip
    refine k_iconst (pc := 9) (v := (-1)) C dX4_readNumber_9 (by decide) ?_
    exact k_iret (pc := 10) C rfl (k_fIm (by unfold f_X4_readNumber; rw [if_pos c6]; try rfl)) dX4_readNumber_10
def f_X4_hasRoom (mi : MemI) (n : Int32) (x : Int32) : Int32 × MemI :=
  if n < 6 then (1, mi)
  else if ((f_X4_failAt mi x).1) = 0 then (0, (f_X4_failAt mi x).2)
    else (1, (f_X4_failAt mi x).2)
theorem z_X4_hasRoom {mi : MemI} {n : Int32} {x : Int32}  : (f_X4_hasRoom mi n x).1 = 0 ∨ (f_X4_hasRoom mi n x).1 = 1 := by
  unfold f_X4_hasRoom
  by_cases zh1 : n < 6
  · rw [if_pos zh1]
    exact (Or.inr rfl)
  · rw [if_neg zh1]
    by_cases zh2 : ((f_X4_failAt mi x).1) = 0
    · rw [if_pos zh2]
      exact (Or.inl rfl)
    · rw [if_neg zh2]
      exact (Or.inr rfl)
set_option maxRecDepth 100000 in
set_option maxHeartbeats 4000000 in
theorem ct_X4_hasRoom {mi : MemI} {ml : MemL} {n : Int32} {x : Int32}  : k_Ct k_KS k_R0 Mt_X4_hasRoom 1 [vR (4, 0, 0), vI n, vI x] mi ml (k_rt (some (vI (f_X4_hasRoom mi n x).1)) (f_X4_hasRoom mi n x).2 ml) := by
  refine k_ofV (L0 := [vR (4, 0, 0), vI n, vI x]) (by decide +kernel) (Nat.le_of_ble_eq_true rfl) rfl rfl ?_
  intro p l e s m args below meth c D cy ad bs C
  refine k_iload_n (pc := 0) C dX4_hasRoom_0 rfl ?_
  refine k_bipush (pc := 1) (v := 6) C dX4_hasRoom_1 (by decide) ?_
  refine k_icmp_lt (pc := 3) C 14 dX4_hasRoom_3 (by decide) (fun c3 => ?_) (fun c3 => ?_)
  · skip
    refine k_iconst (pc := 14) (v := 1) C dX4_hasRoom_14 (by decide) ?_
    refine k_goto (pc := 15) C 19 dX4_hasRoom_15 (by decide) ?_
    exact k_zret (pc := 19) C rfl (Or.inr rfl) (k_fIm (by unfold f_X4_hasRoom; rw [if_pos c3]; try rfl)) dX4_hasRoom_19
  · skip
    refine k_aload_n (pc := 6) C dX4_hasRoom_6 rfl ?_
    refine k_iload_n (pc := 7) C dX4_hasRoom_7 rfl ?_
    refine k_call1 (pc := 8) C cv_X4_69 ct_X4_failAt k_in4 rfl (by decide) rfl (Nat.le_of_ble_eq_true rfl) dX4_hasRoom_8 ?_
    refine k_if_eq (pc := 11) C 18 dX4_hasRoom_11 (by decide) (fun c11 => ?_) (fun c11 => ?_)
    · skip
      refine k_iconst (pc := 18) (v := 0) C dX4_hasRoom_18 (by decide) ?_
      exact k_zret (pc := 19) C rfl (Or.inl rfl) (k_fIm (by unfold f_X4_hasRoom; rw [if_neg c3, if_pos c11]; try rfl)) dX4_hasRoom_19
    · skip
      refine k_iconst (pc := 14) (v := 1) C dX4_hasRoom_14 (by decide) ?_
      refine k_goto (pc := 15) C 19 dX4_hasRoom_15 (by decide) ?_
      exact k_zret (pc := 19) C rfl (Or.inr rfl) (k_fIm (by unfold f_X4_hasRoom; rw [if_neg c3, if_neg c11]; try rfl)) dX4_hasRoom_19
def f_X4_readCitizen (mi : MemI) : Int32 × MemI :=
  if ((f_X4_readNumber mi 0 6).1) = (-1) then (0, (f_X4_readNumber mi 0 6).2)
  else if ((f_X4_readNumber ((f_X4_readNumber mi 0 6).2) 0 9).1) = (-1) then (0, (f_X4_readNumber ((f_X4_readNumber mi 0 6).2) 0 9).2)
    else if ((f_X4_readNumber ((f_X4_readNumber ((f_X4_readNumber mi 0 6).2) 0 9).2) 0 99).1) = (-1) then (0, (f_X4_readNumber ((f_X4_readNumber ((f_X4_readNumber mi 0 6).2) 0 9).2) 0 99).2)
      else if ((f_X4_readNumber ((f_X4_readNumber ((f_X4_readNumber ((f_X4_readNumber mi 0 6).2) 0 9).2) 0 99).2) 0 20).1) = (-1) then (0, (f_X4_readNumber ((f_X4_readNumber ((f_X4_readNumber ((f_X4_readNumber mi 0 6).2) 0 9).2) 0 99).2) 0 20).2)
        else if ((f_X2_addCitizen ((f_X4_readNumber ((f_X4_readNumber ((f_X4_readNumber ((f_X4_readNumber mi 0 6).2) 0 9).2) 0 99).2) 0 20).2) 1 ((f_X4_readNumber mi 0 6).1) ((f_X4_readNumber ((f_X4_readNumber mi 0 6).2) 0 9).1) ((f_X4_readNumber ((f_X4_readNumber ((f_X4_readNumber mi 0 6).2) 0 9).2) 0 99).1) ((f_X4_readNumber ((f_X4_readNumber ((f_X4_readNumber ((f_X4_readNumber mi 0 6).2) 0 9).2) 0 99).2) 0 20).1)).1) = (-1) then (0, (f_X2_addCitizen ((f_X4_readNumber ((f_X4_readNumber ((f_X4_readNumber ((f_X4_readNumber mi 0 6).2) 0 9).2) 0 99).2) 0 20).2) 1 ((f_X4_readNumber mi 0 6).1) ((f_X4_readNumber ((f_X4_readNumber mi 0 6).2) 0 9).1) ((f_X4_readNumber ((f_X4_readNumber ((f_X4_readNumber mi 0 6).2) 0 9).2) 0 99).1) ((f_X4_readNumber ((f_X4_readNumber ((f_X4_readNumber ((f_X4_readNumber mi 0 6).2) 0 9).2) 0 99).2) 0 20).1)).2)
          else (1, (f_X2_addCitizen ((f_X4_readNumber ((f_X4_readNumber ((f_X4_readNumber ((f_X4_readNumber mi 0 6).2) 0 9).2) 0 99).2) 0 20).2) 1 ((f_X4_readNumber mi 0 6).1) ((f_X4_readNumber ((f_X4_readNumber mi 0 6).2) 0 9).1) ((f_X4_readNumber ((f_X4_readNumber ((f_X4_readNumber mi 0 6).2) 0 9).2) 0 99).1) ((f_X4_readNumber ((f_X4_readNumber ((f_X4_readNumber ((f_X4_readNumber mi 0 6).2) 0 9).2) 0 99).2) 0 20).1)).2)
theorem z_X4_readCitizen {mi : MemI}  : (f_X4_readCitizen mi).1 = 0 ∨ (f_X4_readCitizen mi).1 = 1 := by
  unfold f_X4_readCitizen
  by_cases zh1 : ((f_X4_readNumber mi 0 6).1) = (-1)
  · rw [if_pos zh1]
    exact (Or.inl rfl)
  · rw [if_neg zh1]
    by_cases zh2 : ((f_X4_readNumber ((f_X4_readNumber mi 0 6).2) 0 9).1) = (-1)
    · rw [if_pos zh2]
      exact (Or.inl rfl)
    · rw [if_neg zh2]
      by_cases zh3 : ((f_X4_readNumber ((f_X4_readNumber ((f_X4_readNumber mi 0 6).2) 0 9).2) 0 99).1) = (-1)
      · rw [if_pos zh3]
        exact (Or.inl rfl)
      · rw [if_neg zh3]
        by_cases zh4 : ((f_X4_readNumber ((f_X4_readNumber ((f_X4_readNumber ((f_X4_readNumber mi 0 6).2) 0 9).2) 0 99).2) 0 20).1) = (-1)
        · rw [if_pos zh4]
          exact (Or.inl rfl)
        · rw [if_neg zh4]
          by_cases zh5 : ((f_X2_addCitizen ((f_X4_readNumber ((f_X4_readNumber ((f_X4_readNumber ((f_X4_readNumber mi 0 6).2) 0 9).2) 0 99).2) 0 20).2) 1 ((f_X4_readNumber mi 0 6).1) ((f_X4_readNumber ((f_X4_readNumber mi 0 6).2) 0 9).1) ((f_X4_readNumber ((f_X4_readNumber ((f_X4_readNumber mi 0 6).2) 0 9).2) 0 99).1) ((f_X4_readNumber ((f_X4_readNumber ((f_X4_readNumber ((f_X4_readNumber mi 0 6).2) 0 9).2) 0 99).2) 0 20).1)).1) = (-1)
          · rw [if_pos zh5]
            exact (Or.inl rfl)
          · rw [if_neg zh5]
            exact (Or.inr rfl)
set_option maxRecDepth 100000 in
set_option maxHeartbeats 4000000 in
theorem ct_X4_readCitizen {mi : MemI} {ml : MemL}   : k_Ct k_KS k_R0 Mt_X4_readCitizen 3 [vR (4, 0, 0), vR (2, 1, 0)] mi ml (k_rt (some (vI (f_X4_readCitizen mi).1)) (f_X4_readCitizen mi).2 ml) := by
  refine k_ofV (L0 := [vR (4, 0, 0), vR (2, 1, 0), vU, vU, vU, vU]) (by decide +kernel) (Nat.le_of_ble_eq_true rfl) rfl rfl ?_
  intro p l e s m args below meth c D cy ad bs C
  refine k_aload_n (pc := 0) C dX4_readCitizen_0 rfl ?_
  refine k_iconst (pc := 1) (v := 0) C dX4_readCitizen_1 (by decide) ?_
  refine k_bipush (pc := 2) (v := 6) C dX4_readCitizen_2 (by decide) ?_
  refine k_call2 (pc := 4) C cv_X4_73 ct_X4_readNumber k_in4 rfl (by decide) rfl (Nat.le_of_ble_eq_true rfl) dX4_readCitizen_4 ?_
  refine k_istore_2 (pc := 7) C dX4_readCitizen_7 rfl ?_
  refine k_iload_n (pc := 8) C dX4_readCitizen_8 rfl ?_
  refine k_iconst (pc := 9) (v := (-1)) C dX4_readCitizen_9 (by decide) ?_
  refine k_icmp_ne (pc := 10) C 17 dX4_readCitizen_10 (by decide) (fun c10 => ?_) (fun c10 => ?_)
  · skip
    refine k_aload_n (pc := 17) C dX4_readCitizen_17 rfl ?_
    refine k_iconst (pc := 18) (v := 0) C dX4_readCitizen_18 (by decide) ?_
    refine k_bipush (pc := 19) (v := 9) C dX4_readCitizen_19 (by decide) ?_
    refine k_call2 (pc := 21) C cv_X4_73 ct_X4_readNumber k_in4 rfl (by decide) rfl (Nat.le_of_ble_eq_true rfl) dX4_readCitizen_21 ?_
    refine k_istore_3 (pc := 24) C dX4_readCitizen_24 rfl ?_
    refine k_iload_n (pc := 25) C dX4_readCitizen_25 rfl ?_
    refine k_iconst (pc := 26) (v := (-1)) C dX4_readCitizen_26 (by decide) ?_
    refine k_icmp_ne (pc := 27) C 34 dX4_readCitizen_27 (by decide) (fun c27 => ?_) (fun c27 => ?_)
    · skip
      refine k_aload_n (pc := 34) C dX4_readCitizen_34 rfl ?_
      refine k_iconst (pc := 35) (v := 0) C dX4_readCitizen_35 (by decide) ?_
      refine k_bipush (pc := 36) (v := 99) C dX4_readCitizen_36 (by decide) ?_
      refine k_call2 (pc := 38) C cv_X4_73 ct_X4_readNumber k_in4 rfl (by decide) rfl (Nat.le_of_ble_eq_true rfl) dX4_readCitizen_38 ?_
      refine k_istore_4 (pc := 41) C dX4_readCitizen_41 rfl ?_
      refine k_iload (pc := 43) C dX4_readCitizen_43 rfl ?_
      refine k_iconst (pc := 45) (v := (-1)) C dX4_readCitizen_45 (by decide) ?_
      refine k_icmp_ne (pc := 46) C 53 dX4_readCitizen_46 (by decide) (fun c46 => ?_) (fun c46 => ?_)
      · skip
        refine k_aload_n (pc := 53) C dX4_readCitizen_53 rfl ?_
        refine k_iconst (pc := 54) (v := 0) C dX4_readCitizen_54 (by decide) ?_
        refine k_bipush (pc := 55) (v := 20) C dX4_readCitizen_55 (by decide) ?_
        refine k_call2 (pc := 57) C cv_X4_73 ct_X4_readNumber k_in4 rfl (by decide) rfl (Nat.le_of_ble_eq_true rfl) dX4_readCitizen_57 ?_
        refine k_istore_5 (pc := 60) C dX4_readCitizen_60 rfl ?_
        refine k_iload (pc := 62) C dX4_readCitizen_62 rfl ?_
        refine k_iconst (pc := 64) (v := (-1)) C dX4_readCitizen_64 (by decide) ?_
        refine k_icmp_eq (pc := 65) C 86 dX4_readCitizen_65 (by decide) (fun c65 => ?_) (fun c65 => ?_)
        · skip
          refine k_iconst (pc := 86) (v := 0) C dX4_readCitizen_86 (by decide) ?_
          exact k_zret (pc := 87) C rfl (Or.inl rfl) (k_fIm (by unfold f_X4_readCitizen; rw [if_neg c10, if_neg c27, if_neg c46, if_pos c65]; try rfl)) dX4_readCitizen_87
        · skip
          refine k_aload_n (pc := 68) C dX4_readCitizen_68 rfl ?_
          refine k_iload_n (pc := 69) C dX4_readCitizen_69 rfl ?_
          refine k_iload_n (pc := 70) C dX4_readCitizen_70 rfl ?_
          refine k_iload (pc := 71) C dX4_readCitizen_71 rfl ?_
          refine k_iload (pc := 73) C dX4_readCitizen_73 rfl ?_
          refine k_call4 (pc := 75) C cv_X4_77 (ct_X2_addCitizen (by decide)) (k_in2 (by decide)) rfl (by decide) rfl (Nat.le_of_ble_eq_true rfl) dX4_readCitizen_75 ?_
          refine k_iconst (pc := 78) (v := (-1)) C dX4_readCitizen_78 (by decide) ?_
          refine k_icmp_eq (pc := 79) C 86 dX4_readCitizen_79 (by decide) (fun c79 => ?_) (fun c79 => ?_)
          · skip
            refine k_iconst (pc := 86) (v := 0) C dX4_readCitizen_86 (by decide) ?_
            exact k_zret (pc := 87) C rfl (Or.inl rfl) (k_fIm (by unfold f_X4_readCitizen; rw [if_neg c10, if_neg c27, if_neg c46, if_neg c65, if_pos c79]; try rfl)) dX4_readCitizen_87
          · skip
            refine k_iconst (pc := 82) (v := 1) C dX4_readCitizen_82 (by decide) ?_
            refine k_goto (pc := 83) C 87 dX4_readCitizen_83 (by decide) ?_
            exact k_zret (pc := 87) C rfl (Or.inr rfl) (k_fIm (by unfold f_X4_readCitizen; rw [if_neg c10, if_neg c27, if_neg c46, if_neg c65, if_neg c79]; try rfl)) dX4_readCitizen_87
      · skip
        refine k_iconst (pc := 49) (v := (-1)) C dX4_readCitizen_49 (by decide) ?_
        refine k_goto (pc := 50) C 60 dX4_readCitizen_50 (by decide) ?_
        refine k_istore_5 (pc := 60) C dX4_readCitizen_60 rfl ?_
        refine k_iload (pc := 62) C dX4_readCitizen_62 rfl ?_
        refine k_iconst (pc := 64) (v := (-1)) C dX4_readCitizen_64 (by decide) ?_
        refine k_icmp_eqT (pc := 65) C 86 dX4_readCitizen_65 (by decide) (by decide) ?_
        refine k_iconst (pc := 86) (v := 0) C dX4_readCitizen_86 (by decide) ?_
        exact k_zret (pc := 87) C rfl (Or.inl rfl) (k_fIm (by unfold f_X4_readCitizen; rw [if_neg c10, if_neg c27, if_pos c46]; try rfl)) dX4_readCitizen_87
    · skip
      refine k_iconst (pc := 30) (v := (-1)) C dX4_readCitizen_30 (by decide) ?_
      refine k_goto (pc := 31) C 41 dX4_readCitizen_31 (by decide) ?_
      refine k_istore_4 (pc := 41) C dX4_readCitizen_41 rfl ?_
      refine k_iload (pc := 43) C dX4_readCitizen_43 rfl ?_
      refine k_iconst (pc := 45) (v := (-1)) C dX4_readCitizen_45 (by decide) ?_
      refine k_icmp_neF (pc := 46) C 53 dX4_readCitizen_46 (by decide) (by decide) ?_
      refine k_iconst (pc := 49) (v := (-1)) C dX4_readCitizen_49 (by decide) ?_
      refine k_goto (pc := 50) C 60 dX4_readCitizen_50 (by decide) ?_
      refine k_istore_5 (pc := 60) C dX4_readCitizen_60 rfl ?_
      refine k_iload (pc := 62) C dX4_readCitizen_62 rfl ?_
      refine k_iconst (pc := 64) (v := (-1)) C dX4_readCitizen_64 (by decide) ?_
      refine k_icmp_eqT (pc := 65) C 86 dX4_readCitizen_65 (by decide) (by decide) ?_
      refine k_iconst (pc := 86) (v := 0) C dX4_readCitizen_86 (by decide) ?_
      exact k_zret (pc := 87) C rfl (Or.inl rfl) (k_fIm (by unfold f_X4_readCitizen; rw [if_neg c10, if_pos c27]; try rfl)) dX4_readCitizen_87
  · skip
    refine k_iconst (pc := 13) (v := (-1)) C dX4_readCitizen_13 (by decide) ?_
    refine k_goto (pc := 14) C 24 dX4_readCitizen_14 (by decide) ?_
    refine k_istore_3 (pc := 24) C dX4_readCitizen_24 rfl ?_
    refine k_iload_n (pc := 25) C dX4_readCitizen_25 rfl ?_
    refine k_iconst (pc := 26) (v := (-1)) C dX4_readCitizen_26 (by decide) ?_
    refine k_icmp_neF (pc := 27) C 34 dX4_readCitizen_27 (by decide) (by decide) ?_
    refine k_iconst (pc := 30) (v := (-1)) C dX4_readCitizen_30 (by decide) ?_
    refine k_goto (pc := 31) C 41 dX4_readCitizen_31 (by decide) ?_
    refine k_istore_4 (pc := 41) C dX4_readCitizen_41 rfl ?_
    refine k_iload (pc := 43) C dX4_readCitizen_43 rfl ?_
    refine k_iconst (pc := 45) (v := (-1)) C dX4_readCitizen_45 (by decide) ?_
    refine k_icmp_neF (pc := 46) C 53 dX4_readCitizen_46 (by decide) (by decide) ?_
    refine k_iconst (pc := 49) (v := (-1)) C dX4_readCitizen_49 (by decide) ?_
    refine k_goto (pc := 50) C 60 dX4_readCitizen_50 (by decide) ?_
    refine k_istore_5 (pc := 60) C dX4_readCitizen_60 rfl ?_
    refine k_iload (pc := 62) C dX4_readCitizen_62 rfl ?_
    refine k_iconst (pc := 64) (v := (-1)) C dX4_readCitizen_64 (by decide) ?_
    refine k_icmp_eqT (pc := 65) C 86 dX4_readCitizen_65 (by decide) (by decide) ?_
    refine k_iconst (pc := 86) (v := 0) C dX4_readCitizen_86 (by decide) ?_
    exact k_zret (pc := 87) C rfl (Or.inl rfl) (k_fIm (by unfold f_X4_readCitizen; rw [if_pos c10]; try rfl)) dX4_readCitizen_87
def f_X4_readBeggar (mi : MemI) : Int32 × MemI :=
  if ((f_X4_readNumber mi 1 9).1) = (-1) then (0, (f_X4_readNumber mi 1 9).2)
  else if ((f_X4_readNumber ((f_X4_readNumber mi 1 9).2) 0 4).1) = (-1) then (0, (f_X4_readNumber ((f_X4_readNumber mi 1 9).2) 0 4).2)
    else if ((f_X2_addBeggar ((f_X4_readNumber ((f_X4_readNumber mi 1 9).2) 0 4).2) 1 ((f_X4_readNumber mi 1 9).1) ((f_X4_readNumber ((f_X4_readNumber mi 1 9).2) 0 4).1)).1) = (-1) then (0, (f_X2_addBeggar ((f_X4_readNumber ((f_X4_readNumber mi 1 9).2) 0 4).2) 1 ((f_X4_readNumber mi 1 9).1) ((f_X4_readNumber ((f_X4_readNumber mi 1 9).2) 0 4).1)).2)
      else (1, (f_X2_addBeggar ((f_X4_readNumber ((f_X4_readNumber mi 1 9).2) 0 4).2) 1 ((f_X4_readNumber mi 1 9).1) ((f_X4_readNumber ((f_X4_readNumber mi 1 9).2) 0 4).1)).2)
theorem z_X4_readBeggar {mi : MemI}  : (f_X4_readBeggar mi).1 = 0 ∨ (f_X4_readBeggar mi).1 = 1 := by
  unfold f_X4_readBeggar
  by_cases zh1 : ((f_X4_readNumber mi 1 9).1) = (-1)
  · rw [if_pos zh1]
    exact (Or.inl rfl)
  · rw [if_neg zh1]
    by_cases zh2 : ((f_X4_readNumber ((f_X4_readNumber mi 1 9).2) 0 4).1) = (-1)
    · rw [if_pos zh2]
      exact (Or.inl rfl)
    · rw [if_neg zh2]
      by_cases zh3 : ((f_X2_addBeggar ((f_X4_readNumber ((f_X4_readNumber mi 1 9).2) 0 4).2) 1 ((f_X4_readNumber mi 1 9).1) ((f_X4_readNumber ((f_X4_readNumber mi 1 9).2) 0 4).1)).1) = (-1)
      · rw [if_pos zh3]
        exact (Or.inl rfl)
      · rw [if_neg zh3]
        exact (Or.inr rfl)
set_option maxRecDepth 100000 in
set_option maxHeartbeats 4000000 in
theorem ct_X4_readBeggar {mi : MemI} {ml : MemL}   : k_Ct k_KS k_R0 Mt_X4_readBeggar 3 [vR (4, 0, 0), vR (2, 1, 0)] mi ml (k_rt (some (vI (f_X4_readBeggar mi).1)) (f_X4_readBeggar mi).2 ml) := by
  refine k_ofV (L0 := [vR (4, 0, 0), vR (2, 1, 0), vU, vU]) (by decide +kernel) (Nat.le_of_ble_eq_true rfl) rfl rfl ?_
  intro p l e s m args below meth c D cy ad bs C
  refine k_aload_n (pc := 0) C dX4_readBeggar_0 rfl ?_
  refine k_iconst (pc := 1) (v := 1) C dX4_readBeggar_1 (by decide) ?_
  refine k_bipush (pc := 2) (v := 9) C dX4_readBeggar_2 (by decide) ?_
  refine k_call2 (pc := 4) C cv_X4_73 ct_X4_readNumber k_in4 rfl (by decide) rfl (Nat.le_of_ble_eq_true rfl) dX4_readBeggar_4 ?_
  refine k_istore_2 (pc := 7) C dX4_readBeggar_7 rfl ?_
  refine k_iload_n (pc := 8) C dX4_readBeggar_8 rfl ?_
  refine k_iconst (pc := 9) (v := (-1)) C dX4_readBeggar_9 (by decide) ?_
  refine k_icmp_ne (pc := 10) C 17 dX4_readBeggar_10 (by decide) (fun c10 => ?_) (fun c10 => ?_)
  · skip
    refine k_aload_n (pc := 17) C dX4_readBeggar_17 rfl ?_
    refine k_iconst (pc := 18) (v := 0) C dX4_readBeggar_18 (by decide) ?_
    refine k_iconst (pc := 19) (v := 4) C dX4_readBeggar_19 (by decide) ?_
    refine k_call2 (pc := 20) C cv_X4_73 ct_X4_readNumber k_in4 rfl (by decide) rfl (Nat.le_of_ble_eq_true rfl) dX4_readBeggar_20 ?_
    refine k_istore_3 (pc := 23) C dX4_readBeggar_23 rfl ?_
    refine k_iload_n (pc := 24) C dX4_readBeggar_24 rfl ?_
    refine k_iconst (pc := 25) (v := (-1)) C dX4_readBeggar_25 (by decide) ?_
    refine k_icmp_eq (pc := 26) C 43 dX4_readBeggar_26 (by decide) (fun c26 => ?_) (fun c26 => ?_)
    · skip
      refine k_iconst (pc := 43) (v := 0) C dX4_readBeggar_43 (by decide) ?_
      exact k_zret (pc := 44) C rfl (Or.inl rfl) (k_fIm (by unfold f_X4_readBeggar; rw [if_neg c10, if_pos c26]; try rfl)) dX4_readBeggar_44
    · skip
      refine k_aload_n (pc := 29) C dX4_readBeggar_29 rfl ?_
      refine k_iload_n (pc := 30) C dX4_readBeggar_30 rfl ?_
      refine k_iload_n (pc := 31) C dX4_readBeggar_31 rfl ?_
      refine k_call2 (pc := 32) C cv_X4_81 (ct_X2_addBeggar (by decide)) (k_in2 (by decide)) rfl (by decide) rfl (Nat.le_of_ble_eq_true rfl) dX4_readBeggar_32 ?_
      refine k_iconst (pc := 35) (v := (-1)) C dX4_readBeggar_35 (by decide) ?_
      refine k_icmp_eq (pc := 36) C 43 dX4_readBeggar_36 (by decide) (fun c36 => ?_) (fun c36 => ?_)
      · skip
        refine k_iconst (pc := 43) (v := 0) C dX4_readBeggar_43 (by decide) ?_
        exact k_zret (pc := 44) C rfl (Or.inl rfl) (k_fIm (by unfold f_X4_readBeggar; rw [if_neg c10, if_neg c26, if_pos c36]; try rfl)) dX4_readBeggar_44
      · skip
        refine k_iconst (pc := 39) (v := 1) C dX4_readBeggar_39 (by decide) ?_
        refine k_goto (pc := 40) C 44 dX4_readBeggar_40 (by decide) ?_
        exact k_zret (pc := 44) C rfl (Or.inr rfl) (k_fIm (by unfold f_X4_readBeggar; rw [if_neg c10, if_neg c26, if_neg c36]; try rfl)) dX4_readBeggar_44
  · skip
    refine k_iconst (pc := 13) (v := (-1)) C dX4_readBeggar_13 (by decide) ?_
    refine k_goto (pc := 14) C 23 dX4_readBeggar_14 (by decide) ?_
    refine k_istore_3 (pc := 23) C dX4_readBeggar_23 rfl ?_
    refine k_iload_n (pc := 24) C dX4_readBeggar_24 rfl ?_
    refine k_iconst (pc := 25) (v := (-1)) C dX4_readBeggar_25 (by decide) ?_
    refine k_icmp_eqT (pc := 26) C 43 dX4_readBeggar_26 (by decide) (by decide) ?_
    refine k_iconst (pc := 43) (v := 0) C dX4_readBeggar_43 (by decide) ?_
    exact k_zret (pc := 44) C rfl (Or.inl rfl) (k_fIm (by unfold f_X4_readBeggar; rw [if_pos c10]; try rfl)) dX4_readBeggar_44
def f_X4_readPost (mi : MemI) : Int32 × MemI :=
  if f_X2_beggarAt ((f_X4_readNumber mi 0 ((mi (2, 1, 0) 3) - 1)).2) 1 ((f_X4_readNumber mi 0 ((mi (2, 1, 0) 3) - 1)).1) < 6 then (1, k_ui ((f_X4_readNumber mi 0 ((mi (2, 1, 0) 3) - 1)).2) (0, 1, (f_X2_beggarAt ((f_X4_readNumber mi 0 ((mi (2, 1, 0) 3) - 1)).2) 1 ((f_X4_readNumber mi 0 ((mi (2, 1, 0) 3) - 1)).1))) 2 1)
  else (0, (f_X4_readNumber mi 0 ((mi (2, 1, 0) 3) - 1)).2)
theorem z_X4_readPost {mi : MemI}  : (f_X4_readPost mi).1 = 0 ∨ (f_X4_readPost mi).1 = 1 := by
  unfold f_X4_readPost
  by_cases zh1 : f_X2_beggarAt ((f_X4_readNumber mi 0 ((mi (2, 1, 0) 3) - 1)).2) 1 ((f_X4_readNumber mi 0 ((mi (2, 1, 0) 3) - 1)).1) < 6
  · rw [if_pos zh1]
    exact (Or.inr rfl)
  · rw [if_neg zh1]
    exact (Or.inl rfl)
set_option maxRecDepth 100000 in
set_option maxHeartbeats 4000000 in
theorem ct_X4_readPost {mi : MemI} {ml : MemL}   : k_Ct k_KS k_R0 Mt_X4_readPost 3 [vR (4, 0, 0), vR (2, 1, 0)] mi ml (k_rt (some (vI (f_X4_readPost mi).1)) (f_X4_readPost mi).2 ml) := by
  refine k_ofV (L0 := [vR (4, 0, 0), vR (2, 1, 0), vU]) (by decide +kernel) (Nat.le_of_ble_eq_true rfl) rfl rfl ?_
  intro p l e s m args below meth c D cy ad bs C
  refine k_aload_n (pc := 0) C dX4_readPost_0 rfl ?_
  refine k_aload_n (pc := 1) C dX4_readPost_1 rfl ?_
  refine k_iconst (pc := 2) (v := 0) C dX4_readPost_2 (by decide) ?_
  refine k_aload_n (pc := 3) C dX4_readPost_3 rfl ?_
  refine k_getI (pc := 4) C fl_X4_56 (k_in2 (by decide)) rfl rfl dX4_readPost_4 ?_
  refine k_iconst (pc := 7) (v := 1) C dX4_readPost_7 (by decide) ?_
  refine k_isub (pc := 8) C dX4_readPost_8 ?_
  refine k_call2 (pc := 9) C cv_X4_73 ct_X4_readNumber k_in4 rfl (by decide) rfl (Nat.le_of_ble_eq_true rfl) dX4_readPost_9 ?_
  by_cases c12 : f_X2_beggarAt ((f_X4_readNumber mi 0 ((mi (2, 1, 0) 3) - 1)).2) 1 ((f_X4_readNumber mi 0 ((mi (2, 1, 0) 3) - 1)).1) < 6
  · skip
    refine k_call1 (pc := 12) C cv_X4_84 (ct_X2_beggarAt_s (by decide) c12) (k_in2 (by decide)) rfl (by decide) rfl (Nat.le_of_ble_eq_true rfl) dX4_readPost_12 ?_
    refine k_astore_2 (pc := 15) C dX4_readPost_15 rfl ?_
    refine k_aload_n (pc := 16) C dX4_readPost_16 rfl ?_
    refine k_ifnonnullR (pc := 17) C 22 dX4_readPost_17 (by decide) ?_
    refine k_aload_n (pc := 22) C dX4_readPost_22 rfl ?_
    refine k_iconst (pc := 23) (v := 1) C dX4_readPost_23 (by decide) ?_
    refine k_putZ (pc := 24) C (Or.inr rfl) pl_X4_88 (k_in0 (by decide) c12) rfl rfl dX4_readPost_24 ?_
    refine k_iconst (pc := 27) (v := 1) C dX4_readPost_27 (by decide) ?_
    exact k_zret (pc := 28) C rfl (Or.inr rfl) (k_fIm (by unfold f_X4_readPost; rw [if_pos c12]; try rfl)) dX4_readPost_28
  · skip
    refine k_call1 (pc := 12) C cv_X4_84 (ct_X2_beggarAt_n (by decide) c12) (k_in2 (by decide)) rfl (by decide) rfl (Nat.le_of_ble_eq_true rfl) dX4_readPost_12 ?_
    refine k_astore_2 (pc := 15) C dX4_readPost_15 rfl ?_
    refine k_aload_n (pc := 16) C dX4_readPost_16 rfl ?_
    refine k_ifnonnullN (pc := 17) C dX4_readPost_17 ?_
    refine k_iconst (pc := 20) (v := 0) C dX4_readPost_20 (by decide) ?_
    exact k_zret (pc := 21) C rfl (Or.inl rfl) (k_fIm (by unfold f_X4_readPost; rw [if_neg c12]; try rfl)) dX4_readPost_21
def f_X4_readOfCitizen (mi : MemI) (w : Int32) : Int32 × MemI :=
  if f_X2_citizenAt ((f_X4_readNumber mi 0 ((mi (2, 1, 0) 2) - 1)).2) 1 ((f_X4_readNumber mi 0 ((mi (2, 1, 0) 2) - 1)).1) < 6 then if w = 2 then if ((f_X4_readNumber ((f_X4_readNumber mi 0 ((mi (2, 1, 0) 2) - 1)).2) 0 99).1) = (-1) then (0, (f_X4_readNumber ((f_X4_readNumber mi 0 ((mi (2, 1, 0) 2) - 1)).2) 0 99).2)
      else (1, k_ui ((f_X4_readNumber ((f_X4_readNumber mi 0 ((mi (2, 1, 0) 2) - 1)).2) 0 99).2) (1, 1, (f_X2_citizenAt ((f_X4_readNumber mi 0 ((mi (2, 1, 0) 2) - 1)).2) 1 ((f_X4_readNumber mi 0 ((mi (2, 1, 0) 2) - 1)).1))) 7 ((f_X4_readNumber ((f_X4_readNumber mi 0 ((mi (2, 1, 0) 2) - 1)).2) 0 99).1))
    else if w = 3 then (1, k_ui ((f_X4_readNumber mi 0 ((mi (2, 1, 0) 2) - 1)).2) (1, 1, (f_X2_citizenAt ((f_X4_readNumber mi 0 ((mi (2, 1, 0) 2) - 1)).2) 1 ((f_X4_readNumber mi 0 ((mi (2, 1, 0) 2) - 1)).1))) 2 1)
      else (1, k_ui ((f_X4_readNumber mi 0 ((mi (2, 1, 0) 2) - 1)).2) (1, 1, (f_X2_citizenAt ((f_X4_readNumber mi 0 ((mi (2, 1, 0) 2) - 1)).2) 1 ((f_X4_readNumber mi 0 ((mi (2, 1, 0) 2) - 1)).1))) 2 0)
  else (0, (f_X4_readNumber mi 0 ((mi (2, 1, 0) 2) - 1)).2)
theorem z_X4_readOfCitizen {mi : MemI} {w : Int32}  : (f_X4_readOfCitizen mi w).1 = 0 ∨ (f_X4_readOfCitizen mi w).1 = 1 := by
  unfold f_X4_readOfCitizen
  by_cases zh1 : f_X2_citizenAt ((f_X4_readNumber mi 0 ((mi (2, 1, 0) 2) - 1)).2) 1 ((f_X4_readNumber mi 0 ((mi (2, 1, 0) 2) - 1)).1) < 6
  · rw [if_pos zh1]
    by_cases zh2 : w = 2
    · rw [if_pos zh2]
      by_cases zh3 : ((f_X4_readNumber ((f_X4_readNumber mi 0 ((mi (2, 1, 0) 2) - 1)).2) 0 99).1) = (-1)
      · rw [if_pos zh3]
        exact (Or.inl rfl)
      · rw [if_neg zh3]
        exact (Or.inr rfl)
    · rw [if_neg zh2]
      by_cases zh4 : w = 3
      · rw [if_pos zh4]
        exact (Or.inr rfl)
      · rw [if_neg zh4]
        exact (Or.inr rfl)
  · rw [if_neg zh1]
    exact (Or.inl rfl)
set_option maxRecDepth 100000 in
set_option maxHeartbeats 4000000 in
theorem ct_X4_readOfCitizen {mi : MemI} {ml : MemL} {w : Int32}  : k_Ct k_KS k_R0 Mt_X4_readOfCitizen 3 [vR (4, 0, 0), vR (2, 1, 0), vI w] mi ml (k_rt (some (vI (f_X4_readOfCitizen mi w).1)) (f_X4_readOfCitizen mi w).2 ml) := by
  refine k_ofV (L0 := [vR (4, 0, 0), vR (2, 1, 0), vI w, vU, vU]) (by decide +kernel) (Nat.le_of_ble_eq_true rfl) rfl rfl ?_
  intro p l e s m args below meth c D cy ad bs C
  refine k_aload_n (pc := 0) C dX4_readOfCitizen_0 rfl ?_
  refine k_aload_n (pc := 1) C dX4_readOfCitizen_1 rfl ?_
  refine k_iconst (pc := 2) (v := 0) C dX4_readOfCitizen_2 (by decide) ?_
  refine k_aload_n (pc := 3) C dX4_readOfCitizen_3 rfl ?_
  refine k_getI (pc := 4) C fl_X4_44 (k_in2 (by decide)) rfl rfl dX4_readOfCitizen_4 ?_
  refine k_iconst (pc := 7) (v := 1) C dX4_readOfCitizen_7 (by decide) ?_
  refine k_isub (pc := 8) C dX4_readOfCitizen_8 ?_
  refine k_call2 (pc := 9) C cv_X4_73 ct_X4_readNumber k_in4 rfl (by decide) rfl (Nat.le_of_ble_eq_true rfl) dX4_readOfCitizen_9 ?_
  by_cases c12 : f_X2_citizenAt ((f_X4_readNumber mi 0 ((mi (2, 1, 0) 2) - 1)).2) 1 ((f_X4_readNumber mi 0 ((mi (2, 1, 0) 2) - 1)).1) < 6
  · skip
    refine k_call1 (pc := 12) C cv_X4_94 (ct_X2_citizenAt_s (by decide) c12) (k_in2 (by decide)) rfl (by decide) rfl (Nat.le_of_ble_eq_true rfl) dX4_readOfCitizen_12 ?_
    refine k_astore_3 (pc := 15) C dX4_readOfCitizen_15 rfl ?_
    refine k_aload_n (pc := 16) C dX4_readOfCitizen_16 rfl ?_
    refine k_ifnonnullR (pc := 17) C 22 dX4_readOfCitizen_17 (by decide) ?_
    refine k_iload_n (pc := 22) C dX4_readOfCitizen_22 rfl ?_
    refine k_iconst (pc := 23) (v := 2) C dX4_readOfCitizen_23 (by decide) ?_
    refine k_icmp_eq (pc := 24) C 43 dX4_readOfCitizen_24 (by decide) (fun c24 => ?_) (fun c24 => ?_)
    · skip
      refine k_aload_n (pc := 43) C dX4_readOfCitizen_43 rfl ?_
      refine k_iconst (pc := 44) (v := 0) C dX4_readOfCitizen_44 (by decide) ?_
      refine k_bipush (pc := 45) (v := 99) C dX4_readOfCitizen_45 (by decide) ?_
      refine k_call2 (pc := 47) C cv_X4_73 ct_X4_readNumber k_in4 rfl (by decide) rfl (Nat.le_of_ble_eq_true rfl) dX4_readOfCitizen_47 ?_
      refine k_istore_4 (pc := 50) C dX4_readOfCitizen_50 rfl ?_
      refine k_iload (pc := 52) C dX4_readOfCitizen_52 rfl ?_
      refine k_iconst (pc := 54) (v := (-1)) C dX4_readOfCitizen_54 (by decide) ?_
      refine k_icmp_ne (pc := 55) C 60 dX4_readOfCitizen_55 (by decide) (fun c55 => ?_) (fun c55 => ?_)
      · skip
        refine k_aload_n (pc := 60) C dX4_readOfCitizen_60 rfl ?_
        refine k_iload (pc := 61) C dX4_readOfCitizen_61 rfl ?_
        refine k_putI (pc := 63) C pl_X4_103 (k_in1 (by decide) c12) rfl rfl dX4_readOfCitizen_63 ?_
        refine k_iconst (pc := 66) (v := 1) C dX4_readOfCitizen_66 (by decide) ?_
        exact k_zret (pc := 67) C rfl (Or.inr rfl) (k_fIm (by unfold f_X4_readOfCitizen; rw [if_pos c12, if_pos c24, if_neg c55]; try rfl)) dX4_readOfCitizen_67
      · skip
        refine k_iconst (pc := 58) (v := 0) C dX4_readOfCitizen_58 (by decide) ?_
        exact k_zret (pc := 59) C rfl (Or.inl rfl) (k_fIm (by unfold f_X4_readOfCitizen; rw [if_pos c12, if_pos c24, if_pos c55]; try rfl)) dX4_readOfCitizen_59
    · skip
      refine k_aload_n (pc := 27) C dX4_readOfCitizen_27 rfl ?_
      refine k_iload_n (pc := 28) C dX4_readOfCitizen_28 rfl ?_
      refine k_iconst (pc := 29) (v := 3) C dX4_readOfCitizen_29 (by decide) ?_
      refine k_icmp_ne (pc := 30) C 37 dX4_readOfCitizen_30 (by decide) (fun c30 => ?_) (fun c30 => ?_)
      · skip
        refine k_iconst (pc := 37) (v := 0) C dX4_readOfCitizen_37 (by decide) ?_
        refine k_putZ (pc := 38) C (Or.inl rfl) pl_X4_98 (k_in1 (by decide) c12) rfl rfl dX4_readOfCitizen_38 ?_
        refine k_iconst (pc := 41) (v := 1) C dX4_readOfCitizen_41 (by decide) ?_
        exact k_zret (pc := 42) C rfl (Or.inr rfl) (k_fIm (by unfold f_X4_readOfCitizen; rw [if_pos c12, if_neg c24, if_neg c30]; try rfl)) dX4_readOfCitizen_42
      · skip
        refine k_iconst (pc := 33) (v := 1) C dX4_readOfCitizen_33 (by decide) ?_
        refine k_goto (pc := 34) C 38 dX4_readOfCitizen_34 (by decide) ?_
        refine k_putZ (pc := 38) C (Or.inr rfl) pl_X4_98 (k_in1 (by decide) c12) rfl rfl dX4_readOfCitizen_38 ?_
        refine k_iconst (pc := 41) (v := 1) C dX4_readOfCitizen_41 (by decide) ?_
        exact k_zret (pc := 42) C rfl (Or.inr rfl) (k_fIm (by unfold f_X4_readOfCitizen; rw [if_pos c12, if_neg c24, if_pos c30]; try rfl)) dX4_readOfCitizen_42
  · skip
    refine k_call1 (pc := 12) C cv_X4_94 (ct_X2_citizenAt_n (by decide) c12) (k_in2 (by decide)) rfl (by decide) rfl (Nat.le_of_ble_eq_true rfl) dX4_readOfCitizen_12 ?_
    refine k_astore_3 (pc := 15) C dX4_readOfCitizen_15 rfl ?_
    refine k_aload_n (pc := 16) C dX4_readOfCitizen_16 rfl ?_
    refine k_ifnonnullN (pc := 17) C dX4_readOfCitizen_17 ?_
    refine k_iconst (pc := 20) (v := 0) C dX4_readOfCitizen_20 (by decide) ?_
    exact k_zret (pc := 21) C rfl (Or.inl rfl) (k_fIm (by unfold f_X4_readOfCitizen; rw [if_neg c12]; try rfl)) dX4_readOfCitizen_21
set_option maxRecDepth 100000 in
set_option maxHeartbeats 4000000 in
theorem ct_X4_wordAt_0 {mi : MemI} {ml : MemL}  : k_Ct k_KS k_R0 Mt_X4_wordAt 0 [vI 0] mi ml (k_rt (some (vR (14, 0, 0))) mi ml) := by
  refine k_ofV (L0 := [vI 0]) (by decide +kernel) (Nat.le_of_ble_eq_true rfl) rfl rfl ?_
  intro p l e s m args below meth c D cy ad bs C
  refine k_iload_n (pc := 0) C dX4_wordAt_0 rfl ?_
  refine k_tabIn (pc := 1) (v := 0) C 36 dX4_wordAt_1 rfl (by decide) (by decide) rfl (by decide) ?_
  refine k_ldcS (pc := 36) (w := 0) C rfl rfl dX4_wordAt_36 ?_
  exact k_aret (pc := 38) (x := some (14, 0, 0)) C rfl (Or.inl ⟨_, rfl⟩) k_rt_rf dX4_wordAt_38
set_option maxRecDepth 100000 in
set_option maxHeartbeats 4000000 in
theorem ct_X4_wordAt_1 {mi : MemI} {ml : MemL}  : k_Ct k_KS k_R0 Mt_X4_wordAt 0 [vI 1] mi ml (k_rt (some (vR (14, 1, 0))) mi ml) := by
  refine k_ofV (L0 := [vI 1]) (by decide +kernel) (Nat.le_of_ble_eq_true rfl) rfl rfl ?_
  intro p l e s m args below meth c D cy ad bs C
  refine k_iload_n (pc := 0) C dX4_wordAt_0 rfl ?_
  refine k_tabIn (pc := 1) (v := 1) C 39 dX4_wordAt_1 rfl (by decide) (by decide) rfl (by decide) ?_
  refine k_ldcS (pc := 39) (w := 1) C rfl rfl dX4_wordAt_39 ?_
  exact k_aret (pc := 41) (x := some (14, 1, 0)) C rfl (Or.inl ⟨_, rfl⟩) k_rt_rf dX4_wordAt_41
set_option maxRecDepth 100000 in
set_option maxHeartbeats 4000000 in
theorem ct_X4_wordAt_2 {mi : MemI} {ml : MemL}  : k_Ct k_KS k_R0 Mt_X4_wordAt 0 [vI 2] mi ml (k_rt (some (vR (14, 2, 0))) mi ml) := by
  refine k_ofV (L0 := [vI 2]) (by decide +kernel) (Nat.le_of_ble_eq_true rfl) rfl rfl ?_
  intro p l e s m args below meth c D cy ad bs C
  refine k_iload_n (pc := 0) C dX4_wordAt_0 rfl ?_
  refine k_tabIn (pc := 1) (v := 2) C 42 dX4_wordAt_1 rfl (by decide) (by decide) rfl (by decide) ?_
  refine k_ldcS (pc := 42) (w := 2) C rfl rfl dX4_wordAt_42 ?_
  exact k_aret (pc := 44) (x := some (14, 2, 0)) C rfl (Or.inl ⟨_, rfl⟩) k_rt_rf dX4_wordAt_44
set_option maxRecDepth 100000 in
set_option maxHeartbeats 4000000 in
theorem ct_X4_wordAt_3 {mi : MemI} {ml : MemL}  : k_Ct k_KS k_R0 Mt_X4_wordAt 0 [vI 3] mi ml (k_rt (some (vR (14, 3, 0))) mi ml) := by
  refine k_ofV (L0 := [vI 3]) (by decide +kernel) (Nat.le_of_ble_eq_true rfl) rfl rfl ?_
  intro p l e s m args below meth c D cy ad bs C
  refine k_iload_n (pc := 0) C dX4_wordAt_0 rfl ?_
  refine k_tabIn (pc := 1) (v := 3) C 45 dX4_wordAt_1 rfl (by decide) (by decide) rfl (by decide) ?_
  refine k_ldcS (pc := 45) (w := 3) C rfl rfl dX4_wordAt_45 ?_
  exact k_aret (pc := 47) (x := some (14, 3, 0)) C rfl (Or.inl ⟨_, rfl⟩) k_rt_rf dX4_wordAt_47
set_option maxRecDepth 100000 in
set_option maxHeartbeats 4000000 in
theorem ct_X4_wordAt_4 {mi : MemI} {ml : MemL}  : k_Ct k_KS k_R0 Mt_X4_wordAt 0 [vI 4] mi ml (k_rt (some (vR (14, 4, 0))) mi ml) := by
  refine k_ofV (L0 := [vI 4]) (by decide +kernel) (Nat.le_of_ble_eq_true rfl) rfl rfl ?_
  intro p l e s m args below meth c D cy ad bs C
  refine k_iload_n (pc := 0) C dX4_wordAt_0 rfl ?_
  refine k_tabIn (pc := 1) (v := 4) C 48 dX4_wordAt_1 rfl (by decide) (by decide) rfl (by decide) ?_
  refine k_ldcS (pc := 48) (w := 4) C rfl rfl dX4_wordAt_48 ?_
  exact k_aret (pc := 50) (x := some (14, 4, 0)) C rfl (Or.inl ⟨_, rfl⟩) k_rt_rf dX4_wordAt_50
set_option maxRecDepth 100000 in
set_option maxHeartbeats 4000000 in
theorem ct_X4_wordAt_5 {mi : MemI} {ml : MemL}  : k_Ct k_KS k_R0 Mt_X4_wordAt 0 [vI 5] mi ml (k_rt (some (vR (14, 5, 0))) mi ml) := by
  refine k_ofV (L0 := [vI 5]) (by decide +kernel) (Nat.le_of_ble_eq_true rfl) rfl rfl ?_
  intro p l e s m args below meth c D cy ad bs C
  refine k_iload_n (pc := 0) C dX4_wordAt_0 rfl ?_
  refine k_tabOut (pc := 1) C 51 dX4_wordAt_1 (by decide) (by decide) ?_
  refine k_ldcS (pc := 51) (w := 5) C rfl rfl dX4_wordAt_51 ?_
  exact k_aret (pc := 53) (x := some (14, 5, 0)) C rfl (Or.inl ⟨_, rfl⟩) k_rt_rf dX4_wordAt_53
theorem ct_X4_wordAt {mi : MemI} {ml : MemL} {w : Nat} (hw : w < 6) : k_Ct k_KS k_R0 Mt_X4_wordAt 0 [vI (nI w)] mi ml (k_rt (some (vR (14, w, 0))) mi ml) := by
  rcases (show w = 0 ∨ w = 1 ∨ w = 2 ∨ w = 3 ∨ w = 4 ∨ w = 5 by omega) with rfl | rfl | rfl | rfl | rfl | rfl
  · exact ct_X4_wordAt_0
  · exact ct_X4_wordAt_1
  · exact ct_X4_wordAt_2
  · exact ct_X4_wordAt_3
  · exact ct_X4_wordAt_4
  · exact ct_X4_wordAt_5
