/-! Reader: words, items, a text -/
def f_X4_clR (mi : MemI) (w : Nat) : Nat → Nat → Nat
  | 0, j => j
  | u + 1, j => if f_X4_signAt mi (mi (4, 0, 0) 2 + nI j) = k_let w j then f_X4_clR mi w u (j + 1) else j
theorem f_X4_clR_s (mi : MemI) (w u j : Nat) : f_X4_clR mi w (u + 1) j = if f_X4_signAt mi (mi (4, 0, 0) 2 + nI j) = k_let w j then f_X4_clR mi w u (j + 1) else j := rfl
def f_X4_countLetters (mi : MemI) (w : Nat) : Nat := f_X4_clR mi w (k_len.getD w 0) 0
theorem f_X4_clR_le (mi : MemI) (w : Nat) : ∀ u j, f_X4_clR mi w u j ≤ j + u := by
  intro u
  induction u with
  | zero => intro j; exact Nat.le_refl j
  | succ u ih =>
    intro j
    rw [f_X4_clR_s]
    split
    · have := ih (j + 1); omega
    · omega
set_option maxRecDepth 100000 in
set_option maxHeartbeats 4000000 in
theorem ct_X4_countLetters {mi : MemI} {ml : MemL} {w : Nat} (hw : w < 6) : k_Ct k_KS k_R0 Mt_X4_countLetters 4 [vR (4, 0, 0), vR (14, w, 0)] mi ml (k_rt (some (vI (nI (f_X4_countLetters mi w)))) mi ml) := by
  refine k_ofV (L0 := [vR (4, 0, 0), vR (14, w, 0), vU]) (by decide +kernel) (Nat.le_of_ble_eq_true rfl) rfl rfl ?_
  intro p l e s m args below meth c D cy ad bs C
  refine k_iconst (pc := 0) (v := 0) C dX4_countLetters_0 (by decide) ?_
  refine k_istore_2 (pc := 1) C dX4_countLetters_1 rfl ?_
  have h7 := k_len_le w
  have hloop : ∀ (u j : Nat), j + u = k_len.getD w 0 → f_X4_clR mi w u j = f_X4_countLetters mi w → k_V p l e (k_rm 4) s m args below meth c D cy ad bs k_KS k_R0 0 0 (k_End below D cy ad bs k_KS k_R0 (k_rt (some (vI (nI (f_X4_countLetters mi w)))) mi ml) args s) mi ml 2 [vR (4, 0, 0), vR (14, w, 0), vI (nI j)] [] := by
    intro u
    induction u with
    | zero =>
      intro j hjn hres
      refine k_iload_n (pc := 2) C dX4_countLetters_2 rfl ?_
      refine k_aload_n (pc := 3) C dX4_countLetters_3 rfl ?_
      refine k_callT0 (pc := 4) C cb_length_J cl_X4_114m ci_length_J ce_length_J rfl (ct_length_J hw) hw (by decide) rfl (Nat.le_of_ble_eq_true rfl) dX4_countLetters_4 ?_
      refine k_icmp_geT (pc := 7) C 34 dX4_countLetters_7 (by decide) (nI_le (a := k_len.getD w 0) (by omega) (by omega)) ?_
      refine k_iload_n (pc := 34) C dX4_countLetters_34 rfl ?_
      exact k_iret (pc := 35) C rfl (k_fI (by rw [← hres]; rfl)) dX4_countLetters_35
    | succ u ih =>
      intro j hjn hres
      have hjl : j < k_len.getD w 0 := by omega
      refine k_iload_n (pc := 2) C dX4_countLetters_2 rfl ?_
      refine k_aload_n (pc := 3) C dX4_countLetters_3 rfl ?_
      refine k_callT0 (pc := 4) C cb_length_J cl_X4_114m ci_length_J ce_length_J rfl (ct_length_J hw) hw (by decide) rfl (Nat.le_of_ble_eq_true rfl) dX4_countLetters_4 ?_
      refine k_icmp_geF (pc := 7) C 34 dX4_countLetters_7 (by decide) (nI_ge (b := k_len.getD w 0) hjl (by omega)) ?_
      refine k_aload_n (pc := 10) C dX4_countLetters_10 rfl ?_
      refine k_aload_n (pc := 11) C dX4_countLetters_11 rfl ?_
      refine k_getI (pc := 12) C fl_X4_29 k_in4 rfl rfl dX4_countLetters_12 ?_
      refine k_iload_n (pc := 15) C dX4_countLetters_15 rfl ?_
      refine k_iadd (pc := 16) C dX4_countLetters_16 ?_
      refine k_call1 (pc := 17) C cv_X4_134 ct_X4_signAt k_in4 rfl (by decide) rfl (Nat.le_of_ble_eq_true rfl) dX4_countLetters_17 ?_
      refine k_aload_n (pc := 20) C dX4_countLetters_20 rfl ?_
      refine k_iload_n (pc := 21) C dX4_countLetters_21 rfl ?_
      refine k_callT1 (pc := 22) C cb_charAt_J cl_X4_137m ci_charAt_J ce_charAt_J rfl (ct_charAtN_J hw hjl) hw (by decide) rfl (Nat.le_of_ble_eq_true rfl) dX4_countLetters_22 ?_
      refine k_icmp_ne (pc := 25) C 34 dX4_countLetters_25 (by decide) (fun c25 => ?_) (fun c25 => ?_)
      · skip
        refine k_iload_n (pc := 34) C dX4_countLetters_34 rfl ?_
        exact k_iret (pc := 35) C rfl (k_fI (by rw [← hres, f_X4_clR_s, if_neg c25])) dX4_countLetters_35
      · skip
        refine k_iinc_2 (pc := 28) (v := nI (j + 1)) C dX4_countLetters_28 (k_inc j) rfl ?_
        refine k_goto (pc := 31) C 2 dX4_countLetters_31 (by decide) ?_
        exact ih (j + 1) (by omega) (by rw [← hres, f_X4_clR_s, if_pos c25])
  exact hloop _ 0 (by omega) rfl
def f_X4_rwR (mi : MemI) : Nat → Nat → Int32 → Int32 × MemI
  | 0, _, fu => ((-1), (f_X4_failAt mi (mi (4, 0, 0) 2 + fu)).2)
  | u + 1, j, fu => if nI (f_X4_countLetters mi j) = Int32.ofNat (k_len.getD j 0) then (nI j, k_ui mi (4, 0, 0) 2 (mi (4, 0, 0) 2 + nI (f_X4_countLetters mi j))) else f_X4_rwR mi u (j + 1) (k_mx fu (nI (f_X4_countLetters mi j)))
theorem f_X4_rwR_s (mi : MemI) (u j : Nat) (fu : Int32) : f_X4_rwR mi (u + 1) j fu = if nI (f_X4_countLetters mi j) = Int32.ofNat (k_len.getD j 0) then (nI j, k_ui mi (4, 0, 0) 2 (mi (4, 0, 0) 2 + nI (f_X4_countLetters mi j))) else f_X4_rwR mi u (j + 1) (k_mx fu (nI (f_X4_countLetters mi j))) := rfl
def f_X4_readWord (mi : MemI) : Int32 × MemI := f_X4_rwR mi 6 0 0
set_option maxRecDepth 100000 in
set_option maxHeartbeats 4000000 in
theorem ct_X4_readWord {mi : MemI} {ml : MemL}  : k_Ct k_KS k_R0 Mt_X4_readWord 5 [vR (4, 0, 0)] mi ml (k_rt (some (vI (f_X4_readWord mi).1)) (f_X4_readWord mi).2 ml) := by
  refine k_ofV (L0 := [vR (4, 0, 0), vU, vU, vU, vU]) (by decide +kernel) (Nat.le_of_ble_eq_true rfl) rfl rfl ?_
  intro p l e s m args below meth c D cy ad bs C
  refine k_iconst (pc := 0) (v := 0) C dX4_readWord_0 (by decide) ?_
  refine k_istore_1 (pc := 1) C dX4_readWord_1 rfl ?_
  refine k_iconst (pc := 2) (v := 0) C dX4_readWord_2 (by decide) ?_
  refine k_istore_2 (pc := 3) C dX4_readWord_3 rfl ?_
  have hloop : ∀ (n j : Nat) (fu : Int32), j + n = 6 → f_X4_rwR mi n j fu = f_X4_readWord mi → k_V p l e (k_rm 5) s m args below meth c D cy ad bs k_KS k_R0 0 0 (k_End below D cy ad bs k_KS k_R0 (k_rt (some (vI (f_X4_readWord mi).1)) (f_X4_readWord mi).2 ml) args s) mi ml 4 [vR (4, 0, 0), vI fu, vI (nI j), vU, vU] [] := by
    intro n
    induction n with
    | zero =>
      intro j fu hjn hres
      obtain rfl : j = 6 := by omega
      refine k_iload_n (pc := 4) C dX4_readWord_4 rfl ?_
      refine k_bipush (pc := 5) (v := 6) C dX4_readWord_5 (by decide) ?_
      refine k_icmp_geT (pc := 7) C 57 dX4_readWord_7 (by decide) (by decide) ?_
      refine k_aload_n (pc := 57) C dX4_readWord_57 rfl ?_
      refine k_aload_n (pc := 58) C dX4_readWord_58 rfl ?_
      refine k_getI (pc := 59) C fl_X4_29 k_in4 rfl rfl dX4_readWord_59 ?_
      refine k_iload_n (pc := 62) C dX4_readWord_62 rfl ?_
      refine k_iadd (pc := 63) C dX4_readWord_63 ?_
      refine k_call1 (pc := 64) C cv_X4_69 ct_X4_failAt k_in4 rfl (by decide) rfl (Nat.le_of_ble_eq_true rfl) dX4_readWord_64 ?_
      refine k_pop (pc := 67) C dX4_readWord_67 rfl ?_
      refine k_iconst (pc := 68) (v := (-1)) C dX4_readWord_68 (by decide) ?_
      exact k_iret (pc := 69) C rfl (k_fIm (by rw [← hres]; rfl)) dX4_readWord_69
    | succ n ih =>
      intro j fu hjn hres
      have hj : j < 6 := by omega
      refine k_iload_n (pc := 4) C dX4_readWord_4 rfl ?_
      refine k_bipush (pc := 5) (v := 6) C dX4_readWord_5 (by decide) ?_
      refine k_icmp_geF (pc := 7) C 57 dX4_readWord_7 (by decide) (k_nge (n := 6) rfl (by decide) hj) ?_
      refine k_iload_n (pc := 10) C dX4_readWord_10 rfl ?_
      refine k_calls1 (pc := 11) C cs_X4_106 (ct_X4_wordAt hj) (by decide) rfl (Nat.le_of_ble_eq_true rfl) dX4_readWord_11 ?_
      refine k_astore_3 (pc := 14) C dX4_readWord_14 rfl ?_
      refine k_aload_n (pc := 15) C dX4_readWord_15 rfl ?_
      refine k_aload_n (pc := 16) C dX4_readWord_16 rfl ?_
      refine k_call1 (pc := 17) C cv_X4_110 (ct_X4_countLetters hj) k_in4 rfl (by decide) rfl (Nat.le_of_ble_eq_true rfl) dX4_readWord_17 ?_
      refine k_istore_4 (pc := 20) C dX4_readWord_20 rfl ?_
      refine k_iload (pc := 22) C dX4_readWord_22 rfl ?_
      refine k_aload_n (pc := 24) C dX4_readWord_24 rfl ?_
      refine k_callT0 (pc := 25) C cb_length_J cl_X4_114m ci_length_J ce_length_J rfl (ct_length_J hj) hj (by decide) rfl (Nat.le_of_ble_eq_true rfl) dX4_readWord_25 ?_
      refine k_icmp_ne (pc := 28) C 44 dX4_readWord_28 (by decide) (fun c28 => ?_) (fun c28 => ?_)
      · skip
        refine k_iload_n (pc := 44) C dX4_readWord_44 rfl ?_
        refine k_iload (pc := 45) C dX4_readWord_45 rfl ?_
        refine k_mmax (pc := 47) C cm_X4_118 cm_max_s cm_i cm_max_c (by decide) rfl (Nat.le_of_ble_eq_true rfl) dX4_readWord_47 ?_
        refine k_istore_1 (pc := 50) C dX4_readWord_50 rfl ?_
        refine k_iinc_2 (pc := 51) (v := nI (j + 1)) C dX4_readWord_51 (k_inc j) rfl ?_
        refine k_goto (pc := 54) C 4 dX4_readWord_54 (by decide) ?_
        refine k_drop_3 ?_
        refine k_drop_4 ?_
        exact ih (j + 1) (k_mx fu (nI <| f_X4_countLetters mi j)) (by omega) (by rw [← hres, f_X4_rwR_s, if_neg c28])
      · skip
        refine k_aload_n (pc := 31) C dX4_readWord_31 rfl ?_
        refine k_dup (pc := 32) C dX4_readWord_32 rfl ?_
        refine k_getI (pc := 33) C fl_X4_29 k_in4 rfl rfl dX4_readWord_33 ?_
        refine k_iload (pc := 36) C dX4_readWord_36 rfl ?_
        refine k_iadd (pc := 38) C dX4_readWord_38 ?_
        refine k_putI (pc := 39) C pl_X4_29 k_in4 rfl rfl dX4_readWord_39 ?_
        refine k_iload_n (pc := 42) C dX4_readWord_42 rfl ?_
        exact k_iret (pc := 43) C rfl (k_fIm (by rw [← hres, f_X4_rwR_s, if_pos c28])) dX4_readWord_43
  exact hloop 6 0 0 rfl rfl
def f_X4_readItem (mi : MemI) : Int32 × MemI :=
  if ((f_X4_readWord mi).1) = 0 then if ((f_X4_hasRoom ((f_X4_readWord mi).2) (((f_X4_readWord mi).2) (2, 1, 0) 2) (mi (4, 0, 0) 2)).1) = 0 then (0, (f_X4_hasRoom ((f_X4_readWord mi).2) (((f_X4_readWord mi).2) (2, 1, 0) 2) (mi (4, 0, 0) 2)).2)
    else if ((f_X4_readCitizen ((f_X4_hasRoom ((f_X4_readWord mi).2) (((f_X4_readWord mi).2) (2, 1, 0) 2) (mi (4, 0, 0) 2)).2)).1) = 0 then (0, (f_X4_readCitizen ((f_X4_hasRoom ((f_X4_readWord mi).2) (((f_X4_readWord mi).2) (2, 1, 0) 2) (mi (4, 0, 0) 2)).2)).2)
      else (1, (f_X4_readCitizen ((f_X4_hasRoom ((f_X4_readWord mi).2) (((f_X4_readWord mi).2) (2, 1, 0) 2) (mi (4, 0, 0) 2)).2)).2)
  else if ((f_X4_readWord mi).1) = 1 then if ((f_X4_hasRoom ((f_X4_readWord mi).2) (((f_X4_readWord mi).2) (2, 1, 0) 3) (mi (4, 0, 0) 2)).1) = 0 then (0, (f_X4_hasRoom ((f_X4_readWord mi).2) (((f_X4_readWord mi).2) (2, 1, 0) 3) (mi (4, 0, 0) 2)).2)
      else if ((f_X4_readBeggar ((f_X4_hasRoom ((f_X4_readWord mi).2) (((f_X4_readWord mi).2) (2, 1, 0) 3) (mi (4, 0, 0) 2)).2)).1) = 0 then (0, (f_X4_readBeggar ((f_X4_hasRoom ((f_X4_readWord mi).2) (((f_X4_readWord mi).2) (2, 1, 0) 3) (mi (4, 0, 0) 2)).2)).2)
        else (1, (f_X4_readBeggar ((f_X4_hasRoom ((f_X4_readWord mi).2) (((f_X4_readWord mi).2) (2, 1, 0) 3) (mi (4, 0, 0) 2)).2)).2)
    else if ((f_X4_readWord mi).1) = 5 then ((f_X4_readPost ((f_X4_readWord mi).2)).1, (f_X4_readPost ((f_X4_readWord mi).2)).2)
      else if ((f_X4_readWord mi).1) = (-1) then (0, (f_X4_readWord mi).2)
        else if ((f_X4_readOfCitizen ((f_X4_readWord mi).2) ((f_X4_readWord mi).1)).1) = 0 then (0, (f_X4_readOfCitizen ((f_X4_readWord mi).2) ((f_X4_readWord mi).1)).2)
          else (1, (f_X4_readOfCitizen ((f_X4_readWord mi).2) ((f_X4_readWord mi).1)).2)
theorem z_X4_readItem {mi : MemI}  : (f_X4_readItem mi).1 = 0 ∨ (f_X4_readItem mi).1 = 1 := by
  unfold f_X4_readItem
  by_cases zh1 : ((f_X4_readWord mi).1) = 0
  · rw [if_pos zh1]
    by_cases zh2 : ((f_X4_hasRoom ((f_X4_readWord mi).2) (((f_X4_readWord mi).2) (2, 1, 0) 2) (mi (4, 0, 0) 2)).1) = 0
    · rw [if_pos zh2]
      exact (Or.inl rfl)
    · rw [if_neg zh2]
      by_cases zh3 : ((f_X4_readCitizen ((f_X4_hasRoom ((f_X4_readWord mi).2) (((f_X4_readWord mi).2) (2, 1, 0) 2) (mi (4, 0, 0) 2)).2)).1) = 0
      · rw [if_pos zh3]
        exact (Or.inl rfl)
      · rw [if_neg zh3]
        exact (Or.inr rfl)
  · rw [if_neg zh1]
    by_cases zh4 : ((f_X4_readWord mi).1) = 1
    · rw [if_pos zh4]
      by_cases zh5 : ((f_X4_hasRoom ((f_X4_readWord mi).2) (((f_X4_readWord mi).2) (2, 1, 0) 3) (mi (4, 0, 0) 2)).1) = 0
      · rw [if_pos zh5]
        exact (Or.inl rfl)
      · rw [if_neg zh5]
        by_cases zh6 : ((f_X4_readBeggar ((f_X4_hasRoom ((f_X4_readWord mi).2) (((f_X4_readWord mi).2) (2, 1, 0) 3) (mi (4, 0, 0) 2)).2)).1) = 0
        · rw [if_pos zh6]
          exact (Or.inl rfl)
        · rw [if_neg zh6]
          exact (Or.inr rfl)
    · rw [if_neg zh4]
      by_cases zh7 : ((f_X4_readWord mi).1) = 5
      · rw [if_pos zh7]
        try dsimp only
        exact z_X4_readPost
      · rw [if_neg zh7]
        by_cases zh8 : ((f_X4_readWord mi).1) = (-1)
        · rw [if_pos zh8]
          exact (Or.inl rfl)
        · rw [if_neg zh8]
          by_cases zh9 : ((f_X4_readOfCitizen ((f_X4_readWord mi).2) ((f_X4_readWord mi).1)).1) = 0
          · rw [if_pos zh9]
            exact (Or.inl rfl)
          · rw [if_neg zh9]
            exact (Or.inr rfl)
set_option maxRecDepth 100000 in
set_option maxHeartbeats 4000000 in
theorem ct_X4_readItem {mi : MemI} {ml : MemL}   : k_Ct k_KS k_R0 Mt_X4_readItem 6 [vR (4, 0, 0), vR (2, 1, 0)] mi ml (k_rt (some (vI (f_X4_readItem mi).1)) (f_X4_readItem mi).2 ml) := by
  refine k_ofV (L0 := [vR (4, 0, 0), vR (2, 1, 0), vU, vU]) (by decide +kernel) (Nat.le_of_ble_eq_true rfl) rfl rfl ?_
  intro p l e s m args below meth c D cy ad bs C
  refine k_aload_n (pc := 0) C dX4_readItem_0 rfl ?_
  refine k_getI (pc := 1) C fl_X4_29 k_in4 rfl rfl dX4_readItem_1 ?_
  refine k_istore_2 (pc := 4) C dX4_readItem_4 rfl ?_
  refine k_aload_n (pc := 5) C dX4_readItem_5 rfl ?_
  refine k_call0 (pc := 6) C cv_X4_40 ct_X4_readWord k_in4 rfl (by decide) rfl (Nat.le_of_ble_eq_true rfl) dX4_readItem_6 ?_
  refine k_istore_3 (pc := 9) C dX4_readItem_9 rfl ?_
  refine k_iload_n (pc := 10) C dX4_readItem_10 rfl ?_
  refine k_if_ne (pc := 11) C 40 dX4_readItem_11 (by decide) (fun c11 => ?_) (fun c11 => ?_)
  · skip
    refine k_iload_n (pc := 40) C dX4_readItem_40 rfl ?_
    refine k_iconst (pc := 41) (v := 1) C dX4_readItem_41 (by decide) ?_
    refine k_icmp_ne (pc := 42) C 71 dX4_readItem_42 (by decide) (fun c42 => ?_) (fun c42 => ?_)
    · skip
      refine k_iload_n (pc := 71) C dX4_readItem_71 rfl ?_
      refine k_iconst (pc := 72) (v := 5) C dX4_readItem_72 (by decide) ?_
      refine k_icmp_ne (pc := 73) C 82 dX4_readItem_73 (by decide) (fun c73 => ?_) (fun c73 => ?_)
      · skip
        refine k_iload_n (pc := 82) C dX4_readItem_82 rfl ?_
        refine k_iconst (pc := 83) (v := (-1)) C dX4_readItem_83 (by decide) ?_
        refine k_icmp_eq (pc := 84) C 100 dX4_readItem_84 (by decide) (fun c84 => ?_) (fun c84 => ?_)
        · skip
          refine k_iconst (pc := 100) (v := 0) C dX4_readItem_100 (by decide) ?_
          exact k_zret (pc := 101) C rfl (Or.inl rfl) (k_fIm (by unfold f_X4_readItem; rw [if_neg c11, if_neg c42, if_neg c73, if_pos c84]; try rfl)) dX4_readItem_101
        · skip
          refine k_aload_n (pc := 87) C dX4_readItem_87 rfl ?_
          refine k_aload_n (pc := 88) C dX4_readItem_88 rfl ?_
          refine k_iload_n (pc := 89) C dX4_readItem_89 rfl ?_
          refine k_call2 (pc := 90) C cv_X4_65 ct_X4_readOfCitizen k_in4 rfl (by decide) rfl (Nat.le_of_ble_eq_true rfl) dX4_readItem_90 ?_
          refine k_if_eq (pc := 93) C 100 dX4_readItem_93 (by decide) (fun c93 => ?_) (fun c93 => ?_)
          · skip
            refine k_iconst (pc := 100) (v := 0) C dX4_readItem_100 (by decide) ?_
            exact k_zret (pc := 101) C rfl (Or.inl rfl) (k_fIm (by unfold f_X4_readItem; rw [if_neg c11, if_neg c42, if_neg c73, if_neg c84, if_pos c93]; try rfl)) dX4_readItem_101
          · skip
            refine k_iconst (pc := 96) (v := 1) C dX4_readItem_96 (by decide) ?_
            refine k_goto (pc := 97) C 101 dX4_readItem_97 (by decide) ?_
            exact k_zret (pc := 101) C rfl (Or.inr rfl) (k_fIm (by unfold f_X4_readItem; rw [if_neg c11, if_neg c42, if_neg c73, if_neg c84, if_neg c93]; try rfl)) dX4_readItem_101
      · skip
        refine k_aload_n (pc := 76) C dX4_readItem_76 rfl ?_
        refine k_aload_n (pc := 77) C dX4_readItem_77 rfl ?_
        refine k_call1 (pc := 78) C cv_X4_62 ct_X4_readPost k_in4 rfl (by decide) rfl (Nat.le_of_ble_eq_true rfl) dX4_readItem_78 ?_
        exact k_zret (pc := 81) C rfl z_X4_readPost (k_fIm (by unfold f_X4_readItem; rw [if_neg c11, if_neg c42, if_pos c73]; try rfl)) dX4_readItem_81
    · skip
      refine k_aload_n (pc := 45) C dX4_readItem_45 rfl ?_
      refine k_aload_n (pc := 46) C dX4_readItem_46 rfl ?_
      refine k_getI (pc := 47) C fl_X4_56 (k_in2 (by decide)) rfl rfl dX4_readItem_47 ?_
      refine k_iload_n (pc := 50) C dX4_readItem_50 rfl ?_
      refine k_call2 (pc := 51) C cv_X4_49 ct_X4_hasRoom k_in4 rfl (by decide) rfl (Nat.le_of_ble_eq_true rfl) dX4_readItem_51 ?_
      refine k_if_eq (pc := 54) C 69 dX4_readItem_54 (by decide) (fun c54 => ?_) (fun c54 => ?_)
      · skip
        refine k_iconst (pc := 69) (v := 0) C dX4_readItem_69 (by decide) ?_
        exact k_zret (pc := 70) C rfl (Or.inl rfl) (k_fIm (by unfold f_X4_readItem; rw [if_neg c11, if_pos c42, if_pos c54]; try rfl)) dX4_readItem_70
      · skip
        refine k_aload_n (pc := 57) C dX4_readItem_57 rfl ?_
        refine k_aload_n (pc := 58) C dX4_readItem_58 rfl ?_
        refine k_call1 (pc := 59) C cv_X4_59 ct_X4_readBeggar k_in4 rfl (by decide) rfl (Nat.le_of_ble_eq_true rfl) dX4_readItem_59 ?_
        refine k_if_eq (pc := 62) C 69 dX4_readItem_62 (by decide) (fun c62 => ?_) (fun c62 => ?_)
        · skip
          refine k_iconst (pc := 69) (v := 0) C dX4_readItem_69 (by decide) ?_
          exact k_zret (pc := 70) C rfl (Or.inl rfl) (k_fIm (by unfold f_X4_readItem; rw [if_neg c11, if_pos c42, if_neg c54, if_pos c62]; try rfl)) dX4_readItem_70
        · skip
          refine k_iconst (pc := 65) (v := 1) C dX4_readItem_65 (by decide) ?_
          refine k_goto (pc := 66) C 70 dX4_readItem_66 (by decide) ?_
          exact k_zret (pc := 70) C rfl (Or.inr rfl) (k_fIm (by unfold f_X4_readItem; rw [if_neg c11, if_pos c42, if_neg c54, if_neg c62]; try rfl)) dX4_readItem_70
  · skip
    refine k_aload_n (pc := 14) C dX4_readItem_14 rfl ?_
    refine k_aload_n (pc := 15) C dX4_readItem_15 rfl ?_
    refine k_getI (pc := 16) C fl_X4_44 (k_in2 (by decide)) rfl rfl dX4_readItem_16 ?_
    refine k_iload_n (pc := 19) C dX4_readItem_19 rfl ?_
    refine k_call2 (pc := 20) C cv_X4_49 ct_X4_hasRoom k_in4 rfl (by decide) rfl (Nat.le_of_ble_eq_true rfl) dX4_readItem_20 ?_
    refine k_if_eq (pc := 23) C 38 dX4_readItem_23 (by decide) (fun c23 => ?_) (fun c23 => ?_)
    · skip
      refine k_iconst (pc := 38) (v := 0) C dX4_readItem_38 (by decide) ?_
      exact k_zret (pc := 39) C rfl (Or.inl rfl) (k_fIm (by unfold f_X4_readItem; rw [if_pos c11, if_pos c23]; try rfl)) dX4_readItem_39
    · skip
      refine k_aload_n (pc := 26) C dX4_readItem_26 rfl ?_
      refine k_aload_n (pc := 27) C dX4_readItem_27 rfl ?_
      refine k_call1 (pc := 28) C cv_X4_53 ct_X4_readCitizen k_in4 rfl (by decide) rfl (Nat.le_of_ble_eq_true rfl) dX4_readItem_28 ?_
      refine k_if_eq (pc := 31) C 38 dX4_readItem_31 (by decide) (fun c31 => ?_) (fun c31 => ?_)
      · skip
        refine k_iconst (pc := 38) (v := 0) C dX4_readItem_38 (by decide) ?_
        exact k_zret (pc := 39) C rfl (Or.inl rfl) (k_fIm (by unfold f_X4_readItem; rw [if_pos c11, if_neg c23, if_pos c31]; try rfl)) dX4_readItem_39
      · skip
        refine k_iconst (pc := 34) (v := 1) C dX4_readItem_34 (by decide) ?_
        refine k_goto (pc := 35) C 39 dX4_readItem_35 (by decide) ?_
        exact k_zret (pc := 39) C rfl (Or.inr rfl) (k_fIm (by unfold f_X4_readItem; rw [if_pos c11, if_neg c23, if_neg c31]; try rfl)) dX4_readItem_39
