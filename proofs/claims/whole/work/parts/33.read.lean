/-! Reader.read -/
def f_X4_sg (mi : MemI) (ml : MemL) (i2 : Nat) : Nat → MemI
  | 0 => mi
  | j + 1 => k_ui (f_X4_sg mi ml i2 j) (8, 101, 0) j (f_X5_getInt (f_X4_sg mi ml i2 j) ml i2 (nI j))
theorem f_X4_sg_s (mi : MemI) (ml : MemL) (i2 j : Nat) : f_X4_sg mi ml i2 (j + 1) = k_ui (f_X4_sg mi ml i2 j) (8, 101, 0) j (f_X5_getInt (f_X4_sg mi ml i2 j) ml i2 (nI j)) := rfl
def f_X4_rdR : Nat → Nat → MemI → Int32 × MemI
  | 0, _, m0 => ((-1), m0)
  | u + 1, j, m0 => if (f_X4_readItem m0).1 = 0 then ((-1), (f_X4_readItem m0).2) else if (f_X4_readItem m0).2 (4, 0, 0) 2 < (f_X4_readItem m0).2 (4, 0, 0) 1 then (if (f_X4_readSign (f_X4_readItem m0).2 59).1 = 0 then ((-1), (f_X4_readSign (f_X4_readItem m0).2 59).2) else f_X4_rdR u (j + 1) (f_X4_readSign (f_X4_readItem m0).2 59).2) else (nI (j + 1), (f_X4_readItem m0).2)
theorem f_X4_rdR_s (u j : Nat) (m0 : MemI) : f_X4_rdR (u + 1) j m0 = if (f_X4_readItem m0).1 = 0 then ((-1), (f_X4_readItem m0).2) else if (f_X4_readItem m0).2 (4, 0, 0) 2 < (f_X4_readItem m0).2 (4, 0, 0) 1 then (if (f_X4_readSign (f_X4_readItem m0).2 59).1 = 0 then ((-1), (f_X4_readSign (f_X4_readItem m0).2 59).2) else f_X4_rdR u (j + 1) (f_X4_readSign (f_X4_readItem m0).2 59).2) else (nI (j + 1), (f_X4_readItem m0).2) := rfl
def f_X4_read (mi : MemI) (ml : MemL) (i2 : Nat) : Int32 × MemI := f_X4_rdR 160 0 (k_ui (k_ui (f_X4_sg (k_ui mi (4, 0, 0) 1 (mi (5, 0, i2) 2)) ml i2 160) (4, 0, 0) 2 0) (4, 0, 0) 3 (-1))
set_option maxRecDepth 100000 in
set_option maxHeartbeats 4000000 in
theorem ct_X4_read {mi : MemI} {ml : MemL} {i2 : Nat} (hi2 : i2 < 8) : k_Ct k_KS k_R0 Mt_X4_read 7 [vR (4, 0, 0), vR (5, 0, i2), vR (2, 1, 0)] mi ml (k_rt (some (vI (f_X4_read mi ml i2).1)) (f_X4_read mi ml i2).2 ml) := by
  refine k_ofV (L0 := [vR (4, 0, 0), vR (5, 0, i2), vR (2, 1, 0), vU]) (by decide +kernel) (Nat.le_of_ble_eq_true rfl) rfl rfl ?_
  intro p l e s m args below meth c D cy ad bs C
  refine k_aload_n (pc := 0) C dX4_read_0 rfl ?_
  refine k_aload_n (pc := 1) C dX4_read_1 rfl ?_
  refine k_getI (pc := 2) C fl_X4_19 (k_in5 hi2) rfl rfl dX4_read_2 ?_
  refine k_putI (pc := 5) C pl_X4_24 k_in4 rfl rfl dX4_read_5 ?_
  refine k_iconst (pc := 8) (v := 0) C dX4_read_8 (by decide) ?_
  refine k_istore_3 (pc := 9) C dX4_read_9 rfl ?_
  refine k_cast (L' := [vR (4, 0, 0), vR (5, 0, i2), vR (2, 1, 0), vI (nI 0)]) (mi' := f_X4_sg (k_ui mi (4, 0, 0) 1 (mi (5, 0, i2) 2)) ml i2 0) rfl rfl rfl ?_
  refine k_down (P := fun j => k_V p l e (k_rm 7) s m args below meth c D cy ad bs k_KS k_R0 0 0 (k_End below D cy ad bs k_KS k_R0 (k_rt (some (vI (f_X4_read mi ml i2).1)) (f_X4_read mi ml i2).2 ml) args s) (f_X4_sg (k_ui mi (4, 0, 0) 1 (mi (5, 0, i2) 2)) ml i2 j) ml 10 [vR (4, 0, 0), vR (5, 0, i2), vR (2, 1, 0), vI (nI j)] []) 160 ?_ (fun j hj hk => ?_)
  · skip
    refine k_iload_n (pc := 10) C dX4_read_10 rfl ?_
    refine k_aload_n (pc := 11) C dX4_read_11 rfl ?_
    refine k_getR (pc := 12) (r := some (8, 101, 0)) C fl_X4_9 k_in4 rfl rfl rfl dX4_read_12 ?_
    refine k_alen (pc := 15) (v := 160) C (by decide +kernel) ⟨Nat.le_of_ble_eq_true rfl, Nat.le_of_ble_eq_true rfl⟩ rfl dX4_read_15 ?_
    refine k_icmp_geT (pc := 16) C 36 dX4_read_16 (by decide) (by decide) ?_
    refine k_aload_n (pc := 36) C dX4_read_36 rfl ?_
    refine k_iconst (pc := 37) (v := 0) C dX4_read_37 (by decide) ?_
    refine k_putI (pc := 38) C pl_X4_29 k_in4 rfl rfl dX4_read_38 ?_
    refine k_aload_n (pc := 41) C dX4_read_41 rfl ?_
    refine k_iconst (pc := 42) (v := (-1)) C dX4_read_42 (by decide) ?_
    refine k_putI (pc := 43) C pl_X4_15 k_in4 rfl rfl dX4_read_43 ?_
    refine k_iconst (pc := 46) (v := 1) C dX4_read_46 (by decide) ?_
    refine k_istore_3 (pc := 47) C dX4_read_47 rfl ?_
    have hloop : ∀ (u j : Nat) (m0 : MemI), j + u = 160 → f_X4_rdR u j m0 = f_X4_read mi ml i2 → k_V p l e (k_rm 7) s m args below meth c D cy ad bs k_KS k_R0 0 0 (k_End below D cy ad bs k_KS k_R0 (k_rt (some (vI (f_X4_read mi ml i2).1)) (f_X4_read mi ml i2).2 ml) args s) m0 ml 48 [vR (4, 0, 0), vR (5, 0, i2), vR (2, 1, 0), vI (nI (j + 1))] [] := by
      intro u
      induction u with
      | zero =>
        intro j m0 hjn hres
        refine k_iload_n (pc := 48) C dX4_read_48 rfl ?_
        refine k_sipush (pc := 49) (v := 160) C dX4_read_49 (by decide) ?_
        refine k_icmp_gtT (pc := 52) C 95 dX4_read_52 (by decide) (nI_lt (a := 160) (show 160 < j + 1 by omega) (by omega)) ?_
        refine k_iconst (pc := 95) (v := (-1)) C dX4_read_95 (by decide) ?_
        exact k_iret (pc := 96) C rfl (k_fIm (by rw [← hres]; rfl)) dX4_read_96
      | succ u ih =>
        intro j m0 hjn hres
        refine k_iload_n (pc := 48) C dX4_read_48 rfl ?_
        refine k_sipush (pc := 49) (v := 160) C dX4_read_49 (by decide) ?_
        refine k_icmp_gtF (pc := 52) C 95 dX4_read_52 (by decide) (nI_nlt (a := 160) (show j + 1 ≤ 160 by omega) (by omega)) ?_
        refine k_aload_n (pc := 55) C dX4_read_55 rfl ?_
        refine k_aload_n (pc := 56) C dX4_read_56 rfl ?_
        refine k_call1 (pc := 57) C cv_X4_32 ct_X4_readItem k_in4 rfl (by decide) rfl (Nat.le_of_ble_eq_true rfl) dX4_read_57 ?_
        refine k_if_ne (pc := 60) C 65 dX4_read_60 (by decide) (fun c60 => ?_) (fun c60 => ?_)
        · skip
          refine k_aload_n (pc := 65) C dX4_read_65 rfl ?_
          refine k_getI (pc := 66) C fl_X4_29 k_in4 rfl rfl dX4_read_66 ?_
          refine k_aload_n (pc := 69) C dX4_read_69 rfl ?_
          refine k_getI (pc := 70) C fl_X4_24 k_in4 rfl rfl dX4_read_70 ?_
          refine k_icmp_lt (pc := 73) C 78 dX4_read_73 (by decide) (fun c73 => ?_) (fun c73 => ?_)
          · skip
            refine k_aload_n (pc := 78) C dX4_read_78 rfl ?_
            refine k_bipush (pc := 79) (v := 59) C dX4_read_79 (by decide) ?_
            refine k_call1 (pc := 81) C cv_X4_36 ct_X4_readSign k_in4 rfl (by decide) rfl (Nat.le_of_ble_eq_true rfl) dX4_read_81 ?_
            refine k_if_ne (pc := 84) C 89 dX4_read_84 (by decide) (fun c84 => ?_) (fun c84 => ?_)
            · skip
              refine k_iinc_3 (pc := 89) (v := nI (j + 1 + 1)) C dX4_read_89 (k_inc (j + 1)) rfl ?_
              refine k_goto (pc := 92) C 48 dX4_read_92 (by decide) ?_
              exact ih (j + 1) ((f_X4_readSign ((f_X4_readItem m0).2) 59).2) (by omega) (by rw [← hres, f_X4_rdR_s, if_neg c60, if_pos c73, if_neg c84])
            · skip
              refine k_iconst (pc := 87) (v := (-1)) C dX4_read_87 (by decide) ?_
              exact k_iret (pc := 88) C rfl (k_fIm (by rw [← hres, f_X4_rdR_s, if_neg c60, if_pos c73, if_pos c84])) dX4_read_88
          · skip
            refine k_iload_n (pc := 76) C dX4_read_76 rfl ?_
            exact k_iret (pc := 77) C rfl (k_fIm (by rw [← hres, f_X4_rdR_s, if_neg c60, if_neg c73])) dX4_read_77
        · skip
          refine k_iconst (pc := 63) (v := (-1)) C dX4_read_63 (by decide) ?_
          exact k_iret (pc := 64) C rfl (k_fIm (by rw [← hres, f_X4_rdR_s, if_pos c60])) dX4_read_64
    exact hloop 160 0 (k_ui (k_ui (f_X4_sg (k_ui mi (4, 0, 0) 1 (mi (5, 0, i2) 2)) ml i2 160) (4, 0, 0) 2 0) (4, 0, 0) 3 (-1)) (by omega) rfl
  · skip
    try dsimp only at hk
    refine k_iload_n (pc := 10) C dX4_read_10 rfl ?_
    refine k_aload_n (pc := 11) C dX4_read_11 rfl ?_
    refine k_getR (pc := 12) (r := some (8, 101, 0)) C fl_X4_9 k_in4 rfl rfl rfl dX4_read_12 ?_
    refine k_alen (pc := 15) (v := 160) C (by decide +kernel) ⟨Nat.le_of_ble_eq_true rfl, Nat.le_of_ble_eq_true rfl⟩ rfl dX4_read_15 ?_
    refine k_icmp_geF (pc := 16) C 36 dX4_read_16 (by decide) (k_nge (n := 160) rfl (by decide) hj) ?_
    refine k_aload_n (pc := 19) C dX4_read_19 rfl ?_
    refine k_getR (pc := 20) (r := some (8, 101, 0)) C fl_X4_9 k_in4 rfl rfl rfl dX4_read_20 ?_
    refine k_iload_n (pc := 23) C dX4_read_23 rfl ?_
    refine k_aload_n (pc := 24) C dX4_read_24 rfl ?_
    refine k_iload_n (pc := 25) C dX4_read_25 rfl ?_
    refine k_call1 (pc := 26) C cv_X4_25 (ct_X5_getInt hi2) (k_in5 hi2) rfl (by decide) rfl (Nat.le_of_ble_eq_true rfl) dX4_read_26 ?_
    refine k_iastX (pc := 29) (j := j) C (nI_clamp (by omega)) (by decide +kernel) rfl (vp_in_nI (show _ < (160 : Nat) by omega) (show (160 : Nat) < 2 ^ 31 by decide)) dX4_read_29 ?_
    refine k_iinc_3 (pc := 30) (v := nI (j + 1)) C dX4_read_30 (k_inc j) rfl ?_
    refine k_goto (pc := 33) C 10 dX4_read_33 (by decide) ?_
    exact k_cast rfl (by rw [f_X4_sg_s]) rfl hk
